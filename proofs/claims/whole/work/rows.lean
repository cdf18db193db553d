section
-- ===== PART A: goes FIRST, ahead of the names: the tables' words, and 'selects' of the private methods out of them =====
/-- a private method of a class that the tables say can be made, by its rows of tables_1 -/
def lw_okq (q : MethodName × Nat) : Prop := (q.1.cls ≠ "java/lang/invoke/MethodHandle" ∧ q.1.cls ≠ "java/lang/invoke/VarHandle") ∧ Cond.instantiable q.1.cls q.2 ∈ tables_1 ∧ Cond.privateMethod q.1 ∈ tables_1 ∧ Cond.instanceMethod q.1 ∈ tables_1
theorem lw_p0 : lw_okq (⟨"OneNail", "refuseCells", "(IZIII)I"⟩, 8) := ⟨⟨by decide +kernel, by decide +kernel⟩, List.mem_of_getElem? (i := 16) (by decide +kernel), List.mem_of_getElem? (i := 222) (by decide +kernel), List.mem_of_getElem? (i := 223) (by decide +kernel)⟩
theorem lw_p1 : lw_okq (⟨"OneNail", "sheetAt", "(I)LOneNail$Sheet;"⟩, 8) := ⟨⟨by decide +kernel, by decide +kernel⟩, List.mem_of_getElem? (i := 16) (by decide +kernel), List.mem_of_getElem? (i := 226) (by decide +kernel), List.mem_of_getElem? (i := 227) (by decide +kernel)⟩
theorem lw_p2 : lw_okq (⟨"OneNail", "refuseLane", "(LOneNail$Sheet;I)I"⟩, 8) := ⟨⟨by decide +kernel, by decide +kernel⟩, List.mem_of_getElem? (i := 16) (by decide +kernel), List.mem_of_getElem? (i := 230) (by decide +kernel), List.mem_of_getElem? (i := 231) (by decide +kernel)⟩
theorem lw_p3 : lw_okq (⟨"OneNail", "failBy", "(I)I"⟩, 8) := ⟨⟨by decide +kernel, by decide +kernel⟩, List.mem_of_getElem? (i := 16) (by decide +kernel), List.mem_of_getElem? (i := 238) (by decide +kernel), List.mem_of_getElem? (i := 239) (by decide +kernel)⟩
theorem lw_p4 : lw_okq (⟨"OneNail", "takeText", "(LOneNail$Sheet;II)V"⟩, 8) := ⟨⟨by decide +kernel, by decide +kernel⟩, List.mem_of_getElem? (i := 16) (by decide +kernel), List.mem_of_getElem? (i := 263) (by decide +kernel), List.mem_of_getElem? (i := 264) (by decide +kernel)⟩
theorem lw_p5 : lw_okq (⟨"OneNail", "refuseRound", "(IZIII)I"⟩, 8) := ⟨⟨by decide +kernel, by decide +kernel⟩, List.mem_of_getElem? (i := 16) (by decide +kernel), List.mem_of_getElem? (i := 390) (by decide +kernel), List.mem_of_getElem? (i := 391) (by decide +kernel)⟩
theorem lw_p6 : lw_okq (⟨"OneNail$Walk", "begin", "()V"⟩, 10) := ⟨⟨by decide +kernel, by decide +kernel⟩, List.mem_of_getElem? (i := 98) (by decide +kernel), List.mem_of_getElem? (i := 407) (by decide +kernel), List.mem_of_getElem? (i := 408) (by decide +kernel)⟩
theorem lw_p7 : lw_okq (⟨"OneNail$Walk", "goOn", "()V"⟩, 10) := ⟨⟨by decide +kernel, by decide +kernel⟩, List.mem_of_getElem? (i := 98) (by decide +kernel), List.mem_of_getElem? (i := 411) (by decide +kernel), List.mem_of_getElem? (i := 412) (by decide +kernel)⟩
theorem lw_p8 : lw_okq (⟨"OneNail$Walk", "markFall", "(I)V"⟩, 10) := ⟨⟨by decide +kernel, by decide +kernel⟩, List.mem_of_getElem? (i := 98) (by decide +kernel), List.mem_of_getElem? (i := 418) (by decide +kernel), List.mem_of_getElem? (i := 419) (by decide +kernel)⟩
theorem lw_p9 : lw_okq (⟨"OneNail$Walk", "nailed", "()V"⟩, 10) := ⟨⟨by decide +kernel, by decide +kernel⟩, List.mem_of_getElem? (i := 98) (by decide +kernel), List.mem_of_getElem? (i := 422) (by decide +kernel), List.mem_of_getElem? (i := 423) (by decide +kernel)⟩
theorem lw_p10 : lw_okq (⟨"OneNail$Orders", "begin", "(I)I"⟩, 6) := ⟨⟨by decide +kernel, by decide +kernel⟩, List.mem_of_getElem? (i := 135) (by decide +kernel), List.mem_of_getElem? (i := 480) (by decide +kernel), List.mem_of_getElem? (i := 481) (by decide +kernel)⟩
theorem lw_p11 : lw_okq (⟨"OneNail$Orders", "time", "(I)V"⟩, 6) := ⟨⟨by decide +kernel, by decide +kernel⟩, List.mem_of_getElem? (i := 135) (by decide +kernel), List.mem_of_getElem? (i := 487) (by decide +kernel), List.mem_of_getElem? (i := 488) (by decide +kernel)⟩
theorem lw_p12 : lw_okq (⟨"OneNail$Orders", "harmBelow", "(II)I"⟩, 6) := ⟨⟨by decide +kernel, by decide +kernel⟩, List.mem_of_getElem? (i := 135) (by decide +kernel), List.mem_of_getElem? (i := 492) (by decide +kernel), List.mem_of_getElem? (i := 493) (by decide +kernel)⟩
theorem lw_p13 : lw_okq (⟨"OneNail$Orders", "fallsBelow", "(II)I"⟩, 6) := ⟨⟨by decide +kernel, by decide +kernel⟩, List.mem_of_getElem? (i := 135) (by decide +kernel), List.mem_of_getElem? (i := 496) (by decide +kernel), List.mem_of_getElem? (i := 497) (by decide +kernel)⟩
theorem lw_p14 : lw_okq (⟨"OneNail$Orders", "keep", "()V"⟩, 6) := ⟨⟨by decide +kernel, by decide +kernel⟩, List.mem_of_getElem? (i := 135) (by decide +kernel), List.mem_of_getElem? (i := 500) (by decide +kernel), List.mem_of_getElem? (i := 501) (by decide +kernel)⟩
theorem lw_p15 : lw_okq (⟨"OneNail$Orders", "goOn", "()V"⟩, 6) := ⟨⟨by decide +kernel, by decide +kernel⟩, List.mem_of_getElem? (i := 135) (by decide +kernel), List.mem_of_getElem? (i := 504) (by decide +kernel), List.mem_of_getElem? (i := 505) (by decide +kernel)⟩
def lw_privs_1 : List (MethodName × Nat) := [(⟨"OneNail", "refuseCells", "(IZIII)I"⟩, 8), (⟨"OneNail", "sheetAt", "(I)LOneNail$Sheet;"⟩, 8), (⟨"OneNail", "refuseLane", "(LOneNail$Sheet;I)I"⟩, 8), (⟨"OneNail", "failBy", "(I)I"⟩, 8), (⟨"OneNail", "takeText", "(LOneNail$Sheet;II)V"⟩, 8), (⟨"OneNail", "refuseRound", "(IZIII)I"⟩, 8), (⟨"OneNail$Walk", "begin", "()V"⟩, 10), (⟨"OneNail$Walk", "goOn", "()V"⟩, 10), (⟨"OneNail$Walk", "markFall", "(I)V"⟩, 10), (⟨"OneNail$Walk", "nailed", "()V"⟩, 10), (⟨"OneNail$Orders", "begin", "(I)I"⟩, 6), (⟨"OneNail$Orders", "time", "(I)V"⟩, 6), (⟨"OneNail$Orders", "harmBelow", "(II)I"⟩, 6), (⟨"OneNail$Orders", "fallsBelow", "(II)I"⟩, 6), (⟨"OneNail$Orders", "keep", "()V"⟩, 6), (⟨"OneNail$Orders", "goOn", "()V"⟩, 6)]
theorem lw_r1 : ∀ q ∈ lw_privs_1, lw_okq q := List.forall_mem_cons.mpr ⟨lw_p0, List.forall_mem_cons.mpr ⟨lw_p1, List.forall_mem_cons.mpr ⟨lw_p2, List.forall_mem_cons.mpr ⟨lw_p3, List.forall_mem_cons.mpr ⟨lw_p4, List.forall_mem_cons.mpr ⟨lw_p5, List.forall_mem_cons.mpr ⟨lw_p6, List.forall_mem_cons.mpr ⟨lw_p7, List.forall_mem_cons.mpr ⟨lw_p8, List.forall_mem_cons.mpr ⟨lw_p9, List.forall_mem_cons.mpr ⟨lw_p10, List.forall_mem_cons.mpr ⟨lw_p11, List.forall_mem_cons.mpr ⟨lw_p12, List.forall_mem_cons.mpr ⟨lw_p13, List.forall_mem_cons.mpr ⟨lw_p14, List.forall_mem_cons.mpr ⟨lw_p15, fun _ h => absurd h List.not_mem_nil⟩⟩⟩⟩⟩⟩⟩⟩⟩⟩⟩⟩⟩⟩⟩⟩
theorem lw_p16 : lw_okq (⟨"OneNail$Orders", "swap", "(II)V"⟩, 6) := ⟨⟨by decide +kernel, by decide +kernel⟩, List.mem_of_getElem? (i := 135) (by decide +kernel), List.mem_of_getElem? (i := 508) (by decide +kernel), List.mem_of_getElem? (i := 509) (by decide +kernel)⟩
theorem lw_p17 : lw_okq (⟨"OneNail$Orders", "nothingEverFalls", "()Z"⟩, 6) := ⟨⟨by decide +kernel, by decide +kernel⟩, List.mem_of_getElem? (i := 135) (by decide +kernel), List.mem_of_getElem? (i := 525) (by decide +kernel), List.mem_of_getElem? (i := 526) (by decide +kernel)⟩
theorem lw_p18 : lw_okq (⟨"OneNail", "harmOfBoth", "(I)I"⟩, 8) := ⟨⟨by decide +kernel, by decide +kernel⟩, List.mem_of_getElem? (i := 16) (by decide +kernel), List.mem_of_getElem? (i := 541) (by decide +kernel), List.mem_of_getElem? (i := 542) (by decide +kernel)⟩
theorem lw_p19 : lw_okq (⟨"OneNail$Orders", "allAreSo", "(LOneNail$Readings;)Z"⟩, 6) := ⟨⟨by decide +kernel, by decide +kernel⟩, List.mem_of_getElem? (i := 135) (by decide +kernel), List.mem_of_getElem? (i := 569) (by decide +kernel), List.mem_of_getElem? (i := 570) (by decide +kernel)⟩
theorem lw_p20 : lw_okq (⟨"OneNail$Orders", "isUp", "(II)Z"⟩, 6) := ⟨⟨by decide +kernel, by decide +kernel⟩, List.mem_of_getElem? (i := 135) (by decide +kernel), List.mem_of_getElem? (i := 573) (by decide +kernel), List.mem_of_getElem? (i := 574) (by decide +kernel)⟩
theorem lw_p21 : lw_okq (⟨"OneNailModel", "against", "(IIII)I"⟩, 34) := ⟨⟨by decide +kernel, by decide +kernel⟩, List.mem_of_getElem? (i := 675) (by decide +kernel), List.mem_of_getElem? (i := 797) (by decide +kernel), List.mem_of_getElem? (i := 798) (by decide +kernel)⟩
theorem lw_p22 : lw_okq (⟨"OneNailModel", "fails", "(I)I"⟩, 34) := ⟨⟨by decide +kernel, by decide +kernel⟩, List.mem_of_getElem? (i := 675) (by decide +kernel), List.mem_of_getElem? (i := 801) (by decide +kernel), List.mem_of_getElem? (i := 802) (by decide +kernel)⟩
theorem lw_p23 : lw_okq (⟨"OneNailModel", "readStreet", "(I)Z"⟩, 34) := ⟨⟨by decide +kernel, by decide +kernel⟩, List.mem_of_getElem? (i := 675) (by decide +kernel), List.mem_of_getElem? (i := 805) (by decide +kernel), List.mem_of_getElem? (i := 806) (by decide +kernel)⟩
theorem lw_p24 : lw_okq (⟨"OneNailModel", "digit", "(II)I"⟩, 34) := ⟨⟨by decide +kernel, by decide +kernel⟩, List.mem_of_getElem? (i := 675) (by decide +kernel), List.mem_of_getElem? (i := 809) (by decide +kernel), List.mem_of_getElem? (i := 810) (by decide +kernel)⟩
theorem lw_p25 : lw_okq (⟨"OneNailModel", "readThing", "(II)Z"⟩, 34) := ⟨⟨by decide +kernel, by decide +kernel⟩, List.mem_of_getElem? (i := 675) (by decide +kernel), List.mem_of_getElem? (i := 813) (by decide +kernel), List.mem_of_getElem? (i := 814) (by decide +kernel)⟩
theorem lw_p26 : lw_okq (⟨"OneNailModel", "isThing", "(I)Z"⟩, 34) := ⟨⟨by decide +kernel, by decide +kernel⟩, List.mem_of_getElem? (i := 675) (by decide +kernel), List.mem_of_getElem? (i := 821) (by decide +kernel), List.mem_of_getElem? (i := 822) (by decide +kernel)⟩
theorem lw_p27 : lw_okq (⟨"OneNailModel", "holds", "(I)I"⟩, 34) := ⟨⟨by decide +kernel, by decide +kernel⟩, List.mem_of_getElem? (i := 675) (by decide +kernel), List.mem_of_getElem? (i := 825) (by decide +kernel), List.mem_of_getElem? (i := 826) (by decide +kernel)⟩
theorem lw_p28 : lw_okq (⟨"OneNailModel", "layRow", "(IIII)I"⟩, 34) := ⟨⟨by decide +kernel, by decide +kernel⟩, List.mem_of_getElem? (i := 675) (by decide +kernel), List.mem_of_getElem? (i := 841) (by decide +kernel), List.mem_of_getElem? (i := 842) (by decide +kernel)⟩
theorem lw_p29 : lw_okq (⟨"OneNailModel", "all", "()I"⟩, 34) := ⟨⟨by decide +kernel, by decide +kernel⟩, List.mem_of_getElem? (i := 675) (by decide +kernel), List.mem_of_getElem? (i := 845) (by decide +kernel), List.mem_of_getElem? (i := 846) (by decide +kernel)⟩
theorem lw_p30 : lw_okq (⟨"OneNailModel", "harmOf", "(II)I"⟩, 34) := ⟨⟨by decide +kernel, by decide +kernel⟩, List.mem_of_getElem? (i := 675) (by decide +kernel), List.mem_of_getElem? (i := 849) (by decide +kernel), List.mem_of_getElem? (i := 850) (by decide +kernel)⟩
theorem lw_p31 : lw_okq (⟨"OneNailModel", "layComings", "(II)V"⟩, 34) := ⟨⟨by decide +kernel, by decide +kernel⟩, List.mem_of_getElem? (i := 675) (by decide +kernel), List.mem_of_getElem? (i := 853) (by decide +kernel), List.mem_of_getElem? (i := 854) (by decide +kernel)⟩
def lw_privs_2 : List (MethodName × Nat) := [(⟨"OneNail$Orders", "swap", "(II)V"⟩, 6), (⟨"OneNail$Orders", "nothingEverFalls", "()Z"⟩, 6), (⟨"OneNail", "harmOfBoth", "(I)I"⟩, 8), (⟨"OneNail$Orders", "allAreSo", "(LOneNail$Readings;)Z"⟩, 6), (⟨"OneNail$Orders", "isUp", "(II)Z"⟩, 6), (⟨"OneNailModel", "against", "(IIII)I"⟩, 34), (⟨"OneNailModel", "fails", "(I)I"⟩, 34), (⟨"OneNailModel", "readStreet", "(I)Z"⟩, 34), (⟨"OneNailModel", "digit", "(II)I"⟩, 34), (⟨"OneNailModel", "readThing", "(II)Z"⟩, 34), (⟨"OneNailModel", "isThing", "(I)Z"⟩, 34), (⟨"OneNailModel", "holds", "(I)I"⟩, 34), (⟨"OneNailModel", "layRow", "(IIII)I"⟩, 34), (⟨"OneNailModel", "all", "()I"⟩, 34), (⟨"OneNailModel", "harmOf", "(II)I"⟩, 34), (⟨"OneNailModel", "layComings", "(II)V"⟩, 34)]
theorem lw_r2 : ∀ q ∈ lw_privs_2, lw_okq q := List.forall_mem_cons.mpr ⟨lw_p16, List.forall_mem_cons.mpr ⟨lw_p17, List.forall_mem_cons.mpr ⟨lw_p18, List.forall_mem_cons.mpr ⟨lw_p19, List.forall_mem_cons.mpr ⟨lw_p20, List.forall_mem_cons.mpr ⟨lw_p21, List.forall_mem_cons.mpr ⟨lw_p22, List.forall_mem_cons.mpr ⟨lw_p23, List.forall_mem_cons.mpr ⟨lw_p24, List.forall_mem_cons.mpr ⟨lw_p25, List.forall_mem_cons.mpr ⟨lw_p26, List.forall_mem_cons.mpr ⟨lw_p27, List.forall_mem_cons.mpr ⟨lw_p28, List.forall_mem_cons.mpr ⟨lw_p29, List.forall_mem_cons.mpr ⟨lw_p30, List.forall_mem_cons.mpr ⟨lw_p31, fun _ h => absurd h List.not_mem_nil⟩⟩⟩⟩⟩⟩⟩⟩⟩⟩⟩⟩⟩⟩⟩⟩
theorem lw_p32 : lw_okq (⟨"OneNailModel", "fallsOf", "(II)I"⟩, 34) := ⟨⟨by decide +kernel, by decide +kernel⟩, List.mem_of_getElem? (i := 675) (by decide +kernel), List.mem_of_getElem? (i := 860) (by decide +kernel), List.mem_of_getElem? (i := 861) (by decide +kernel)⟩
theorem lw_p33 : lw_okq (⟨"OneNailModel", "isSafe", "(I)Z"⟩, 34) := ⟨⟨by decide +kernel, by decide +kernel⟩, List.mem_of_getElem? (i := 675) (by decide +kernel), List.mem_of_getElem? (i := 868) (by decide +kernel), List.mem_of_getElem? (i := 869) (by decide +kernel)⟩
theorem lw_p34 : lw_okq (⟨"OneNailModel", "layFalls", "()I"⟩, 34) := ⟨⟨by decide +kernel, by decide +kernel⟩, List.mem_of_getElem? (i := 675) (by decide +kernel), List.mem_of_getElem? (i := 877) (by decide +kernel), List.mem_of_getElem? (i := 878) (by decide +kernel)⟩
theorem lw_p35 : lw_okq (⟨"OneNailModel", "leastHarm", "(II)I"⟩, 34) := ⟨⟨by decide +kernel, by decide +kernel⟩, List.mem_of_getElem? (i := 675) (by decide +kernel), List.mem_of_getElem? (i := 889) (by decide +kernel), List.mem_of_getElem? (i := 890) (by decide +kernel)⟩
theorem lw_p36 : lw_okq (⟨"OneNailModel", "firstOrder", "(I)V"⟩, 34) := ⟨⟨by decide +kernel, by decide +kernel⟩, List.mem_of_getElem? (i := 675) (by decide +kernel), List.mem_of_getElem? (i := 893) (by decide +kernel), List.mem_of_getElem? (i := 894) (by decide +kernel)⟩
theorem lw_p37 : lw_okq (⟨"OneNailModel", "nextOrder", "()Z"⟩, 34) := ⟨⟨by decide +kernel, by decide +kernel⟩, List.mem_of_getElem? (i := 675) (by decide +kernel), List.mem_of_getElem? (i := 897) (by decide +kernel), List.mem_of_getElem? (i := 898) (by decide +kernel)⟩
theorem lw_p38 : lw_okq (⟨"OneNailModel", "change", "(II)V"⟩, 34) := ⟨⟨by decide +kernel, by decide +kernel⟩, List.mem_of_getElem? (i := 675) (by decide +kernel), List.mem_of_getElem? (i := 901) (by decide +kernel), List.mem_of_getElem? (i := 902) (by decide +kernel)⟩
theorem lw_p39 : lw_okq (⟨"OneNailModel", "canBeSafe", "(I)Z"⟩, 34) := ⟨⟨by decide +kernel, by decide +kernel⟩, List.mem_of_getElem? (i := 675) (by decide +kernel), List.mem_of_getElem? (i := 916) (by decide +kernel), List.mem_of_getElem? (i := 917) (by decide +kernel)⟩
theorem lw_p40 : lw_okq (⟨"OneNailModel", "areSo", "()Z"⟩, 34) := ⟨⟨by decide +kernel, by decide +kernel⟩, List.mem_of_getElem? (i := 675) (by decide +kernel), List.mem_of_getElem? (i := 940) (by decide +kernel), List.mem_of_getElem? (i := 941) (by decide +kernel)⟩
theorem lw_p41 : lw_okq (⟨"OneNailModel", "isUp", "(II)Z"⟩, 34) := ⟨⟨by decide +kernel, by decide +kernel⟩, List.mem_of_getElem? (i := 675) (by decide +kernel), List.mem_of_getElem? (i := 944) (by decide +kernel), List.mem_of_getElem? (i := 945) (by decide +kernel)⟩
theorem lw_p42 : lw_okq (⟨"OneNailModel", "lost", "(I)J"⟩, 34) := ⟨⟨by decide +kernel, by decide +kernel⟩, List.mem_of_getElem? (i := 675) (by decide +kernel), List.mem_of_getElem? (i := 965) (by decide +kernel), List.mem_of_getElem? (i := 966) (by decide +kernel)⟩
theorem lw_p43 : lw_okq (⟨"OneNailModel", "begins", "(I)V"⟩, 34) := ⟨⟨by decide +kernel, by decide +kernel⟩, List.mem_of_getElem? (i := 675) (by decide +kernel), List.mem_of_getElem? (i := 977) (by decide +kernel), List.mem_of_getElem? (i := 978) (by decide +kernel)⟩
def lw_privs_3 : List (MethodName × Nat) := [(⟨"OneNailModel", "fallsOf", "(II)I"⟩, 34), (⟨"OneNailModel", "isSafe", "(I)Z"⟩, 34), (⟨"OneNailModel", "layFalls", "()I"⟩, 34), (⟨"OneNailModel", "leastHarm", "(II)I"⟩, 34), (⟨"OneNailModel", "firstOrder", "(I)V"⟩, 34), (⟨"OneNailModel", "nextOrder", "()Z"⟩, 34), (⟨"OneNailModel", "change", "(II)V"⟩, 34), (⟨"OneNailModel", "canBeSafe", "(I)Z"⟩, 34), (⟨"OneNailModel", "areSo", "()Z"⟩, 34), (⟨"OneNailModel", "isUp", "(II)Z"⟩, 34), (⟨"OneNailModel", "lost", "(I)J"⟩, 34), (⟨"OneNailModel", "begins", "(I)V"⟩, 34)]
theorem lw_r3 : ∀ q ∈ lw_privs_3, lw_okq q := List.forall_mem_cons.mpr ⟨lw_p32, List.forall_mem_cons.mpr ⟨lw_p33, List.forall_mem_cons.mpr ⟨lw_p34, List.forall_mem_cons.mpr ⟨lw_p35, List.forall_mem_cons.mpr ⟨lw_p36, List.forall_mem_cons.mpr ⟨lw_p37, List.forall_mem_cons.mpr ⟨lw_p38, List.forall_mem_cons.mpr ⟨lw_p39, List.forall_mem_cons.mpr ⟨lw_p40, List.forall_mem_cons.mpr ⟨lw_p41, List.forall_mem_cons.mpr ⟨lw_p42, List.forall_mem_cons.mpr ⟨lw_p43, fun _ h => absurd h List.not_mem_nil⟩⟩⟩⟩⟩⟩⟩⟩⟩⟩⟩⟩
def lw_privs : List (MethodName × Nat) := lw_privs_1 ++ (lw_privs_2 ++ (lw_privs_3))
def lw_tbl : List Cond := k2_sels lw_privs ++ tables_1
theorem lw_privs_ok : ∀ q ∈ lw_privs, lw_okq q := by
  show ∀ q ∈ lw_privs_1 ++ (lw_privs_2 ++ (lw_privs_3)), lw_okq q
  exact List.forall_mem_append.mpr ⟨lw_r1, List.forall_mem_append.mpr ⟨lw_r2, lw_r3⟩⟩
-- ===== end of PART A; then your names; then what follows =====
/-! ===== BEGIN words of one list among another's, by their places ===== -/
theorem goodIn_r {big : List Cond} (ws : List Cond) (ps : List Nat) (hp : ws = ps.filterMap (fun i => big[i]?)) (h : ws.all goodWord = true) : GoodIn big ws := by
  intro w hw
  have h1 := List.all_eq_true.mp h w hw
  rw [hp] at hw
  obtain ⟨i, -, hi⟩ := List.mem_filterMap.mp hw
  have hm : w ∈ big := by first | exact List.mem_of_getElem? hi | exact List.getElem?_mem hi
  exact ⟨hm, good_of_word h1⟩
theorem goodIn_app {big a b : List Cond} (ha : GoodIn big a) (hb : GoodIn big b) : GoodIn big (a ++ b) := fun w h => (List.mem_append.mp h).elim (ha w) (hb w)
theorem goodIn_ca {big a b : List Cond} {c : Cond} (ha : GoodIn big (c :: a)) (hb : GoodIn big b) : GoodIn big (c :: (a ++ b)) := fun w h => (List.mem_cons.mp h).elim (fun e => ha w (List.mem_cons.mpr (Or.inl e))) (fun h => (List.mem_append.mp h).elim (fun h => ha w (List.mem_cons.mpr (Or.inr h))) (hb w))
theorem goodIn_sub {big ws : List Cond} (hm : ∀ w ∈ ws, w ∈ big) (h : ws.all goodWord = true) : GoodIn big ws := fun w hw => ⟨hm w hw, good_of_word (List.all_eq_true.mp h w hw)⟩
/-! ===== END ===== -/

/-! ===== BEGIN printed: names, fields, word lists, decode rows ===== -/
def RX0 : String := "OneNail$Coffin"
def TX0 : u_T := fun k => match k with
  | 0 => ("OneNail$Thing", "number", "I", true)
  | 1 => ("OneNail$Thing", "place", "I", true)
  | 2 => ("OneNail$Thing", "stay", "I", true)
  | 3 => ("OneNail$Thing", "hold", "I", true)
  | _ => ("OneNail$Thing", "harmDone", "I", true)
def tyX0 : Nat → FieldType := fun k => match k with
  | 0 => .int
  | 1 => .int
  | 2 => .int
  | 3 => .int
  | _ => .int
abbrev wsX00 : List Cond := u_ws RX0 TX0 5
theorem nmX0 : ∀ a, a < 5 → ∀ b, b < 5 → a ≠ b → (TX0 a).2.1 ≠ (TX0 b).2.1 := by decide +kernel
theorem tyX0_ok : ∀ k, k < 5 → parseFieldDescriptor (TX0 k).2.2.1 = some (tyX0 k) := by decide +kernel
abbrev cX0_init : ByteArray := prog_2_method_1_code
def yX0_init : MethodName := ⟨RX0, "<init>", "(IIIII)V"⟩
abbrev cX0_kindNumber : ByteArray := prog_2_method_2_code
def yX0_kindNumber : MethodName := ⟨RX0, "kindNumber", "()I"⟩
abbrev cX0_holdsBy : ByteArray := prog_2_method_3_code
def yX0_holdsBy : MethodName := ⟨RX0, "holdsBy", "(I)I"⟩
abbrev cX0_telling : ByteArray := prog_2_method_4_code
def yX0_telling : MethodName := ⟨RX0, "telling", "(LOneNail$Trace;)I"⟩
abbrev cX0_struck : ByteArray := prog_2_method_5_code
def yX0_struck : MethodName := ⟨RX0, "struck", "(LOneNail$Trace;)I"⟩
def RX1 : String := "OneNail$Door"
def TX1 : u_T := fun k => match k with
  | 0 => ("OneNail$Thing", "number", "I", true)
  | 1 => ("OneNail$Thing", "place", "I", true)
  | 2 => ("OneNail$Thing", "stay", "I", true)
  | 3 => ("OneNail$Thing", "hold", "I", true)
  | _ => ("OneNail$Thing", "harmDone", "I", true)
def tyX1 : Nat → FieldType := fun k => match k with
  | 0 => .int
  | 1 => .int
  | 2 => .int
  | 3 => .int
  | _ => .int
abbrev wsX10 : List Cond := u_ws RX1 TX1 5
theorem nmX1 : ∀ a, a < 5 → ∀ b, b < 5 → a ≠ b → (TX1 a).2.1 ≠ (TX1 b).2.1 := by decide +kernel
theorem tyX1_ok : ∀ k, k < 5 → parseFieldDescriptor (TX1 k).2.2.1 = some (tyX1 k) := by decide +kernel
abbrev cX1_init : ByteArray := prog_3_method_1_code
def yX1_init : MethodName := ⟨RX1, "<init>", "(IIIII)V"⟩
abbrev cX1_kindNumber : ByteArray := prog_3_method_2_code
def yX1_kindNumber : MethodName := ⟨RX1, "kindNumber", "()I"⟩
abbrev cX1_holdsBy : ByteArray := prog_3_method_3_code
def yX1_holdsBy : MethodName := ⟨RX1, "holdsBy", "(I)I"⟩
abbrev cX1_telling : ByteArray := prog_3_method_4_code
def yX1_telling : MethodName := ⟨RX1, "telling", "(LOneNail$Trace;)I"⟩
def RX2 : String := "OneNail$Orders"
def TX2 : u_T := fun k => match k with
  | 0 => ("OneNail$Orders", "town", "LOneNail$Street;", true)
  | 1 => ("OneNail$Orders", "row", "[I", true)
  | 2 => ("OneNail$Orders", "length", "I", false)
  | 3 => ("OneNail$Orders", "comes", "[I", true)
  | 4 => ("OneNail$Orders", "period", "I", false)
  | _ => ("OneNail$Orders", "kept", "[I", true)
def tyX2 : Nat → FieldType := fun k => match k with
  | 0 => .object "OneNail$Street"
  | 1 => .array .int
  | 2 => .int
  | 3 => .array .int
  | 4 => .int
  | _ => .array .int
abbrev wsX20 : List Cond := u_ws RX2 TX2 6
theorem nmX2 : ∀ a, a < 6 → ∀ b, b < 6 → a ≠ b → (TX2 a).2.1 ≠ (TX2 b).2.1 := by decide +kernel
theorem tyX2_ok : ∀ k, k < 6 → parseFieldDescriptor (TX2 k).2.2.1 = some (tyX2 k) := by decide +kernel
abbrev cX2_init : ByteArray := prog_4_method_1_code
def yX2_init : MethodName := ⟨RX2, "<init>", "(LOneNail$Street;)V"⟩
abbrev cX2_leastHarm : ByteArray := prog_4_method_2_code
def yX2_leastHarm : MethodName := ⟨RX2, "leastHarm", "(III)I"⟩
abbrev cX2_countSafe : ByteArray := prog_4_method_3_code
def yX2_countSafe : MethodName := ⟨RX2, "countSafe", "(II)I"⟩
abbrev cX2_countFitting : ByteArray := prog_4_method_4_code
def yX2_countFitting : MethodName := ⟨RX2, "countFitting", "(ILOneNail$Readings;)I"⟩
abbrev cX2_keptAt : ByteArray := prog_4_method_5_code
def yX2_keptAt : MethodName := ⟨RX2, "keptAt", "(I)I"⟩
abbrev cX2_keep : ByteArray := prog_4_method_6_code
def yX2_keep : MethodName := ⟨RX2, "keep", "()V"⟩
abbrev cX2_begin : ByteArray := prog_4_method_7_code
def yX2_begin : MethodName := ⟨RX2, "begin", "(I)I"⟩
abbrev cX2_goOn : ByteArray := prog_4_method_8_code
def yX2_goOn : MethodName := ⟨RX2, "goOn", "()V"⟩
abbrev cX2_swap : ByteArray := prog_4_method_9_code
def yX2_swap : MethodName := ⟨RX2, "swap", "(II)V"⟩
abbrev cX2_time : ByteArray := prog_4_method_10_code
def yX2_time : MethodName := ⟨RX2, "time", "(I)V"⟩
abbrev cX2_harmBelow : ByteArray := prog_4_method_11_code
def yX2_harmBelow : MethodName := ⟨RX2, "harmBelow", "(II)I"⟩
abbrev cX2_fallsBelow : ByteArray := prog_4_method_12_code
def yX2_fallsBelow : MethodName := ⟨RX2, "fallsBelow", "(II)I"⟩
abbrev cX2_nothingEverFalls : ByteArray := prog_4_method_13_code
def yX2_nothingEverFalls : MethodName := ⟨RX2, "nothingEverFalls", "()Z"⟩
abbrev cX2_allAreSo : ByteArray := prog_4_method_14_code
def yX2_allAreSo : MethodName := ⟨RX2, "allAreSo", "(LOneNail$Readings;)Z"⟩
abbrev cX2_isUp : ByteArray := prog_4_method_15_code
def yX2_isUp : MethodName := ⟨RX2, "isUp", "(II)Z"⟩
def RX3 : String := "OneNail$Readings"
def TX3 : u_T := fun k => match k with
  | 0 => ("OneNail$Readings", "count", "I", false)
  | 1 => ("OneNail$Readings", "things", "[I", true)
  | 2 => ("OneNail$Readings", "minutes", "[I", true)
  | _ => ("OneNail$Readings", "ups", "[Z", true)
def tyX3 : Nat → FieldType := fun k => match k with
  | 0 => .int
  | 1 => .array .int
  | 2 => .array .int
  | _ => .array .boolean
abbrev wsX30 : List Cond := u_ws RX3 TX3 4
theorem nmX3 : ∀ a, a < 4 → ∀ b, b < 4 → a ≠ b → (TX3 a).2.1 ≠ (TX3 b).2.1 := by decide +kernel
theorem tyX3_ok : ∀ k, k < 4 → parseFieldDescriptor (TX3 k).2.2.1 = some (tyX3 k) := by decide +kernel
abbrev cX3_init : ByteArray := prog_5_method_1_code
def yX3_init : MethodName := ⟨RX3, "<init>", "()V"⟩
abbrev cX3_note : ByteArray := prog_5_method_2_code
def yX3_note : MethodName := ⟨RX3, "note", "(IIZ)I"⟩
def RX4 : String := "OneNail$Sheet"
def TX4 : u_T := fun k => match k with
  | 0 => ("OneNail$Sheet", "lane", "I", false)
  | 1 => ("OneNail$Sheet", "length", "I", false)
  | _ => ("OneNail$Sheet", "cells", "[I", true)
def tyX4 : Nat → FieldType := fun k => match k with
  | 0 => .int
  | 1 => .int
  | _ => .array .int
abbrev wsX40 : List Cond := u_ws RX4 TX4 3
theorem nmX4 : ∀ a, a < 3 → ∀ b, b < 3 → a ≠ b → (TX4 a).2.1 ≠ (TX4 b).2.1 := by decide +kernel
theorem tyX4_ok : ∀ k, k < 3 → parseFieldDescriptor (TX4 k).2.2.1 = some (tyX4 k) := by decide +kernel
abbrev cX4_init : ByteArray := prog_6_method_1_code
def yX4_init : MethodName := ⟨RX4, "<init>", "()V"⟩
abbrev cX4_isNothing : ByteArray := prog_6_method_2_code
def yX4_isNothing : MethodName := ⟨RX4, "isNothing", "()Z"⟩
abbrev cX4_makeNothing : ByteArray := prog_6_method_3_code
def yX4_makeNothing : MethodName := ⟨RX4, "makeNothing", "()V"⟩
abbrev cX4_makeRow : ByteArray := prog_6_method_4_code
def yX4_makeRow : MethodName := ⟨RX4, "makeRow", "(II)V"⟩
abbrev cX4_hasCell : ByteArray := prog_6_method_5_code
def yX4_hasCell : MethodName := ⟨RX4, "hasCell", "(I)Z"⟩
abbrev cX4_spans : ByteArray := prog_6_method_6_code
def yX4_spans : MethodName := ⟨RX4, "spans", "(II)Z"⟩
abbrev cX4_read : ByteArray := prog_6_method_7_code
def yX4_read : MethodName := ⟨RX4, "read", "(I)I"⟩
abbrev cX4_write : ByteArray := prog_6_method_8_code
def yX4_write : MethodName := ⟨RX4, "write", "(II)V"⟩
def RX5 : String := "OneNail$Street"
def TX5 : u_T := fun k => match k with
  | 0 => ("OneNail$Street", "count", "I", false)
  | 1 => ("OneNail$Street", "smithyPlace", "I", false)
  | 2 => ("OneNail$Street", "rusted", "I", false)
  | 3 => ("OneNail$Street", "things", "[LOneNail$Thing;", true)
  | 4 => ("OneNail$Street", "places", "[I", true)
  | 5 => ("OneNail$Street", "stays", "[I", true)
  | 6 => ("OneNail$Street", "harms", "[I", true)
  | _ => ("OneNail$Street", "holds", "[I", true)
def tyX5 : Nat → FieldType := fun k => match k with
  | 0 => .int
  | 1 => .int
  | 2 => .int
  | 3 => .array (.object "OneNail$Thing")
  | 4 => .array .int
  | 5 => .array .int
  | 6 => .array .int
  | _ => .array .int
abbrev wsX50 : List Cond := u_ws RX5 TX5 8
theorem nmX5 : ∀ a, a < 8 → ∀ b, b < 8 → a ≠ b → (TX5 a).2.1 ≠ (TX5 b).2.1 := by decide +kernel
theorem tyX5_ok : ∀ k, k < 8 → parseFieldDescriptor (TX5 k).2.2.1 = some (tyX5 k) := by decide +kernel
abbrev cX5_init : ByteArray := prog_7_method_1_code
def yX5_init : MethodName := ⟨RX5, "<init>", "()V"⟩
abbrev cX5_empty : ByteArray := prog_7_method_2_code
def yX5_empty : MethodName := ⟨RX5, "empty", "(I)V"⟩
abbrev cX5_addThing : ByteArray := prog_7_method_3_code
def yX5_addThing : MethodName := ⟨RX5, "addThing", "(LOneNail$Thing;)V"⟩
abbrev cX5_becomeRusty : ByteArray := prog_7_method_4_code
def yX5_becomeRusty : MethodName := ⟨RX5, "becomeRusty", "(I)V"⟩
abbrev cX5_has : ByteArray := prog_7_method_5_code
def yX5_has : MethodName := ⟨RX5, "has", "(I)Z"⟩
abbrev cX5_thingAt : ByteArray := prog_7_method_6_code
def yX5_thingAt : MethodName := ⟨RX5, "thingAt", "(I)LOneNail$Thing;"⟩
abbrev cX5_all : ByteArray := prog_7_method_7_code
def yX5_all : MethodName := ⟨RX5, "all", "()I"⟩
def RX6 : String := "OneNail$Thing"
def TX6 : u_T := fun k => match k with
  | 0 => ("OneNail$Thing", "number", "I", true)
  | 1 => ("OneNail$Thing", "place", "I", true)
  | 2 => ("OneNail$Thing", "stay", "I", true)
  | 3 => ("OneNail$Thing", "hold", "I", true)
  | _ => ("OneNail$Thing", "harmDone", "I", true)
def tyX6 : Nat → FieldType := fun k => match k with
  | 0 => .int
  | 1 => .int
  | 2 => .int
  | 3 => .int
  | _ => .int
abbrev wsX60 : List Cond := u_ws RX6 TX6 5
theorem nmX6 : ∀ a, a < 5 → ∀ b, b < 5 → a ≠ b → (TX6 a).2.1 ≠ (TX6 b).2.1 := by decide +kernel
theorem tyX6_ok : ∀ k, k < 5 → parseFieldDescriptor (TX6 k).2.2.1 = some (tyX6 k) := by decide +kernel
abbrev cX6_init : ByteArray := prog_8_method_1_code
def yX6_init : MethodName := ⟨RX6, "<init>", "(IIIII)V"⟩
abbrev cX6_kindNumber : ByteArray := prog_8_method_2_code
def yX6_kindNumber : MethodName := ⟨RX6, "kindNumber", "()I"⟩
abbrev cX6_holdsBy : ByteArray := prog_8_method_3_code
def yX6_holdsBy : MethodName := ⟨RX6, "holdsBy", "(I)I"⟩
abbrev cX6_telling : ByteArray := prog_8_method_4_code
def yX6_telling : MethodName := ⟨RX6, "telling", "(LOneNail$Trace;)I"⟩
abbrev cX6_plainTelling : ByteArray := prog_8_method_5_code
def yX6_plainTelling : MethodName := ⟨RX6, "plainTelling", "(LOneNail$Trace;)I"⟩
abbrev cX6_struck : ByteArray := prog_8_method_6_code
def yX6_struck : MethodName := ⟨RX6, "struck", "(LOneNail$Trace;)I"⟩
def RX7 : String := "OneNail$Trace"
def TX7 : u_T := fun k => match k with
  | _ => ("OneNail$Trace", "value", "I", false)
def tyX7 : Nat → FieldType := fun k => match k with
  | _ => .int
abbrev wsX70 : List Cond := u_ws RX7 TX7 1
theorem nmX7 : ∀ a, a < 1 → ∀ b, b < 1 → a ≠ b → (TX7 a).2.1 ≠ (TX7 b).2.1 := by decide +kernel
theorem tyX7_ok : ∀ k, k < 1 → parseFieldDescriptor (TX7 k).2.2.1 = some (tyX7 k) := by decide +kernel
abbrev cX7_init : ByteArray := prog_9_method_1_code
def yX7_init : MethodName := ⟨RX7, "<init>", "()V"⟩
abbrev cX7_leave : ByteArray := prog_9_method_2_code
def yX7_leave : MethodName := ⟨RX7, "leave", "(I)V"⟩
def RX8 : String := "OneNail$Walk"
def TX8 : u_T := fun k => match k with
  | 0 => ("OneNail$Walk", "town", "LOneNail$Street;", true)
  | 1 => ("OneNail$Walk", "round", "[I", true)
  | 2 => ("OneNail$Walk", "length", "I", false)
  | 3 => ("OneNail$Walk", "until", "[I", true)
  | 4 => ("OneNail$Walk", "fallen", "[I", true)
  | 5 => ("OneNail$Walk", "spot", "I", false)
  | 6 => ("OneNail$Walk", "from", "I", false)
  | 7 => ("OneNail$Walk", "leaves", "I", false)
  | 8 => ("OneNail$Walk", "thing", "I", false)
  | _ => ("OneNail$Walk", "comes", "I", false)
def tyX8 : Nat → FieldType := fun k => match k with
  | 0 => .object "OneNail$Street"
  | 1 => .array .int
  | 2 => .int
  | 3 => .array .int
  | 4 => .array .int
  | 5 => .int
  | 6 => .int
  | 7 => .int
  | 8 => .int
  | _ => .int
abbrev wsX80 : List Cond := u_ws RX8 TX8 10
theorem nmX8 : ∀ a, a < 10 → ∀ b, b < 10 → a ≠ b → (TX8 a).2.1 ≠ (TX8 b).2.1 := by decide +kernel
theorem tyX8_ok : ∀ k, k < 10 → parseFieldDescriptor (TX8 k).2.2.1 = some (tyX8 k) := by decide +kernel
abbrev cX8_init : ByteArray := prog_10_method_1_code
def yX8_init : MethodName := ⟨RX8, "<init>", "(LOneNail$Street;)V"⟩
abbrev cX8_layRound : ByteArray := prog_10_method_2_code
def yX8_layRound : MethodName := ⟨RX8, "layRound", "(LOneNail$Sheet;II)V"⟩
abbrev cX8_begin : ByteArray := prog_10_method_3_code
def yX8_begin : MethodName := ⟨RX8, "begin", "()V"⟩
abbrev cX8_goOn : ByteArray := prog_10_method_4_code
def yX8_goOn : MethodName := ⟨RX8, "goOn", "()V"⟩
abbrev cX8_nailed : ByteArray := prog_10_method_5_code
def yX8_nailed : MethodName := ⟨RX8, "nailed", "()V"⟩
abbrev cX8_markFall : ByteArray := prog_10_method_6_code
def yX8_markFall : MethodName := ⟨RX8, "markFall", "(I)V"⟩
abbrev cX8_markFalls : ByteArray := prog_10_method_7_code
def yX8_markFalls : MethodName := ⟨RX8, "markFalls", "()V"⟩
abbrev cX8_harmBelow : ByteArray := prog_10_method_8_code
def yX8_harmBelow : MethodName := ⟨RX8, "harmBelow", "(I)I"⟩
abbrev cX8_countFalls : ByteArray := prog_10_method_9_code
def yX8_countFalls : MethodName := ⟨RX8, "countFalls", "()I"⟩
abbrev cX8_fallNumber : ByteArray := prog_10_method_10_code
def yX8_fallNumber : MethodName := ⟨RX8, "fallNumber", "(I)I"⟩
abbrev cX8_nothingEverFalls : ByteArray := prog_10_method_11_code
def yX8_nothingEverFalls : MethodName := ⟨RX8, "nothingEverFalls", "()Z"⟩
abbrev cX8_whereAt : ByteArray := prog_10_method_12_code
def yX8_whereAt : MethodName := ⟨RX8, "whereAt", "(I)I"⟩
def RX9 : String := "OneNail"
def TX9 : u_T := fun k => match k with
  | 0 => ("OneNail", "town", "LOneNail$Street;", true)
  | 1 => ("OneNail", "seen", "LOneNail$Readings;", true)
  | 2 => ("OneNail", "walk", "LOneNail$Walk;", true)
  | 3 => ("OneNail", "orders", "LOneNail$Orders;", true)
  | 4 => ("OneNail", "sheets", "[LOneNail$Sheet;", true)
  | 5 => ("OneNail", "leastOf", "[I", true)
  | 6 => ("OneNail", "traced", "LOneNail$Trace;", true)
  | _ => ("OneNail", "lastFault", "I", false)
def tyX9 : Nat → FieldType := fun k => match k with
  | 0 => .object "OneNail$Street"
  | 1 => .object "OneNail$Readings"
  | 2 => .object "OneNail$Walk"
  | 3 => .object "OneNail$Orders"
  | 4 => .array (.object "OneNail$Sheet")
  | 5 => .array .int
  | 6 => .object "OneNail$Trace"
  | _ => .int
abbrev wsX90 : List Cond := u_ws RX9 TX9 8
theorem nmX9 : ∀ a, a < 8 → ∀ b, b < 8 → a ≠ b → (TX9 a).2.1 ≠ (TX9 b).2.1 := by decide +kernel
theorem tyX9_ok : ∀ k, k < 8 → parseFieldDescriptor (TX9 k).2.2.1 = some (tyX9 k) := by decide +kernel
abbrev cX9_init : ByteArray := prog_1_method_1_code
def yX9_init : MethodName := ⟨RX9, "<init>", "()V"⟩
abbrev cX9_street : ByteArray := prog_1_method_2_code
def yX9_street : MethodName := ⟨RX9, "street", "(IIII)I"⟩
abbrev cX9_ofThing : ByteArray := prog_1_method_3_code
def yX9_ofThing : MethodName := ⟨RX9, "ofThing", "(II)I"⟩
abbrev cX9_smithy : ByteArray := prog_1_method_4_code
def yX9_smithy : MethodName := ⟨RX9, "smithy", "(I)I"⟩
abbrev cX9_rust : ByteArray := prog_1_method_5_code
def yX9_rust : MethodName := ⟨RX9, "rust", "(I)I"⟩
abbrev cX9_harm : ByteArray := prog_1_method_6_code
def yX9_harm : MethodName := ⟨RX9, "harm", "(IIIII)I"⟩
abbrev cX9_never : ByteArray := prog_1_method_7_code
def yX9_never : MethodName := ⟨RX9, "never", "(IIII)I"⟩
abbrev cX9_fall : ByteArray := prog_1_method_8_code
def yX9_fall : MethodName := ⟨RX9, "fall", "(IIIII)I"⟩
abbrev cX9_nail : ByteArray := prog_1_method_9_code
def yX9_nail : MethodName := ⟨RX9, "nail", "(IIIII)I"⟩
abbrev cX9_best : ByteArray := prog_1_method_10_code
def yX9_best : MethodName := ⟨RX9, "best", "(II)I"⟩
abbrev cX9_safe : ByteArray := prog_1_method_11_code
def yX9_safe : MethodName := ⟨RX9, "safe", "()I"⟩
abbrev cX9_letGo : ByteArray := prog_1_method_12_code
def yX9_letGo : MethodName := ⟨RX9, "letGo", "()I"⟩
abbrev cX9_two : ByteArray := prog_1_method_13_code
def yX9_two : MethodName := ⟨RX9, "two", "(II)I"⟩
abbrev cX9_site : ByteArray := prog_1_method_14_code
def yX9_site : MethodName := ⟨RX9, "site", "(II)I"⟩
abbrev cX9_reading : ByteArray := prog_1_method_15_code
def yX9_reading : MethodName := ⟨RX9, "reading", "(IIZ)I"⟩
abbrev cX9_back : ByteArray := prog_1_method_16_code
def yX9_back : MethodName := ⟨RX9, "back", "(I)I"⟩
abbrev cX9_fits : ByteArray := prog_1_method_17_code
def yX9_fits : MethodName := ⟨RX9, "fits", "(I)I"⟩
abbrev cX9_sheet : ByteArray := prog_1_method_18_code
def yX9_sheet : MethodName := ⟨RX9, "sheet", "(III)I"⟩
abbrev cX9_lose : ByteArray := prog_1_method_19_code
def yX9_lose : MethodName := ⟨RX9, "lose", "(I)I"⟩
abbrev cX9_put : ByteArray := prog_1_method_20_code
def yX9_put : MethodName := ⟨RX9, "put", "(III)I"⟩
abbrev cX9_cell : ByteArray := prog_1_method_21_code
def yX9_cell : MethodName := ⟨RX9, "cell", "(III)J"⟩
abbrev cX9_copy : ByteArray := prog_1_method_22_code
def yX9_copy : MethodName := ⟨RX9, "copy", "(IIIII)I"⟩
abbrev cX9_tell : ByteArray := prog_1_method_23_code
def yX9_tell : MethodName := ⟨RX9, "tell", "(I)I"⟩
abbrev cX9_strike : ByteArray := prog_1_method_24_code
def yX9_strike : MethodName := ⟨RX9, "strike", "(I)I"⟩
abbrev cX9_as : ByteArray := prog_1_method_25_code
def yX9_as : MethodName := ⟨RX9, "as", "(II)I"⟩
abbrev cX9_trace : ByteArray := prog_1_method_26_code
def yX9_trace : MethodName := ⟨RX9, "trace", "()I"⟩
abbrev cX9_fault : ByteArray := prog_1_method_27_code
def yX9_fault : MethodName := ⟨RX9, "fault", "()I"⟩
abbrev cX9_many : ByteArray := prog_1_method_28_code
def yX9_many : MethodName := ⟨RX9, "many", "(I)I"⟩
abbrev cX9_isLane : ByteArray := prog_1_method_29_code
def yX9_isLane : MethodName := ⟨RX9, "isLane", "(I)Z"⟩
abbrev cX9_isSpan : ByteArray := prog_1_method_30_code
def yX9_isSpan : MethodName := ⟨RX9, "isSpan", "(I)Z"⟩
abbrev cX9_isMinute : ByteArray := prog_1_method_31_code
def yX9_isMinute : MethodName := ⟨RX9, "isMinute", "(I)Z"⟩
abbrev cX9_isHalf : ByteArray := prog_1_method_32_code
def yX9_isHalf : MethodName := ⟨RX9, "isHalf", "(I)Z"⟩
abbrev cX9_sheetAt : ByteArray := prog_1_method_33_code
def yX9_sheetAt : MethodName := ⟨RX9, "sheetAt", "(I)LOneNail$Sheet;"⟩
abbrev cX9_failBy : ByteArray := prog_1_method_34_code
def yX9_failBy : MethodName := ⟨RX9, "failBy", "(I)I"⟩
abbrev cX9_refuseLane : ByteArray := prog_1_method_35_code
def yX9_refuseLane : MethodName := ⟨RX9, "refuseLane", "(LOneNail$Sheet;I)I"⟩
abbrev cX9_refuseCells : ByteArray := prog_1_method_36_code
def yX9_refuseCells : MethodName := ⟨RX9, "refuseCells", "(IZIII)I"⟩
abbrev cX9_refuseRound : ByteArray := prog_1_method_37_code
def yX9_refuseRound : MethodName := ⟨RX9, "refuseRound", "(IZIII)I"⟩
abbrev cX9_firstFault : ByteArray := prog_1_method_38_code
def yX9_firstFault : MethodName := ⟨RX9, "firstFault", "(LOneNail$Sheet;II)I"⟩
abbrev cX9_goesOn : ByteArray := prog_1_method_39_code
def yX9_goesOn : MethodName := ⟨RX9, "goesOn", "(II)Z"⟩
abbrev cX9_isDigit : ByteArray := prog_1_method_40_code
def yX9_isDigit : MethodName := ⟨RX9, "isDigit", "(I)Z"⟩
abbrev cX9_takeText : ByteArray := prog_1_method_41_code
def yX9_takeText : MethodName := ⟨RX9, "takeText", "(LOneNail$Sheet;II)V"⟩
abbrev cX9_readThing : ByteArray := prog_1_method_42_code
def yX9_readThing : MethodName := ⟨RX9, "readThing", "(LOneNail$Sheet;II)LOneNail$Thing;"⟩
abbrev cX9_harmOfBoth : ByteArray := prog_1_method_43_code
def yX9_harmOfBoth : MethodName := ⟨RX9, "harmOfBoth", "(I)I"⟩
def RX10 : String := "OneNailModel"
def TX10 : u_T := fun k => match k with
  | 0 => ("OneNailModel", "fault", "I", false)
  | 1 => ("OneNailModel", "trace", "I", false)
  | 2 => ("OneNailModel", "sorts", "[I", true)
  | 3 => ("OneNailModel", "sheetLong", "[I", true)
  | 4 => ("OneNailModel", "cells", "[I", true)
  | 5 => ("OneNailModel", "things", "I", false)
  | 6 => ("OneNailModel", "home", "I", false)
  | 7 => ("OneNailModel", "rustNow", "I", false)
  | 8 => ("OneNailModel", "kind", "[I", true)
  | 9 => ("OneNailModel", "place", "[I", true)
  | 10 => ("OneNailModel", "stays", "[I", true)
  | 11 => ("OneNailModel", "hold", "[I", true)
  | 12 => ("OneNailModel", "harms", "[I", true)
  | 13 => ("OneNailModel", "at", "I", false)
  | 14 => ("OneNailModel", "readHome", "I", false)
  | 15 => ("OneNailModel", "readThings", "I", false)
  | 16 => ("OneNailModel", "readKind", "[I", true)
  | 17 => ("OneNailModel", "readPlace", "[I", true)
  | 18 => ("OneNailModel", "readStays", "[I", true)
  | 19 => ("OneNailModel", "readHold", "[I", true)
  | 20 => ("OneNailModel", "readHarms", "[I", true)
  | 21 => ("OneNailModel", "row", "[I", true)
  | 22 => ("OneNailModel", "rowLong", "I", false)
  | 23 => ("OneNailModel", "comesAt", "[I", true)
  | 24 => ("OneNailModel", "comesTo", "[I", true)
  | 25 => ("OneNailModel", "comings", "I", false)
  | 26 => ("OneNailModel", "falls", "[I", true)
  | 27 => ("OneNailModel", "doesFall", "[Z", true)
  | 28 => ("OneNailModel", "bestRow", "[I", true)
  | 29 => ("OneNailModel", "leastOf", "[I", true)
  | 30 => ("OneNailModel", "readings", "I", false)
  | 31 => ("OneNailModel", "readThing", "[I", true)
  | 32 => ("OneNailModel", "readMinute", "[I", true)
  | _ => ("OneNailModel", "readUp", "[Z", true)
def tyX10 : Nat → FieldType := fun k => match k with
  | 0 => .int
  | 1 => .int
  | 2 => .array .int
  | 3 => .array .int
  | 4 => .array .int
  | 5 => .int
  | 6 => .int
  | 7 => .int
  | 8 => .array .int
  | 9 => .array .int
  | 10 => .array .int
  | 11 => .array .int
  | 12 => .array .int
  | 13 => .int
  | 14 => .int
  | 15 => .int
  | 16 => .array .int
  | 17 => .array .int
  | 18 => .array .int
  | 19 => .array .int
  | 20 => .array .int
  | 21 => .array .int
  | 22 => .int
  | 23 => .array .int
  | 24 => .array .int
  | 25 => .int
  | 26 => .array .int
  | 27 => .array .boolean
  | 28 => .array .int
  | 29 => .array .int
  | 30 => .int
  | 31 => .array .int
  | 32 => .array .int
  | _ => .array .boolean
abbrev wsX100 : List Cond := u_ws RX10 TX10 34
theorem nmX10 : ∀ a, a < 34 → ∀ b, b < 34 → a ≠ b → (TX10 a).2.1 ≠ (TX10 b).2.1 := by decide +kernel
theorem tyX10_ok : ∀ k, k < 34 → parseFieldDescriptor (TX10 k).2.2.1 = some (tyX10 k) := by decide +kernel
abbrev cX10_init : ByteArray := prog_12_method_1_code
def yX10_init : MethodName := ⟨RX10, "<init>", "()V"⟩
abbrev cX10_fails : ByteArray := prog_12_method_3_code
def yX10_fails : MethodName := ⟨RX10, "fails", "(I)I"⟩
abbrev cX10_lost : ByteArray := prog_12_method_4_code
def yX10_lost : MethodName := ⟨RX10, "lost", "(I)J"⟩
abbrev cX10_within : ByteArray := prog_12_method_5_code
def yX10_within : MethodName := ⟨RX10, "within", "(III)Z"⟩
abbrev cX10_isSheet : ByteArray := prog_12_method_6_code
def yX10_isSheet : MethodName := ⟨RX10, "isSheet", "(I)Z"⟩
abbrev cX10_isSort : ByteArray := prog_12_method_7_code
def yX10_isSort : MethodName := ⟨RX10, "isSort", "(I)Z"⟩
abbrev cX10_against : ByteArray := prog_12_method_8_code
def yX10_against : MethodName := ⟨RX10, "against", "(IIII)I"⟩
abbrev cX10_isThing : ByteArray := prog_12_method_9_code
def yX10_isThing : MethodName := ⟨RX10, "isThing", "(I)Z"⟩
abbrev cX10_digit : ByteArray := prog_12_method_10_code
def yX10_digit : MethodName := ⟨RX10, "digit", "(II)I"⟩
abbrev cX10_street : ByteArray := prog_12_method_11_code
def yX10_street : MethodName := ⟨RX10, "street", "(IIII)I"⟩
abbrev cX10_readStreet : ByteArray := prog_12_method_12_code
def yX10_readStreet : MethodName := ⟨RX10, "readStreet", "(I)Z"⟩
abbrev cX10_readThing : ByteArray := prog_12_method_13_code
def yX10_readThing : MethodName := ⟨RX10, "readThing", "(II)Z"⟩
abbrev cX10_holds : ByteArray := prog_12_method_14_code
def yX10_holds : MethodName := ⟨RX10, "holds", "(I)I"⟩
abbrev cX10_ofThing : ByteArray := prog_12_method_15_code
def yX10_ofThing : MethodName := ⟨RX10, "ofThing", "(II)I"⟩
abbrev cX10_smithy : ByteArray := prog_12_method_16_code
def yX10_smithy : MethodName := ⟨RX10, "smithy", "(I)I"⟩
abbrev cX10_rust : ByteArray := prog_12_method_17_code
def yX10_rust : MethodName := ⟨RX10, "rust", "(I)I"⟩
abbrev cX10_between : ByteArray := prog_12_method_18_code
def yX10_between : MethodName := ⟨RX10, "between", "(II)I"⟩
abbrev cX10_layComings : ByteArray := prog_12_method_19_code
def yX10_layComings : MethodName := ⟨RX10, "layComings", "(II)V"⟩
abbrev cX10_fallsOf : ByteArray := prog_12_method_20_code
def yX10_fallsOf : MethodName := ⟨RX10, "fallsOf", "(II)I"⟩
abbrev cX10_harmOf : ByteArray := prog_12_method_21_code
def yX10_harmOf : MethodName := ⟨RX10, "harmOf", "(II)I"⟩
abbrev cX10_all : ByteArray := prog_12_method_22_code
def yX10_all : MethodName := ⟨RX10, "all", "()I"⟩
abbrev cX10_isSafe : ByteArray := prog_12_method_23_code
def yX10_isSafe : MethodName := ⟨RX10, "isSafe", "(I)Z"⟩
abbrev cX10_layRow : ByteArray := prog_12_method_24_code
def yX10_layRow : MethodName := ⟨RX10, "layRow", "(IIII)I"⟩
abbrev cX10_harm : ByteArray := prog_12_method_25_code
def yX10_harm : MethodName := ⟨RX10, "harm", "(IIIII)I"⟩
abbrev cX10_never : ByteArray := prog_12_method_26_code
def yX10_never : MethodName := ⟨RX10, "never", "(IIII)I"⟩
abbrev cX10_layFalls : ByteArray := prog_12_method_27_code
def yX10_layFalls : MethodName := ⟨RX10, "layFalls", "()I"⟩
abbrev cX10_fall : ByteArray := prog_12_method_28_code
def yX10_fall : MethodName := ⟨RX10, "fall", "(IIIII)I"⟩
abbrev cX10_nail : ByteArray := prog_12_method_29_code
def yX10_nail : MethodName := ⟨RX10, "nail", "(IIIII)I"⟩
abbrev cX10_firstOrder : ByteArray := prog_12_method_30_code
def yX10_firstOrder : MethodName := ⟨RX10, "firstOrder", "(I)V"⟩
abbrev cX10_change : ByteArray := prog_12_method_31_code
def yX10_change : MethodName := ⟨RX10, "change", "(II)V"⟩
abbrev cX10_nextOrder : ByteArray := prog_12_method_32_code
def yX10_nextOrder : MethodName := ⟨RX10, "nextOrder", "()Z"⟩
abbrev cX10_leastHarm : ByteArray := prog_12_method_33_code
def yX10_leastHarm : MethodName := ⟨RX10, "leastHarm", "(II)I"⟩
abbrev cX10_best : ByteArray := prog_12_method_34_code
def yX10_best : MethodName := ⟨RX10, "best", "(II)I"⟩
abbrev cX10_safe : ByteArray := prog_12_method_35_code
def yX10_safe : MethodName := ⟨RX10, "safe", "()I"⟩
abbrev cX10_canBeSafe : ByteArray := prog_12_method_36_code
def yX10_canBeSafe : MethodName := ⟨RX10, "canBeSafe", "(I)Z"⟩
abbrev cX10_size : ByteArray := prog_12_method_37_code
def yX10_size : MethodName := ⟨RX10, "size", "(I)I"⟩
abbrev cX10_letGo : ByteArray := prog_12_method_38_code
def yX10_letGo : MethodName := ⟨RX10, "letGo", "()I"⟩
abbrev cX10_two : ByteArray := prog_12_method_39_code
def yX10_two : MethodName := ⟨RX10, "two", "(II)I"⟩
abbrev cX10_site : ByteArray := prog_12_method_40_code
def yX10_site : MethodName := ⟨RX10, "site", "(II)I"⟩
abbrev cX10_reading : ByteArray := prog_12_method_41_code
def yX10_reading : MethodName := ⟨RX10, "reading", "(IIZ)I"⟩
abbrev cX10_back : ByteArray := prog_12_method_42_code
def yX10_back : MethodName := ⟨RX10, "back", "(I)I"⟩
abbrev cX10_isUp : ByteArray := prog_12_method_43_code
def yX10_isUp : MethodName := ⟨RX10, "isUp", "(II)Z"⟩
abbrev cX10_areSo : ByteArray := prog_12_method_44_code
def yX10_areSo : MethodName := ⟨RX10, "areSo", "()Z"⟩
abbrev cX10_fits : ByteArray := prog_12_method_45_code
def yX10_fits : MethodName := ⟨RX10, "fits", "(I)I"⟩
abbrev cX10_sheet : ByteArray := prog_12_method_46_code
def yX10_sheet : MethodName := ⟨RX10, "sheet", "(III)I"⟩
abbrev cX10_lose : ByteArray := prog_12_method_47_code
def yX10_lose : MethodName := ⟨RX10, "lose", "(I)I"⟩
abbrev cX10_put : ByteArray := prog_12_method_48_code
def yX10_put : MethodName := ⟨RX10, "put", "(III)I"⟩
abbrev cX10_cell : ByteArray := prog_12_method_49_code
def yX10_cell : MethodName := ⟨RX10, "cell", "(III)J"⟩
abbrev cX10_copy : ByteArray := prog_12_method_50_code
def yX10_copy : MethodName := ⟨RX10, "copy", "(IIIII)I"⟩
abbrev cX10_begins : ByteArray := prog_12_method_51_code
def yX10_begins : MethodName := ⟨RX10, "begins", "(I)V"⟩
abbrev cX10_tell : ByteArray := prog_12_method_52_code
def yX10_tell : MethodName := ⟨RX10, "tell", "(I)I"⟩
abbrev cX10_strike : ByteArray := prog_12_method_53_code
def yX10_strike : MethodName := ⟨RX10, "strike", "(I)I"⟩
abbrev cX10_as : ByteArray := prog_12_method_54_code
def yX10_as : MethodName := ⟨RX10, "as", "(II)I"⟩
abbrev cX10_trace : ByteArray := prog_12_method_55_code
def yX10_trace : MethodName := ⟨RX10, "trace", "()I"⟩
abbrev cX10_fault : ByteArray := prog_12_method_56_code
def yX10_fault : MethodName := ⟨RX10, "fault", "()I"⟩
abbrev cX10_many : ByteArray := prog_12_method_57_code
def yX10_many : MethodName := ⟨RX10, "many", "(I)I"⟩
def RJ6 : String := "java/lang/Integer"
def TJ6 : u_T := fun k => match k with
  | _ => ("", "", "", false)
def tyJ6 : Nat → FieldType := fun k => match k with
  | _ => .int
abbrev wsJ60 : List Cond := u_ws RJ6 TJ6 0
theorem nmJ6 : ∀ a, a < 0 → ∀ b, b < 0 → a ≠ b → (TJ6 a).2.1 ≠ (TJ6 b).2.1 := by decide +kernel
theorem tyJ6_ok : ∀ k, k < 0 → parseFieldDescriptor (TJ6 k).2.2.1 = some (tyJ6 k) := by decide +kernel
abbrev cJ6_bitCount_0f7a4 : ByteArray := prog_13_method_49_code
def yJ6_bitCount_0f7a4 : MethodName := ⟨RJ6, "bitCount", "(I)I"⟩
def RJ9 : String := "java/lang/Math"
def TJ9 : u_T := fun k => match k with
  | _ => ("", "", "", false)
def tyJ9 : Nat → FieldType := fun k => match k with
  | _ => .int
abbrev wsJ90 : List Cond := u_ws RJ9 TJ9 0
theorem nmJ9 : ∀ a, a < 0 → ∀ b, b < 0 → a ≠ b → (TJ9 a).2.1 ≠ (TJ9 b).2.1 := by decide +kernel
theorem tyJ9_ok : ∀ k, k < 0 → parseFieldDescriptor (TJ9 k).2.2.1 = some (tyJ9 k) := by decide +kernel
abbrev cJ9_abs_0f7a4 : ByteArray := prog_14_method_59_code
def yJ9_abs_0f7a4 : MethodName := ⟨RJ9, "abs", "(I)I"⟩
abbrev cJ9_max_7cf53 : ByteArray := prog_14_method_65_code
def yJ9_max_7cf53 : MethodName := ⟨RJ9, "max", "(II)I"⟩
abbrev cJ9_min_7cf53 : ByteArray := prog_14_method_69_code
def yJ9_min_7cf53 : MethodName := ⟨RJ9, "min", "(II)I"⟩
def RJ10 : String := "java/lang/System"
def TJ10 : u_T := fun k => match k with
  | _ => ("", "", "", false)
def tyJ10 : Nat → FieldType := fun k => match k with
  | _ => .int
abbrev wsJ100 : List Cond := u_ws RJ10 TJ10 0
theorem nmJ10 : ∀ a, a < 0 → ∀ b, b < 0 → a ≠ b → (TJ10 a).2.1 ≠ (TJ10 b).2.1 := by decide +kernel
theorem tyJ10_ok : ∀ k, k < 0 → parseFieldDescriptor (TJ10 k).2.2.1 = some (tyJ10 k) := by decide +kernel
def RL : String := "OneNailLaw"
abbrev cL_law : ByteArray := code
def yL_law : MethodName := ⟨RL, "law", "([I)Z"⟩
def wsX6_init : List Cond := .code yX6_init cX6_init 6 none :: ([.methodLink RX6 1 objectInit, .instanceMethod objectInit, .code objectInit ⟨#[0xb1]⟩ 1 none, .fieldLink RX6 7 "OneNail$Thing" "number" "I", .fieldLink RX6 13 "OneNail$Thing" "place" "I", .fieldLink RX6 16 "OneNail$Thing" "stay" "I", .fieldLink RX6 19 "OneNail$Thing" "hold" "I", .fieldLink RX6 22 "OneNail$Thing" "harmDone" "I"] ++ wsX00 ++ wsX10 ++ wsX60)
def wsX1_init : List Cond := .code yX1_init cX1_init 6 none :: ([.methodLink RX1 1 yX6_init, .instanceMethod yX6_init, .initialized RX6, .code yX6_init cX6_init 6 none, .methodLink RX6 1 objectInit, .instanceMethod objectInit, .code objectInit ⟨#[0xb1]⟩ 1 none, .fieldLink RX6 7 "OneNail$Thing" "number" "I", .fieldLink RX6 13 "OneNail$Thing" "place" "I", .fieldLink RX6 16 "OneNail$Thing" "stay" "I", .fieldLink RX6 19 "OneNail$Thing" "hold" "I", .fieldLink RX6 22 "OneNail$Thing" "harmDone" "I"] ++ wsX00 ++ wsX10 ++ wsX60)
def wsX0_init : List Cond := .code yX0_init cX0_init 6 none :: ([.methodLink RX0 1 yX1_init, .instanceMethod yX1_init, .initialized RX1, .code yX1_init cX1_init 6 none, .methodLink RX1 1 yX6_init, .instanceMethod yX6_init, .initialized RX6, .code yX6_init cX6_init 6 none, .methodLink RX6 1 objectInit, .instanceMethod objectInit, .code objectInit ⟨#[0xb1]⟩ 1 none, .fieldLink RX6 7 "OneNail$Thing" "number" "I", .fieldLink RX6 13 "OneNail$Thing" "place" "I", .fieldLink RX6 16 "OneNail$Thing" "stay" "I", .fieldLink RX6 19 "OneNail$Thing" "hold" "I", .fieldLink RX6 22 "OneNail$Thing" "harmDone" "I"] ++ wsX00 ++ wsX10 ++ wsX60)
def wsX0_kindNumber : List Cond := .code yX0_kindNumber cX0_kindNumber 1 (some .int) :: ([])
def wsX6_holdsBy : List Cond := .code yX6_holdsBy cX6_holdsBy 2 (some .int) :: ([.fieldLink RX6 19 "OneNail$Thing" "hold" "I", .methodLink RX6 25 Lib.Math.max.name, .static Lib.Math.max.name, .initialized "java/lang/Math", .code Lib.Math.max.name Lib.Math.max.code 2 (some .int)] ++ wsX00 ++ wsX10 ++ wsX60)
def wsX1_holdsBy : List Cond := .code yX1_holdsBy cX1_holdsBy 3 (some .int) :: ([.methodLink RX1 7 yX6_holdsBy, .sameMethod "OneNail$Thing" "OneNail$Thing" "holdsBy" "(I)I", .superclass RX1 RX6, .instanceMethod yX6_holdsBy, .initialized RX6, .code yX6_holdsBy cX6_holdsBy 2 (some .int), .fieldLink RX6 19 "OneNail$Thing" "hold" "I", .methodLink RX6 25 Lib.Math.max.name, .static Lib.Math.max.name, .initialized "java/lang/Math", .code Lib.Math.max.name Lib.Math.max.code 2 (some .int)] ++ wsX00 ++ wsX10 ++ wsX60)
def wsX0_holdsBy : List Cond := .code yX0_holdsBy cX0_holdsBy 2 (some .int) :: ([.methodLink RX0 7 yX1_holdsBy, .sameMethod "OneNail$Door" "OneNail$Door" "holdsBy" "(I)I", .superclass RX0 RX1, .instanceMethod yX1_holdsBy, .initialized RX1, .code yX1_holdsBy cX1_holdsBy 3 (some .int), .methodLink RX1 7 yX6_holdsBy, .sameMethod "OneNail$Thing" "OneNail$Thing" "holdsBy" "(I)I", .superclass RX1 RX6, .instanceMethod yX6_holdsBy, .initialized RX6, .code yX6_holdsBy cX6_holdsBy 2 (some .int), .fieldLink RX6 19 "OneNail$Thing" "hold" "I", .methodLink RX6 25 Lib.Math.max.name, .static Lib.Math.max.name, .initialized "java/lang/Math", .code Lib.Math.max.name Lib.Math.max.code 2 (some .int)] ++ wsX00 ++ wsX10 ++ wsX60)
def wsX7_leave : List Cond := .code yX7_leave cX7_leave 2 none :: ([.fieldLink RX7 7 "OneNail$Trace" "value" "I"] ++ wsX70)
def wsX6_plainTelling : List Cond := .code yX6_plainTelling cX6_plainTelling 2 (some .int) :: ([.fieldLink RX6 19 "OneNail$Thing" "hold" "I", .methodLink RX6 35 yX7_leave, .instanceMethod yX7_leave, .selects RX7 yX7_leave yX7_leave, .initialized RX7, .code yX7_leave cX7_leave 2 none, .fieldLink RX7 7 "OneNail$Trace" "value" "I"] ++ wsX00 ++ wsX10 ++ wsX60 ++ wsX70)
def wsX6_telling : List Cond := .code yX6_telling cX6_telling 2 (some .int) :: ([.methodLink RX6 31 ⟨"OneNail$Thing", "plainTelling", "(LOneNail$Trace;)I"⟩, .sameMethod "OneNail$Thing" "OneNail$Thing" "plainTelling" "(LOneNail$Trace;)I", .selects RX0 ⟨"OneNail$Thing", "plainTelling", "(LOneNail$Trace;)I"⟩ yX6_plainTelling, .instanceMethod yX6_plainTelling, .initialized RX6, .code yX6_plainTelling cX6_plainTelling 2 (some .int), .fieldLink RX6 19 "OneNail$Thing" "hold" "I", .methodLink RX6 35 yX7_leave, .instanceMethod yX7_leave, .selects RX7 yX7_leave yX7_leave, .initialized RX7, .code yX7_leave cX7_leave 2 none, .fieldLink RX7 7 "OneNail$Trace" "value" "I", .selects RX1 ⟨"OneNail$Thing", "plainTelling", "(LOneNail$Trace;)I"⟩ yX6_plainTelling, .methodLink RX6 31 yX6_plainTelling, .selects RX6 yX6_plainTelling yX6_plainTelling] ++ wsX00 ++ wsX10 ++ wsX60 ++ wsX70)
def wsX1_telling : List Cond := .code yX1_telling cX1_telling 2 (some .int) :: ([.methodLink RX1 11 yX7_leave, .instanceMethod yX7_leave, .selects RX7 yX7_leave yX7_leave, .initialized RX7, .code yX7_leave cX7_leave 2 none, .fieldLink RX7 7 "OneNail$Trace" "value" "I", .methodLink RX1 17 yX6_telling, .sameMethod "OneNail$Thing" "OneNail$Thing" "telling" "(LOneNail$Trace;)I", .superclass RX1 RX6, .instanceMethod yX6_telling, .initialized RX6, .code yX6_telling cX6_telling 2 (some .int), .methodLink RX6 31 ⟨"OneNail$Thing", "plainTelling", "(LOneNail$Trace;)I"⟩, .sameMethod "OneNail$Thing" "OneNail$Thing" "plainTelling" "(LOneNail$Trace;)I", .selects RX0 ⟨"OneNail$Thing", "plainTelling", "(LOneNail$Trace;)I"⟩ yX6_plainTelling, .instanceMethod yX6_plainTelling, .code yX6_plainTelling cX6_plainTelling 2 (some .int), .fieldLink RX6 19 "OneNail$Thing" "hold" "I", .methodLink RX6 35 yX7_leave, .selects RX1 ⟨"OneNail$Thing", "plainTelling", "(LOneNail$Trace;)I"⟩ yX6_plainTelling, .methodLink RX6 31 yX6_plainTelling, .selects RX6 yX6_plainTelling yX6_plainTelling] ++ wsX70 ++ wsX00 ++ wsX10 ++ wsX60)
def wsX0_telling_r1 : List Cond := [Cond.methodLink RX0 11 yX7_leave, Cond.instanceMethod yX7_leave, Cond.selects RX7 yX7_leave yX7_leave, Cond.initialized RX7, Cond.code yX7_leave cX7_leave 2 none, Cond.fieldLink RX7 7 "OneNail$Trace" "value" "I", Cond.methodLink RX0 17 yX1_telling, Cond.sameMethod "OneNail$Door" "OneNail$Door" "telling" "(LOneNail$Trace;)I", Cond.superclass RX0 RX1, Cond.instanceMethod yX1_telling, Cond.initialized RX1, Cond.code yX1_telling cX1_telling 2 (some .int), Cond.methodLink RX1 11 yX7_leave, Cond.methodLink RX1 17 yX6_telling, Cond.sameMethod "OneNail$Thing" "OneNail$Thing" "telling" "(LOneNail$Trace;)I", Cond.superclass RX1 RX6, Cond.instanceMethod yX6_telling, Cond.initialized RX6, Cond.code yX6_telling cX6_telling 2 (some .int), Cond.methodLink RX6 31 ⟨"OneNail$Thing", "plainTelling", "(LOneNail$Trace;)I"⟩, Cond.sameMethod "OneNail$Thing" "OneNail$Thing" "plainTelling" "(LOneNail$Trace;)I", Cond.selects RX0 ⟨"OneNail$Thing", "plainTelling", "(LOneNail$Trace;)I"⟩ yX6_plainTelling, Cond.instanceMethod yX6_plainTelling, Cond.code yX6_plainTelling cX6_plainTelling 2 (some .int)]
def wsX0_telling_r2 : List Cond := [Cond.fieldLink RX6 19 "OneNail$Thing" "hold" "I", Cond.methodLink RX6 35 yX7_leave, Cond.selects RX1 ⟨"OneNail$Thing", "plainTelling", "(LOneNail$Trace;)I"⟩ yX6_plainTelling, Cond.methodLink RX6 31 yX6_plainTelling, Cond.selects RX6 yX6_plainTelling yX6_plainTelling, Cond.methodLink RX0 21 ⟨"OneNail$Coffin", "plainTelling", "(LOneNail$Trace;)I"⟩, Cond.sameMethod "OneNail$Coffin" "OneNail$Thing" "plainTelling" "(LOneNail$Trace;)I", Cond.selects RX0 ⟨"OneNail$Coffin", "plainTelling", "(LOneNail$Trace;)I"⟩ yX6_plainTelling]
def wsX0_telling : List Cond := .code yX0_telling cX0_telling 3 (some .int) :: ((wsX0_telling_r1 ++ wsX0_telling_r2) ++ wsX70 ++ wsX00 ++ wsX10 ++ wsX60)
def wsX0_struck : List Cond := .code yX0_struck cX0_struck 2 (some .int) :: ([.methodLink RX0 11 yX7_leave, .instanceMethod yX7_leave, .selects RX7 yX7_leave yX7_leave, .initialized RX7, .code yX7_leave cX7_leave 2 none, .fieldLink RX7 7 "OneNail$Trace" "value" "I"] ++ wsX70)
def wsX1_kindNumber : List Cond := .code yX1_kindNumber cX1_kindNumber 1 (some .int) :: ([])
def wsX2_init : List Cond := .code yX2_init cX2_init 2 none :: ([.methodLink RX2 3 objectInit, .instanceMethod objectInit, .code objectInit ⟨#[0xb1]⟩ 1 none, .arrayClass .int, .fieldLink RX2 9 "OneNail$Orders" "row" "[I", .fieldLink RX2 15 "OneNail$Orders" "length" "I", .fieldLink RX2 19 "OneNail$Orders" "comes" "[I", .fieldLink RX2 22 "OneNail$Orders" "period" "I", .fieldLink RX2 25 "OneNail$Orders" "kept" "[I", .fieldLink RX2 28 "OneNail$Orders" "town" "LOneNail$Street;"] ++ wsX20)
def wsX2_begin : List Cond := .code yX2_begin cX2_begin 3 (some .int) :: ([.fieldLink RX2 15 "OneNail$Orders" "length" "I", .fieldLink RX2 28 "OneNail$Orders" "town" "LOneNail$Street;", .fieldLink RX2 66 "OneNail$Street" "count" "I", .fieldLink RX2 9 "OneNail$Orders" "row" "[I", .fieldLink RX2 69 "OneNail$Orders" "ORDERS_OF" "[I"] ++ wsX20 ++ wsX50)
def wsX2_time : List Cond := .code yX2_time cX2_time 6 none :: ([.fieldLink RX2 22 "OneNail$Orders" "period" "I", .fieldLink RX2 15 "OneNail$Orders" "length" "I", .fieldLink RX2 9 "OneNail$Orders" "row" "[I", .fieldLink RX2 28 "OneNail$Orders" "town" "LOneNail$Street;", .fieldLink RX2 76 "OneNail$Street" "places" "[I", .methodLink RX2 79 Lib.Math.abs.name, .static Lib.Math.abs.name, .initialized "java/lang/Math", .code Lib.Math.abs.name Lib.Math.abs.code 1 (some .int), .fieldLink RX2 19 "OneNail$Orders" "comes" "[I", .fieldLink RX2 84 "OneNail$Street" "stays" "[I"] ++ wsX20 ++ wsX50)
def wsX2_fallsBelow : List Cond := .code yX2_fallsBelow cX2_fallsBelow 7 (some .int) :: ([.fieldLink RX2 28 "OneNail$Orders" "town" "LOneNail$Street;", .fieldLink RX2 93 "OneNail$Street" "holds" "[I", .fieldLink RX2 19 "OneNail$Orders" "comes" "[I", .fieldLink RX2 84 "OneNail$Street" "stays" "[I", .fieldLink RX2 22 "OneNail$Orders" "period" "I"] ++ wsX20 ++ wsX50)
def wsX2_harmBelow : List Cond := .code yX2_harmBelow cX2_harmBelow 5 (some .int) :: ([.fieldLink RX2 15 "OneNail$Orders" "length" "I", .fieldLink RX2 9 "OneNail$Orders" "row" "[I", .fieldLink RX2 28 "OneNail$Orders" "town" "LOneNail$Street;", .fieldLink RX2 90 "OneNail$Street" "harms" "[I", .methodLink RX2 87 yX2_fallsBelow, .instanceMethod yX2_fallsBelow, .selects RX2 yX2_fallsBelow yX2_fallsBelow, .initialized RX2, .code yX2_fallsBelow cX2_fallsBelow 7 (some .int), .fieldLink RX2 93 "OneNail$Street" "holds" "[I", .fieldLink RX2 19 "OneNail$Orders" "comes" "[I", .fieldLink RX2 84 "OneNail$Street" "stays" "[I", .fieldLink RX2 22 "OneNail$Orders" "period" "I"] ++ wsX20 ++ wsX50)
def wsX2_keep : List Cond := .code yX2_keep cX2_keep 2 none :: ([.fieldLink RX2 15 "OneNail$Orders" "length" "I", .fieldLink RX2 25 "OneNail$Orders" "kept" "[I", .fieldLink RX2 9 "OneNail$Orders" "row" "[I"] ++ wsX20)
def wsX2_swap : List Cond := .code yX2_swap cX2_swap 4 none :: ([.fieldLink RX2 9 "OneNail$Orders" "row" "[I"] ++ wsX20)
def wsX2_goOn : List Cond := .code yX2_goOn cX2_goOn 5 none :: ([.fieldLink RX2 15 "OneNail$Orders" "length" "I", .fieldLink RX2 9 "OneNail$Orders" "row" "[I", .methodLink RX2 72 yX2_swap, .instanceMethod yX2_swap, .selects RX2 yX2_swap yX2_swap, .initialized RX2, .code yX2_swap cX2_swap 4 none] ++ wsX20)
def wsX2_leastHarm_r1 : List Cond := [Cond.constant RX2 38 (2147483647), Cond.methodLink RX2 32 yX2_begin, Cond.instanceMethod yX2_begin, Cond.selects RX2 yX2_begin yX2_begin, Cond.initialized RX2, Cond.code yX2_begin cX2_begin 3 (some .int), Cond.fieldLink RX2 15 "OneNail$Orders" "length" "I", Cond.fieldLink RX2 28 "OneNail$Orders" "town" "LOneNail$Street;", Cond.fieldLink RX2 66 "OneNail$Street" "count" "I", Cond.fieldLink RX2 9 "OneNail$Orders" "row" "[I", Cond.fieldLink RX2 69 "OneNail$Orders" "ORDERS_OF" "[I", Cond.methodLink RX2 39 yX2_time, Cond.instanceMethod yX2_time, Cond.selects RX2 yX2_time yX2_time, Cond.code yX2_time cX2_time 6 none, Cond.fieldLink RX2 22 "OneNail$Orders" "period" "I", Cond.fieldLink RX2 76 "OneNail$Street" "places" "[I", Cond.methodLink RX2 79 Lib.Math.abs.name, Cond.static Lib.Math.abs.name, Cond.initialized "java/lang/Math", Cond.code Lib.Math.abs.name Lib.Math.abs.code 1 (some .int), Cond.fieldLink RX2 19 "OneNail$Orders" "comes" "[I", Cond.fieldLink RX2 84 "OneNail$Street" "stays" "[I", Cond.methodLink RX2 43 yX2_harmBelow]
def wsX2_leastHarm_r2 : List Cond := [Cond.instanceMethod yX2_harmBelow, Cond.selects RX2 yX2_harmBelow yX2_harmBelow, Cond.code yX2_harmBelow cX2_harmBelow 5 (some .int), Cond.fieldLink RX2 90 "OneNail$Street" "harms" "[I", Cond.methodLink RX2 87 yX2_fallsBelow, Cond.instanceMethod yX2_fallsBelow, Cond.selects RX2 yX2_fallsBelow yX2_fallsBelow, Cond.code yX2_fallsBelow cX2_fallsBelow 7 (some .int), Cond.fieldLink RX2 93 "OneNail$Street" "holds" "[I", Cond.methodLink RX2 47 yX2_keep, Cond.instanceMethod yX2_keep, Cond.selects RX2 yX2_keep yX2_keep, Cond.code yX2_keep cX2_keep 2 none, Cond.fieldLink RX2 25 "OneNail$Orders" "kept" "[I", Cond.methodLink RX2 50 yX2_goOn, Cond.instanceMethod yX2_goOn, Cond.selects RX2 yX2_goOn yX2_goOn, Cond.code yX2_goOn cX2_goOn 5 none, Cond.methodLink RX2 72 yX2_swap, Cond.instanceMethod yX2_swap, Cond.selects RX2 yX2_swap yX2_swap, Cond.code yX2_swap cX2_swap 4 none]
def wsX2_leastHarm : List Cond := .code yX2_leastHarm cX2_leastHarm 8 (some .int) :: ((wsX2_leastHarm_r1 ++ wsX2_leastHarm_r2) ++ wsX20 ++ wsX50)
def wsX2_nothingEverFalls : List Cond := .code yX2_nothingEverFalls cX2_nothingEverFalls 4 (some .boolean) :: ([.fieldLink RX2 15 "OneNail$Orders" "length" "I", .fieldLink RX2 9 "OneNail$Orders" "row" "[I", .fieldLink RX2 28 "OneNail$Orders" "town" "LOneNail$Street;", .fieldLink RX2 93 "OneNail$Street" "holds" "[I", .fieldLink RX2 19 "OneNail$Orders" "comes" "[I", .fieldLink RX2 84 "OneNail$Street" "stays" "[I", .fieldLink RX2 22 "OneNail$Orders" "period" "I"] ++ wsX20 ++ wsX50)
def wsX2_countSafe_r1 : List Cond := [Cond.fieldLink RX2 28 "OneNail$Orders" "town" "LOneNail$Street;", Cond.fieldLink RX2 53 "OneNail$Street" "smithyPlace" "I", Cond.methodLink RX2 32 yX2_begin, Cond.instanceMethod yX2_begin, Cond.selects RX2 yX2_begin yX2_begin, Cond.initialized RX2, Cond.code yX2_begin cX2_begin 3 (some .int), Cond.fieldLink RX2 15 "OneNail$Orders" "length" "I", Cond.fieldLink RX2 66 "OneNail$Street" "count" "I", Cond.fieldLink RX2 9 "OneNail$Orders" "row" "[I", Cond.fieldLink RX2 69 "OneNail$Orders" "ORDERS_OF" "[I", Cond.methodLink RX2 39 yX2_time, Cond.instanceMethod yX2_time, Cond.selects RX2 yX2_time yX2_time, Cond.code yX2_time cX2_time 6 none, Cond.fieldLink RX2 22 "OneNail$Orders" "period" "I", Cond.fieldLink RX2 76 "OneNail$Street" "places" "[I", Cond.methodLink RX2 79 Lib.Math.abs.name, Cond.static Lib.Math.abs.name, Cond.initialized "java/lang/Math", Cond.code Lib.Math.abs.name Lib.Math.abs.code 1 (some .int), Cond.fieldLink RX2 19 "OneNail$Orders" "comes" "[I", Cond.fieldLink RX2 84 "OneNail$Street" "stays" "[I", Cond.methodLink RX2 58 yX2_nothingEverFalls]
def wsX2_countSafe_r2 : List Cond := [Cond.instanceMethod yX2_nothingEverFalls, Cond.selects RX2 yX2_nothingEverFalls yX2_nothingEverFalls, Cond.code yX2_nothingEverFalls cX2_nothingEverFalls 4 (some .boolean), Cond.fieldLink RX2 93 "OneNail$Street" "holds" "[I", Cond.methodLink RX2 50 yX2_goOn, Cond.instanceMethod yX2_goOn, Cond.selects RX2 yX2_goOn yX2_goOn, Cond.code yX2_goOn cX2_goOn 5 none, Cond.methodLink RX2 72 yX2_swap, Cond.instanceMethod yX2_swap, Cond.selects RX2 yX2_swap yX2_swap, Cond.code yX2_swap cX2_swap 4 none]
def wsX2_countSafe : List Cond := .code yX2_countSafe cX2_countSafe 6 (some .int) :: ((wsX2_countSafe_r1 ++ wsX2_countSafe_r2) ++ wsX20 ++ wsX50)
def wsX2_isUp : List Cond := .code yX2_isUp cX2_isUp 4 (some .boolean) :: ([.fieldLink RX2 19 "OneNail$Orders" "comes" "[I", .fieldLink RX2 28 "OneNail$Orders" "town" "LOneNail$Street;", .fieldLink RX2 93 "OneNail$Street" "holds" "[I", .fieldLink RX2 22 "OneNail$Orders" "period" "I", .fieldLink RX2 84 "OneNail$Street" "stays" "[I"] ++ wsX20 ++ wsX50)
def wsX2_allAreSo : List Cond := .code yX2_allAreSo cX2_allAreSo 3 (some .boolean) :: ([.fieldLink RX2 96 "OneNail$Readings" "count" "I", .fieldLink RX2 99 "OneNail$Readings" "things" "[I", .fieldLink RX2 102 "OneNail$Readings" "minutes" "[I", .fieldLink RX2 109 "OneNail$Readings" "ups" "[Z", .methodLink RX2 105 yX2_isUp, .instanceMethod yX2_isUp, .selects RX2 yX2_isUp yX2_isUp, .initialized RX2, .code yX2_isUp cX2_isUp 4 (some .boolean), .fieldLink RX2 19 "OneNail$Orders" "comes" "[I", .fieldLink RX2 28 "OneNail$Orders" "town" "LOneNail$Street;", .fieldLink RX2 93 "OneNail$Street" "holds" "[I", .fieldLink RX2 22 "OneNail$Orders" "period" "I", .fieldLink RX2 84 "OneNail$Street" "stays" "[I"] ++ wsX30 ++ wsX20 ++ wsX50)
def wsX2_countFitting_r1 : List Cond := [Cond.fieldLink RX2 28 "OneNail$Orders" "town" "LOneNail$Street;", Cond.fieldLink RX2 53 "OneNail$Street" "smithyPlace" "I", Cond.methodLink RX2 32 yX2_begin, Cond.instanceMethod yX2_begin, Cond.selects RX2 yX2_begin yX2_begin, Cond.initialized RX2, Cond.code yX2_begin cX2_begin 3 (some .int), Cond.fieldLink RX2 15 "OneNail$Orders" "length" "I", Cond.fieldLink RX2 66 "OneNail$Street" "count" "I", Cond.fieldLink RX2 9 "OneNail$Orders" "row" "[I", Cond.fieldLink RX2 69 "OneNail$Orders" "ORDERS_OF" "[I", Cond.methodLink RX2 39 yX2_time, Cond.instanceMethod yX2_time, Cond.selects RX2 yX2_time yX2_time, Cond.code yX2_time cX2_time 6 none, Cond.fieldLink RX2 22 "OneNail$Orders" "period" "I", Cond.fieldLink RX2 76 "OneNail$Street" "places" "[I", Cond.methodLink RX2 79 Lib.Math.abs.name, Cond.static Lib.Math.abs.name, Cond.initialized "java/lang/Math", Cond.code Lib.Math.abs.name Lib.Math.abs.code 1 (some .int), Cond.fieldLink RX2 19 "OneNail$Orders" "comes" "[I", Cond.fieldLink RX2 84 "OneNail$Street" "stays" "[I", Cond.methodLink RX2 62 yX2_allAreSo]
def wsX2_countFitting_r2 : List Cond := [Cond.instanceMethod yX2_allAreSo, Cond.selects RX2 yX2_allAreSo yX2_allAreSo, Cond.code yX2_allAreSo cX2_allAreSo 3 (some .boolean), Cond.fieldLink RX2 96 "OneNail$Readings" "count" "I", Cond.fieldLink RX2 99 "OneNail$Readings" "things" "[I", Cond.fieldLink RX2 102 "OneNail$Readings" "minutes" "[I", Cond.fieldLink RX2 109 "OneNail$Readings" "ups" "[Z", Cond.methodLink RX2 105 yX2_isUp, Cond.instanceMethod yX2_isUp, Cond.selects RX2 yX2_isUp yX2_isUp, Cond.code yX2_isUp cX2_isUp 4 (some .boolean), Cond.fieldLink RX2 93 "OneNail$Street" "holds" "[I", Cond.methodLink RX2 47 yX2_keep, Cond.instanceMethod yX2_keep, Cond.selects RX2 yX2_keep yX2_keep, Cond.code yX2_keep cX2_keep 2 none, Cond.fieldLink RX2 25 "OneNail$Orders" "kept" "[I", Cond.methodLink RX2 50 yX2_goOn, Cond.instanceMethod yX2_goOn, Cond.selects RX2 yX2_goOn yX2_goOn, Cond.code yX2_goOn cX2_goOn 5 none, Cond.methodLink RX2 72 yX2_swap, Cond.instanceMethod yX2_swap, Cond.selects RX2 yX2_swap yX2_swap]
def wsX2_countFitting_r3 : List Cond := [Cond.code yX2_swap cX2_swap 4 none]
def wsX2_countFitting : List Cond := .code yX2_countFitting cX2_countFitting 6 (some .int) :: ((wsX2_countFitting_r1 ++ (wsX2_countFitting_r2 ++ wsX2_countFitting_r3)) ++ wsX20 ++ wsX50 ++ wsX30)
def wsX2_keptAt : List Cond := .code yX2_keptAt cX2_keptAt 2 (some .int) :: ([.fieldLink RX2 15 "OneNail$Orders" "length" "I", .fieldLink RX2 25 "OneNail$Orders" "kept" "[I"] ++ wsX20)
def wsX3_init : List Cond := .code yX3_init cX3_init 1 none :: ([.methodLink RX3 3 objectInit, .instanceMethod objectInit, .code objectInit ⟨#[0xb1]⟩ 1 none, .fieldLink RX3 9 "OneNail$Readings" "count" "I", .arrayClass .int, .fieldLink RX3 15 "OneNail$Readings" "things" "[I", .fieldLink RX3 19 "OneNail$Readings" "minutes" "[I", .arrayClass .boolean, .fieldLink RX3 22 "OneNail$Readings" "ups" "[Z"] ++ wsX30)
def wsX3_note : List Cond := .code yX3_note cX3_note 4 (some .int) :: ([.fieldLink RX3 9 "OneNail$Readings" "count" "I", .fieldLink RX3 15 "OneNail$Readings" "things" "[I", .fieldLink RX3 19 "OneNail$Readings" "minutes" "[I", .fieldLink RX3 22 "OneNail$Readings" "ups" "[Z"] ++ wsX30)
def wsX4_init : List Cond := .code yX4_init cX4_init 1 none :: ([.methodLink RX4 3 objectInit, .instanceMethod objectInit, .code objectInit ⟨#[0xb1]⟩ 1 none, .fieldLink RX4 11 "OneNail$Sheet" "lane" "I", .fieldLink RX4 15 "OneNail$Sheet" "length" "I", .arrayClass .int, .fieldLink RX4 18 "OneNail$Sheet" "cells" "[I"] ++ wsX40)
def wsX4_isNothing : List Cond := .code yX4_isNothing cX4_isNothing 1 (some .boolean) :: ([.fieldLink RX4 11 "OneNail$Sheet" "lane" "I"] ++ wsX40)
def wsX4_makeNothing : List Cond := .code yX4_makeNothing cX4_makeNothing 1 none :: ([.fieldLink RX4 11 "OneNail$Sheet" "lane" "I", .fieldLink RX4 15 "OneNail$Sheet" "length" "I"] ++ wsX40)
def wsX4_makeRow : List Cond := .code yX4_makeRow cX4_makeRow 4 none :: ([.fieldLink RX4 11 "OneNail$Sheet" "lane" "I", .methodLink RX4 22 Lib.Math.min.name, .static Lib.Math.min.name, .initialized "java/lang/Math", .code Lib.Math.min.name Lib.Math.min.code 2 (some .int), .methodLink RX4 28 Lib.Math.max.name, .static Lib.Math.max.name, .code Lib.Math.max.name Lib.Math.max.code 2 (some .int), .fieldLink RX4 15 "OneNail$Sheet" "length" "I", .fieldLink RX4 18 "OneNail$Sheet" "cells" "[I"] ++ wsX40)
def wsX4_hasCell : List Cond := .code yX4_hasCell cX4_hasCell 2 (some .boolean) :: ([.fieldLink RX4 15 "OneNail$Sheet" "length" "I"] ++ wsX40)
def wsX4_spans : List Cond := .code yX4_spans cX4_spans 3 (some .boolean) :: ([.fieldLink RX4 15 "OneNail$Sheet" "length" "I"] ++ wsX40)
def wsX4_read : List Cond := .code yX4_read cX4_read 2 (some .int) :: ([.fieldLink RX4 18 "OneNail$Sheet" "cells" "[I", .methodLink RX4 31 yX4_hasCell, .instanceMethod yX4_hasCell, .selects RX4 yX4_hasCell yX4_hasCell, .initialized RX4, .code yX4_hasCell cX4_hasCell 2 (some .boolean), .fieldLink RX4 15 "OneNail$Sheet" "length" "I"] ++ wsX40)
def wsX4_write : List Cond := .code yX4_write cX4_write 3 none :: ([.fieldLink RX4 11 "OneNail$Sheet" "lane" "I", .fieldLink RX4 18 "OneNail$Sheet" "cells" "[I", .methodLink RX4 31 yX4_hasCell, .instanceMethod yX4_hasCell, .selects RX4 yX4_hasCell yX4_hasCell, .initialized RX4, .code yX4_hasCell cX4_hasCell 2 (some .boolean), .fieldLink RX4 15 "OneNail$Sheet" "length" "I"] ++ wsX40)
def wsX5_init : List Cond := .code yX5_init cX5_init 1 none :: ([.methodLink RX5 3 objectInit, .instanceMethod objectInit, .code objectInit ⟨#[0xb1]⟩ 1 none, .fieldLink RX5 9 "OneNail$Street" "count" "I", .fieldLink RX5 15 "OneNail$Street" "smithyPlace" "I", .fieldLink RX5 18 "OneNail$Street" "rusted" "I", .classLink RX5 21 RX6, .fieldLink RX5 23 "OneNail$Street" "things" "[LOneNail$Thing;", .arrayClass .int, .fieldLink RX5 27 "OneNail$Street" "places" "[I", .fieldLink RX5 31 "OneNail$Street" "stays" "[I", .fieldLink RX5 34 "OneNail$Street" "harms" "[I", .fieldLink RX5 37 "OneNail$Street" "holds" "[I"] ++ wsX50)
def wsX5_empty : List Cond := .code yX5_empty cX5_empty 2 none :: ([.fieldLink RX5 9 "OneNail$Street" "count" "I", .fieldLink RX5 15 "OneNail$Street" "smithyPlace" "I"] ++ wsX50)
def wsX5_addThing : List Cond := .code yX5_addThing cX5_addThing 2 none :: ([.fieldLink RX5 9 "OneNail$Street" "count" "I", .fieldLink RX5 23 "OneNail$Street" "things" "[LOneNail$Thing;", .fieldLink RX5 27 "OneNail$Street" "places" "[I", .fieldLink RX5 40 "OneNail$Thing" "place" "I", .fieldLink RX5 31 "OneNail$Street" "stays" "[I", .fieldLink RX5 43 "OneNail$Thing" "stay" "I", .fieldLink RX5 34 "OneNail$Street" "harms" "[I", .fieldLink RX5 46 "OneNail$Thing" "harmDone" "I"] ++ wsX50 ++ wsX00 ++ wsX10 ++ wsX60)
def wsX5_becomeRusty_r1 : List Cond := [Cond.fieldLink RX5 18 "OneNail$Street" "rusted" "I", Cond.fieldLink RX5 9 "OneNail$Street" "count" "I", Cond.fieldLink RX5 23 "OneNail$Street" "things" "[LOneNail$Thing;", Cond.fieldLink RX5 37 "OneNail$Street" "holds" "[I", Cond.methodLink RX5 49 ⟨"OneNail$Thing", "holdsBy", "(I)I"⟩, Cond.sameMethod "OneNail$Thing" "OneNail$Thing" "holdsBy" "(I)I", Cond.instanceMethod ⟨"OneNail$Thing", "holdsBy", "(I)I"⟩, Cond.selects RX0 ⟨"OneNail$Thing", "holdsBy", "(I)I"⟩ yX0_holdsBy, Cond.instanceMethod yX0_holdsBy, Cond.initialized RX0, Cond.code yX0_holdsBy cX0_holdsBy 2 (some .int), Cond.methodLink RX0 7 yX1_holdsBy, Cond.sameMethod "OneNail$Door" "OneNail$Door" "holdsBy" "(I)I", Cond.superclass RX0 RX1, Cond.instanceMethod yX1_holdsBy, Cond.initialized RX1, Cond.code yX1_holdsBy cX1_holdsBy 3 (some .int), Cond.methodLink RX1 7 yX6_holdsBy, Cond.superclass RX1 RX6, Cond.instanceMethod yX6_holdsBy, Cond.initialized RX6, Cond.code yX6_holdsBy cX6_holdsBy 2 (some .int), Cond.fieldLink RX6 19 "OneNail$Thing" "hold" "I", Cond.methodLink RX6 25 Lib.Math.max.name]
def wsX5_becomeRusty_r2 : List Cond := [Cond.static Lib.Math.max.name, Cond.initialized "java/lang/Math", Cond.code Lib.Math.max.name Lib.Math.max.code 2 (some .int), Cond.selects RX1 ⟨"OneNail$Thing", "holdsBy", "(I)I"⟩ yX1_holdsBy, Cond.methodLink RX5 49 yX6_holdsBy, Cond.selects RX6 yX6_holdsBy yX6_holdsBy]
def wsX5_becomeRusty : List Cond := .code yX5_becomeRusty cX5_becomeRusty 4 none :: ((wsX5_becomeRusty_r1 ++ wsX5_becomeRusty_r2) ++ wsX50 ++ wsX00 ++ wsX10 ++ wsX60)
def wsX5_has : List Cond := .code yX5_has cX5_has 2 (some .boolean) :: ([.fieldLink RX5 9 "OneNail$Street" "count" "I"] ++ wsX50)
def wsX5_thingAt : List Cond := .code yX5_thingAt cX5_thingAt 2 (some (.object "OneNail$Thing")) :: ([.fieldLink RX5 23 "OneNail$Street" "things" "[LOneNail$Thing;", .methodLink RX5 53 yX5_has, .instanceMethod yX5_has, .selects RX5 yX5_has yX5_has, .initialized RX5, .code yX5_has cX5_has 2 (some .boolean), .fieldLink RX5 9 "OneNail$Street" "count" "I"] ++ wsX50)
def wsX5_all : List Cond := .code yX5_all cX5_all 1 (some .int) :: ([.fieldLink RX5 9 "OneNail$Street" "count" "I"] ++ wsX50)
def wsX6_kindNumber : List Cond := .code yX6_kindNumber cX6_kindNumber 1 (some .int) :: ([])
def wsX6_struck : List Cond := .code yX6_struck cX6_struck 2 (some .int) :: ([.fieldLink RX6 7 "OneNail$Thing" "number" "I", .methodLink RX6 35 yX7_leave, .instanceMethod yX7_leave, .selects RX7 yX7_leave yX7_leave, .initialized RX7, .code yX7_leave cX7_leave 2 none, .fieldLink RX7 7 "OneNail$Trace" "value" "I"] ++ wsX00 ++ wsX10 ++ wsX60 ++ wsX70)
def wsX7_init : List Cond := .code yX7_init cX7_init 1 none :: ([.methodLink RX7 1 objectInit, .instanceMethod objectInit, .code objectInit ⟨#[0xb1]⟩ 1 none, .fieldLink RX7 7 "OneNail$Trace" "value" "I"] ++ wsX70)
def wsX8_init : List Cond := .code yX8_init cX8_init 2 none :: ([.methodLink RX8 3 objectInit, .instanceMethod objectInit, .code objectInit ⟨#[0xb1]⟩ 1 none, .arrayClass .int, .fieldLink RX8 9 "OneNail$Walk" "round" "[I", .fieldLink RX8 15 "OneNail$Walk" "length" "I", .fieldLink RX8 19 "OneNail$Walk" "until" "[I", .fieldLink RX8 22 "OneNail$Walk" "fallen" "[I", .fieldLink RX8 25 "OneNail$Walk" "spot" "I", .fieldLink RX8 28 "OneNail$Walk" "from" "I", .fieldLink RX8 31 "OneNail$Walk" "leaves" "I", .fieldLink RX8 34 "OneNail$Walk" "thing" "I", .fieldLink RX8 37 "OneNail$Walk" "comes" "I", .fieldLink RX8 40 "OneNail$Walk" "town" "LOneNail$Street;"] ++ wsX80)
def wsX8_layRound : List Cond := .code yX8_layRound cX8_layRound 5 none :: ([.methodLink RX8 44 Lib.Math.min.name, .static Lib.Math.min.name, .initialized "java/lang/Math", .code Lib.Math.min.name Lib.Math.min.code 2 (some .int), .fieldLink RX8 15 "OneNail$Walk" "length" "I", .fieldLink RX8 9 "OneNail$Walk" "round" "[I", .methodLink RX8 50 yX4_read, .instanceMethod yX4_read, .selects RX4 yX4_read yX4_read, .initialized RX4, .code yX4_read cX4_read 2 (some .int), .fieldLink RX4 18 "OneNail$Sheet" "cells" "[I", .methodLink RX4 31 yX4_hasCell, .instanceMethod yX4_hasCell, .selects RX4 yX4_hasCell yX4_hasCell, .code yX4_hasCell cX4_hasCell 2 (some .boolean), .fieldLink RX4 15 "OneNail$Sheet" "length" "I"] ++ wsX80 ++ wsX40)
def wsX8_begin : List Cond := .code yX8_begin cX8_begin 2 none :: ([.fieldLink RX8 25 "OneNail$Walk" "spot" "I", .fieldLink RX8 40 "OneNail$Walk" "town" "LOneNail$Street;", .fieldLink RX8 56 "OneNail$Street" "smithyPlace" "I", .fieldLink RX8 28 "OneNail$Walk" "from" "I", .fieldLink RX8 31 "OneNail$Walk" "leaves" "I", .fieldLink RX8 61 "OneNail$Street" "count" "I", .fieldLink RX8 19 "OneNail$Walk" "until" "[I", .fieldLink RX8 64 "OneNail$Street" "holds" "[I"] ++ wsX80 ++ wsX50)
def wsX8_goOn : List Cond := .code yX8_goOn cX8_goOn 1 none :: ([.fieldLink RX8 9 "OneNail$Walk" "round" "[I", .fieldLink RX8 25 "OneNail$Walk" "spot" "I", .fieldLink RX8 34 "OneNail$Walk" "thing" "I", .fieldLink RX8 31 "OneNail$Walk" "leaves" "I", .fieldLink RX8 40 "OneNail$Walk" "town" "LOneNail$Street;", .fieldLink RX8 67 "OneNail$Street" "places" "[I", .fieldLink RX8 28 "OneNail$Walk" "from" "I", .methodLink RX8 70 Lib.Math.abs.name, .static Lib.Math.abs.name, .initialized "java/lang/Math", .code Lib.Math.abs.name Lib.Math.abs.code 1 (some .int), .fieldLink RX8 37 "OneNail$Walk" "comes" "I", .fieldLink RX8 73 "OneNail$Street" "stays" "[I", .fieldLink RX8 15 "OneNail$Walk" "length" "I"] ++ wsX80 ++ wsX50)
def wsX8_nailed : List Cond := .code yX8_nailed cX8_nailed 1 none :: ([.fieldLink RX8 19 "OneNail$Walk" "until" "[I", .fieldLink RX8 34 "OneNail$Walk" "thing" "I", .fieldLink RX8 31 "OneNail$Walk" "leaves" "I", .fieldLink RX8 40 "OneNail$Walk" "town" "LOneNail$Street;", .fieldLink RX8 64 "OneNail$Street" "holds" "[I"] ++ wsX80 ++ wsX50)
def wsX8_markFall : List Cond := .code yX8_markFall cX8_markFall 3 none :: ([.fieldLink RX8 19 "OneNail$Walk" "until" "[I", .fieldLink RX8 22 "OneNail$Walk" "fallen" "[I"] ++ wsX80)
def wsX8_markFalls_r1 : List Cond := [Cond.fieldLink RX8 22 "OneNail$Walk" "fallen" "[I", Cond.fieldLink RX8 37 "OneNail$Walk" "comes" "I", Cond.fieldLink RX8 19 "OneNail$Walk" "until" "[I", Cond.fieldLink RX8 34 "OneNail$Walk" "thing" "I", Cond.fieldLink RX8 40 "OneNail$Walk" "town" "LOneNail$Street;", Cond.fieldLink RX8 61 "OneNail$Street" "count" "I", Cond.methodLink RX8 76 yX8_begin, Cond.instanceMethod yX8_begin, Cond.selects RX8 yX8_begin yX8_begin, Cond.initialized RX8, Cond.code yX8_begin cX8_begin 2 none, Cond.fieldLink RX8 25 "OneNail$Walk" "spot" "I", Cond.fieldLink RX8 56 "OneNail$Street" "smithyPlace" "I", Cond.fieldLink RX8 28 "OneNail$Walk" "from" "I", Cond.fieldLink RX8 31 "OneNail$Walk" "leaves" "I", Cond.fieldLink RX8 64 "OneNail$Street" "holds" "[I", Cond.methodLink RX8 79 yX8_goOn, Cond.instanceMethod yX8_goOn, Cond.selects RX8 yX8_goOn yX8_goOn, Cond.code yX8_goOn cX8_goOn 1 none, Cond.fieldLink RX8 9 "OneNail$Walk" "round" "[I", Cond.fieldLink RX8 67 "OneNail$Street" "places" "[I", Cond.methodLink RX8 70 Lib.Math.abs.name, Cond.static Lib.Math.abs.name]
def wsX8_markFalls_r2 : List Cond := [Cond.initialized "java/lang/Math", Cond.code Lib.Math.abs.name Lib.Math.abs.code 1 (some .int), Cond.fieldLink RX8 73 "OneNail$Street" "stays" "[I", Cond.fieldLink RX8 15 "OneNail$Walk" "length" "I", Cond.methodLink RX8 82 yX8_markFall, Cond.instanceMethod yX8_markFall, Cond.selects RX8 yX8_markFall yX8_markFall, Cond.code yX8_markFall cX8_markFall 3 none, Cond.methodLink RX8 86 yX8_nailed, Cond.instanceMethod yX8_nailed, Cond.selects RX8 yX8_nailed yX8_nailed, Cond.code yX8_nailed cX8_nailed 1 none]
def wsX8_markFalls : List Cond := .code yX8_markFalls cX8_markFalls 2 none :: ((wsX8_markFalls_r1 ++ wsX8_markFalls_r2) ++ wsX80 ++ wsX50)
def wsX8_harmBelow : List Cond := .code yX8_harmBelow cX8_harmBelow 5 (some .int) :: ([.fieldLink RX8 22 "OneNail$Walk" "fallen" "[I", .fieldLink RX8 40 "OneNail$Walk" "town" "LOneNail$Street;", .fieldLink RX8 61 "OneNail$Street" "count" "I", .fieldLink RX8 89 "OneNail$Street" "harms" "[I"] ++ wsX80 ++ wsX50)
def wsJ6_bitCount_0f7a4 : List Cond := .code yJ6_bitCount_0f7a4 cJ6_bitCount_0f7a4 1 (some .int) :: ([.constant RJ6 265 (1431655765), .constant RJ6 266 (858993459), .constant RJ6 267 (252645135)])
def wsX8_countFalls : List Cond := .code yX8_countFalls cX8_countFalls 3 (some .int) :: ([.fieldLink RX8 22 "OneNail$Walk" "fallen" "[I", .methodLink RX8 92 yJ6_bitCount_0f7a4, .static yJ6_bitCount_0f7a4, .initialized RJ6, .code yJ6_bitCount_0f7a4 cJ6_bitCount_0f7a4 1 (some .int), .constant RJ6 265 (1431655765), .constant RJ6 266 (858993459), .constant RJ6 267 (252645135)] ++ wsX80)
def wsX8_fallNumber : List Cond := .code yX8_fallNumber cX8_fallNumber 5 (some .int) :: ([.fieldLink RX8 22 "OneNail$Walk" "fallen" "[I", .fieldLink RX8 40 "OneNail$Walk" "town" "LOneNail$Street;", .fieldLink RX8 61 "OneNail$Street" "count" "I"] ++ wsX80 ++ wsX50)
def wsX8_nothingEverFalls_r1 : List Cond := [Cond.fieldLink RX8 15 "OneNail$Walk" "length" "I", Cond.fieldLink RX8 19 "OneNail$Walk" "until" "[I", Cond.fieldLink RX8 34 "OneNail$Walk" "thing" "I", Cond.fieldLink RX8 37 "OneNail$Walk" "comes" "I", Cond.fieldLink RX8 40 "OneNail$Walk" "town" "LOneNail$Street;", Cond.methodLink RX8 76 yX8_begin, Cond.instanceMethod yX8_begin, Cond.selects RX8 yX8_begin yX8_begin, Cond.initialized RX8, Cond.code yX8_begin cX8_begin 2 none, Cond.fieldLink RX8 25 "OneNail$Walk" "spot" "I", Cond.fieldLink RX8 56 "OneNail$Street" "smithyPlace" "I", Cond.fieldLink RX8 28 "OneNail$Walk" "from" "I", Cond.fieldLink RX8 31 "OneNail$Walk" "leaves" "I", Cond.fieldLink RX8 61 "OneNail$Street" "count" "I", Cond.fieldLink RX8 64 "OneNail$Street" "holds" "[I", Cond.methodLink RX8 79 yX8_goOn, Cond.instanceMethod yX8_goOn, Cond.selects RX8 yX8_goOn yX8_goOn, Cond.code yX8_goOn cX8_goOn 1 none, Cond.fieldLink RX8 9 "OneNail$Walk" "round" "[I", Cond.fieldLink RX8 67 "OneNail$Street" "places" "[I", Cond.methodLink RX8 70 Lib.Math.abs.name, Cond.static Lib.Math.abs.name]
def wsX8_nothingEverFalls_r2 : List Cond := [Cond.initialized "java/lang/Math", Cond.code Lib.Math.abs.name Lib.Math.abs.code 1 (some .int), Cond.fieldLink RX8 73 "OneNail$Street" "stays" "[I", Cond.methodLink RX8 86 yX8_nailed, Cond.instanceMethod yX8_nailed, Cond.selects RX8 yX8_nailed yX8_nailed, Cond.code yX8_nailed cX8_nailed 1 none, Cond.methodLink RX8 97 yX5_all, Cond.instanceMethod yX5_all, Cond.selects RX5 yX5_all yX5_all, Cond.initialized RX5, Cond.code yX5_all cX5_all 1 (some .int), Cond.fieldLink RX5 9 "OneNail$Street" "count" "I"]
def wsX8_nothingEverFalls : List Cond := .code yX8_nothingEverFalls cX8_nothingEverFalls 3 (some .boolean) :: ((wsX8_nothingEverFalls_r1 ++ wsX8_nothingEverFalls_r2) ++ wsX80 ++ wsX50)
def wsX8_whereAt_r1 : List Cond := [Cond.fieldLink RX8 37 "OneNail$Walk" "comes" "I", Cond.fieldLink RX8 31 "OneNail$Walk" "leaves" "I", Cond.fieldLink RX8 34 "OneNail$Walk" "thing" "I", Cond.methodLink RX8 76 yX8_begin, Cond.instanceMethod yX8_begin, Cond.selects RX8 yX8_begin yX8_begin, Cond.initialized RX8, Cond.code yX8_begin cX8_begin 2 none, Cond.fieldLink RX8 25 "OneNail$Walk" "spot" "I", Cond.fieldLink RX8 40 "OneNail$Walk" "town" "LOneNail$Street;", Cond.fieldLink RX8 56 "OneNail$Street" "smithyPlace" "I", Cond.fieldLink RX8 28 "OneNail$Walk" "from" "I", Cond.fieldLink RX8 61 "OneNail$Street" "count" "I", Cond.fieldLink RX8 19 "OneNail$Walk" "until" "[I", Cond.fieldLink RX8 64 "OneNail$Street" "holds" "[I", Cond.methodLink RX8 79 yX8_goOn, Cond.instanceMethod yX8_goOn, Cond.selects RX8 yX8_goOn yX8_goOn, Cond.code yX8_goOn cX8_goOn 1 none, Cond.fieldLink RX8 9 "OneNail$Walk" "round" "[I", Cond.fieldLink RX8 67 "OneNail$Street" "places" "[I", Cond.methodLink RX8 70 Lib.Math.abs.name, Cond.static Lib.Math.abs.name, Cond.initialized "java/lang/Math"]
def wsX8_whereAt_r2 : List Cond := [Cond.code Lib.Math.abs.name Lib.Math.abs.code 1 (some .int), Cond.fieldLink RX8 73 "OneNail$Street" "stays" "[I", Cond.fieldLink RX8 15 "OneNail$Walk" "length" "I"]
def wsX8_whereAt : List Cond := .code yX8_whereAt cX8_whereAt 3 (some .int) :: ((wsX8_whereAt_r1 ++ wsX8_whereAt_r2) ++ wsX80 ++ wsX50)
def wsX9_init_r1 : List Cond := [Cond.methodLink RX9 3 objectInit, Cond.instanceMethod objectInit, Cond.code objectInit ⟨#[0xb1]⟩ 1 none, Cond.classLink RX9 9 RX5, Cond.instantiable RX5 8, Cond.initialized RX5, Cond.fieldLink RX9 12 "OneNail" "town" "LOneNail$Street;", Cond.classLink RX9 18 RX3, Cond.instantiable RX3 4, Cond.initialized RX3, Cond.fieldLink RX9 21 "OneNail" "seen" "LOneNail$Readings;", Cond.classLink RX9 25 RX8, Cond.instantiable RX8 10, Cond.initialized RX8, Cond.fieldLink RX9 30 "OneNail" "walk" "LOneNail$Walk;", Cond.classLink RX9 34 RX2, Cond.instantiable RX2 6, Cond.initialized RX2, Cond.fieldLink RX9 37 "OneNail" "orders" "LOneNail$Orders;", Cond.classLink RX9 41 RX4, Cond.fieldLink RX9 43 "OneNail" "sheets" "[LOneNail$Sheet;", Cond.arrayClass .int, Cond.fieldLink RX9 47 "OneNail" "leastOf" "[I", Cond.classLink RX9 51 RX7]
def wsX9_init_r2 : List Cond := [Cond.instantiable RX7 1, Cond.initialized RX7, Cond.fieldLink RX9 54 "OneNail" "traced" "LOneNail$Trace;", Cond.fieldLink RX9 58 "OneNail" "lastFault" "I", Cond.instantiable RX4 3, Cond.initialized RX4, Cond.methodLink RX9 11 yX5_init, Cond.instanceMethod yX5_init, Cond.code yX5_init cX5_init 1 none, Cond.methodLink RX5 3 objectInit, Cond.fieldLink RX5 9 "OneNail$Street" "count" "I", Cond.fieldLink RX5 15 "OneNail$Street" "smithyPlace" "I", Cond.fieldLink RX5 18 "OneNail$Street" "rusted" "I", Cond.classLink RX5 21 RX6, Cond.fieldLink RX5 23 "OneNail$Street" "things" "[LOneNail$Thing;", Cond.fieldLink RX5 27 "OneNail$Street" "places" "[I", Cond.fieldLink RX5 31 "OneNail$Street" "stays" "[I", Cond.fieldLink RX5 34 "OneNail$Street" "harms" "[I", Cond.fieldLink RX5 37 "OneNail$Street" "holds" "[I", Cond.methodLink RX9 20 yX3_init, Cond.instanceMethod yX3_init, Cond.code yX3_init cX3_init 1 none, Cond.methodLink RX3 3 objectInit, Cond.fieldLink RX3 9 "OneNail$Readings" "count" "I"]
def wsX9_init_r3 : List Cond := [Cond.fieldLink RX3 15 "OneNail$Readings" "things" "[I", Cond.fieldLink RX3 19 "OneNail$Readings" "minutes" "[I", Cond.arrayClass .boolean, Cond.fieldLink RX3 22 "OneNail$Readings" "ups" "[Z", Cond.methodLink RX9 27 yX8_init, Cond.instanceMethod yX8_init, Cond.code yX8_init cX8_init 2 none, Cond.methodLink RX8 3 objectInit, Cond.fieldLink RX8 9 "OneNail$Walk" "round" "[I", Cond.fieldLink RX8 15 "OneNail$Walk" "length" "I", Cond.fieldLink RX8 19 "OneNail$Walk" "until" "[I", Cond.fieldLink RX8 22 "OneNail$Walk" "fallen" "[I", Cond.fieldLink RX8 25 "OneNail$Walk" "spot" "I", Cond.fieldLink RX8 28 "OneNail$Walk" "from" "I", Cond.fieldLink RX8 31 "OneNail$Walk" "leaves" "I", Cond.fieldLink RX8 34 "OneNail$Walk" "thing" "I", Cond.fieldLink RX8 37 "OneNail$Walk" "comes" "I", Cond.fieldLink RX8 40 "OneNail$Walk" "town" "LOneNail$Street;", Cond.methodLink RX9 36 yX2_init, Cond.instanceMethod yX2_init, Cond.code yX2_init cX2_init 2 none, Cond.methodLink RX2 3 objectInit, Cond.fieldLink RX2 9 "OneNail$Orders" "row" "[I", Cond.fieldLink RX2 15 "OneNail$Orders" "length" "I"]
def wsX9_init_r4 : List Cond := [Cond.fieldLink RX2 19 "OneNail$Orders" "comes" "[I", Cond.fieldLink RX2 22 "OneNail$Orders" "period" "I", Cond.fieldLink RX2 25 "OneNail$Orders" "kept" "[I", Cond.fieldLink RX2 28 "OneNail$Orders" "town" "LOneNail$Street;", Cond.methodLink RX9 53 yX7_init, Cond.instanceMethod yX7_init, Cond.code yX7_init cX7_init 1 none, Cond.methodLink RX7 1 objectInit, Cond.fieldLink RX7 7 "OneNail$Trace" "value" "I", Cond.methodLink RX9 62 yX4_init, Cond.instanceMethod yX4_init, Cond.code yX4_init cX4_init 1 none, Cond.methodLink RX4 3 objectInit, Cond.fieldLink RX4 11 "OneNail$Sheet" "lane" "I", Cond.fieldLink RX4 15 "OneNail$Sheet" "length" "I", Cond.fieldLink RX4 18 "OneNail$Sheet" "cells" "[I"]
def wsX9_init : List Cond := .code yX9_init cX9_init 2 none :: ((wsX9_init_r1 ++ (wsX9_init_r2 ++ (wsX9_init_r3 ++ wsX9_init_r4))) ++ wsX50 ++ wsX90 ++ wsX30 ++ wsX80 ++ wsX20 ++ wsX70 ++ wsX40)
def wsX9_isLane : List Cond := .code yX9_isLane cX9_isLane 1 (some .boolean) :: ([])
def wsX9_sheetAt : List Cond := .code yX9_sheetAt cX9_sheetAt 2 (some (.object "OneNail$Sheet")) :: ([.fieldLink RX9 43 "OneNail" "sheets" "[LOneNail$Sheet;"] ++ wsX90)
def wsX9_failBy : List Cond := .code yX9_failBy cX9_failBy 2 (some .int) :: ([.fieldLink RX9 58 "OneNail" "lastFault" "I"] ++ wsX90)
def wsX9_refuseLane : List Cond := .code yX9_refuseLane cX9_refuseLane 3 (some .int) :: ([.fieldLink RX9 216 "OneNail$Sheet" "lane" "I", .methodLink RX9 195 yX4_isNothing, .instanceMethod yX4_isNothing, .selects RX4 yX4_isNothing yX4_isNothing, .initialized RX4, .code yX4_isNothing cX4_isNothing 1 (some .boolean), .fieldLink RX4 11 "OneNail$Sheet" "lane" "I", .methodLink RX9 188 yX9_failBy, .instanceMethod yX9_failBy, .selects RX9 yX9_failBy yX9_failBy, .initialized RX9, .code yX9_failBy cX9_failBy 2 (some .int), .fieldLink RX9 58 "OneNail" "lastFault" "I"] ++ wsX40 ++ wsX90)
def wsX9_refuseCells_r1 : List Cond := [Cond.fieldLink RX9 58 "OneNail" "lastFault" "I", Cond.methodLink RX9 71 yX9_sheetAt, Cond.instanceMethod yX9_sheetAt, Cond.selects RX9 yX9_sheetAt yX9_sheetAt, Cond.initialized RX9, Cond.code yX9_sheetAt cX9_sheetAt 2 (some (.object "OneNail$Sheet")), Cond.fieldLink RX9 43 "OneNail" "sheets" "[LOneNail$Sheet;", Cond.methodLink RX9 207 yX9_refuseLane, Cond.instanceMethod yX9_refuseLane, Cond.selects RX9 yX9_refuseLane yX9_refuseLane, Cond.code yX9_refuseLane cX9_refuseLane 3 (some .int), Cond.fieldLink RX9 216 "OneNail$Sheet" "lane" "I", Cond.methodLink RX9 195 yX4_isNothing, Cond.instanceMethod yX4_isNothing, Cond.selects RX4 yX4_isNothing yX4_isNothing, Cond.initialized RX4, Cond.code yX4_isNothing cX4_isNothing 1 (some .boolean), Cond.fieldLink RX4 11 "OneNail$Sheet" "lane" "I", Cond.methodLink RX9 188 yX9_failBy, Cond.instanceMethod yX9_failBy, Cond.selects RX9 yX9_failBy yX9_failBy, Cond.code yX9_failBy cX9_failBy 2 (some .int), Cond.methodLink RX9 219 yX4_spans, Cond.instanceMethod yX4_spans]
def wsX9_refuseCells_r2 : List Cond := [Cond.selects RX4 yX4_spans yX4_spans, Cond.code yX4_spans cX4_spans 3 (some .boolean), Cond.fieldLink RX4 15 "OneNail$Sheet" "length" "I"]
def wsX9_refuseCells : List Cond := .code yX9_refuseCells cX9_refuseCells 8 (some .int) :: ((wsX9_refuseCells_r1 ++ wsX9_refuseCells_r2) ++ wsX90 ++ wsX40)
def wsX9_isDigit : List Cond := .code yX9_isDigit cX9_isDigit 1 (some .boolean) :: ([])
def wsX9_goesOn : List Cond := .code yX9_goesOn cX9_goesOn 2 (some .boolean) :: ([.methodLink RX9 248 yX9_isDigit, .static yX9_isDigit, .initialized RX9, .code yX9_isDigit cX9_isDigit 1 (some .boolean)])
def wsX9_firstFault : List Cond := .code yX9_firstFault cX9_firstFault 6 (some .int) :: ([.methodLink RX9 213 yX4_read, .instanceMethod yX4_read, .selects RX4 yX4_read yX4_read, .initialized RX4, .code yX4_read cX4_read 2 (some .int), .fieldLink RX4 18 "OneNail$Sheet" "cells" "[I", .methodLink RX4 31 yX4_hasCell, .instanceMethod yX4_hasCell, .selects RX4 yX4_hasCell yX4_hasCell, .code yX4_hasCell cX4_hasCell 2 (some .boolean), .fieldLink RX4 15 "OneNail$Sheet" "length" "I", .methodLink RX9 245 yX9_goesOn, .static yX9_goesOn, .initialized RX9, .code yX9_goesOn cX9_goesOn 2 (some .boolean), .methodLink RX9 248 yX9_isDigit, .static yX9_isDigit, .code yX9_isDigit cX9_isDigit 1 (some .boolean)] ++ wsX40)
def wsX9_readThing_r1 : List Cond := [Cond.classLink RX9 262 RX0, Cond.instantiable RX0 5, Cond.initialized RX0, Cond.classLink RX9 267 RX1, Cond.instantiable RX1 5, Cond.initialized RX1, Cond.classLink RX9 91 RX6, Cond.instantiable RX6 5, Cond.initialized RX6, Cond.methodLink RX9 213 yX4_read, Cond.instanceMethod yX4_read, Cond.selects RX4 yX4_read yX4_read, Cond.initialized RX4, Cond.code yX4_read cX4_read 2 (some .int), Cond.fieldLink RX4 18 "OneNail$Sheet" "cells" "[I", Cond.methodLink RX4 31 yX4_hasCell, Cond.instanceMethod yX4_hasCell, Cond.selects RX4 yX4_hasCell yX4_hasCell, Cond.code yX4_hasCell cX4_hasCell 2 (some .boolean), Cond.fieldLink RX4 15 "OneNail$Sheet" "length" "I", Cond.methodLink RX9 264 yX0_init, Cond.instanceMethod yX0_init, Cond.code yX0_init cX0_init 6 none, Cond.methodLink RX0 1 yX1_init]
def wsX9_readThing_r2 : List Cond := [Cond.instanceMethod yX1_init, Cond.code yX1_init cX1_init 6 none, Cond.methodLink RX1 1 yX6_init, Cond.instanceMethod yX6_init, Cond.code yX6_init cX6_init 6 none, Cond.methodLink RX6 1 objectInit, Cond.instanceMethod objectInit, Cond.code objectInit ⟨#[0xb1]⟩ 1 none, Cond.fieldLink RX6 7 "OneNail$Thing" "number" "I", Cond.fieldLink RX6 13 "OneNail$Thing" "place" "I", Cond.fieldLink RX6 16 "OneNail$Thing" "stay" "I", Cond.fieldLink RX6 19 "OneNail$Thing" "hold" "I", Cond.fieldLink RX6 22 "OneNail$Thing" "harmDone" "I", Cond.methodLink RX9 269 yX1_init, Cond.methodLink RX9 270 yX6_init]
def wsX9_readThing : List Cond := .code yX9_readThing cX9_readThing 8 (some (.object "OneNail$Thing")) :: ((wsX9_readThing_r1 ++ wsX9_readThing_r2) ++ wsX00 ++ wsX10 ++ wsX60 ++ wsX40)
def wsX9_takeText_r1 : List Cond := [Cond.fieldLink RX9 12 "OneNail" "town" "LOneNail$Street;", Cond.fieldLink RX9 21 "OneNail" "seen" "LOneNail$Readings;", Cond.fieldLink RX9 183 "OneNail$Readings" "count" "I", Cond.methodLink RX9 213 yX4_read, Cond.instanceMethod yX4_read, Cond.selects RX4 yX4_read yX4_read, Cond.initialized RX4, Cond.code yX4_read cX4_read 2 (some .int), Cond.fieldLink RX4 18 "OneNail$Sheet" "cells" "[I", Cond.methodLink RX4 31 yX4_hasCell, Cond.instanceMethod yX4_hasCell, Cond.selects RX4 yX4_hasCell yX4_hasCell, Cond.code yX4_hasCell cX4_hasCell 2 (some .boolean), Cond.fieldLink RX4 15 "OneNail$Sheet" "length" "I", Cond.methodLink RX9 251 yX5_empty, Cond.instanceMethod yX5_empty, Cond.selects RX5 yX5_empty yX5_empty, Cond.initialized RX5, Cond.code yX5_empty cX5_empty 2 none, Cond.fieldLink RX5 9 "OneNail$Street" "count" "I", Cond.fieldLink RX5 15 "OneNail$Street" "smithyPlace" "I", Cond.methodLink RX9 254 yX9_readThing, Cond.static yX9_readThing, Cond.initialized RX9]
def wsX9_takeText_r2 : List Cond := [Cond.code yX9_readThing cX9_readThing 8 (some (.object "OneNail$Thing")), Cond.classLink RX9 262 RX0, Cond.instantiable RX0 5, Cond.initialized RX0, Cond.classLink RX9 267 RX1, Cond.instantiable RX1 5, Cond.initialized RX1, Cond.classLink RX9 91 RX6, Cond.instantiable RX6 5, Cond.initialized RX6, Cond.methodLink RX9 264 yX0_init, Cond.instanceMethod yX0_init, Cond.code yX0_init cX0_init 6 none, Cond.methodLink RX0 1 yX1_init, Cond.instanceMethod yX1_init, Cond.code yX1_init cX1_init 6 none, Cond.methodLink RX1 1 yX6_init, Cond.instanceMethod yX6_init, Cond.code yX6_init cX6_init 6 none, Cond.methodLink RX6 1 objectInit, Cond.instanceMethod objectInit, Cond.code objectInit ⟨#[0xb1]⟩ 1 none, Cond.fieldLink RX6 7 "OneNail$Thing" "number" "I", Cond.fieldLink RX6 13 "OneNail$Thing" "place" "I"]
def wsX9_takeText_r3 : List Cond := [Cond.fieldLink RX6 16 "OneNail$Thing" "stay" "I", Cond.fieldLink RX6 19 "OneNail$Thing" "hold" "I", Cond.fieldLink RX6 22 "OneNail$Thing" "harmDone" "I", Cond.methodLink RX9 269 yX1_init, Cond.methodLink RX9 270 yX6_init, Cond.methodLink RX9 258 yX5_addThing, Cond.instanceMethod yX5_addThing, Cond.selects RX5 yX5_addThing yX5_addThing, Cond.code yX5_addThing cX5_addThing 2 none, Cond.fieldLink RX5 23 "OneNail$Street" "things" "[LOneNail$Thing;", Cond.fieldLink RX5 27 "OneNail$Street" "places" "[I", Cond.fieldLink RX5 40 "OneNail$Thing" "place" "I", Cond.fieldLink RX5 31 "OneNail$Street" "stays" "[I", Cond.fieldLink RX5 43 "OneNail$Thing" "stay" "I", Cond.fieldLink RX5 34 "OneNail$Street" "harms" "[I", Cond.fieldLink RX5 46 "OneNail$Thing" "harmDone" "I", Cond.methodLink RX9 118 yX5_becomeRusty, Cond.instanceMethod yX5_becomeRusty, Cond.selects RX5 yX5_becomeRusty yX5_becomeRusty, Cond.code yX5_becomeRusty cX5_becomeRusty 4 none, Cond.fieldLink RX5 18 "OneNail$Street" "rusted" "I", Cond.fieldLink RX5 37 "OneNail$Street" "holds" "[I", Cond.methodLink RX5 49 ⟨"OneNail$Thing", "holdsBy", "(I)I"⟩, Cond.sameMethod "OneNail$Thing" "OneNail$Thing" "holdsBy" "(I)I"]
def wsX9_takeText_r4 : List Cond := [Cond.instanceMethod ⟨"OneNail$Thing", "holdsBy", "(I)I"⟩, Cond.selects RX0 ⟨"OneNail$Thing", "holdsBy", "(I)I"⟩ yX0_holdsBy, Cond.instanceMethod yX0_holdsBy, Cond.code yX0_holdsBy cX0_holdsBy 2 (some .int), Cond.methodLink RX0 7 yX1_holdsBy, Cond.sameMethod "OneNail$Door" "OneNail$Door" "holdsBy" "(I)I", Cond.superclass RX0 RX1, Cond.instanceMethod yX1_holdsBy, Cond.code yX1_holdsBy cX1_holdsBy 3 (some .int), Cond.methodLink RX1 7 yX6_holdsBy, Cond.superclass RX1 RX6, Cond.instanceMethod yX6_holdsBy, Cond.code yX6_holdsBy cX6_holdsBy 2 (some .int), Cond.methodLink RX6 25 Lib.Math.max.name, Cond.static Lib.Math.max.name, Cond.initialized "java/lang/Math", Cond.code Lib.Math.max.name Lib.Math.max.code 2 (some .int), Cond.selects RX1 ⟨"OneNail$Thing", "holdsBy", "(I)I"⟩ yX1_holdsBy, Cond.methodLink RX5 49 yX6_holdsBy, Cond.selects RX6 yX6_holdsBy yX6_holdsBy]
def wsX9_takeText : List Cond := .code yX9_takeText cX9_takeText 6 none :: ((wsX9_takeText_r1 ++ (wsX9_takeText_r2 ++ (wsX9_takeText_r3 ++ wsX9_takeText_r4))) ++ wsX90 ++ wsX30 ++ wsX40 ++ wsX50 ++ wsX00 ++ wsX10 ++ wsX60)
def wsX9_street_r1 : List Cond := [Cond.fieldLink RX9 12 "OneNail" "town" "LOneNail$Street;", Cond.fieldLink RX9 83 "OneNail$Street" "count" "I", Cond.methodLink RX9 63 yX9_isLane, Cond.static yX9_isLane, Cond.initialized RX9, Cond.code yX9_isLane cX9_isLane 1 (some .boolean), Cond.methodLink RX9 67 yX9_refuseCells, Cond.instanceMethod yX9_refuseCells, Cond.selects RX9 yX9_refuseCells yX9_refuseCells, Cond.code yX9_refuseCells cX9_refuseCells 8 (some .int), Cond.fieldLink RX9 58 "OneNail" "lastFault" "I", Cond.methodLink RX9 71 yX9_sheetAt, Cond.instanceMethod yX9_sheetAt, Cond.selects RX9 yX9_sheetAt yX9_sheetAt, Cond.code yX9_sheetAt cX9_sheetAt 2 (some (.object "OneNail$Sheet")), Cond.fieldLink RX9 43 "OneNail" "sheets" "[LOneNail$Sheet;", Cond.methodLink RX9 207 yX9_refuseLane, Cond.instanceMethod yX9_refuseLane, Cond.selects RX9 yX9_refuseLane yX9_refuseLane, Cond.code yX9_refuseLane cX9_refuseLane 3 (some .int), Cond.fieldLink RX9 216 "OneNail$Sheet" "lane" "I", Cond.methodLink RX9 195 yX4_isNothing, Cond.instanceMethod yX4_isNothing, Cond.selects RX4 yX4_isNothing yX4_isNothing]
def wsX9_street_r2 : List Cond := [Cond.initialized RX4, Cond.code yX4_isNothing cX4_isNothing 1 (some .boolean), Cond.fieldLink RX4 11 "OneNail$Sheet" "lane" "I", Cond.methodLink RX9 188 yX9_failBy, Cond.instanceMethod yX9_failBy, Cond.selects RX9 yX9_failBy yX9_failBy, Cond.code yX9_failBy cX9_failBy 2 (some .int), Cond.methodLink RX9 219 yX4_spans, Cond.instanceMethod yX4_spans, Cond.selects RX4 yX4_spans yX4_spans, Cond.code yX4_spans cX4_spans 3 (some .boolean), Cond.fieldLink RX4 15 "OneNail$Sheet" "length" "I", Cond.methodLink RX9 75 yX9_firstFault, Cond.static yX9_firstFault, Cond.code yX9_firstFault cX9_firstFault 6 (some .int), Cond.methodLink RX9 213 yX4_read, Cond.instanceMethod yX4_read, Cond.selects RX4 yX4_read yX4_read, Cond.code yX4_read cX4_read 2 (some .int), Cond.fieldLink RX4 18 "OneNail$Sheet" "cells" "[I", Cond.methodLink RX4 31 yX4_hasCell, Cond.instanceMethod yX4_hasCell, Cond.selects RX4 yX4_hasCell yX4_hasCell, Cond.code yX4_hasCell cX4_hasCell 2 (some .boolean)]
def wsX9_street_r3 : List Cond := [Cond.methodLink RX9 245 yX9_goesOn, Cond.static yX9_goesOn, Cond.code yX9_goesOn cX9_goesOn 2 (some .boolean), Cond.methodLink RX9 248 yX9_isDigit, Cond.static yX9_isDigit, Cond.code yX9_isDigit cX9_isDigit 1 (some .boolean), Cond.methodLink RX9 79 yX9_takeText, Cond.instanceMethod yX9_takeText, Cond.selects RX9 yX9_takeText yX9_takeText, Cond.code yX9_takeText cX9_takeText 6 none, Cond.fieldLink RX9 21 "OneNail" "seen" "LOneNail$Readings;", Cond.fieldLink RX9 183 "OneNail$Readings" "count" "I", Cond.methodLink RX9 251 yX5_empty, Cond.instanceMethod yX5_empty, Cond.selects RX5 yX5_empty yX5_empty, Cond.initialized RX5, Cond.code yX5_empty cX5_empty 2 none, Cond.fieldLink RX5 9 "OneNail$Street" "count" "I", Cond.fieldLink RX5 15 "OneNail$Street" "smithyPlace" "I", Cond.methodLink RX9 254 yX9_readThing, Cond.static yX9_readThing, Cond.code yX9_readThing cX9_readThing 8 (some (.object "OneNail$Thing")), Cond.classLink RX9 262 RX0, Cond.instantiable RX0 5]
def wsX9_street_r4 : List Cond := [Cond.initialized RX0, Cond.classLink RX9 267 RX1, Cond.instantiable RX1 5, Cond.initialized RX1, Cond.classLink RX9 91 RX6, Cond.instantiable RX6 5, Cond.initialized RX6, Cond.methodLink RX9 264 yX0_init, Cond.instanceMethod yX0_init, Cond.code yX0_init cX0_init 6 none, Cond.methodLink RX0 1 yX1_init, Cond.instanceMethod yX1_init, Cond.code yX1_init cX1_init 6 none, Cond.methodLink RX1 1 yX6_init, Cond.instanceMethod yX6_init, Cond.code yX6_init cX6_init 6 none, Cond.methodLink RX6 1 objectInit, Cond.instanceMethod objectInit, Cond.code objectInit ⟨#[0xb1]⟩ 1 none, Cond.fieldLink RX6 7 "OneNail$Thing" "number" "I", Cond.fieldLink RX6 13 "OneNail$Thing" "place" "I", Cond.fieldLink RX6 16 "OneNail$Thing" "stay" "I", Cond.fieldLink RX6 19 "OneNail$Thing" "hold" "I", Cond.fieldLink RX6 22 "OneNail$Thing" "harmDone" "I"]
def wsX9_street_r5 : List Cond := [Cond.methodLink RX9 269 yX1_init, Cond.methodLink RX9 270 yX6_init, Cond.methodLink RX9 258 yX5_addThing, Cond.instanceMethod yX5_addThing, Cond.selects RX5 yX5_addThing yX5_addThing, Cond.code yX5_addThing cX5_addThing 2 none, Cond.fieldLink RX5 23 "OneNail$Street" "things" "[LOneNail$Thing;", Cond.fieldLink RX5 27 "OneNail$Street" "places" "[I", Cond.fieldLink RX5 40 "OneNail$Thing" "place" "I", Cond.fieldLink RX5 31 "OneNail$Street" "stays" "[I", Cond.fieldLink RX5 43 "OneNail$Thing" "stay" "I", Cond.fieldLink RX5 34 "OneNail$Street" "harms" "[I", Cond.fieldLink RX5 46 "OneNail$Thing" "harmDone" "I", Cond.methodLink RX9 118 yX5_becomeRusty, Cond.instanceMethod yX5_becomeRusty, Cond.selects RX5 yX5_becomeRusty yX5_becomeRusty, Cond.code yX5_becomeRusty cX5_becomeRusty 4 none, Cond.fieldLink RX5 18 "OneNail$Street" "rusted" "I", Cond.fieldLink RX5 37 "OneNail$Street" "holds" "[I", Cond.methodLink RX5 49 ⟨"OneNail$Thing", "holdsBy", "(I)I"⟩, Cond.sameMethod "OneNail$Thing" "OneNail$Thing" "holdsBy" "(I)I", Cond.instanceMethod ⟨"OneNail$Thing", "holdsBy", "(I)I"⟩, Cond.selects RX0 ⟨"OneNail$Thing", "holdsBy", "(I)I"⟩ yX0_holdsBy, Cond.instanceMethod yX0_holdsBy]
def wsX9_street_r6 : List Cond := [Cond.code yX0_holdsBy cX0_holdsBy 2 (some .int), Cond.methodLink RX0 7 yX1_holdsBy, Cond.sameMethod "OneNail$Door" "OneNail$Door" "holdsBy" "(I)I", Cond.superclass RX0 RX1, Cond.instanceMethod yX1_holdsBy, Cond.code yX1_holdsBy cX1_holdsBy 3 (some .int), Cond.methodLink RX1 7 yX6_holdsBy, Cond.superclass RX1 RX6, Cond.instanceMethod yX6_holdsBy, Cond.code yX6_holdsBy cX6_holdsBy 2 (some .int), Cond.methodLink RX6 25 Lib.Math.max.name, Cond.static Lib.Math.max.name, Cond.initialized "java/lang/Math", Cond.code Lib.Math.max.name Lib.Math.max.code 2 (some .int), Cond.selects RX1 ⟨"OneNail$Thing", "holdsBy", "(I)I"⟩ yX1_holdsBy, Cond.methodLink RX5 49 yX6_holdsBy, Cond.selects RX6 yX6_holdsBy yX6_holdsBy]
def wsX9_street : List Cond := .code yX9_street cX9_street 8 (some .int) :: ((wsX9_street_r1 ++ (wsX9_street_r2 ++ (wsX9_street_r3 ++ (wsX9_street_r4 ++ (wsX9_street_r5 ++ wsX9_street_r6))))) ++ wsX90 ++ wsX50 ++ wsX40 ++ wsX30 ++ wsX00 ++ wsX10 ++ wsX60)
def wsX9_ofThing_r1 : List Cond := [Cond.fieldLink RX9 12 "OneNail" "town" "LOneNail$Street;", Cond.fieldLink RX9 96 "OneNail$Thing" "place" "I", Cond.fieldLink RX9 99 "OneNail$Thing" "stay" "I", Cond.fieldLink RX9 102 "OneNail$Thing" "hold" "I", Cond.fieldLink RX9 105 "OneNail$Thing" "harmDone" "I", Cond.fieldLink RX9 108 "OneNail$Street" "rusted" "I", Cond.methodLink RX9 86 yX5_thingAt, Cond.instanceMethod yX5_thingAt, Cond.selects RX5 yX5_thingAt yX5_thingAt, Cond.initialized RX5, Cond.code yX5_thingAt cX5_thingAt 2 (some (.object "OneNail$Thing")), Cond.fieldLink RX5 23 "OneNail$Street" "things" "[LOneNail$Thing;", Cond.methodLink RX5 53 yX5_has, Cond.instanceMethod yX5_has, Cond.selects RX5 yX5_has yX5_has, Cond.code yX5_has cX5_has 2 (some .boolean), Cond.fieldLink RX5 9 "OneNail$Street" "count" "I", Cond.methodLink RX9 90 ⟨"OneNail$Thing", "kindNumber", "()I"⟩, Cond.sameMethod "OneNail$Thing" "OneNail$Thing" "kindNumber" "()I", Cond.instanceMethod ⟨"OneNail$Thing", "kindNumber", "()I"⟩, Cond.selects RX0 ⟨"OneNail$Thing", "kindNumber", "()I"⟩ yX0_kindNumber, Cond.instanceMethod yX0_kindNumber, Cond.initialized RX0, Cond.code yX0_kindNumber cX0_kindNumber 1 (some .int)]
def wsX9_ofThing_r2 : List Cond := [Cond.code yX6_kindNumber cX6_kindNumber 1 (some .int), Cond.selects RX1 ⟨"OneNail$Thing", "kindNumber", "()I"⟩ yX1_kindNumber, Cond.instanceMethod yX1_kindNumber, Cond.initialized RX1, Cond.code yX1_kindNumber cX1_kindNumber 1 (some .int), Cond.methodLink RX9 90 yX6_kindNumber, Cond.instanceMethod yX6_kindNumber, Cond.selects RX6 yX6_kindNumber yX6_kindNumber, Cond.initialized RX6, Cond.methodLink RX9 111 ⟨"OneNail$Thing", "holdsBy", "(I)I"⟩, Cond.sameMethod "OneNail$Thing" "OneNail$Thing" "holdsBy" "(I)I", Cond.instanceMethod ⟨"OneNail$Thing", "holdsBy", "(I)I"⟩, Cond.selects RX0 ⟨"OneNail$Thing", "holdsBy", "(I)I"⟩ yX0_holdsBy, Cond.instanceMethod yX0_holdsBy, Cond.code yX0_holdsBy cX0_holdsBy 2 (some .int), Cond.methodLink RX0 7 yX1_holdsBy, Cond.sameMethod "OneNail$Door" "OneNail$Door" "holdsBy" "(I)I", Cond.superclass RX0 RX1, Cond.instanceMethod yX1_holdsBy, Cond.code yX1_holdsBy cX1_holdsBy 3 (some .int), Cond.methodLink RX1 7 yX6_holdsBy, Cond.superclass RX1 RX6, Cond.instanceMethod yX6_holdsBy, Cond.code yX6_holdsBy cX6_holdsBy 2 (some .int)]
def wsX9_ofThing_r3 : List Cond := [Cond.fieldLink RX6 19 "OneNail$Thing" "hold" "I", Cond.methodLink RX6 25 Lib.Math.max.name, Cond.static Lib.Math.max.name, Cond.initialized "java/lang/Math", Cond.code Lib.Math.max.name Lib.Math.max.code 2 (some .int), Cond.selects RX1 ⟨"OneNail$Thing", "holdsBy", "(I)I"⟩ yX1_holdsBy, Cond.methodLink RX9 111 yX6_holdsBy, Cond.selects RX6 yX6_holdsBy yX6_holdsBy]
def wsX9_ofThing : List Cond := .code yX9_ofThing cX9_ofThing 4 (some .int) :: ((wsX9_ofThing_r1 ++ (wsX9_ofThing_r2 ++ wsX9_ofThing_r3)) ++ wsX90 ++ wsX00 ++ wsX10 ++ wsX60 ++ wsX50)
def wsX9_smithy : List Cond := .code yX9_smithy cX9_smithy 3 (some .int) :: ([.fieldLink RX9 12 "OneNail" "town" "LOneNail$Street;", .fieldLink RX9 83 "OneNail$Street" "count" "I", .fieldLink RX9 115 "OneNail$Street" "smithyPlace" "I"] ++ wsX90 ++ wsX50)
def wsX9_rust_r1 : List Cond := [Cond.fieldLink RX9 12 "OneNail" "town" "LOneNail$Street;", Cond.fieldLink RX9 83 "OneNail$Street" "count" "I", Cond.fieldLink RX9 108 "OneNail$Street" "rusted" "I", Cond.methodLink RX9 118 yX5_becomeRusty, Cond.instanceMethod yX5_becomeRusty, Cond.selects RX5 yX5_becomeRusty yX5_becomeRusty, Cond.initialized RX5, Cond.code yX5_becomeRusty cX5_becomeRusty 4 none, Cond.fieldLink RX5 18 "OneNail$Street" "rusted" "I", Cond.fieldLink RX5 9 "OneNail$Street" "count" "I", Cond.fieldLink RX5 23 "OneNail$Street" "things" "[LOneNail$Thing;", Cond.fieldLink RX5 37 "OneNail$Street" "holds" "[I", Cond.methodLink RX5 49 ⟨"OneNail$Thing", "holdsBy", "(I)I"⟩, Cond.sameMethod "OneNail$Thing" "OneNail$Thing" "holdsBy" "(I)I", Cond.instanceMethod ⟨"OneNail$Thing", "holdsBy", "(I)I"⟩, Cond.selects RX0 ⟨"OneNail$Thing", "holdsBy", "(I)I"⟩ yX0_holdsBy, Cond.instanceMethod yX0_holdsBy, Cond.initialized RX0, Cond.code yX0_holdsBy cX0_holdsBy 2 (some .int), Cond.methodLink RX0 7 yX1_holdsBy, Cond.sameMethod "OneNail$Door" "OneNail$Door" "holdsBy" "(I)I", Cond.superclass RX0 RX1, Cond.instanceMethod yX1_holdsBy, Cond.initialized RX1]
def wsX9_rust_r2 : List Cond := [Cond.code yX1_holdsBy cX1_holdsBy 3 (some .int), Cond.methodLink RX1 7 yX6_holdsBy, Cond.superclass RX1 RX6, Cond.instanceMethod yX6_holdsBy, Cond.initialized RX6, Cond.code yX6_holdsBy cX6_holdsBy 2 (some .int), Cond.fieldLink RX6 19 "OneNail$Thing" "hold" "I", Cond.methodLink RX6 25 Lib.Math.max.name, Cond.static Lib.Math.max.name, Cond.initialized "java/lang/Math", Cond.code Lib.Math.max.name Lib.Math.max.code 2 (some .int), Cond.selects RX1 ⟨"OneNail$Thing", "holdsBy", "(I)I"⟩ yX1_holdsBy, Cond.methodLink RX5 49 yX6_holdsBy, Cond.selects RX6 yX6_holdsBy yX6_holdsBy]
def wsX9_rust : List Cond := .code yX9_rust cX9_rust 3 (some .int) :: ((wsX9_rust_r1 ++ wsX9_rust_r2) ++ wsX90 ++ wsX50 ++ wsX00 ++ wsX10 ++ wsX60)
def wsX9_isSpan : List Cond := .code yX9_isSpan cX9_isSpan 1 (some .boolean) :: ([])
def wsX9_refuseRound_r1 : List Cond := [Cond.fieldLink RX9 12 "OneNail" "town" "LOneNail$Street;", Cond.fieldLink RX9 83 "OneNail$Street" "count" "I", Cond.fieldLink RX9 30 "OneNail" "walk" "LOneNail$Walk;", Cond.methodLink RX9 67 yX9_refuseCells, Cond.instanceMethod yX9_refuseCells, Cond.selects RX9 yX9_refuseCells yX9_refuseCells, Cond.initialized RX9, Cond.code yX9_refuseCells cX9_refuseCells 8 (some .int), Cond.fieldLink RX9 58 "OneNail" "lastFault" "I", Cond.methodLink RX9 71 yX9_sheetAt, Cond.instanceMethod yX9_sheetAt, Cond.selects RX9 yX9_sheetAt yX9_sheetAt, Cond.code yX9_sheetAt cX9_sheetAt 2 (some (.object "OneNail$Sheet")), Cond.fieldLink RX9 43 "OneNail" "sheets" "[LOneNail$Sheet;", Cond.methodLink RX9 207 yX9_refuseLane, Cond.instanceMethod yX9_refuseLane, Cond.selects RX9 yX9_refuseLane yX9_refuseLane, Cond.code yX9_refuseLane cX9_refuseLane 3 (some .int), Cond.fieldLink RX9 216 "OneNail$Sheet" "lane" "I", Cond.methodLink RX9 195 yX4_isNothing, Cond.instanceMethod yX4_isNothing, Cond.selects RX4 yX4_isNothing yX4_isNothing, Cond.initialized RX4, Cond.code yX4_isNothing cX4_isNothing 1 (some .boolean)]
def wsX9_refuseRound_r2 : List Cond := [Cond.fieldLink RX4 11 "OneNail$Sheet" "lane" "I", Cond.methodLink RX9 188 yX9_failBy, Cond.instanceMethod yX9_failBy, Cond.selects RX9 yX9_failBy yX9_failBy, Cond.code yX9_failBy cX9_failBy 2 (some .int), Cond.methodLink RX9 219 yX4_spans, Cond.instanceMethod yX4_spans, Cond.selects RX4 yX4_spans yX4_spans, Cond.code yX4_spans cX4_spans 3 (some .boolean), Cond.fieldLink RX4 15 "OneNail$Sheet" "length" "I", Cond.methodLink RX9 213 yX4_read, Cond.instanceMethod yX4_read, Cond.selects RX4 yX4_read yX4_read, Cond.code yX4_read cX4_read 2 (some .int), Cond.fieldLink RX4 18 "OneNail$Sheet" "cells" "[I", Cond.methodLink RX4 31 yX4_hasCell, Cond.instanceMethod yX4_hasCell, Cond.selects RX4 yX4_hasCell yX4_hasCell, Cond.code yX4_hasCell cX4_hasCell 2 (some .boolean), Cond.methodLink RX9 176 yX5_has, Cond.instanceMethod yX5_has, Cond.selects RX5 yX5_has yX5_has, Cond.initialized RX5, Cond.code yX5_has cX5_has 2 (some .boolean)]
def wsX9_refuseRound_r3 : List Cond := [Cond.fieldLink RX5 9 "OneNail$Street" "count" "I", Cond.methodLink RX9 242 yX8_layRound, Cond.instanceMethod yX8_layRound, Cond.selects RX8 yX8_layRound yX8_layRound, Cond.initialized RX8, Cond.code yX8_layRound cX8_layRound 5 none, Cond.methodLink RX8 44 Lib.Math.min.name, Cond.static Lib.Math.min.name, Cond.initialized "java/lang/Math", Cond.code Lib.Math.min.name Lib.Math.min.code 2 (some .int), Cond.fieldLink RX8 15 "OneNail$Walk" "length" "I", Cond.fieldLink RX8 9 "OneNail$Walk" "round" "[I", Cond.methodLink RX8 50 yX4_read]
def wsX9_refuseRound : List Cond := .code yX9_refuseRound cX9_refuseRound 9 (some .int) :: ((wsX9_refuseRound_r1 ++ (wsX9_refuseRound_r2 ++ wsX9_refuseRound_r3)) ++ wsX90 ++ wsX50 ++ wsX40 ++ wsX80)
def wsX9_harm_r1 : List Cond := [Cond.fieldLink RX9 30 "OneNail" "walk" "LOneNail$Walk;", Cond.methodLink RX9 63 yX9_isLane, Cond.static yX9_isLane, Cond.initialized RX9, Cond.code yX9_isLane cX9_isLane 1 (some .boolean), Cond.methodLink RX9 122 yX9_isSpan, Cond.static yX9_isSpan, Cond.code yX9_isSpan cX9_isSpan 1 (some .boolean), Cond.methodLink RX9 125 yX9_refuseRound, Cond.instanceMethod yX9_refuseRound, Cond.selects RX9 yX9_refuseRound yX9_refuseRound, Cond.code yX9_refuseRound cX9_refuseRound 9 (some .int), Cond.fieldLink RX9 12 "OneNail" "town" "LOneNail$Street;", Cond.fieldLink RX9 83 "OneNail$Street" "count" "I", Cond.methodLink RX9 67 yX9_refuseCells, Cond.instanceMethod yX9_refuseCells, Cond.selects RX9 yX9_refuseCells yX9_refuseCells, Cond.code yX9_refuseCells cX9_refuseCells 8 (some .int), Cond.fieldLink RX9 58 "OneNail" "lastFault" "I", Cond.methodLink RX9 71 yX9_sheetAt, Cond.instanceMethod yX9_sheetAt, Cond.selects RX9 yX9_sheetAt yX9_sheetAt, Cond.code yX9_sheetAt cX9_sheetAt 2 (some (.object "OneNail$Sheet")), Cond.fieldLink RX9 43 "OneNail" "sheets" "[LOneNail$Sheet;"]
def wsX9_harm_r2 : List Cond := [Cond.methodLink RX9 207 yX9_refuseLane, Cond.instanceMethod yX9_refuseLane, Cond.selects RX9 yX9_refuseLane yX9_refuseLane, Cond.code yX9_refuseLane cX9_refuseLane 3 (some .int), Cond.fieldLink RX9 216 "OneNail$Sheet" "lane" "I", Cond.methodLink RX9 195 yX4_isNothing, Cond.instanceMethod yX4_isNothing, Cond.selects RX4 yX4_isNothing yX4_isNothing, Cond.initialized RX4, Cond.code yX4_isNothing cX4_isNothing 1 (some .boolean), Cond.fieldLink RX4 11 "OneNail$Sheet" "lane" "I", Cond.methodLink RX9 188 yX9_failBy, Cond.instanceMethod yX9_failBy, Cond.selects RX9 yX9_failBy yX9_failBy, Cond.code yX9_failBy cX9_failBy 2 (some .int), Cond.methodLink RX9 219 yX4_spans, Cond.instanceMethod yX4_spans, Cond.selects RX4 yX4_spans yX4_spans, Cond.code yX4_spans cX4_spans 3 (some .boolean), Cond.fieldLink RX4 15 "OneNail$Sheet" "length" "I", Cond.methodLink RX9 213 yX4_read, Cond.instanceMethod yX4_read, Cond.selects RX4 yX4_read yX4_read, Cond.code yX4_read cX4_read 2 (some .int)]
def wsX9_harm_r3 : List Cond := [Cond.fieldLink RX4 18 "OneNail$Sheet" "cells" "[I", Cond.methodLink RX4 31 yX4_hasCell, Cond.instanceMethod yX4_hasCell, Cond.selects RX4 yX4_hasCell yX4_hasCell, Cond.code yX4_hasCell cX4_hasCell 2 (some .boolean), Cond.methodLink RX9 176 yX5_has, Cond.instanceMethod yX5_has, Cond.selects RX5 yX5_has yX5_has, Cond.initialized RX5, Cond.code yX5_has cX5_has 2 (some .boolean), Cond.fieldLink RX5 9 "OneNail$Street" "count" "I", Cond.methodLink RX9 242 yX8_layRound, Cond.instanceMethod yX8_layRound, Cond.selects RX8 yX8_layRound yX8_layRound, Cond.initialized RX8, Cond.code yX8_layRound cX8_layRound 5 none, Cond.methodLink RX8 44 Lib.Math.min.name, Cond.static Lib.Math.min.name, Cond.initialized "java/lang/Math", Cond.code Lib.Math.min.name Lib.Math.min.code 2 (some .int), Cond.fieldLink RX8 15 "OneNail$Walk" "length" "I", Cond.fieldLink RX8 9 "OneNail$Walk" "round" "[I", Cond.methodLink RX8 50 yX4_read, Cond.methodLink RX9 128 yX8_markFalls]
def wsX9_harm_r4 : List Cond := [Cond.instanceMethod yX8_markFalls, Cond.selects RX8 yX8_markFalls yX8_markFalls, Cond.code yX8_markFalls cX8_markFalls 2 none, Cond.fieldLink RX8 22 "OneNail$Walk" "fallen" "[I", Cond.fieldLink RX8 37 "OneNail$Walk" "comes" "I", Cond.fieldLink RX8 19 "OneNail$Walk" "until" "[I", Cond.fieldLink RX8 34 "OneNail$Walk" "thing" "I", Cond.fieldLink RX8 40 "OneNail$Walk" "town" "LOneNail$Street;", Cond.fieldLink RX8 61 "OneNail$Street" "count" "I", Cond.methodLink RX8 76 yX8_begin, Cond.instanceMethod yX8_begin, Cond.selects RX8 yX8_begin yX8_begin, Cond.code yX8_begin cX8_begin 2 none, Cond.fieldLink RX8 25 "OneNail$Walk" "spot" "I", Cond.fieldLink RX8 56 "OneNail$Street" "smithyPlace" "I", Cond.fieldLink RX8 28 "OneNail$Walk" "from" "I", Cond.fieldLink RX8 31 "OneNail$Walk" "leaves" "I", Cond.fieldLink RX8 64 "OneNail$Street" "holds" "[I", Cond.methodLink RX8 79 yX8_goOn, Cond.instanceMethod yX8_goOn, Cond.selects RX8 yX8_goOn yX8_goOn, Cond.code yX8_goOn cX8_goOn 1 none, Cond.fieldLink RX8 67 "OneNail$Street" "places" "[I", Cond.methodLink RX8 70 Lib.Math.abs.name]
def wsX9_harm_r5 : List Cond := [Cond.static Lib.Math.abs.name, Cond.code Lib.Math.abs.name Lib.Math.abs.code 1 (some .int), Cond.fieldLink RX8 73 "OneNail$Street" "stays" "[I", Cond.methodLink RX8 82 yX8_markFall, Cond.instanceMethod yX8_markFall, Cond.selects RX8 yX8_markFall yX8_markFall, Cond.code yX8_markFall cX8_markFall 3 none, Cond.methodLink RX8 86 yX8_nailed, Cond.instanceMethod yX8_nailed, Cond.selects RX8 yX8_nailed yX8_nailed, Cond.code yX8_nailed cX8_nailed 1 none, Cond.methodLink RX9 131 yX8_harmBelow, Cond.instanceMethod yX8_harmBelow, Cond.selects RX8 yX8_harmBelow yX8_harmBelow, Cond.code yX8_harmBelow cX8_harmBelow 5 (some .int), Cond.fieldLink RX8 89 "OneNail$Street" "harms" "[I"]
def wsX9_harm : List Cond := .code yX9_harm cX9_harm 7 (some .int) :: ((wsX9_harm_r1 ++ (wsX9_harm_r2 ++ (wsX9_harm_r3 ++ (wsX9_harm_r4 ++ wsX9_harm_r5)))) ++ wsX90 ++ wsX50 ++ wsX40 ++ wsX80)
def wsX9_never_r1 : List Cond := [Cond.fieldLink RX9 30 "OneNail" "walk" "LOneNail$Walk;", Cond.methodLink RX9 63 yX9_isLane, Cond.static yX9_isLane, Cond.initialized RX9, Cond.code yX9_isLane cX9_isLane 1 (some .boolean), Cond.methodLink RX9 125 yX9_refuseRound, Cond.instanceMethod yX9_refuseRound, Cond.selects RX9 yX9_refuseRound yX9_refuseRound, Cond.code yX9_refuseRound cX9_refuseRound 9 (some .int), Cond.fieldLink RX9 12 "OneNail" "town" "LOneNail$Street;", Cond.fieldLink RX9 83 "OneNail$Street" "count" "I", Cond.methodLink RX9 67 yX9_refuseCells, Cond.instanceMethod yX9_refuseCells, Cond.selects RX9 yX9_refuseCells yX9_refuseCells, Cond.code yX9_refuseCells cX9_refuseCells 8 (some .int), Cond.fieldLink RX9 58 "OneNail" "lastFault" "I", Cond.methodLink RX9 71 yX9_sheetAt, Cond.instanceMethod yX9_sheetAt, Cond.selects RX9 yX9_sheetAt yX9_sheetAt, Cond.code yX9_sheetAt cX9_sheetAt 2 (some (.object "OneNail$Sheet")), Cond.fieldLink RX9 43 "OneNail" "sheets" "[LOneNail$Sheet;", Cond.methodLink RX9 207 yX9_refuseLane, Cond.instanceMethod yX9_refuseLane, Cond.selects RX9 yX9_refuseLane yX9_refuseLane]
def wsX9_never_r2 : List Cond := [Cond.code yX9_refuseLane cX9_refuseLane 3 (some .int), Cond.fieldLink RX9 216 "OneNail$Sheet" "lane" "I", Cond.methodLink RX9 195 yX4_isNothing, Cond.instanceMethod yX4_isNothing, Cond.selects RX4 yX4_isNothing yX4_isNothing, Cond.initialized RX4, Cond.code yX4_isNothing cX4_isNothing 1 (some .boolean), Cond.fieldLink RX4 11 "OneNail$Sheet" "lane" "I", Cond.methodLink RX9 188 yX9_failBy, Cond.instanceMethod yX9_failBy, Cond.selects RX9 yX9_failBy yX9_failBy, Cond.code yX9_failBy cX9_failBy 2 (some .int), Cond.methodLink RX9 219 yX4_spans, Cond.instanceMethod yX4_spans, Cond.selects RX4 yX4_spans yX4_spans, Cond.code yX4_spans cX4_spans 3 (some .boolean), Cond.fieldLink RX4 15 "OneNail$Sheet" "length" "I", Cond.methodLink RX9 213 yX4_read, Cond.instanceMethod yX4_read, Cond.selects RX4 yX4_read yX4_read, Cond.code yX4_read cX4_read 2 (some .int), Cond.fieldLink RX4 18 "OneNail$Sheet" "cells" "[I", Cond.methodLink RX4 31 yX4_hasCell, Cond.instanceMethod yX4_hasCell]
def wsX9_never_r3 : List Cond := [Cond.selects RX4 yX4_hasCell yX4_hasCell, Cond.code yX4_hasCell cX4_hasCell 2 (some .boolean), Cond.methodLink RX9 176 yX5_has, Cond.instanceMethod yX5_has, Cond.selects RX5 yX5_has yX5_has, Cond.initialized RX5, Cond.code yX5_has cX5_has 2 (some .boolean), Cond.fieldLink RX5 9 "OneNail$Street" "count" "I", Cond.methodLink RX9 242 yX8_layRound, Cond.instanceMethod yX8_layRound, Cond.selects RX8 yX8_layRound yX8_layRound, Cond.initialized RX8, Cond.code yX8_layRound cX8_layRound 5 none, Cond.methodLink RX8 44 Lib.Math.min.name, Cond.static Lib.Math.min.name, Cond.initialized "java/lang/Math", Cond.code Lib.Math.min.name Lib.Math.min.code 2 (some .int), Cond.fieldLink RX8 15 "OneNail$Walk" "length" "I", Cond.fieldLink RX8 9 "OneNail$Walk" "round" "[I", Cond.methodLink RX8 50 yX4_read, Cond.methodLink RX9 134 yX8_nothingEverFalls, Cond.instanceMethod yX8_nothingEverFalls, Cond.selects RX8 yX8_nothingEverFalls yX8_nothingEverFalls, Cond.code yX8_nothingEverFalls cX8_nothingEverFalls 3 (some .boolean)]
def wsX9_never_r4 : List Cond := [Cond.fieldLink RX8 19 "OneNail$Walk" "until" "[I", Cond.fieldLink RX8 34 "OneNail$Walk" "thing" "I", Cond.fieldLink RX8 37 "OneNail$Walk" "comes" "I", Cond.fieldLink RX8 40 "OneNail$Walk" "town" "LOneNail$Street;", Cond.methodLink RX8 76 yX8_begin, Cond.instanceMethod yX8_begin, Cond.selects RX8 yX8_begin yX8_begin, Cond.code yX8_begin cX8_begin 2 none, Cond.fieldLink RX8 25 "OneNail$Walk" "spot" "I", Cond.fieldLink RX8 56 "OneNail$Street" "smithyPlace" "I", Cond.fieldLink RX8 28 "OneNail$Walk" "from" "I", Cond.fieldLink RX8 31 "OneNail$Walk" "leaves" "I", Cond.fieldLink RX8 61 "OneNail$Street" "count" "I", Cond.fieldLink RX8 64 "OneNail$Street" "holds" "[I", Cond.methodLink RX8 79 yX8_goOn, Cond.instanceMethod yX8_goOn, Cond.selects RX8 yX8_goOn yX8_goOn, Cond.code yX8_goOn cX8_goOn 1 none, Cond.fieldLink RX8 67 "OneNail$Street" "places" "[I", Cond.methodLink RX8 70 Lib.Math.abs.name, Cond.static Lib.Math.abs.name, Cond.code Lib.Math.abs.name Lib.Math.abs.code 1 (some .int), Cond.fieldLink RX8 73 "OneNail$Street" "stays" "[I", Cond.methodLink RX8 86 yX8_nailed]
def wsX9_never_r5 : List Cond := [Cond.instanceMethod yX8_nailed, Cond.selects RX8 yX8_nailed yX8_nailed, Cond.code yX8_nailed cX8_nailed 1 none, Cond.methodLink RX8 97 yX5_all, Cond.instanceMethod yX5_all, Cond.selects RX5 yX5_all yX5_all, Cond.code yX5_all cX5_all 1 (some .int)]
def wsX9_never : List Cond := .code yX9_never cX9_never 6 (some .int) :: ((wsX9_never_r1 ++ (wsX9_never_r2 ++ (wsX9_never_r3 ++ (wsX9_never_r4 ++ wsX9_never_r5)))) ++ wsX90 ++ wsX50 ++ wsX40 ++ wsX80)
def wsX9_fall_r1 : List Cond := [Cond.fieldLink RX9 30 "OneNail" "walk" "LOneNail$Walk;", Cond.methodLink RX9 63 yX9_isLane, Cond.static yX9_isLane, Cond.initialized RX9, Cond.code yX9_isLane cX9_isLane 1 (some .boolean), Cond.methodLink RX9 125 yX9_refuseRound, Cond.instanceMethod yX9_refuseRound, Cond.selects RX9 yX9_refuseRound yX9_refuseRound, Cond.code yX9_refuseRound cX9_refuseRound 9 (some .int), Cond.fieldLink RX9 12 "OneNail" "town" "LOneNail$Street;", Cond.fieldLink RX9 83 "OneNail$Street" "count" "I", Cond.methodLink RX9 67 yX9_refuseCells, Cond.instanceMethod yX9_refuseCells, Cond.selects RX9 yX9_refuseCells yX9_refuseCells, Cond.code yX9_refuseCells cX9_refuseCells 8 (some .int), Cond.fieldLink RX9 58 "OneNail" "lastFault" "I", Cond.methodLink RX9 71 yX9_sheetAt, Cond.instanceMethod yX9_sheetAt, Cond.selects RX9 yX9_sheetAt yX9_sheetAt, Cond.code yX9_sheetAt cX9_sheetAt 2 (some (.object "OneNail$Sheet")), Cond.fieldLink RX9 43 "OneNail" "sheets" "[LOneNail$Sheet;", Cond.methodLink RX9 207 yX9_refuseLane, Cond.instanceMethod yX9_refuseLane, Cond.selects RX9 yX9_refuseLane yX9_refuseLane]
def wsX9_fall_r2 : List Cond := [Cond.code yX9_refuseLane cX9_refuseLane 3 (some .int), Cond.fieldLink RX9 216 "OneNail$Sheet" "lane" "I", Cond.methodLink RX9 195 yX4_isNothing, Cond.instanceMethod yX4_isNothing, Cond.selects RX4 yX4_isNothing yX4_isNothing, Cond.initialized RX4, Cond.code yX4_isNothing cX4_isNothing 1 (some .boolean), Cond.fieldLink RX4 11 "OneNail$Sheet" "lane" "I", Cond.methodLink RX9 188 yX9_failBy, Cond.instanceMethod yX9_failBy, Cond.selects RX9 yX9_failBy yX9_failBy, Cond.code yX9_failBy cX9_failBy 2 (some .int), Cond.methodLink RX9 219 yX4_spans, Cond.instanceMethod yX4_spans, Cond.selects RX4 yX4_spans yX4_spans, Cond.code yX4_spans cX4_spans 3 (some .boolean), Cond.fieldLink RX4 15 "OneNail$Sheet" "length" "I", Cond.methodLink RX9 213 yX4_read, Cond.instanceMethod yX4_read, Cond.selects RX4 yX4_read yX4_read, Cond.code yX4_read cX4_read 2 (some .int), Cond.fieldLink RX4 18 "OneNail$Sheet" "cells" "[I", Cond.methodLink RX4 31 yX4_hasCell, Cond.instanceMethod yX4_hasCell]
def wsX9_fall_r3 : List Cond := [Cond.selects RX4 yX4_hasCell yX4_hasCell, Cond.code yX4_hasCell cX4_hasCell 2 (some .boolean), Cond.methodLink RX9 176 yX5_has, Cond.instanceMethod yX5_has, Cond.selects RX5 yX5_has yX5_has, Cond.initialized RX5, Cond.code yX5_has cX5_has 2 (some .boolean), Cond.fieldLink RX5 9 "OneNail$Street" "count" "I", Cond.methodLink RX9 242 yX8_layRound, Cond.instanceMethod yX8_layRound, Cond.selects RX8 yX8_layRound yX8_layRound, Cond.initialized RX8, Cond.code yX8_layRound cX8_layRound 5 none, Cond.methodLink RX8 44 Lib.Math.min.name, Cond.static Lib.Math.min.name, Cond.initialized "java/lang/Math", Cond.code Lib.Math.min.name Lib.Math.min.code 2 (some .int), Cond.fieldLink RX8 15 "OneNail$Walk" "length" "I", Cond.fieldLink RX8 9 "OneNail$Walk" "round" "[I", Cond.methodLink RX8 50 yX4_read, Cond.methodLink RX9 128 yX8_markFalls, Cond.instanceMethod yX8_markFalls, Cond.selects RX8 yX8_markFalls yX8_markFalls, Cond.code yX8_markFalls cX8_markFalls 2 none]
def wsX9_fall_r4 : List Cond := [Cond.fieldLink RX8 22 "OneNail$Walk" "fallen" "[I", Cond.fieldLink RX8 37 "OneNail$Walk" "comes" "I", Cond.fieldLink RX8 19 "OneNail$Walk" "until" "[I", Cond.fieldLink RX8 34 "OneNail$Walk" "thing" "I", Cond.fieldLink RX8 40 "OneNail$Walk" "town" "LOneNail$Street;", Cond.fieldLink RX8 61 "OneNail$Street" "count" "I", Cond.methodLink RX8 76 yX8_begin, Cond.instanceMethod yX8_begin, Cond.selects RX8 yX8_begin yX8_begin, Cond.code yX8_begin cX8_begin 2 none, Cond.fieldLink RX8 25 "OneNail$Walk" "spot" "I", Cond.fieldLink RX8 56 "OneNail$Street" "smithyPlace" "I", Cond.fieldLink RX8 28 "OneNail$Walk" "from" "I", Cond.fieldLink RX8 31 "OneNail$Walk" "leaves" "I", Cond.fieldLink RX8 64 "OneNail$Street" "holds" "[I", Cond.methodLink RX8 79 yX8_goOn, Cond.instanceMethod yX8_goOn, Cond.selects RX8 yX8_goOn yX8_goOn, Cond.code yX8_goOn cX8_goOn 1 none, Cond.fieldLink RX8 67 "OneNail$Street" "places" "[I", Cond.methodLink RX8 70 Lib.Math.abs.name, Cond.static Lib.Math.abs.name, Cond.code Lib.Math.abs.name Lib.Math.abs.code 1 (some .int), Cond.fieldLink RX8 73 "OneNail$Street" "stays" "[I"]
def wsX9_fall_r5 : List Cond := [Cond.methodLink RX8 82 yX8_markFall, Cond.instanceMethod yX8_markFall, Cond.selects RX8 yX8_markFall yX8_markFall, Cond.code yX8_markFall cX8_markFall 3 none, Cond.methodLink RX8 86 yX8_nailed, Cond.instanceMethod yX8_nailed, Cond.selects RX8 yX8_nailed yX8_nailed, Cond.code yX8_nailed cX8_nailed 1 none, Cond.methodLink RX9 138 yX8_countFalls, Cond.instanceMethod yX8_countFalls, Cond.selects RX8 yX8_countFalls yX8_countFalls, Cond.code yX8_countFalls cX8_countFalls 3 (some .int), Cond.methodLink RX8 92 yJ6_bitCount_0f7a4, Cond.static yJ6_bitCount_0f7a4, Cond.initialized RJ6, Cond.code yJ6_bitCount_0f7a4 cJ6_bitCount_0f7a4 1 (some .int), Cond.constant RJ6 265 (1431655765), Cond.constant RJ6 266 (858993459), Cond.constant RJ6 267 (252645135), Cond.methodLink RX9 141 yX8_fallNumber, Cond.instanceMethod yX8_fallNumber, Cond.selects RX8 yX8_fallNumber yX8_fallNumber, Cond.code yX8_fallNumber cX8_fallNumber 5 (some .int)]
def wsX9_fall : List Cond := .code yX9_fall cX9_fall 7 (some .int) :: ((wsX9_fall_r1 ++ (wsX9_fall_r2 ++ (wsX9_fall_r3 ++ (wsX9_fall_r4 ++ wsX9_fall_r5)))) ++ wsX90 ++ wsX50 ++ wsX40 ++ wsX80)
def wsX9_isMinute : List Cond := .code yX9_isMinute cX9_isMinute 1 (some .boolean) :: ([])
def wsX9_nail_r1 : List Cond := [Cond.fieldLink RX9 30 "OneNail" "walk" "LOneNail$Walk;", Cond.methodLink RX9 63 yX9_isLane, Cond.static yX9_isLane, Cond.initialized RX9, Cond.code yX9_isLane cX9_isLane 1 (some .boolean), Cond.methodLink RX9 144 yX9_isMinute, Cond.static yX9_isMinute, Cond.code yX9_isMinute cX9_isMinute 1 (some .boolean), Cond.methodLink RX9 125 yX9_refuseRound, Cond.instanceMethod yX9_refuseRound, Cond.selects RX9 yX9_refuseRound yX9_refuseRound, Cond.code yX9_refuseRound cX9_refuseRound 9 (some .int), Cond.fieldLink RX9 12 "OneNail" "town" "LOneNail$Street;", Cond.fieldLink RX9 83 "OneNail$Street" "count" "I", Cond.methodLink RX9 67 yX9_refuseCells, Cond.instanceMethod yX9_refuseCells, Cond.selects RX9 yX9_refuseCells yX9_refuseCells, Cond.code yX9_refuseCells cX9_refuseCells 8 (some .int), Cond.fieldLink RX9 58 "OneNail" "lastFault" "I", Cond.methodLink RX9 71 yX9_sheetAt, Cond.instanceMethod yX9_sheetAt, Cond.selects RX9 yX9_sheetAt yX9_sheetAt, Cond.code yX9_sheetAt cX9_sheetAt 2 (some (.object "OneNail$Sheet")), Cond.fieldLink RX9 43 "OneNail" "sheets" "[LOneNail$Sheet;"]
def wsX9_nail_r2 : List Cond := [Cond.methodLink RX9 207 yX9_refuseLane, Cond.instanceMethod yX9_refuseLane, Cond.selects RX9 yX9_refuseLane yX9_refuseLane, Cond.code yX9_refuseLane cX9_refuseLane 3 (some .int), Cond.fieldLink RX9 216 "OneNail$Sheet" "lane" "I", Cond.methodLink RX9 195 yX4_isNothing, Cond.instanceMethod yX4_isNothing, Cond.selects RX4 yX4_isNothing yX4_isNothing, Cond.initialized RX4, Cond.code yX4_isNothing cX4_isNothing 1 (some .boolean), Cond.fieldLink RX4 11 "OneNail$Sheet" "lane" "I", Cond.methodLink RX9 188 yX9_failBy, Cond.instanceMethod yX9_failBy, Cond.selects RX9 yX9_failBy yX9_failBy, Cond.code yX9_failBy cX9_failBy 2 (some .int), Cond.methodLink RX9 219 yX4_spans, Cond.instanceMethod yX4_spans, Cond.selects RX4 yX4_spans yX4_spans, Cond.code yX4_spans cX4_spans 3 (some .boolean), Cond.fieldLink RX4 15 "OneNail$Sheet" "length" "I", Cond.methodLink RX9 213 yX4_read, Cond.instanceMethod yX4_read, Cond.selects RX4 yX4_read yX4_read, Cond.code yX4_read cX4_read 2 (some .int)]
def wsX9_nail_r3 : List Cond := [Cond.fieldLink RX4 18 "OneNail$Sheet" "cells" "[I", Cond.methodLink RX4 31 yX4_hasCell, Cond.instanceMethod yX4_hasCell, Cond.selects RX4 yX4_hasCell yX4_hasCell, Cond.code yX4_hasCell cX4_hasCell 2 (some .boolean), Cond.methodLink RX9 176 yX5_has, Cond.instanceMethod yX5_has, Cond.selects RX5 yX5_has yX5_has, Cond.initialized RX5, Cond.code yX5_has cX5_has 2 (some .boolean), Cond.fieldLink RX5 9 "OneNail$Street" "count" "I", Cond.methodLink RX9 242 yX8_layRound, Cond.instanceMethod yX8_layRound, Cond.selects RX8 yX8_layRound yX8_layRound, Cond.initialized RX8, Cond.code yX8_layRound cX8_layRound 5 none, Cond.methodLink RX8 44 Lib.Math.min.name, Cond.static Lib.Math.min.name, Cond.initialized "java/lang/Math", Cond.code Lib.Math.min.name Lib.Math.min.code 2 (some .int), Cond.fieldLink RX8 15 "OneNail$Walk" "length" "I", Cond.fieldLink RX8 9 "OneNail$Walk" "round" "[I", Cond.methodLink RX8 50 yX4_read, Cond.methodLink RX9 147 yX8_whereAt]
def wsX9_nail_r4 : List Cond := [Cond.instanceMethod yX8_whereAt, Cond.selects RX8 yX8_whereAt yX8_whereAt, Cond.code yX8_whereAt cX8_whereAt 3 (some .int), Cond.fieldLink RX8 37 "OneNail$Walk" "comes" "I", Cond.fieldLink RX8 31 "OneNail$Walk" "leaves" "I", Cond.fieldLink RX8 34 "OneNail$Walk" "thing" "I", Cond.methodLink RX8 76 yX8_begin, Cond.instanceMethod yX8_begin, Cond.selects RX8 yX8_begin yX8_begin, Cond.code yX8_begin cX8_begin 2 none, Cond.fieldLink RX8 25 "OneNail$Walk" "spot" "I", Cond.fieldLink RX8 40 "OneNail$Walk" "town" "LOneNail$Street;", Cond.fieldLink RX8 56 "OneNail$Street" "smithyPlace" "I", Cond.fieldLink RX8 28 "OneNail$Walk" "from" "I", Cond.fieldLink RX8 61 "OneNail$Street" "count" "I", Cond.fieldLink RX8 19 "OneNail$Walk" "until" "[I", Cond.fieldLink RX8 64 "OneNail$Street" "holds" "[I", Cond.methodLink RX8 79 yX8_goOn, Cond.instanceMethod yX8_goOn, Cond.selects RX8 yX8_goOn yX8_goOn, Cond.code yX8_goOn cX8_goOn 1 none, Cond.fieldLink RX8 67 "OneNail$Street" "places" "[I", Cond.methodLink RX8 70 Lib.Math.abs.name, Cond.static Lib.Math.abs.name]
def wsX9_nail_r5 : List Cond := [Cond.code Lib.Math.abs.name Lib.Math.abs.code 1 (some .int), Cond.fieldLink RX8 73 "OneNail$Street" "stays" "[I"]
def wsX9_nail : List Cond := .code yX9_nail cX9_nail 7 (some .int) :: ((wsX9_nail_r1 ++ (wsX9_nail_r2 ++ (wsX9_nail_r3 ++ (wsX9_nail_r4 ++ wsX9_nail_r5)))) ++ wsX90 ++ wsX50 ++ wsX40 ++ wsX80)
def wsX9_best_r1 : List Cond := [Cond.fieldLink RX9 12 "OneNail" "town" "LOneNail$Street;", Cond.fieldLink RX9 83 "OneNail$Street" "count" "I", Cond.fieldLink RX9 37 "OneNail" "orders" "LOneNail$Orders;", Cond.fieldLink RX9 115 "OneNail$Street" "smithyPlace" "I", Cond.methodLink RX9 122 yX9_isSpan, Cond.static yX9_isSpan, Cond.initialized RX9, Cond.code yX9_isSpan cX9_isSpan 1 (some .boolean), Cond.methodLink RX9 150 yX5_all, Cond.instanceMethod yX5_all, Cond.selects RX5 yX5_all yX5_all, Cond.initialized RX5, Cond.code yX5_all cX5_all 1 (some .int), Cond.fieldLink RX5 9 "OneNail$Street" "count" "I", Cond.methodLink RX9 153 yX2_leastHarm, Cond.instanceMethod yX2_leastHarm, Cond.selects RX2 yX2_leastHarm yX2_leastHarm, Cond.initialized RX2, Cond.code yX2_leastHarm cX2_leastHarm 8 (some .int), Cond.constant RX2 38 (2147483647), Cond.methodLink RX2 32 yX2_begin, Cond.instanceMethod yX2_begin, Cond.selects RX2 yX2_begin yX2_begin, Cond.code yX2_begin cX2_begin 3 (some .int)]
def wsX9_best_r2 : List Cond := [Cond.fieldLink RX2 15 "OneNail$Orders" "length" "I", Cond.fieldLink RX2 28 "OneNail$Orders" "town" "LOneNail$Street;", Cond.fieldLink RX2 66 "OneNail$Street" "count" "I", Cond.fieldLink RX2 9 "OneNail$Orders" "row" "[I", Cond.fieldLink RX2 69 "OneNail$Orders" "ORDERS_OF" "[I", Cond.methodLink RX2 39 yX2_time, Cond.instanceMethod yX2_time, Cond.selects RX2 yX2_time yX2_time, Cond.code yX2_time cX2_time 6 none, Cond.fieldLink RX2 22 "OneNail$Orders" "period" "I", Cond.fieldLink RX2 76 "OneNail$Street" "places" "[I", Cond.methodLink RX2 79 Lib.Math.abs.name, Cond.static Lib.Math.abs.name, Cond.initialized "java/lang/Math", Cond.code Lib.Math.abs.name Lib.Math.abs.code 1 (some .int), Cond.fieldLink RX2 19 "OneNail$Orders" "comes" "[I", Cond.fieldLink RX2 84 "OneNail$Street" "stays" "[I", Cond.methodLink RX2 43 yX2_harmBelow, Cond.instanceMethod yX2_harmBelow, Cond.selects RX2 yX2_harmBelow yX2_harmBelow, Cond.code yX2_harmBelow cX2_harmBelow 5 (some .int), Cond.fieldLink RX2 90 "OneNail$Street" "harms" "[I", Cond.methodLink RX2 87 yX2_fallsBelow, Cond.instanceMethod yX2_fallsBelow]
def wsX9_best_r3 : List Cond := [Cond.selects RX2 yX2_fallsBelow yX2_fallsBelow, Cond.code yX2_fallsBelow cX2_fallsBelow 7 (some .int), Cond.fieldLink RX2 93 "OneNail$Street" "holds" "[I", Cond.methodLink RX2 47 yX2_keep, Cond.instanceMethod yX2_keep, Cond.selects RX2 yX2_keep yX2_keep, Cond.code yX2_keep cX2_keep 2 none, Cond.fieldLink RX2 25 "OneNail$Orders" "kept" "[I", Cond.methodLink RX2 50 yX2_goOn, Cond.instanceMethod yX2_goOn, Cond.selects RX2 yX2_goOn yX2_goOn, Cond.code yX2_goOn cX2_goOn 5 none, Cond.methodLink RX2 72 yX2_swap, Cond.instanceMethod yX2_swap, Cond.selects RX2 yX2_swap yX2_swap, Cond.code yX2_swap cX2_swap 4 none, Cond.methodLink RX9 157 yX2_keptAt, Cond.instanceMethod yX2_keptAt, Cond.selects RX2 yX2_keptAt yX2_keptAt, Cond.code yX2_keptAt cX2_keptAt 2 (some .int)]
def wsX9_best : List Cond := .code yX9_best cX9_best 4 (some .int) :: ((wsX9_best_r1 ++ (wsX9_best_r2 ++ wsX9_best_r3)) ++ wsX90 ++ wsX50 ++ wsX20)
def wsX9_safe_r1 : List Cond := [Cond.fieldLink RX9 12 "OneNail" "town" "LOneNail$Street;", Cond.fieldLink RX9 83 "OneNail$Street" "count" "I", Cond.fieldLink RX9 37 "OneNail" "orders" "LOneNail$Orders;", Cond.constant RX9 162 (2147483647), Cond.methodLink RX9 150 yX5_all, Cond.instanceMethod yX5_all, Cond.selects RX5 yX5_all yX5_all, Cond.initialized RX5, Cond.code yX5_all cX5_all 1 (some .int), Cond.fieldLink RX5 9 "OneNail$Street" "count" "I", Cond.methodLink RX9 163 yX2_countSafe, Cond.instanceMethod yX2_countSafe, Cond.selects RX2 yX2_countSafe yX2_countSafe, Cond.initialized RX2, Cond.code yX2_countSafe cX2_countSafe 6 (some .int), Cond.fieldLink RX2 28 "OneNail$Orders" "town" "LOneNail$Street;", Cond.fieldLink RX2 53 "OneNail$Street" "smithyPlace" "I", Cond.methodLink RX2 32 yX2_begin, Cond.instanceMethod yX2_begin, Cond.selects RX2 yX2_begin yX2_begin, Cond.code yX2_begin cX2_begin 3 (some .int), Cond.fieldLink RX2 15 "OneNail$Orders" "length" "I", Cond.fieldLink RX2 66 "OneNail$Street" "count" "I", Cond.fieldLink RX2 9 "OneNail$Orders" "row" "[I"]
def wsX9_safe_r2 : List Cond := [Cond.fieldLink RX2 69 "OneNail$Orders" "ORDERS_OF" "[I", Cond.methodLink RX2 39 yX2_time, Cond.instanceMethod yX2_time, Cond.selects RX2 yX2_time yX2_time, Cond.code yX2_time cX2_time 6 none, Cond.fieldLink RX2 22 "OneNail$Orders" "period" "I", Cond.fieldLink RX2 76 "OneNail$Street" "places" "[I", Cond.methodLink RX2 79 Lib.Math.abs.name, Cond.static Lib.Math.abs.name, Cond.initialized "java/lang/Math", Cond.code Lib.Math.abs.name Lib.Math.abs.code 1 (some .int), Cond.fieldLink RX2 19 "OneNail$Orders" "comes" "[I", Cond.fieldLink RX2 84 "OneNail$Street" "stays" "[I", Cond.methodLink RX2 58 yX2_nothingEverFalls, Cond.instanceMethod yX2_nothingEverFalls, Cond.selects RX2 yX2_nothingEverFalls yX2_nothingEverFalls, Cond.code yX2_nothingEverFalls cX2_nothingEverFalls 4 (some .boolean), Cond.fieldLink RX2 93 "OneNail$Street" "holds" "[I", Cond.methodLink RX2 50 yX2_goOn, Cond.instanceMethod yX2_goOn, Cond.selects RX2 yX2_goOn yX2_goOn, Cond.code yX2_goOn cX2_goOn 5 none, Cond.methodLink RX2 72 yX2_swap, Cond.instanceMethod yX2_swap]
def wsX9_safe_r3 : List Cond := [Cond.selects RX2 yX2_swap yX2_swap, Cond.code yX2_swap cX2_swap 4 none]
def wsX9_safe : List Cond := .code yX9_safe cX9_safe 1 (some .int) :: ((wsX9_safe_r1 ++ (wsX9_safe_r2 ++ wsX9_safe_r3)) ++ wsX90 ++ wsX50 ++ wsX20)
def wsX9_letGo_r1 : List Cond := [Cond.fieldLink RX9 12 "OneNail" "town" "LOneNail$Street;", Cond.fieldLink RX9 83 "OneNail$Street" "count" "I", Cond.fieldLink RX9 37 "OneNail" "orders" "LOneNail$Orders;", Cond.methodLink RX9 150 yX5_all, Cond.instanceMethod yX5_all, Cond.selects RX5 yX5_all yX5_all, Cond.initialized RX5, Cond.code yX5_all cX5_all 1 (some .int), Cond.fieldLink RX5 9 "OneNail$Street" "count" "I", Cond.methodLink RX9 167 yJ6_bitCount_0f7a4, Cond.static yJ6_bitCount_0f7a4, Cond.initialized RJ6, Cond.code yJ6_bitCount_0f7a4 cJ6_bitCount_0f7a4 1 (some .int), Cond.constant RJ6 265 (1431655765), Cond.constant RJ6 266 (858993459), Cond.constant RJ6 267 (252645135), Cond.methodLink RX9 163 yX2_countSafe, Cond.instanceMethod yX2_countSafe, Cond.selects RX2 yX2_countSafe yX2_countSafe, Cond.initialized RX2, Cond.code yX2_countSafe cX2_countSafe 6 (some .int), Cond.fieldLink RX2 28 "OneNail$Orders" "town" "LOneNail$Street;", Cond.fieldLink RX2 53 "OneNail$Street" "smithyPlace" "I", Cond.methodLink RX2 32 yX2_begin]
def wsX9_letGo_r2 : List Cond := [Cond.instanceMethod yX2_begin, Cond.selects RX2 yX2_begin yX2_begin, Cond.code yX2_begin cX2_begin 3 (some .int), Cond.fieldLink RX2 15 "OneNail$Orders" "length" "I", Cond.fieldLink RX2 66 "OneNail$Street" "count" "I", Cond.fieldLink RX2 9 "OneNail$Orders" "row" "[I", Cond.fieldLink RX2 69 "OneNail$Orders" "ORDERS_OF" "[I", Cond.methodLink RX2 39 yX2_time, Cond.instanceMethod yX2_time, Cond.selects RX2 yX2_time yX2_time, Cond.code yX2_time cX2_time 6 none, Cond.fieldLink RX2 22 "OneNail$Orders" "period" "I", Cond.fieldLink RX2 76 "OneNail$Street" "places" "[I", Cond.methodLink RX2 79 Lib.Math.abs.name, Cond.static Lib.Math.abs.name, Cond.initialized "java/lang/Math", Cond.code Lib.Math.abs.name Lib.Math.abs.code 1 (some .int), Cond.fieldLink RX2 19 "OneNail$Orders" "comes" "[I", Cond.fieldLink RX2 84 "OneNail$Street" "stays" "[I", Cond.methodLink RX2 58 yX2_nothingEverFalls, Cond.instanceMethod yX2_nothingEverFalls, Cond.selects RX2 yX2_nothingEverFalls yX2_nothingEverFalls, Cond.code yX2_nothingEverFalls cX2_nothingEverFalls 4 (some .boolean), Cond.fieldLink RX2 93 "OneNail$Street" "holds" "[I"]
def wsX9_letGo_r3 : List Cond := [Cond.methodLink RX2 50 yX2_goOn, Cond.instanceMethod yX2_goOn, Cond.selects RX2 yX2_goOn yX2_goOn, Cond.code yX2_goOn cX2_goOn 5 none, Cond.methodLink RX2 72 yX2_swap, Cond.instanceMethod yX2_swap, Cond.selects RX2 yX2_swap yX2_swap, Cond.code yX2_swap cX2_swap 4 none]
def wsX9_letGo : List Cond := .code yX9_letGo cX9_letGo 5 (some .int) :: ((wsX9_letGo_r1 ++ (wsX9_letGo_r2 ++ wsX9_letGo_r3)) ++ wsX90 ++ wsX50 ++ wsX20)
def wsX9_isHalf : List Cond := .code yX9_isHalf cX9_isHalf 1 (some .boolean) :: ([])
def wsX9_harmOfBoth : List Cond := .code yX9_harmOfBoth cX9_harmOfBoth 3 (some .int) :: ([.fieldLink RX9 12 "OneNail" "town" "LOneNail$Street;", .fieldLink RX9 47 "OneNail" "leastOf" "[I", .methodLink RX9 150 yX5_all, .instanceMethod yX5_all, .selects RX5 yX5_all yX5_all, .initialized RX5, .code yX5_all cX5_all 1 (some .int), .fieldLink RX5 9 "OneNail$Street" "count" "I"] ++ wsX90 ++ wsX50)
def wsX9_two_r1 : List Cond := [Cond.fieldLink RX9 12 "OneNail" "town" "LOneNail$Street;", Cond.fieldLink RX9 83 "OneNail$Street" "count" "I", Cond.fieldLink RX9 47 "OneNail" "leastOf" "[I", Cond.fieldLink RX9 37 "OneNail" "orders" "LOneNail$Orders;", Cond.fieldLink RX9 115 "OneNail$Street" "smithyPlace" "I", Cond.methodLink RX9 122 yX9_isSpan, Cond.static yX9_isSpan, Cond.initialized RX9, Cond.code yX9_isSpan cX9_isSpan 1 (some .boolean), Cond.methodLink RX9 170 yX9_isHalf, Cond.static yX9_isHalf, Cond.code yX9_isHalf cX9_isHalf 1 (some .boolean), Cond.methodLink RX9 150 yX5_all, Cond.instanceMethod yX5_all, Cond.selects RX5 yX5_all yX5_all, Cond.initialized RX5, Cond.code yX5_all cX5_all 1 (some .int), Cond.fieldLink RX5 9 "OneNail$Street" "count" "I", Cond.methodLink RX9 153 yX2_leastHarm, Cond.instanceMethod yX2_leastHarm, Cond.selects RX2 yX2_leastHarm yX2_leastHarm, Cond.initialized RX2, Cond.code yX2_leastHarm cX2_leastHarm 8 (some .int), Cond.constant RX2 38 (2147483647)]
def wsX9_two_r2 : List Cond := [Cond.methodLink RX2 32 yX2_begin, Cond.instanceMethod yX2_begin, Cond.selects RX2 yX2_begin yX2_begin, Cond.code yX2_begin cX2_begin 3 (some .int), Cond.fieldLink RX2 15 "OneNail$Orders" "length" "I", Cond.fieldLink RX2 28 "OneNail$Orders" "town" "LOneNail$Street;", Cond.fieldLink RX2 66 "OneNail$Street" "count" "I", Cond.fieldLink RX2 9 "OneNail$Orders" "row" "[I", Cond.fieldLink RX2 69 "OneNail$Orders" "ORDERS_OF" "[I", Cond.methodLink RX2 39 yX2_time, Cond.instanceMethod yX2_time, Cond.selects RX2 yX2_time yX2_time, Cond.code yX2_time cX2_time 6 none, Cond.fieldLink RX2 22 "OneNail$Orders" "period" "I", Cond.fieldLink RX2 76 "OneNail$Street" "places" "[I", Cond.methodLink RX2 79 Lib.Math.abs.name, Cond.static Lib.Math.abs.name, Cond.initialized "java/lang/Math", Cond.code Lib.Math.abs.name Lib.Math.abs.code 1 (some .int), Cond.fieldLink RX2 19 "OneNail$Orders" "comes" "[I", Cond.fieldLink RX2 84 "OneNail$Street" "stays" "[I", Cond.methodLink RX2 43 yX2_harmBelow, Cond.instanceMethod yX2_harmBelow, Cond.selects RX2 yX2_harmBelow yX2_harmBelow]
def wsX9_two_r3 : List Cond := [Cond.code yX2_harmBelow cX2_harmBelow 5 (some .int), Cond.fieldLink RX2 90 "OneNail$Street" "harms" "[I", Cond.methodLink RX2 87 yX2_fallsBelow, Cond.instanceMethod yX2_fallsBelow, Cond.selects RX2 yX2_fallsBelow yX2_fallsBelow, Cond.code yX2_fallsBelow cX2_fallsBelow 7 (some .int), Cond.fieldLink RX2 93 "OneNail$Street" "holds" "[I", Cond.methodLink RX2 47 yX2_keep, Cond.instanceMethod yX2_keep, Cond.selects RX2 yX2_keep yX2_keep, Cond.code yX2_keep cX2_keep 2 none, Cond.fieldLink RX2 25 "OneNail$Orders" "kept" "[I", Cond.methodLink RX2 50 yX2_goOn, Cond.instanceMethod yX2_goOn, Cond.selects RX2 yX2_goOn yX2_goOn, Cond.code yX2_goOn cX2_goOn 5 none, Cond.methodLink RX2 72 yX2_swap, Cond.instanceMethod yX2_swap, Cond.selects RX2 yX2_swap yX2_swap, Cond.code yX2_swap cX2_swap 4 none, Cond.methodLink RX9 173 yX9_harmOfBoth, Cond.instanceMethod yX9_harmOfBoth, Cond.selects RX9 yX9_harmOfBoth yX9_harmOfBoth, Cond.code yX9_harmOfBoth cX9_harmOfBoth 3 (some .int)]
def wsX9_two : List Cond := .code yX9_two cX9_two 6 (some .int) :: ((wsX9_two_r1 ++ (wsX9_two_r2 ++ wsX9_two_r3)) ++ wsX90 ++ wsX50 ++ wsX20)
def wsX9_site_r1 : List Cond := [Cond.fieldLink RX9 12 "OneNail" "town" "LOneNail$Street;", Cond.fieldLink RX9 83 "OneNail$Street" "count" "I", Cond.fieldLink RX9 37 "OneNail" "orders" "LOneNail$Orders;", Cond.methodLink RX9 122 yX9_isSpan, Cond.static yX9_isSpan, Cond.initialized RX9, Cond.code yX9_isSpan cX9_isSpan 1 (some .boolean), Cond.methodLink RX9 170 yX9_isHalf, Cond.static yX9_isHalf, Cond.code yX9_isHalf cX9_isHalf 1 (some .boolean), Cond.methodLink RX9 150 yX5_all, Cond.instanceMethod yX5_all, Cond.selects RX5 yX5_all yX5_all, Cond.initialized RX5, Cond.code yX5_all cX5_all 1 (some .int), Cond.fieldLink RX5 9 "OneNail$Street" "count" "I", Cond.methodLink RX9 153 yX2_leastHarm, Cond.instanceMethod yX2_leastHarm, Cond.selects RX2 yX2_leastHarm yX2_leastHarm, Cond.initialized RX2, Cond.code yX2_leastHarm cX2_leastHarm 8 (some .int), Cond.constant RX2 38 (2147483647), Cond.methodLink RX2 32 yX2_begin, Cond.instanceMethod yX2_begin]
def wsX9_site_r2 : List Cond := [Cond.selects RX2 yX2_begin yX2_begin, Cond.code yX2_begin cX2_begin 3 (some .int), Cond.fieldLink RX2 15 "OneNail$Orders" "length" "I", Cond.fieldLink RX2 28 "OneNail$Orders" "town" "LOneNail$Street;", Cond.fieldLink RX2 66 "OneNail$Street" "count" "I", Cond.fieldLink RX2 9 "OneNail$Orders" "row" "[I", Cond.fieldLink RX2 69 "OneNail$Orders" "ORDERS_OF" "[I", Cond.methodLink RX2 39 yX2_time, Cond.instanceMethod yX2_time, Cond.selects RX2 yX2_time yX2_time, Cond.code yX2_time cX2_time 6 none, Cond.fieldLink RX2 22 "OneNail$Orders" "period" "I", Cond.fieldLink RX2 76 "OneNail$Street" "places" "[I", Cond.methodLink RX2 79 Lib.Math.abs.name, Cond.static Lib.Math.abs.name, Cond.initialized "java/lang/Math", Cond.code Lib.Math.abs.name Lib.Math.abs.code 1 (some .int), Cond.fieldLink RX2 19 "OneNail$Orders" "comes" "[I", Cond.fieldLink RX2 84 "OneNail$Street" "stays" "[I", Cond.methodLink RX2 43 yX2_harmBelow, Cond.instanceMethod yX2_harmBelow, Cond.selects RX2 yX2_harmBelow yX2_harmBelow, Cond.code yX2_harmBelow cX2_harmBelow 5 (some .int), Cond.fieldLink RX2 90 "OneNail$Street" "harms" "[I"]
def wsX9_site_r3 : List Cond := [Cond.methodLink RX2 87 yX2_fallsBelow, Cond.instanceMethod yX2_fallsBelow, Cond.selects RX2 yX2_fallsBelow yX2_fallsBelow, Cond.code yX2_fallsBelow cX2_fallsBelow 7 (some .int), Cond.fieldLink RX2 93 "OneNail$Street" "holds" "[I", Cond.methodLink RX2 47 yX2_keep, Cond.instanceMethod yX2_keep, Cond.selects RX2 yX2_keep yX2_keep, Cond.code yX2_keep cX2_keep 2 none, Cond.fieldLink RX2 25 "OneNail$Orders" "kept" "[I", Cond.methodLink RX2 50 yX2_goOn, Cond.instanceMethod yX2_goOn, Cond.selects RX2 yX2_goOn yX2_goOn, Cond.code yX2_goOn cX2_goOn 5 none, Cond.methodLink RX2 72 yX2_swap, Cond.instanceMethod yX2_swap, Cond.selects RX2 yX2_swap yX2_swap, Cond.code yX2_swap cX2_swap 4 none]
def wsX9_site : List Cond := .code yX9_site cX9_site 7 (some .int) :: ((wsX9_site_r1 ++ (wsX9_site_r2 ++ wsX9_site_r3)) ++ wsX90 ++ wsX50 ++ wsX20)
def wsX9_reading : List Cond := .code yX9_reading cX9_reading 4 (some .int) :: ([.fieldLink RX9 12 "OneNail" "town" "LOneNail$Street;", .fieldLink RX9 21 "OneNail" "seen" "LOneNail$Readings;", .methodLink RX9 176 yX5_has, .instanceMethod yX5_has, .selects RX5 yX5_has yX5_has, .initialized RX5, .code yX5_has cX5_has 2 (some .boolean), .fieldLink RX5 9 "OneNail$Street" "count" "I", .methodLink RX9 144 yX9_isMinute, .static yX9_isMinute, .initialized RX9, .code yX9_isMinute cX9_isMinute 1 (some .boolean), .methodLink RX9 179 yX3_note, .instanceMethod yX3_note, .selects RX3 yX3_note yX3_note, .initialized RX3, .code yX3_note cX3_note 4 (some .int), .fieldLink RX3 9 "OneNail$Readings" "count" "I", .fieldLink RX3 15 "OneNail$Readings" "things" "[I", .fieldLink RX3 19 "OneNail$Readings" "minutes" "[I", .fieldLink RX3 22 "OneNail$Readings" "ups" "[Z"] ++ wsX90 ++ wsX50 ++ wsX30)
def wsX9_back : List Cond := .code yX9_back cX9_back 2 (some .int) :: ([.fieldLink RX9 21 "OneNail" "seen" "LOneNail$Readings;", .fieldLink RX9 183 "OneNail$Readings" "count" "I"] ++ wsX90 ++ wsX30)
def wsX9_fits_r1 : List Cond := [Cond.fieldLink RX9 12 "OneNail" "town" "LOneNail$Street;", Cond.fieldLink RX9 83 "OneNail$Street" "count" "I", Cond.fieldLink RX9 37 "OneNail" "orders" "LOneNail$Orders;", Cond.fieldLink RX9 21 "OneNail" "seen" "LOneNail$Readings;", Cond.methodLink RX9 150 yX5_all, Cond.instanceMethod yX5_all, Cond.selects RX5 yX5_all yX5_all, Cond.initialized RX5, Cond.code yX5_all cX5_all 1 (some .int), Cond.fieldLink RX5 9 "OneNail$Street" "count" "I", Cond.methodLink RX9 184 yX2_countFitting, Cond.instanceMethod yX2_countFitting, Cond.selects RX2 yX2_countFitting yX2_countFitting, Cond.initialized RX2, Cond.code yX2_countFitting cX2_countFitting 6 (some .int), Cond.fieldLink RX2 28 "OneNail$Orders" "town" "LOneNail$Street;", Cond.fieldLink RX2 53 "OneNail$Street" "smithyPlace" "I", Cond.methodLink RX2 32 yX2_begin, Cond.instanceMethod yX2_begin, Cond.selects RX2 yX2_begin yX2_begin, Cond.code yX2_begin cX2_begin 3 (some .int), Cond.fieldLink RX2 15 "OneNail$Orders" "length" "I", Cond.fieldLink RX2 66 "OneNail$Street" "count" "I", Cond.fieldLink RX2 9 "OneNail$Orders" "row" "[I"]
def wsX9_fits_r2 : List Cond := [Cond.fieldLink RX2 69 "OneNail$Orders" "ORDERS_OF" "[I", Cond.methodLink RX2 39 yX2_time, Cond.instanceMethod yX2_time, Cond.selects RX2 yX2_time yX2_time, Cond.code yX2_time cX2_time 6 none, Cond.fieldLink RX2 22 "OneNail$Orders" "period" "I", Cond.fieldLink RX2 76 "OneNail$Street" "places" "[I", Cond.methodLink RX2 79 Lib.Math.abs.name, Cond.static Lib.Math.abs.name, Cond.initialized "java/lang/Math", Cond.code Lib.Math.abs.name Lib.Math.abs.code 1 (some .int), Cond.fieldLink RX2 19 "OneNail$Orders" "comes" "[I", Cond.fieldLink RX2 84 "OneNail$Street" "stays" "[I", Cond.methodLink RX2 62 yX2_allAreSo, Cond.instanceMethod yX2_allAreSo, Cond.selects RX2 yX2_allAreSo yX2_allAreSo, Cond.code yX2_allAreSo cX2_allAreSo 3 (some .boolean), Cond.fieldLink RX2 96 "OneNail$Readings" "count" "I", Cond.fieldLink RX2 99 "OneNail$Readings" "things" "[I", Cond.fieldLink RX2 102 "OneNail$Readings" "minutes" "[I", Cond.fieldLink RX2 109 "OneNail$Readings" "ups" "[Z", Cond.methodLink RX2 105 yX2_isUp, Cond.instanceMethod yX2_isUp, Cond.selects RX2 yX2_isUp yX2_isUp]
def wsX9_fits_r3 : List Cond := [Cond.code yX2_isUp cX2_isUp 4 (some .boolean), Cond.fieldLink RX2 93 "OneNail$Street" "holds" "[I", Cond.methodLink RX2 47 yX2_keep, Cond.instanceMethod yX2_keep, Cond.selects RX2 yX2_keep yX2_keep, Cond.code yX2_keep cX2_keep 2 none, Cond.fieldLink RX2 25 "OneNail$Orders" "kept" "[I", Cond.methodLink RX2 50 yX2_goOn, Cond.instanceMethod yX2_goOn, Cond.selects RX2 yX2_goOn yX2_goOn, Cond.code yX2_goOn cX2_goOn 5 none, Cond.methodLink RX2 72 yX2_swap, Cond.instanceMethod yX2_swap, Cond.selects RX2 yX2_swap yX2_swap, Cond.code yX2_swap cX2_swap 4 none, Cond.methodLink RX9 157 yX2_keptAt, Cond.instanceMethod yX2_keptAt, Cond.selects RX2 yX2_keptAt yX2_keptAt, Cond.code yX2_keptAt cX2_keptAt 2 (some .int)]
def wsX9_fits : List Cond := .code yX9_fits cX9_fits 3 (some .int) :: ((wsX9_fits_r1 ++ (wsX9_fits_r2 ++ wsX9_fits_r3)) ++ wsX90 ++ wsX50 ++ wsX20 ++ wsX30)
def wsX9_sheet_r1 : List Cond := [Cond.fieldLink RX9 58 "OneNail" "lastFault" "I", Cond.methodLink RX9 71 yX9_sheetAt, Cond.instanceMethod yX9_sheetAt, Cond.selects RX9 yX9_sheetAt yX9_sheetAt, Cond.initialized RX9, Cond.code yX9_sheetAt cX9_sheetAt 2 (some (.object "OneNail$Sheet")), Cond.fieldLink RX9 43 "OneNail" "sheets" "[LOneNail$Sheet;", Cond.methodLink RX9 63 yX9_isLane, Cond.static yX9_isLane, Cond.code yX9_isLane cX9_isLane 1 (some .boolean), Cond.methodLink RX9 188 yX9_failBy, Cond.instanceMethod yX9_failBy, Cond.selects RX9 yX9_failBy yX9_failBy, Cond.code yX9_failBy cX9_failBy 2 (some .int), Cond.methodLink RX9 191 yX4_makeRow, Cond.instanceMethod yX4_makeRow, Cond.selects RX4 yX4_makeRow yX4_makeRow, Cond.initialized RX4, Cond.code yX4_makeRow cX4_makeRow 4 none, Cond.fieldLink RX4 11 "OneNail$Sheet" "lane" "I", Cond.methodLink RX4 22 Lib.Math.min.name, Cond.static Lib.Math.min.name, Cond.initialized "java/lang/Math", Cond.code Lib.Math.min.name Lib.Math.min.code 2 (some .int)]
def wsX9_sheet_r2 : List Cond := [Cond.methodLink RX4 28 Lib.Math.max.name, Cond.static Lib.Math.max.name, Cond.code Lib.Math.max.name Lib.Math.max.code 2 (some .int), Cond.fieldLink RX4 15 "OneNail$Sheet" "length" "I", Cond.fieldLink RX4 18 "OneNail$Sheet" "cells" "[I"]
def wsX9_sheet : List Cond := .code yX9_sheet cX9_sheet 5 (some .int) :: ((wsX9_sheet_r1 ++ wsX9_sheet_r2) ++ wsX90 ++ wsX40)
def wsX9_lose : List Cond := .code yX9_lose cX9_lose 3 (some .int) :: ([.methodLink RX9 71 yX9_sheetAt, .instanceMethod yX9_sheetAt, .selects RX9 yX9_sheetAt yX9_sheetAt, .initialized RX9, .code yX9_sheetAt cX9_sheetAt 2 (some (.object "OneNail$Sheet")), .fieldLink RX9 43 "OneNail" "sheets" "[LOneNail$Sheet;", .methodLink RX9 195 yX4_isNothing, .instanceMethod yX4_isNothing, .selects RX4 yX4_isNothing yX4_isNothing, .initialized RX4, .code yX4_isNothing cX4_isNothing 1 (some .boolean), .fieldLink RX4 11 "OneNail$Sheet" "lane" "I", .methodLink RX9 198 yX4_makeNothing, .instanceMethod yX4_makeNothing, .selects RX4 yX4_makeNothing yX4_makeNothing, .code yX4_makeNothing cX4_makeNothing 1 none, .fieldLink RX4 15 "OneNail$Sheet" "length" "I"] ++ wsX90 ++ wsX40)
def wsX9_put_r1 : List Cond := [Cond.fieldLink RX9 58 "OneNail" "lastFault" "I", Cond.methodLink RX9 71 yX9_sheetAt, Cond.instanceMethod yX9_sheetAt, Cond.selects RX9 yX9_sheetAt yX9_sheetAt, Cond.initialized RX9, Cond.code yX9_sheetAt cX9_sheetAt 2 (some (.object "OneNail$Sheet")), Cond.fieldLink RX9 43 "OneNail" "sheets" "[LOneNail$Sheet;", Cond.methodLink RX9 195 yX4_isNothing, Cond.instanceMethod yX4_isNothing, Cond.selects RX4 yX4_isNothing yX4_isNothing, Cond.initialized RX4, Cond.code yX4_isNothing cX4_isNothing 1 (some .boolean), Cond.fieldLink RX4 11 "OneNail$Sheet" "lane" "I", Cond.methodLink RX9 188 yX9_failBy, Cond.instanceMethod yX9_failBy, Cond.selects RX9 yX9_failBy yX9_failBy, Cond.code yX9_failBy cX9_failBy 2 (some .int), Cond.methodLink RX9 201 yX4_hasCell, Cond.instanceMethod yX4_hasCell, Cond.selects RX4 yX4_hasCell yX4_hasCell, Cond.code yX4_hasCell cX4_hasCell 2 (some .boolean), Cond.fieldLink RX4 15 "OneNail$Sheet" "length" "I", Cond.methodLink RX9 204 yX4_write, Cond.instanceMethod yX4_write]
def wsX9_put_r2 : List Cond := [Cond.selects RX4 yX4_write yX4_write, Cond.code yX4_write cX4_write 3 none, Cond.fieldLink RX4 18 "OneNail$Sheet" "cells" "[I", Cond.methodLink RX4 31 yX4_hasCell]
def wsX9_put : List Cond := .code yX9_put cX9_put 5 (some .int) :: ((wsX9_put_r1 ++ wsX9_put_r2) ++ wsX90 ++ wsX40)
def wsX9_cell_r1 : List Cond := [Cond.fieldLink RX9 58 "OneNail" "lastFault" "I", Cond.constantLong RX9 211 (-9223372036854775808), Cond.methodLink RX9 71 yX9_sheetAt, Cond.instanceMethod yX9_sheetAt, Cond.selects RX9 yX9_sheetAt yX9_sheetAt, Cond.initialized RX9, Cond.code yX9_sheetAt cX9_sheetAt 2 (some (.object "OneNail$Sheet")), Cond.fieldLink RX9 43 "OneNail" "sheets" "[LOneNail$Sheet;", Cond.methodLink RX9 63 yX9_isLane, Cond.static yX9_isLane, Cond.code yX9_isLane cX9_isLane 1 (some .boolean), Cond.methodLink RX9 207 yX9_refuseLane, Cond.instanceMethod yX9_refuseLane, Cond.selects RX9 yX9_refuseLane yX9_refuseLane, Cond.code yX9_refuseLane cX9_refuseLane 3 (some .int), Cond.fieldLink RX9 216 "OneNail$Sheet" "lane" "I", Cond.methodLink RX9 195 yX4_isNothing, Cond.instanceMethod yX4_isNothing, Cond.selects RX4 yX4_isNothing yX4_isNothing, Cond.initialized RX4, Cond.code yX4_isNothing cX4_isNothing 1 (some .boolean), Cond.fieldLink RX4 11 "OneNail$Sheet" "lane" "I", Cond.methodLink RX9 188 yX9_failBy, Cond.instanceMethod yX9_failBy]
def wsX9_cell_r2 : List Cond := [Cond.selects RX9 yX9_failBy yX9_failBy, Cond.code yX9_failBy cX9_failBy 2 (some .int), Cond.methodLink RX9 201 yX4_hasCell, Cond.instanceMethod yX4_hasCell, Cond.selects RX4 yX4_hasCell yX4_hasCell, Cond.code yX4_hasCell cX4_hasCell 2 (some .boolean), Cond.fieldLink RX4 15 "OneNail$Sheet" "length" "I", Cond.methodLink RX9 213 yX4_read, Cond.instanceMethod yX4_read, Cond.selects RX4 yX4_read yX4_read, Cond.code yX4_read cX4_read 2 (some .int), Cond.fieldLink RX4 18 "OneNail$Sheet" "cells" "[I", Cond.methodLink RX4 31 yX4_hasCell]
def wsX9_cell : List Cond := .code yX9_cell cX9_cell 5 (some .long) :: ((wsX9_cell_r1 ++ wsX9_cell_r2) ++ wsX90 ++ wsX40)
def wsX9_copy_r1 : List Cond := [Cond.fieldLink RX9 58 "OneNail" "lastFault" "I", Cond.fieldLink RX9 216 "OneNail$Sheet" "lane" "I", Cond.fieldLink RX9 223 "OneNail$Sheet" "cells" "[I", Cond.methodLink RX9 226 arraycopyName, Cond.native arraycopyName, Cond.static arraycopyName, Cond.initialized "java/lang/System", Cond.methodLink RX9 71 yX9_sheetAt, Cond.instanceMethod yX9_sheetAt, Cond.selects RX9 yX9_sheetAt yX9_sheetAt, Cond.initialized RX9, Cond.code yX9_sheetAt cX9_sheetAt 2 (some (.object "OneNail$Sheet")), Cond.fieldLink RX9 43 "OneNail" "sheets" "[LOneNail$Sheet;", Cond.methodLink RX9 195 yX4_isNothing, Cond.instanceMethod yX4_isNothing, Cond.selects RX4 yX4_isNothing yX4_isNothing, Cond.initialized RX4, Cond.code yX4_isNothing cX4_isNothing 1 (some .boolean), Cond.fieldLink RX4 11 "OneNail$Sheet" "lane" "I", Cond.methodLink RX9 188 yX9_failBy, Cond.instanceMethod yX9_failBy, Cond.selects RX9 yX9_failBy yX9_failBy, Cond.code yX9_failBy cX9_failBy 2 (some .int), Cond.methodLink RX9 219 yX4_spans]
def wsX9_copy_r2 : List Cond := [Cond.instanceMethod yX4_spans, Cond.selects RX4 yX4_spans yX4_spans, Cond.code yX4_spans cX4_spans 3 (some .boolean), Cond.fieldLink RX4 15 "OneNail$Sheet" "length" "I"]
def wsX9_copy : List Cond := .code yX9_copy cX9_copy 8 (some .int) :: ((wsX9_copy_r1 ++ wsX9_copy_r2) ++ wsX90 ++ wsX40)
def wsX9_tell_r1 : List Cond := [Cond.fieldLink RX9 12 "OneNail" "town" "LOneNail$Street;", Cond.fieldLink RX9 54 "OneNail" "traced" "LOneNail$Trace;", Cond.methodLink RX9 86 yX5_thingAt, Cond.instanceMethod yX5_thingAt, Cond.selects RX5 yX5_thingAt yX5_thingAt, Cond.initialized RX5, Cond.code yX5_thingAt cX5_thingAt 2 (some (.object "OneNail$Thing")), Cond.fieldLink RX5 23 "OneNail$Street" "things" "[LOneNail$Thing;", Cond.methodLink RX5 53 yX5_has, Cond.instanceMethod yX5_has, Cond.selects RX5 yX5_has yX5_has, Cond.code yX5_has cX5_has 2 (some .boolean), Cond.fieldLink RX5 9 "OneNail$Street" "count" "I", Cond.methodLink RX9 232 ⟨"OneNail$Thing", "telling", "(LOneNail$Trace;)I"⟩, Cond.sameMethod "OneNail$Thing" "OneNail$Thing" "telling" "(LOneNail$Trace;)I", Cond.instanceMethod ⟨"OneNail$Thing", "telling", "(LOneNail$Trace;)I"⟩, Cond.selects RX0 ⟨"OneNail$Thing", "telling", "(LOneNail$Trace;)I"⟩ yX0_telling, Cond.instanceMethod yX0_telling, Cond.initialized RX0, Cond.code yX0_telling cX0_telling 3 (some .int), Cond.methodLink RX0 11 yX7_leave, Cond.instanceMethod yX7_leave, Cond.selects RX7 yX7_leave yX7_leave, Cond.initialized RX7]
def wsX9_tell_r2 : List Cond := [Cond.code yX7_leave cX7_leave 2 none, Cond.fieldLink RX7 7 "OneNail$Trace" "value" "I", Cond.methodLink RX0 17 yX1_telling, Cond.sameMethod "OneNail$Door" "OneNail$Door" "telling" "(LOneNail$Trace;)I", Cond.superclass RX0 RX1, Cond.instanceMethod yX1_telling, Cond.initialized RX1, Cond.code yX1_telling cX1_telling 2 (some .int), Cond.methodLink RX1 11 yX7_leave, Cond.methodLink RX1 17 yX6_telling, Cond.superclass RX1 RX6, Cond.instanceMethod yX6_telling, Cond.initialized RX6, Cond.code yX6_telling cX6_telling 2 (some .int), Cond.methodLink RX6 31 ⟨"OneNail$Thing", "plainTelling", "(LOneNail$Trace;)I"⟩, Cond.sameMethod "OneNail$Thing" "OneNail$Thing" "plainTelling" "(LOneNail$Trace;)I", Cond.selects RX0 ⟨"OneNail$Thing", "plainTelling", "(LOneNail$Trace;)I"⟩ yX6_plainTelling, Cond.instanceMethod yX6_plainTelling, Cond.code yX6_plainTelling cX6_plainTelling 2 (some .int), Cond.fieldLink RX6 19 "OneNail$Thing" "hold" "I", Cond.methodLink RX6 35 yX7_leave, Cond.selects RX1 ⟨"OneNail$Thing", "plainTelling", "(LOneNail$Trace;)I"⟩ yX6_plainTelling, Cond.methodLink RX6 31 yX6_plainTelling, Cond.selects RX6 yX6_plainTelling yX6_plainTelling]
def wsX9_tell_r3 : List Cond := [Cond.methodLink RX0 21 ⟨"OneNail$Coffin", "plainTelling", "(LOneNail$Trace;)I"⟩, Cond.sameMethod "OneNail$Coffin" "OneNail$Thing" "plainTelling" "(LOneNail$Trace;)I", Cond.selects RX0 ⟨"OneNail$Coffin", "plainTelling", "(LOneNail$Trace;)I"⟩ yX6_plainTelling, Cond.selects RX1 ⟨"OneNail$Thing", "telling", "(LOneNail$Trace;)I"⟩ yX1_telling, Cond.methodLink RX9 232 yX6_telling, Cond.selects RX6 yX6_telling yX6_telling]
def wsX9_tell : List Cond := .code yX9_tell cX9_tell 3 (some .int) :: ((wsX9_tell_r1 ++ (wsX9_tell_r2 ++ wsX9_tell_r3)) ++ wsX90 ++ wsX50 ++ wsX70 ++ wsX00 ++ wsX10 ++ wsX60)
def wsX9_strike_r1 : List Cond := [Cond.fieldLink RX9 12 "OneNail" "town" "LOneNail$Street;", Cond.fieldLink RX9 54 "OneNail" "traced" "LOneNail$Trace;", Cond.methodLink RX9 86 yX5_thingAt, Cond.instanceMethod yX5_thingAt, Cond.selects RX5 yX5_thingAt yX5_thingAt, Cond.initialized RX5, Cond.code yX5_thingAt cX5_thingAt 2 (some (.object "OneNail$Thing")), Cond.fieldLink RX5 23 "OneNail$Street" "things" "[LOneNail$Thing;", Cond.methodLink RX5 53 yX5_has, Cond.instanceMethod yX5_has, Cond.selects RX5 yX5_has yX5_has, Cond.code yX5_has cX5_has 2 (some .boolean), Cond.fieldLink RX5 9 "OneNail$Street" "count" "I", Cond.methodLink RX9 236 ⟨"OneNail$Thing", "struck", "(LOneNail$Trace;)I"⟩, Cond.sameMethod "OneNail$Thing" "OneNail$Thing" "struck" "(LOneNail$Trace;)I", Cond.instanceMethod ⟨"OneNail$Thing", "struck", "(LOneNail$Trace;)I"⟩, Cond.selects RX0 ⟨"OneNail$Thing", "struck", "(LOneNail$Trace;)I"⟩ yX0_struck, Cond.instanceMethod yX0_struck, Cond.initialized RX0, Cond.code yX0_struck cX0_struck 2 (some .int), Cond.methodLink RX0 11 yX7_leave, Cond.instanceMethod yX7_leave, Cond.selects RX7 yX7_leave yX7_leave, Cond.initialized RX7]
def wsX9_strike_r2 : List Cond := [Cond.code yX7_leave cX7_leave 2 none, Cond.fieldLink RX7 7 "OneNail$Trace" "value" "I", Cond.code yX6_struck cX6_struck 2 (some .int), Cond.selects RX1 ⟨"OneNail$Thing", "struck", "(LOneNail$Trace;)I"⟩ yX6_struck, Cond.instanceMethod yX6_struck, Cond.initialized RX6, Cond.fieldLink RX6 7 "OneNail$Thing" "number" "I", Cond.methodLink RX6 35 yX7_leave, Cond.methodLink RX9 236 yX6_struck, Cond.selects RX6 yX6_struck yX6_struck]
def wsX9_strike : List Cond := .code yX9_strike cX9_strike 3 (some .int) :: ((wsX9_strike_r1 ++ wsX9_strike_r2) ++ wsX90 ++ wsX50 ++ wsX70 ++ wsX00 ++ wsX10 ++ wsX60)
def wsX9_as_r1 : List Cond := [Cond.fieldLink RX9 58 "OneNail" "lastFault" "I", Cond.fieldLink RX9 12 "OneNail" "town" "LOneNail$Street;", Cond.methodLink RX9 86 yX5_thingAt, Cond.instanceMethod yX5_thingAt, Cond.selects RX5 yX5_thingAt yX5_thingAt, Cond.initialized RX5, Cond.code yX5_thingAt cX5_thingAt 2 (some (.object "OneNail$Thing")), Cond.fieldLink RX5 23 "OneNail$Street" "things" "[LOneNail$Thing;", Cond.methodLink RX5 53 yX5_has, Cond.instanceMethod yX5_has, Cond.selects RX5 yX5_has yX5_has, Cond.code yX5_has cX5_has 2 (some .boolean), Cond.fieldLink RX5 9 "OneNail$Street" "count" "I", Cond.methodLink RX9 90 ⟨"OneNail$Thing", "kindNumber", "()I"⟩, Cond.sameMethod "OneNail$Thing" "OneNail$Thing" "kindNumber" "()I", Cond.instanceMethod ⟨"OneNail$Thing", "kindNumber", "()I"⟩, Cond.selects RX0 ⟨"OneNail$Thing", "kindNumber", "()I"⟩ yX0_kindNumber, Cond.instanceMethod yX0_kindNumber, Cond.initialized RX0, Cond.code yX0_kindNumber cX0_kindNumber 1 (some .int), Cond.code yX6_kindNumber cX6_kindNumber 1 (some .int), Cond.selects RX1 ⟨"OneNail$Thing", "kindNumber", "()I"⟩ yX1_kindNumber, Cond.instanceMethod yX1_kindNumber, Cond.initialized RX1]
def wsX9_as_r2 : List Cond := [Cond.code yX1_kindNumber cX1_kindNumber 1 (some .int), Cond.methodLink RX9 90 yX6_kindNumber, Cond.instanceMethod yX6_kindNumber, Cond.selects RX6 yX6_kindNumber yX6_kindNumber, Cond.initialized RX6, Cond.methodLink RX9 188 yX9_failBy, Cond.instanceMethod yX9_failBy, Cond.selects RX9 yX9_failBy yX9_failBy, Cond.initialized RX9, Cond.code yX9_failBy cX9_failBy 2 (some .int)]
def wsX9_as : List Cond := .code yX9_as cX9_as 4 (some .int) :: ((wsX9_as_r1 ++ wsX9_as_r2) ++ wsX90 ++ wsX50)
def wsX9_trace : List Cond := .code yX9_trace cX9_trace 1 (some .int) :: ([.fieldLink RX9 54 "OneNail" "traced" "LOneNail$Trace;", .fieldLink RX9 239 "OneNail$Trace" "value" "I"] ++ wsX90 ++ wsX70)
def wsX9_fault : List Cond := .code yX9_fault cX9_fault 1 (some .int) :: ([.fieldLink RX9 58 "OneNail" "lastFault" "I"] ++ wsX90)
def wsX9_many : List Cond := .code yX9_many cX9_many 2 (some .int) :: ([.fieldLink RX9 12 "OneNail" "town" "LOneNail$Street;", .fieldLink RX9 83 "OneNail$Street" "count" "I", .fieldLink RX9 115 "OneNail$Street" "smithyPlace" "I", .fieldLink RX9 108 "OneNail$Street" "rusted" "I", .fieldLink RX9 21 "OneNail" "seen" "LOneNail$Readings;", .fieldLink RX9 183 "OneNail$Readings" "count" "I"] ++ wsX90 ++ wsX50 ++ wsX30)
def wsX10_init_r1 : List Cond := [Cond.methodLink RX10 1 objectInit, Cond.instanceMethod objectInit, Cond.code objectInit ⟨#[0xb1]⟩ 1 none, Cond.arrayClass .int, Cond.fieldLink RX10 9 "OneNailModel" "sorts" "[I", Cond.fieldLink RX10 13 "OneNailModel" "sheetLong" "[I", Cond.fieldLink RX10 16 "OneNailModel" "cells" "[I", Cond.fieldLink RX10 19 "OneNailModel" "kind" "[I", Cond.fieldLink RX10 22 "OneNailModel" "place" "[I", Cond.fieldLink RX10 25 "OneNailModel" "stays" "[I", Cond.fieldLink RX10 28 "OneNailModel" "hold" "[I", Cond.fieldLink RX10 31 "OneNailModel" "harms" "[I", Cond.fieldLink RX10 34 "OneNailModel" "readKind" "[I", Cond.fieldLink RX10 37 "OneNailModel" "readPlace" "[I", Cond.fieldLink RX10 40 "OneNailModel" "readStays" "[I", Cond.fieldLink RX10 43 "OneNailModel" "readHold" "[I", Cond.fieldLink RX10 46 "OneNailModel" "readHarms" "[I", Cond.fieldLink RX10 49 "OneNailModel" "row" "[I", Cond.fieldLink RX10 52 "OneNailModel" "comesAt" "[I", Cond.fieldLink RX10 55 "OneNailModel" "comesTo" "[I", Cond.fieldLink RX10 58 "OneNailModel" "falls" "[I", Cond.arrayClass .boolean, Cond.fieldLink RX10 61 "OneNailModel" "doesFall" "[Z", Cond.fieldLink RX10 65 "OneNailModel" "bestRow" "[I"]
def wsX10_init_r2 : List Cond := [Cond.fieldLink RX10 68 "OneNailModel" "leastOf" "[I", Cond.fieldLink RX10 71 "OneNailModel" "readThing" "[I", Cond.fieldLink RX10 74 "OneNailModel" "readMinute" "[I", Cond.fieldLink RX10 77 "OneNailModel" "readUp" "[Z"]
def wsX10_init : List Cond := .code yX10_init cX10_init 1 none :: ((wsX10_init_r1 ++ wsX10_init_r2) ++ wsX100)
def wsX10_fails : List Cond := .code yX10_fails cX10_fails 2 (some .int) :: ([.fieldLink RX10 80 "OneNailModel" "fault" "I"] ++ wsX100)
def wsX10_lost : List Cond := .code yX10_lost cX10_lost 2 (some .long) :: ([.fieldLink RX10 80 "OneNailModel" "fault" "I", .constantLong RX10 84 (-9223372036854775808)] ++ wsX100)
def wsX10_within : List Cond := .code yX10_within cX10_within 3 (some .boolean) :: ([])
def wsX10_isSheet : List Cond := .code yX10_isSheet cX10_isSheet 1 (some .boolean) :: ([.methodLink RX10 86 yX10_within, .static yX10_within, .initialized RX10, .code yX10_within cX10_within 3 (some .boolean)])
def wsX10_isSort : List Cond := .code yX10_isSort cX10_isSort 1 (some .boolean) :: ([.methodLink RX10 86 yX10_within, .static yX10_within, .initialized RX10, .code yX10_within cX10_within 3 (some .boolean)])
def wsX10_against : List Cond := .code yX10_against cX10_against 5 (some .int) :: ([.fieldLink RX10 9 "OneNailModel" "sorts" "[I", .fieldLink RX10 13 "OneNailModel" "sheetLong" "[I"] ++ wsX100)
def wsX10_isThing : List Cond := .code yX10_isThing cX10_isThing 2 (some .boolean) :: ([.fieldLink RX10 90 "OneNailModel" "things" "I"] ++ wsX100)
def wsX10_digit : List Cond := .code yX10_digit cX10_digit 3 (some .int) :: ([.fieldLink RX10 93 "OneNailModel" "at" "I", .fieldLink RX10 16 "OneNailModel" "cells" "[I", .methodLink RX10 86 yX10_within, .static yX10_within, .initialized RX10, .code yX10_within cX10_within 3 (some .boolean)] ++ wsX100)
def wsX10_readThing : List Cond := .code yX10_readThing cX10_readThing 6 (some .boolean) :: ([.fieldLink RX10 93 "OneNailModel" "at" "I", .fieldLink RX10 16 "OneNailModel" "cells" "[I", .fieldLink RX10 34 "OneNailModel" "readKind" "[I", .fieldLink RX10 37 "OneNailModel" "readPlace" "[I", .fieldLink RX10 40 "OneNailModel" "readStays" "[I", .fieldLink RX10 43 "OneNailModel" "readHold" "[I", .fieldLink RX10 46 "OneNailModel" "readHarms" "[I", .methodLink RX10 129 yX10_digit, .instanceMethod yX10_digit, .selects RX10 yX10_digit yX10_digit, .initialized RX10, .code yX10_digit cX10_digit 3 (some .int), .methodLink RX10 86 yX10_within, .static yX10_within, .code yX10_within cX10_within 3 (some .boolean)] ++ wsX100)
def wsX10_readStreet : List Cond := .code yX10_readStreet cX10_readStreet 2 (some .boolean) :: ([.fieldLink RX10 93 "OneNailModel" "at" "I", .fieldLink RX10 16 "OneNailModel" "cells" "[I", .fieldLink RX10 114 "OneNailModel" "readHome" "I", .fieldLink RX10 120 "OneNailModel" "readThings" "I", .methodLink RX10 129 yX10_digit, .instanceMethod yX10_digit, .selects RX10 yX10_digit yX10_digit, .initialized RX10, .code yX10_digit cX10_digit 3 (some .int), .methodLink RX10 86 yX10_within, .static yX10_within, .code yX10_within cX10_within 3 (some .boolean), .methodLink RX10 133 yX10_readThing, .instanceMethod yX10_readThing, .selects RX10 yX10_readThing yX10_readThing, .code yX10_readThing cX10_readThing 6 (some .boolean), .fieldLink RX10 34 "OneNailModel" "readKind" "[I", .fieldLink RX10 37 "OneNailModel" "readPlace" "[I", .fieldLink RX10 40 "OneNailModel" "readStays" "[I", .fieldLink RX10 43 "OneNailModel" "readHold" "[I", .fieldLink RX10 46 "OneNailModel" "readHarms" "[I"] ++ wsX100)
def wsX10_street_r1 : List Cond := [Cond.fieldLink RX10 80 "OneNailModel" "fault" "I", Cond.fieldLink RX10 93 "OneNailModel" "at" "I", Cond.fieldLink RX10 114 "OneNailModel" "readHome" "I", Cond.fieldLink RX10 117 "OneNailModel" "home" "I", Cond.fieldLink RX10 120 "OneNailModel" "readThings" "I", Cond.fieldLink RX10 90 "OneNailModel" "things" "I", Cond.fieldLink RX10 19 "OneNailModel" "kind" "[I", Cond.fieldLink RX10 34 "OneNailModel" "readKind" "[I", Cond.fieldLink RX10 22 "OneNailModel" "place" "[I", Cond.fieldLink RX10 37 "OneNailModel" "readPlace" "[I", Cond.fieldLink RX10 25 "OneNailModel" "stays" "[I", Cond.fieldLink RX10 40 "OneNailModel" "readStays" "[I", Cond.fieldLink RX10 28 "OneNailModel" "hold" "[I", Cond.fieldLink RX10 43 "OneNailModel" "readHold" "[I", Cond.fieldLink RX10 31 "OneNailModel" "harms" "[I", Cond.fieldLink RX10 46 "OneNailModel" "readHarms" "[I", Cond.fieldLink RX10 123 "OneNailModel" "rustNow" "I", Cond.fieldLink RX10 126 "OneNailModel" "readings" "I", Cond.methodLink RX10 96 yX10_isSheet, Cond.static yX10_isSheet, Cond.initialized RX10, Cond.code yX10_isSheet cX10_isSheet 1 (some .boolean), Cond.methodLink RX10 86 yX10_within, Cond.static yX10_within]
def wsX10_street_r2 : List Cond := [Cond.code yX10_within cX10_within 3 (some .boolean), Cond.methodLink RX10 100 yX10_isSort, Cond.static yX10_isSort, Cond.code yX10_isSort cX10_isSort 1 (some .boolean), Cond.methodLink RX10 103 yX10_against, Cond.instanceMethod yX10_against, Cond.selects RX10 yX10_against yX10_against, Cond.code yX10_against cX10_against 5 (some .int), Cond.fieldLink RX10 9 "OneNailModel" "sorts" "[I", Cond.fieldLink RX10 13 "OneNailModel" "sheetLong" "[I", Cond.methodLink RX10 107 yX10_fails, Cond.instanceMethod yX10_fails, Cond.selects RX10 yX10_fails yX10_fails, Cond.code yX10_fails cX10_fails 2 (some .int), Cond.methodLink RX10 111 yX10_readStreet, Cond.instanceMethod yX10_readStreet, Cond.selects RX10 yX10_readStreet yX10_readStreet, Cond.code yX10_readStreet cX10_readStreet 2 (some .boolean), Cond.fieldLink RX10 16 "OneNailModel" "cells" "[I", Cond.methodLink RX10 129 yX10_digit, Cond.instanceMethod yX10_digit, Cond.selects RX10 yX10_digit yX10_digit, Cond.code yX10_digit cX10_digit 3 (some .int), Cond.methodLink RX10 133 yX10_readThing]
def wsX10_street_r3 : List Cond := [Cond.instanceMethod yX10_readThing, Cond.selects RX10 yX10_readThing yX10_readThing, Cond.code yX10_readThing cX10_readThing 6 (some .boolean)]
def wsX10_street : List Cond := .code yX10_street cX10_street 8 (some .int) :: ((wsX10_street_r1 ++ (wsX10_street_r2 ++ wsX10_street_r3)) ++ wsX100)
def wsX10_holds : List Cond := .code yX10_holds cX10_holds 3 (some .int) :: ([.fieldLink RX10 28 "OneNailModel" "hold" "[I", .fieldLink RX10 123 "OneNailModel" "rustNow" "I", .fieldLink RX10 19 "OneNailModel" "kind" "[I"] ++ wsX100)
def wsX10_ofThing : List Cond := .code yX10_ofThing cX10_ofThing 3 (some .int) :: ([.fieldLink RX10 19 "OneNailModel" "kind" "[I", .fieldLink RX10 22 "OneNailModel" "place" "[I", .fieldLink RX10 25 "OneNailModel" "stays" "[I", .fieldLink RX10 28 "OneNailModel" "hold" "[I", .fieldLink RX10 31 "OneNailModel" "harms" "[I", .methodLink RX10 136 yX10_isThing, .instanceMethod yX10_isThing, .selects RX10 yX10_isThing yX10_isThing, .initialized RX10, .code yX10_isThing cX10_isThing 2 (some .boolean), .fieldLink RX10 90 "OneNailModel" "things" "I", .methodLink RX10 139 yX10_holds, .instanceMethod yX10_holds, .selects RX10 yX10_holds yX10_holds, .code yX10_holds cX10_holds 3 (some .int), .fieldLink RX10 123 "OneNailModel" "rustNow" "I"] ++ wsX100)
def wsX10_smithy : List Cond := .code yX10_smithy cX10_smithy 3 (some .int) :: ([.fieldLink RX10 90 "OneNailModel" "things" "I", .fieldLink RX10 117 "OneNailModel" "home" "I", .methodLink RX10 86 yX10_within, .static yX10_within, .initialized RX10, .code yX10_within cX10_within 3 (some .boolean)] ++ wsX100)
def wsX10_rust : List Cond := .code yX10_rust cX10_rust 3 (some .int) :: ([.fieldLink RX10 90 "OneNailModel" "things" "I", .fieldLink RX10 123 "OneNailModel" "rustNow" "I", .methodLink RX10 86 yX10_within, .static yX10_within, .initialized RX10, .code yX10_within cX10_within 3 (some .boolean)] ++ wsX100)
def wsX10_between : List Cond := .code yX10_between cX10_between 2 (some .int) :: ([])
def wsX10_layComings : List Cond := .code yX10_layComings cX10_layComings 6 none :: ([.fieldLink RX10 142 "OneNailModel" "comings" "I", .fieldLink RX10 145 "OneNailModel" "rowLong" "I", .fieldLink RX10 117 "OneNailModel" "home" "I", .fieldLink RX10 22 "OneNailModel" "place" "[I", .fieldLink RX10 49 "OneNailModel" "row" "[I", .fieldLink RX10 52 "OneNailModel" "comesAt" "[I", .fieldLink RX10 55 "OneNailModel" "comesTo" "[I", .fieldLink RX10 25 "OneNailModel" "stays" "[I", .methodLink RX10 148 yX10_between, .static yX10_between, .initialized RX10, .code yX10_between cX10_between 2 (some .int)] ++ wsX100)
def wsX10_fallsOf : List Cond := .code yX10_fallsOf cX10_fallsOf 6 (some .int) :: ([.fieldLink RX10 142 "OneNailModel" "comings" "I", .fieldLink RX10 55 "OneNailModel" "comesTo" "[I", .fieldLink RX10 52 "OneNailModel" "comesAt" "[I", .fieldLink RX10 58 "OneNailModel" "falls" "[I", .fieldLink RX10 25 "OneNailModel" "stays" "[I", .methodLink RX10 139 yX10_holds, .instanceMethod yX10_holds, .selects RX10 yX10_holds yX10_holds, .initialized RX10, .code yX10_holds cX10_holds 3 (some .int), .fieldLink RX10 28 "OneNailModel" "hold" "[I", .fieldLink RX10 123 "OneNailModel" "rustNow" "I", .fieldLink RX10 19 "OneNailModel" "kind" "[I"] ++ wsX100)
def wsX10_harmOf_r1 : List Cond := [Cond.fieldLink RX10 90 "OneNailModel" "things" "I", Cond.fieldLink RX10 31 "OneNailModel" "harms" "[I", Cond.methodLink RX10 151 yX10_layComings, Cond.instanceMethod yX10_layComings, Cond.selects RX10 yX10_layComings yX10_layComings, Cond.initialized RX10, Cond.code yX10_layComings cX10_layComings 6 none, Cond.fieldLink RX10 142 "OneNailModel" "comings" "I", Cond.fieldLink RX10 145 "OneNailModel" "rowLong" "I", Cond.fieldLink RX10 117 "OneNailModel" "home" "I", Cond.fieldLink RX10 22 "OneNailModel" "place" "[I", Cond.fieldLink RX10 49 "OneNailModel" "row" "[I", Cond.fieldLink RX10 52 "OneNailModel" "comesAt" "[I", Cond.fieldLink RX10 55 "OneNailModel" "comesTo" "[I", Cond.fieldLink RX10 25 "OneNailModel" "stays" "[I", Cond.methodLink RX10 148 yX10_between, Cond.static yX10_between, Cond.code yX10_between cX10_between 2 (some .int), Cond.methodLink RX10 155 yX10_fallsOf, Cond.instanceMethod yX10_fallsOf, Cond.selects RX10 yX10_fallsOf yX10_fallsOf, Cond.code yX10_fallsOf cX10_fallsOf 6 (some .int), Cond.fieldLink RX10 58 "OneNailModel" "falls" "[I", Cond.methodLink RX10 139 yX10_holds]
def wsX10_harmOf_r2 : List Cond := [Cond.instanceMethod yX10_holds, Cond.selects RX10 yX10_holds yX10_holds, Cond.code yX10_holds cX10_holds 3 (some .int), Cond.fieldLink RX10 28 "OneNailModel" "hold" "[I", Cond.fieldLink RX10 123 "OneNailModel" "rustNow" "I", Cond.fieldLink RX10 19 "OneNailModel" "kind" "[I"]
def wsX10_harmOf : List Cond := .code yX10_harmOf cX10_harmOf 5 (some .int) :: ((wsX10_harmOf_r1 ++ wsX10_harmOf_r2) ++ wsX100)
def wsX10_all : List Cond := .code yX10_all cX10_all 1 (some .int) :: ([.fieldLink RX10 90 "OneNailModel" "things" "I"] ++ wsX100)
def wsX10_isSafe_r1 : List Cond := [Cond.constant RX10 158 (100000), Cond.fieldLink RX10 145 "OneNailModel" "rowLong" "I", Cond.fieldLink RX10 90 "OneNailModel" "things" "I", Cond.fieldLink RX10 142 "OneNailModel" "comings" "I", Cond.fieldLink RX10 55 "OneNailModel" "comesTo" "[I", Cond.fieldLink RX10 52 "OneNailModel" "comesAt" "[I", Cond.fieldLink RX10 25 "OneNailModel" "stays" "[I", Cond.methodLink RX10 151 yX10_layComings, Cond.instanceMethod yX10_layComings, Cond.selects RX10 yX10_layComings yX10_layComings, Cond.initialized RX10, Cond.code yX10_layComings cX10_layComings 6 none, Cond.fieldLink RX10 117 "OneNailModel" "home" "I", Cond.fieldLink RX10 22 "OneNailModel" "place" "[I", Cond.fieldLink RX10 49 "OneNailModel" "row" "[I", Cond.methodLink RX10 148 yX10_between, Cond.static yX10_between, Cond.code yX10_between cX10_between 2 (some .int), Cond.methodLink RX10 139 yX10_holds, Cond.instanceMethod yX10_holds, Cond.selects RX10 yX10_holds yX10_holds, Cond.code yX10_holds cX10_holds 3 (some .int), Cond.fieldLink RX10 28 "OneNailModel" "hold" "[I", Cond.fieldLink RX10 123 "OneNailModel" "rustNow" "I"]
def wsX10_isSafe_r2 : List Cond := [Cond.fieldLink RX10 19 "OneNailModel" "kind" "[I"]
def wsX10_isSafe : List Cond := .code yX10_isSafe cX10_isSafe 6 (some .boolean) :: ((wsX10_isSafe_r1 ++ wsX10_isSafe_r2) ++ wsX100)
def wsX10_layRow : List Cond := .code yX10_layRow cX10_layRow 7 (some .int) :: ([.fieldLink RX10 90 "OneNailModel" "things" "I", .fieldLink RX10 49 "OneNailModel" "row" "[I", .fieldLink RX10 16 "OneNailModel" "cells" "[I", .fieldLink RX10 145 "OneNailModel" "rowLong" "I", .methodLink RX10 103 yX10_against, .instanceMethod yX10_against, .selects RX10 yX10_against yX10_against, .initialized RX10, .code yX10_against cX10_against 5 (some .int), .fieldLink RX10 9 "OneNailModel" "sorts" "[I", .fieldLink RX10 13 "OneNailModel" "sheetLong" "[I", .methodLink RX10 107 yX10_fails, .instanceMethod yX10_fails, .selects RX10 yX10_fails yX10_fails, .code yX10_fails cX10_fails 2 (some .int), .fieldLink RX10 80 "OneNailModel" "fault" "I", .methodLink RX10 86 yX10_within, .static yX10_within, .code yX10_within cX10_within 3 (some .boolean), .methodLink RX10 136 yX10_isThing, .instanceMethod yX10_isThing, .selects RX10 yX10_isThing yX10_isThing, .code yX10_isThing cX10_isThing 2 (some .boolean)] ++ wsX100)
def wsX10_harm_r1 : List Cond := [Cond.fieldLink RX10 80 "OneNailModel" "fault" "I", Cond.methodLink RX10 96 yX10_isSheet, Cond.static yX10_isSheet, Cond.initialized RX10, Cond.code yX10_isSheet cX10_isSheet 1 (some .boolean), Cond.methodLink RX10 86 yX10_within, Cond.static yX10_within, Cond.code yX10_within cX10_within 3 (some .boolean), Cond.methodLink RX10 100 yX10_isSort, Cond.static yX10_isSort, Cond.code yX10_isSort cX10_isSort 1 (some .boolean), Cond.methodLink RX10 159 yX10_layRow, Cond.instanceMethod yX10_layRow, Cond.selects RX10 yX10_layRow yX10_layRow, Cond.code yX10_layRow cX10_layRow 7 (some .int), Cond.fieldLink RX10 90 "OneNailModel" "things" "I", Cond.fieldLink RX10 49 "OneNailModel" "row" "[I", Cond.fieldLink RX10 16 "OneNailModel" "cells" "[I", Cond.fieldLink RX10 145 "OneNailModel" "rowLong" "I", Cond.methodLink RX10 103 yX10_against, Cond.instanceMethod yX10_against, Cond.selects RX10 yX10_against yX10_against, Cond.code yX10_against cX10_against 5 (some .int), Cond.fieldLink RX10 9 "OneNailModel" "sorts" "[I"]
def wsX10_harm_r2 : List Cond := [Cond.fieldLink RX10 13 "OneNailModel" "sheetLong" "[I", Cond.methodLink RX10 107 yX10_fails, Cond.instanceMethod yX10_fails, Cond.selects RX10 yX10_fails yX10_fails, Cond.code yX10_fails cX10_fails 2 (some .int), Cond.methodLink RX10 136 yX10_isThing, Cond.instanceMethod yX10_isThing, Cond.selects RX10 yX10_isThing yX10_isThing, Cond.code yX10_isThing cX10_isThing 2 (some .boolean), Cond.methodLink RX10 162 yX10_all, Cond.instanceMethod yX10_all, Cond.selects RX10 yX10_all yX10_all, Cond.code yX10_all cX10_all 1 (some .int), Cond.methodLink RX10 166 yX10_harmOf, Cond.instanceMethod yX10_harmOf, Cond.selects RX10 yX10_harmOf yX10_harmOf, Cond.code yX10_harmOf cX10_harmOf 5 (some .int), Cond.fieldLink RX10 31 "OneNailModel" "harms" "[I", Cond.methodLink RX10 151 yX10_layComings, Cond.instanceMethod yX10_layComings, Cond.selects RX10 yX10_layComings yX10_layComings, Cond.code yX10_layComings cX10_layComings 6 none, Cond.fieldLink RX10 142 "OneNailModel" "comings" "I", Cond.fieldLink RX10 117 "OneNailModel" "home" "I"]
def wsX10_harm_r3 : List Cond := [Cond.fieldLink RX10 22 "OneNailModel" "place" "[I", Cond.fieldLink RX10 52 "OneNailModel" "comesAt" "[I", Cond.fieldLink RX10 55 "OneNailModel" "comesTo" "[I", Cond.fieldLink RX10 25 "OneNailModel" "stays" "[I", Cond.methodLink RX10 148 yX10_between, Cond.static yX10_between, Cond.code yX10_between cX10_between 2 (some .int), Cond.methodLink RX10 155 yX10_fallsOf, Cond.instanceMethod yX10_fallsOf, Cond.selects RX10 yX10_fallsOf yX10_fallsOf, Cond.code yX10_fallsOf cX10_fallsOf 6 (some .int), Cond.fieldLink RX10 58 "OneNailModel" "falls" "[I", Cond.methodLink RX10 139 yX10_holds, Cond.instanceMethod yX10_holds, Cond.selects RX10 yX10_holds yX10_holds, Cond.code yX10_holds cX10_holds 3 (some .int), Cond.fieldLink RX10 28 "OneNailModel" "hold" "[I", Cond.fieldLink RX10 123 "OneNailModel" "rustNow" "I", Cond.fieldLink RX10 19 "OneNailModel" "kind" "[I"]
def wsX10_harm : List Cond := .code yX10_harm cX10_harm 7 (some .int) :: ((wsX10_harm_r1 ++ (wsX10_harm_r2 ++ wsX10_harm_r3)) ++ wsX100)
def wsX10_never_r1 : List Cond := [Cond.fieldLink RX10 80 "OneNailModel" "fault" "I", Cond.methodLink RX10 96 yX10_isSheet, Cond.static yX10_isSheet, Cond.initialized RX10, Cond.code yX10_isSheet cX10_isSheet 1 (some .boolean), Cond.methodLink RX10 86 yX10_within, Cond.static yX10_within, Cond.code yX10_within cX10_within 3 (some .boolean), Cond.methodLink RX10 100 yX10_isSort, Cond.static yX10_isSort, Cond.code yX10_isSort cX10_isSort 1 (some .boolean), Cond.methodLink RX10 159 yX10_layRow, Cond.instanceMethod yX10_layRow, Cond.selects RX10 yX10_layRow yX10_layRow, Cond.code yX10_layRow cX10_layRow 7 (some .int), Cond.fieldLink RX10 90 "OneNailModel" "things" "I", Cond.fieldLink RX10 49 "OneNailModel" "row" "[I", Cond.fieldLink RX10 16 "OneNailModel" "cells" "[I", Cond.fieldLink RX10 145 "OneNailModel" "rowLong" "I", Cond.methodLink RX10 103 yX10_against, Cond.instanceMethod yX10_against, Cond.selects RX10 yX10_against yX10_against, Cond.code yX10_against cX10_against 5 (some .int), Cond.fieldLink RX10 9 "OneNailModel" "sorts" "[I"]
def wsX10_never_r2 : List Cond := [Cond.fieldLink RX10 13 "OneNailModel" "sheetLong" "[I", Cond.methodLink RX10 107 yX10_fails, Cond.instanceMethod yX10_fails, Cond.selects RX10 yX10_fails yX10_fails, Cond.code yX10_fails cX10_fails 2 (some .int), Cond.methodLink RX10 136 yX10_isThing, Cond.instanceMethod yX10_isThing, Cond.selects RX10 yX10_isThing yX10_isThing, Cond.code yX10_isThing cX10_isThing 2 (some .boolean), Cond.methodLink RX10 162 yX10_all, Cond.instanceMethod yX10_all, Cond.selects RX10 yX10_all yX10_all, Cond.code yX10_all cX10_all 1 (some .int), Cond.methodLink RX10 169 yX10_isSafe, Cond.instanceMethod yX10_isSafe, Cond.selects RX10 yX10_isSafe yX10_isSafe, Cond.code yX10_isSafe cX10_isSafe 6 (some .boolean), Cond.constant RX10 158 (100000), Cond.fieldLink RX10 142 "OneNailModel" "comings" "I", Cond.fieldLink RX10 55 "OneNailModel" "comesTo" "[I", Cond.fieldLink RX10 52 "OneNailModel" "comesAt" "[I", Cond.fieldLink RX10 25 "OneNailModel" "stays" "[I", Cond.methodLink RX10 151 yX10_layComings, Cond.instanceMethod yX10_layComings]
def wsX10_never_r3 : List Cond := [Cond.selects RX10 yX10_layComings yX10_layComings, Cond.code yX10_layComings cX10_layComings 6 none, Cond.fieldLink RX10 117 "OneNailModel" "home" "I", Cond.fieldLink RX10 22 "OneNailModel" "place" "[I", Cond.methodLink RX10 148 yX10_between, Cond.static yX10_between, Cond.code yX10_between cX10_between 2 (some .int), Cond.methodLink RX10 139 yX10_holds, Cond.instanceMethod yX10_holds, Cond.selects RX10 yX10_holds yX10_holds, Cond.code yX10_holds cX10_holds 3 (some .int), Cond.fieldLink RX10 28 "OneNailModel" "hold" "[I", Cond.fieldLink RX10 123 "OneNailModel" "rustNow" "I", Cond.fieldLink RX10 19 "OneNailModel" "kind" "[I"]
def wsX10_never : List Cond := .code yX10_never cX10_never 6 (some .int) :: ((wsX10_never_r1 ++ (wsX10_never_r2 ++ wsX10_never_r3)) ++ wsX100)
def wsX10_layFalls_r1 : List Cond := [Cond.fieldLink RX10 61 "OneNailModel" "doesFall" "[Z", Cond.fieldLink RX10 90 "OneNailModel" "things" "I", Cond.fieldLink RX10 58 "OneNailModel" "falls" "[I", Cond.methodLink RX10 151 yX10_layComings, Cond.instanceMethod yX10_layComings, Cond.selects RX10 yX10_layComings yX10_layComings, Cond.initialized RX10, Cond.code yX10_layComings cX10_layComings 6 none, Cond.fieldLink RX10 142 "OneNailModel" "comings" "I", Cond.fieldLink RX10 145 "OneNailModel" "rowLong" "I", Cond.fieldLink RX10 117 "OneNailModel" "home" "I", Cond.fieldLink RX10 22 "OneNailModel" "place" "[I", Cond.fieldLink RX10 49 "OneNailModel" "row" "[I", Cond.fieldLink RX10 52 "OneNailModel" "comesAt" "[I", Cond.fieldLink RX10 55 "OneNailModel" "comesTo" "[I", Cond.fieldLink RX10 25 "OneNailModel" "stays" "[I", Cond.methodLink RX10 148 yX10_between, Cond.static yX10_between, Cond.code yX10_between cX10_between 2 (some .int), Cond.methodLink RX10 155 yX10_fallsOf, Cond.instanceMethod yX10_fallsOf, Cond.selects RX10 yX10_fallsOf yX10_fallsOf, Cond.code yX10_fallsOf cX10_fallsOf 6 (some .int), Cond.methodLink RX10 139 yX10_holds]
def wsX10_layFalls_r2 : List Cond := [Cond.instanceMethod yX10_holds, Cond.selects RX10 yX10_holds yX10_holds, Cond.code yX10_holds cX10_holds 3 (some .int), Cond.fieldLink RX10 28 "OneNailModel" "hold" "[I", Cond.fieldLink RX10 123 "OneNailModel" "rustNow" "I", Cond.fieldLink RX10 19 "OneNailModel" "kind" "[I"]
def wsX10_layFalls : List Cond := .code yX10_layFalls cX10_layFalls 5 (some .int) :: ((wsX10_layFalls_r1 ++ wsX10_layFalls_r2) ++ wsX100)
def wsX10_fall_r1 : List Cond := [Cond.fieldLink RX10 80 "OneNailModel" "fault" "I", Cond.fieldLink RX10 61 "OneNailModel" "doesFall" "[Z", Cond.methodLink RX10 96 yX10_isSheet, Cond.static yX10_isSheet, Cond.initialized RX10, Cond.code yX10_isSheet cX10_isSheet 1 (some .boolean), Cond.methodLink RX10 86 yX10_within, Cond.static yX10_within, Cond.code yX10_within cX10_within 3 (some .boolean), Cond.methodLink RX10 100 yX10_isSort, Cond.static yX10_isSort, Cond.code yX10_isSort cX10_isSort 1 (some .boolean), Cond.methodLink RX10 159 yX10_layRow, Cond.instanceMethod yX10_layRow, Cond.selects RX10 yX10_layRow yX10_layRow, Cond.code yX10_layRow cX10_layRow 7 (some .int), Cond.fieldLink RX10 90 "OneNailModel" "things" "I", Cond.fieldLink RX10 49 "OneNailModel" "row" "[I", Cond.fieldLink RX10 16 "OneNailModel" "cells" "[I", Cond.fieldLink RX10 145 "OneNailModel" "rowLong" "I", Cond.methodLink RX10 103 yX10_against, Cond.instanceMethod yX10_against, Cond.selects RX10 yX10_against yX10_against, Cond.code yX10_against cX10_against 5 (some .int)]
def wsX10_fall_r2 : List Cond := [Cond.fieldLink RX10 9 "OneNailModel" "sorts" "[I", Cond.fieldLink RX10 13 "OneNailModel" "sheetLong" "[I", Cond.methodLink RX10 107 yX10_fails, Cond.instanceMethod yX10_fails, Cond.selects RX10 yX10_fails yX10_fails, Cond.code yX10_fails cX10_fails 2 (some .int), Cond.methodLink RX10 136 yX10_isThing, Cond.instanceMethod yX10_isThing, Cond.selects RX10 yX10_isThing yX10_isThing, Cond.code yX10_isThing cX10_isThing 2 (some .boolean), Cond.methodLink RX10 172 yX10_layFalls, Cond.instanceMethod yX10_layFalls, Cond.selects RX10 yX10_layFalls yX10_layFalls, Cond.code yX10_layFalls cX10_layFalls 5 (some .int), Cond.fieldLink RX10 58 "OneNailModel" "falls" "[I", Cond.methodLink RX10 151 yX10_layComings, Cond.instanceMethod yX10_layComings, Cond.selects RX10 yX10_layComings yX10_layComings, Cond.code yX10_layComings cX10_layComings 6 none, Cond.fieldLink RX10 142 "OneNailModel" "comings" "I", Cond.fieldLink RX10 117 "OneNailModel" "home" "I", Cond.fieldLink RX10 22 "OneNailModel" "place" "[I", Cond.fieldLink RX10 52 "OneNailModel" "comesAt" "[I", Cond.fieldLink RX10 55 "OneNailModel" "comesTo" "[I"]
def wsX10_fall_r3 : List Cond := [Cond.fieldLink RX10 25 "OneNailModel" "stays" "[I", Cond.methodLink RX10 148 yX10_between, Cond.static yX10_between, Cond.code yX10_between cX10_between 2 (some .int), Cond.methodLink RX10 155 yX10_fallsOf, Cond.instanceMethod yX10_fallsOf, Cond.selects RX10 yX10_fallsOf yX10_fallsOf, Cond.code yX10_fallsOf cX10_fallsOf 6 (some .int), Cond.methodLink RX10 139 yX10_holds, Cond.instanceMethod yX10_holds, Cond.selects RX10 yX10_holds yX10_holds, Cond.code yX10_holds cX10_holds 3 (some .int), Cond.fieldLink RX10 28 "OneNailModel" "hold" "[I", Cond.fieldLink RX10 123 "OneNailModel" "rustNow" "I", Cond.fieldLink RX10 19 "OneNailModel" "kind" "[I"]
def wsX10_fall : List Cond := .code yX10_fall cX10_fall 10 (some .int) :: ((wsX10_fall_r1 ++ (wsX10_fall_r2 ++ wsX10_fall_r3)) ++ wsX100)
def wsX10_nail_r1 : List Cond := [Cond.fieldLink RX10 80 "OneNailModel" "fault" "I", Cond.fieldLink RX10 142 "OneNailModel" "comings" "I", Cond.fieldLink RX10 55 "OneNailModel" "comesTo" "[I", Cond.fieldLink RX10 52 "OneNailModel" "comesAt" "[I", Cond.fieldLink RX10 25 "OneNailModel" "stays" "[I", Cond.methodLink RX10 96 yX10_isSheet, Cond.static yX10_isSheet, Cond.initialized RX10, Cond.code yX10_isSheet cX10_isSheet 1 (some .boolean), Cond.methodLink RX10 86 yX10_within, Cond.static yX10_within, Cond.code yX10_within cX10_within 3 (some .boolean), Cond.methodLink RX10 100 yX10_isSort, Cond.static yX10_isSort, Cond.code yX10_isSort cX10_isSort 1 (some .boolean), Cond.methodLink RX10 159 yX10_layRow, Cond.instanceMethod yX10_layRow, Cond.selects RX10 yX10_layRow yX10_layRow, Cond.code yX10_layRow cX10_layRow 7 (some .int), Cond.fieldLink RX10 90 "OneNailModel" "things" "I", Cond.fieldLink RX10 49 "OneNailModel" "row" "[I", Cond.fieldLink RX10 16 "OneNailModel" "cells" "[I", Cond.fieldLink RX10 145 "OneNailModel" "rowLong" "I", Cond.methodLink RX10 103 yX10_against]
def wsX10_nail_r2 : List Cond := [Cond.instanceMethod yX10_against, Cond.selects RX10 yX10_against yX10_against, Cond.code yX10_against cX10_against 5 (some .int), Cond.fieldLink RX10 9 "OneNailModel" "sorts" "[I", Cond.fieldLink RX10 13 "OneNailModel" "sheetLong" "[I", Cond.methodLink RX10 107 yX10_fails, Cond.instanceMethod yX10_fails, Cond.selects RX10 yX10_fails yX10_fails, Cond.code yX10_fails cX10_fails 2 (some .int), Cond.methodLink RX10 136 yX10_isThing, Cond.instanceMethod yX10_isThing, Cond.selects RX10 yX10_isThing yX10_isThing, Cond.code yX10_isThing cX10_isThing 2 (some .boolean), Cond.methodLink RX10 151 yX10_layComings, Cond.instanceMethod yX10_layComings, Cond.selects RX10 yX10_layComings yX10_layComings, Cond.code yX10_layComings cX10_layComings 6 none, Cond.fieldLink RX10 117 "OneNailModel" "home" "I", Cond.fieldLink RX10 22 "OneNailModel" "place" "[I", Cond.methodLink RX10 148 yX10_between, Cond.static yX10_between, Cond.code yX10_between cX10_between 2 (some .int)]
def wsX10_nail : List Cond := .code yX10_nail cX10_nail 10 (some .int) :: ((wsX10_nail_r1 ++ wsX10_nail_r2) ++ wsX100)
def wsX10_firstOrder : List Cond := .code yX10_firstOrder cX10_firstOrder 3 none :: ([.fieldLink RX10 145 "OneNailModel" "rowLong" "I", .fieldLink RX10 90 "OneNailModel" "things" "I", .fieldLink RX10 49 "OneNailModel" "row" "[I"] ++ wsX100)
def wsX10_change : List Cond := .code yX10_change cX10_change 4 none :: ([.fieldLink RX10 49 "OneNailModel" "row" "[I"] ++ wsX100)
def wsX10_nextOrder : List Cond := .code yX10_nextOrder cX10_nextOrder 5 (some .boolean) :: ([.fieldLink RX10 145 "OneNailModel" "rowLong" "I", .fieldLink RX10 49 "OneNailModel" "row" "[I", .methodLink RX10 175 yX10_change, .instanceMethod yX10_change, .selects RX10 yX10_change yX10_change, .initialized RX10, .code yX10_change cX10_change 4 none] ++ wsX100)
def wsX10_leastHarm_r1 : List Cond := [Cond.fieldLink RX10 145 "OneNailModel" "rowLong" "I", Cond.fieldLink RX10 65 "OneNailModel" "bestRow" "[I", Cond.fieldLink RX10 49 "OneNailModel" "row" "[I", Cond.methodLink RX10 178 yX10_firstOrder, Cond.instanceMethod yX10_firstOrder, Cond.selects RX10 yX10_firstOrder yX10_firstOrder, Cond.initialized RX10, Cond.code yX10_firstOrder cX10_firstOrder 3 none, Cond.fieldLink RX10 90 "OneNailModel" "things" "I", Cond.methodLink RX10 166 yX10_harmOf, Cond.instanceMethod yX10_harmOf, Cond.selects RX10 yX10_harmOf yX10_harmOf, Cond.code yX10_harmOf cX10_harmOf 5 (some .int), Cond.fieldLink RX10 31 "OneNailModel" "harms" "[I", Cond.methodLink RX10 151 yX10_layComings, Cond.instanceMethod yX10_layComings, Cond.selects RX10 yX10_layComings yX10_layComings, Cond.code yX10_layComings cX10_layComings 6 none, Cond.fieldLink RX10 142 "OneNailModel" "comings" "I", Cond.fieldLink RX10 117 "OneNailModel" "home" "I", Cond.fieldLink RX10 22 "OneNailModel" "place" "[I", Cond.fieldLink RX10 52 "OneNailModel" "comesAt" "[I", Cond.fieldLink RX10 55 "OneNailModel" "comesTo" "[I", Cond.fieldLink RX10 25 "OneNailModel" "stays" "[I"]
def wsX10_leastHarm_r2 : List Cond := [Cond.methodLink RX10 148 yX10_between, Cond.static yX10_between, Cond.code yX10_between cX10_between 2 (some .int), Cond.methodLink RX10 155 yX10_fallsOf, Cond.instanceMethod yX10_fallsOf, Cond.selects RX10 yX10_fallsOf yX10_fallsOf, Cond.code yX10_fallsOf cX10_fallsOf 6 (some .int), Cond.fieldLink RX10 58 "OneNailModel" "falls" "[I", Cond.methodLink RX10 139 yX10_holds, Cond.instanceMethod yX10_holds, Cond.selects RX10 yX10_holds yX10_holds, Cond.code yX10_holds cX10_holds 3 (some .int), Cond.fieldLink RX10 28 "OneNailModel" "hold" "[I", Cond.fieldLink RX10 123 "OneNailModel" "rustNow" "I", Cond.fieldLink RX10 19 "OneNailModel" "kind" "[I", Cond.methodLink RX10 182 yX10_nextOrder, Cond.instanceMethod yX10_nextOrder, Cond.selects RX10 yX10_nextOrder yX10_nextOrder, Cond.code yX10_nextOrder cX10_nextOrder 5 (some .boolean), Cond.methodLink RX10 175 yX10_change, Cond.instanceMethod yX10_change, Cond.selects RX10 yX10_change yX10_change, Cond.code yX10_change cX10_change 4 none]
def wsX10_leastHarm : List Cond := .code yX10_leastHarm cX10_leastHarm 7 (some .int) :: ((wsX10_leastHarm_r1 ++ wsX10_leastHarm_r2) ++ wsX100)
def wsX10_best_r1 : List Cond := [Cond.fieldLink RX10 90 "OneNailModel" "things" "I", Cond.fieldLink RX10 65 "OneNailModel" "bestRow" "[I", Cond.methodLink RX10 86 yX10_within, Cond.static yX10_within, Cond.initialized RX10, Cond.code yX10_within cX10_within 3 (some .boolean), Cond.methodLink RX10 162 yX10_all, Cond.instanceMethod yX10_all, Cond.selects RX10 yX10_all yX10_all, Cond.code yX10_all cX10_all 1 (some .int), Cond.methodLink RX10 186 yX10_leastHarm, Cond.instanceMethod yX10_leastHarm, Cond.selects RX10 yX10_leastHarm yX10_leastHarm, Cond.code yX10_leastHarm cX10_leastHarm 7 (some .int), Cond.fieldLink RX10 145 "OneNailModel" "rowLong" "I", Cond.fieldLink RX10 49 "OneNailModel" "row" "[I", Cond.methodLink RX10 178 yX10_firstOrder, Cond.instanceMethod yX10_firstOrder, Cond.selects RX10 yX10_firstOrder yX10_firstOrder, Cond.code yX10_firstOrder cX10_firstOrder 3 none, Cond.methodLink RX10 166 yX10_harmOf, Cond.instanceMethod yX10_harmOf, Cond.selects RX10 yX10_harmOf yX10_harmOf, Cond.code yX10_harmOf cX10_harmOf 5 (some .int)]
def wsX10_best_r2 : List Cond := [Cond.fieldLink RX10 31 "OneNailModel" "harms" "[I", Cond.methodLink RX10 151 yX10_layComings, Cond.instanceMethod yX10_layComings, Cond.selects RX10 yX10_layComings yX10_layComings, Cond.code yX10_layComings cX10_layComings 6 none, Cond.fieldLink RX10 142 "OneNailModel" "comings" "I", Cond.fieldLink RX10 117 "OneNailModel" "home" "I", Cond.fieldLink RX10 22 "OneNailModel" "place" "[I", Cond.fieldLink RX10 52 "OneNailModel" "comesAt" "[I", Cond.fieldLink RX10 55 "OneNailModel" "comesTo" "[I", Cond.fieldLink RX10 25 "OneNailModel" "stays" "[I", Cond.methodLink RX10 148 yX10_between, Cond.static yX10_between, Cond.code yX10_between cX10_between 2 (some .int), Cond.methodLink RX10 155 yX10_fallsOf, Cond.instanceMethod yX10_fallsOf, Cond.selects RX10 yX10_fallsOf yX10_fallsOf, Cond.code yX10_fallsOf cX10_fallsOf 6 (some .int), Cond.fieldLink RX10 58 "OneNailModel" "falls" "[I", Cond.methodLink RX10 139 yX10_holds, Cond.instanceMethod yX10_holds, Cond.selects RX10 yX10_holds yX10_holds, Cond.code yX10_holds cX10_holds 3 (some .int), Cond.fieldLink RX10 28 "OneNailModel" "hold" "[I"]
def wsX10_best_r3 : List Cond := [Cond.fieldLink RX10 123 "OneNailModel" "rustNow" "I", Cond.fieldLink RX10 19 "OneNailModel" "kind" "[I", Cond.methodLink RX10 182 yX10_nextOrder, Cond.instanceMethod yX10_nextOrder, Cond.selects RX10 yX10_nextOrder yX10_nextOrder, Cond.code yX10_nextOrder cX10_nextOrder 5 (some .boolean), Cond.methodLink RX10 175 yX10_change, Cond.instanceMethod yX10_change, Cond.selects RX10 yX10_change yX10_change, Cond.code yX10_change cX10_change 4 none]
def wsX10_best : List Cond := .code yX10_best cX10_best 4 (some .int) :: ((wsX10_best_r1 ++ (wsX10_best_r2 ++ wsX10_best_r3)) ++ wsX100)
def wsX10_safe_r1 : List Cond := [Cond.fieldLink RX10 90 "OneNailModel" "things" "I", Cond.methodLink RX10 162 yX10_all, Cond.instanceMethod yX10_all, Cond.selects RX10 yX10_all yX10_all, Cond.initialized RX10, Cond.code yX10_all cX10_all 1 (some .int), Cond.methodLink RX10 178 yX10_firstOrder, Cond.instanceMethod yX10_firstOrder, Cond.selects RX10 yX10_firstOrder yX10_firstOrder, Cond.code yX10_firstOrder cX10_firstOrder 3 none, Cond.fieldLink RX10 145 "OneNailModel" "rowLong" "I", Cond.fieldLink RX10 49 "OneNailModel" "row" "[I", Cond.methodLink RX10 169 yX10_isSafe, Cond.instanceMethod yX10_isSafe, Cond.selects RX10 yX10_isSafe yX10_isSafe, Cond.code yX10_isSafe cX10_isSafe 6 (some .boolean), Cond.constant RX10 158 (100000), Cond.fieldLink RX10 142 "OneNailModel" "comings" "I", Cond.fieldLink RX10 55 "OneNailModel" "comesTo" "[I", Cond.fieldLink RX10 52 "OneNailModel" "comesAt" "[I", Cond.fieldLink RX10 25 "OneNailModel" "stays" "[I", Cond.methodLink RX10 151 yX10_layComings, Cond.instanceMethod yX10_layComings, Cond.selects RX10 yX10_layComings yX10_layComings]
def wsX10_safe_r2 : List Cond := [Cond.code yX10_layComings cX10_layComings 6 none, Cond.fieldLink RX10 117 "OneNailModel" "home" "I", Cond.fieldLink RX10 22 "OneNailModel" "place" "[I", Cond.methodLink RX10 148 yX10_between, Cond.static yX10_between, Cond.code yX10_between cX10_between 2 (some .int), Cond.methodLink RX10 139 yX10_holds, Cond.instanceMethod yX10_holds, Cond.selects RX10 yX10_holds yX10_holds, Cond.code yX10_holds cX10_holds 3 (some .int), Cond.fieldLink RX10 28 "OneNailModel" "hold" "[I", Cond.fieldLink RX10 123 "OneNailModel" "rustNow" "I", Cond.fieldLink RX10 19 "OneNailModel" "kind" "[I", Cond.methodLink RX10 182 yX10_nextOrder, Cond.instanceMethod yX10_nextOrder, Cond.selects RX10 yX10_nextOrder yX10_nextOrder, Cond.code yX10_nextOrder cX10_nextOrder 5 (some .boolean), Cond.methodLink RX10 175 yX10_change, Cond.instanceMethod yX10_change, Cond.selects RX10 yX10_change yX10_change, Cond.code yX10_change cX10_change 4 none]
def wsX10_safe : List Cond := .code yX10_safe cX10_safe 3 (some .int) :: ((wsX10_safe_r1 ++ wsX10_safe_r2) ++ wsX100)
def wsX10_canBeSafe_r1 : List Cond := [Cond.methodLink RX10 178 yX10_firstOrder, Cond.instanceMethod yX10_firstOrder, Cond.selects RX10 yX10_firstOrder yX10_firstOrder, Cond.initialized RX10, Cond.code yX10_firstOrder cX10_firstOrder 3 none, Cond.fieldLink RX10 145 "OneNailModel" "rowLong" "I", Cond.fieldLink RX10 90 "OneNailModel" "things" "I", Cond.fieldLink RX10 49 "OneNailModel" "row" "[I", Cond.methodLink RX10 169 yX10_isSafe, Cond.instanceMethod yX10_isSafe, Cond.selects RX10 yX10_isSafe yX10_isSafe, Cond.code yX10_isSafe cX10_isSafe 6 (some .boolean), Cond.constant RX10 158 (100000), Cond.fieldLink RX10 142 "OneNailModel" "comings" "I", Cond.fieldLink RX10 55 "OneNailModel" "comesTo" "[I", Cond.fieldLink RX10 52 "OneNailModel" "comesAt" "[I", Cond.fieldLink RX10 25 "OneNailModel" "stays" "[I", Cond.methodLink RX10 151 yX10_layComings, Cond.instanceMethod yX10_layComings, Cond.selects RX10 yX10_layComings yX10_layComings, Cond.code yX10_layComings cX10_layComings 6 none, Cond.fieldLink RX10 117 "OneNailModel" "home" "I", Cond.fieldLink RX10 22 "OneNailModel" "place" "[I", Cond.methodLink RX10 148 yX10_between]
def wsX10_canBeSafe_r2 : List Cond := [Cond.static yX10_between, Cond.code yX10_between cX10_between 2 (some .int), Cond.methodLink RX10 139 yX10_holds, Cond.instanceMethod yX10_holds, Cond.selects RX10 yX10_holds yX10_holds, Cond.code yX10_holds cX10_holds 3 (some .int), Cond.fieldLink RX10 28 "OneNailModel" "hold" "[I", Cond.fieldLink RX10 123 "OneNailModel" "rustNow" "I", Cond.fieldLink RX10 19 "OneNailModel" "kind" "[I", Cond.methodLink RX10 182 yX10_nextOrder, Cond.instanceMethod yX10_nextOrder, Cond.selects RX10 yX10_nextOrder yX10_nextOrder, Cond.code yX10_nextOrder cX10_nextOrder 5 (some .boolean), Cond.methodLink RX10 175 yX10_change, Cond.instanceMethod yX10_change, Cond.selects RX10 yX10_change yX10_change, Cond.code yX10_change cX10_change 4 none]
def wsX10_canBeSafe : List Cond := .code yX10_canBeSafe cX10_canBeSafe 3 (some .boolean) :: ((wsX10_canBeSafe_r1 ++ wsX10_canBeSafe_r2) ++ wsX100)
def wsX10_size : List Cond := .code yX10_size cX10_size 3 (some .int) :: ([])
def wsX10_letGo_r1 : List Cond := [Cond.fieldLink RX10 90 "OneNailModel" "things" "I", Cond.methodLink RX10 162 yX10_all, Cond.instanceMethod yX10_all, Cond.selects RX10 yX10_all yX10_all, Cond.initialized RX10, Cond.code yX10_all cX10_all 1 (some .int), Cond.methodLink RX10 189 yX10_size, Cond.static yX10_size, Cond.code yX10_size cX10_size 3 (some .int), Cond.methodLink RX10 192 yX10_canBeSafe, Cond.instanceMethod yX10_canBeSafe, Cond.selects RX10 yX10_canBeSafe yX10_canBeSafe, Cond.code yX10_canBeSafe cX10_canBeSafe 3 (some .boolean), Cond.methodLink RX10 178 yX10_firstOrder, Cond.instanceMethod yX10_firstOrder, Cond.selects RX10 yX10_firstOrder yX10_firstOrder, Cond.code yX10_firstOrder cX10_firstOrder 3 none, Cond.fieldLink RX10 145 "OneNailModel" "rowLong" "I", Cond.fieldLink RX10 49 "OneNailModel" "row" "[I", Cond.methodLink RX10 169 yX10_isSafe, Cond.instanceMethod yX10_isSafe, Cond.selects RX10 yX10_isSafe yX10_isSafe, Cond.code yX10_isSafe cX10_isSafe 6 (some .boolean), Cond.constant RX10 158 (100000)]
def wsX10_letGo_r2 : List Cond := [Cond.fieldLink RX10 142 "OneNailModel" "comings" "I", Cond.fieldLink RX10 55 "OneNailModel" "comesTo" "[I", Cond.fieldLink RX10 52 "OneNailModel" "comesAt" "[I", Cond.fieldLink RX10 25 "OneNailModel" "stays" "[I", Cond.methodLink RX10 151 yX10_layComings, Cond.instanceMethod yX10_layComings, Cond.selects RX10 yX10_layComings yX10_layComings, Cond.code yX10_layComings cX10_layComings 6 none, Cond.fieldLink RX10 117 "OneNailModel" "home" "I", Cond.fieldLink RX10 22 "OneNailModel" "place" "[I", Cond.methodLink RX10 148 yX10_between, Cond.static yX10_between, Cond.code yX10_between cX10_between 2 (some .int), Cond.methodLink RX10 139 yX10_holds, Cond.instanceMethod yX10_holds, Cond.selects RX10 yX10_holds yX10_holds, Cond.code yX10_holds cX10_holds 3 (some .int), Cond.fieldLink RX10 28 "OneNailModel" "hold" "[I", Cond.fieldLink RX10 123 "OneNailModel" "rustNow" "I", Cond.fieldLink RX10 19 "OneNailModel" "kind" "[I", Cond.methodLink RX10 182 yX10_nextOrder, Cond.instanceMethod yX10_nextOrder, Cond.selects RX10 yX10_nextOrder yX10_nextOrder, Cond.code yX10_nextOrder cX10_nextOrder 5 (some .boolean)]
def wsX10_letGo_r3 : List Cond := [Cond.methodLink RX10 175 yX10_change, Cond.instanceMethod yX10_change, Cond.selects RX10 yX10_change yX10_change, Cond.code yX10_change cX10_change 4 none]
def wsX10_letGo : List Cond := .code yX10_letGo cX10_letGo 3 (some .int) :: ((wsX10_letGo_r1 ++ (wsX10_letGo_r2 ++ wsX10_letGo_r3)) ++ wsX100)
def wsX10_two_r1 : List Cond := [Cond.fieldLink RX10 90 "OneNailModel" "things" "I", Cond.fieldLink RX10 68 "OneNailModel" "leastOf" "[I", Cond.methodLink RX10 86 yX10_within, Cond.static yX10_within, Cond.initialized RX10, Cond.code yX10_within cX10_within 3 (some .boolean), Cond.methodLink RX10 162 yX10_all, Cond.instanceMethod yX10_all, Cond.selects RX10 yX10_all yX10_all, Cond.code yX10_all cX10_all 1 (some .int), Cond.methodLink RX10 186 yX10_leastHarm, Cond.instanceMethod yX10_leastHarm, Cond.selects RX10 yX10_leastHarm yX10_leastHarm, Cond.code yX10_leastHarm cX10_leastHarm 7 (some .int), Cond.fieldLink RX10 145 "OneNailModel" "rowLong" "I", Cond.fieldLink RX10 65 "OneNailModel" "bestRow" "[I", Cond.fieldLink RX10 49 "OneNailModel" "row" "[I", Cond.methodLink RX10 178 yX10_firstOrder, Cond.instanceMethod yX10_firstOrder, Cond.selects RX10 yX10_firstOrder yX10_firstOrder, Cond.code yX10_firstOrder cX10_firstOrder 3 none, Cond.methodLink RX10 166 yX10_harmOf, Cond.instanceMethod yX10_harmOf, Cond.selects RX10 yX10_harmOf yX10_harmOf]
def wsX10_two_r2 : List Cond := [Cond.code yX10_harmOf cX10_harmOf 5 (some .int), Cond.fieldLink RX10 31 "OneNailModel" "harms" "[I", Cond.methodLink RX10 151 yX10_layComings, Cond.instanceMethod yX10_layComings, Cond.selects RX10 yX10_layComings yX10_layComings, Cond.code yX10_layComings cX10_layComings 6 none, Cond.fieldLink RX10 142 "OneNailModel" "comings" "I", Cond.fieldLink RX10 117 "OneNailModel" "home" "I", Cond.fieldLink RX10 22 "OneNailModel" "place" "[I", Cond.fieldLink RX10 52 "OneNailModel" "comesAt" "[I", Cond.fieldLink RX10 55 "OneNailModel" "comesTo" "[I", Cond.fieldLink RX10 25 "OneNailModel" "stays" "[I", Cond.methodLink RX10 148 yX10_between, Cond.static yX10_between, Cond.code yX10_between cX10_between 2 (some .int), Cond.methodLink RX10 155 yX10_fallsOf, Cond.instanceMethod yX10_fallsOf, Cond.selects RX10 yX10_fallsOf yX10_fallsOf, Cond.code yX10_fallsOf cX10_fallsOf 6 (some .int), Cond.fieldLink RX10 58 "OneNailModel" "falls" "[I", Cond.methodLink RX10 139 yX10_holds, Cond.instanceMethod yX10_holds, Cond.selects RX10 yX10_holds yX10_holds, Cond.code yX10_holds cX10_holds 3 (some .int)]
def wsX10_two_r3 : List Cond := [Cond.fieldLink RX10 28 "OneNailModel" "hold" "[I", Cond.fieldLink RX10 123 "OneNailModel" "rustNow" "I", Cond.fieldLink RX10 19 "OneNailModel" "kind" "[I", Cond.methodLink RX10 182 yX10_nextOrder, Cond.instanceMethod yX10_nextOrder, Cond.selects RX10 yX10_nextOrder yX10_nextOrder, Cond.code yX10_nextOrder cX10_nextOrder 5 (some .boolean), Cond.methodLink RX10 175 yX10_change, Cond.instanceMethod yX10_change, Cond.selects RX10 yX10_change yX10_change, Cond.code yX10_change cX10_change 4 none]
def wsX10_two : List Cond := .code yX10_two cX10_two 5 (some .int) :: ((wsX10_two_r1 ++ (wsX10_two_r2 ++ wsX10_two_r3)) ++ wsX100)
def wsX10_site_r1 : List Cond := [Cond.fieldLink RX10 90 "OneNailModel" "things" "I", Cond.fieldLink RX10 117 "OneNailModel" "home" "I", Cond.methodLink RX10 86 yX10_within, Cond.static yX10_within, Cond.initialized RX10, Cond.code yX10_within cX10_within 3 (some .boolean), Cond.methodLink RX10 162 yX10_all, Cond.instanceMethod yX10_all, Cond.selects RX10 yX10_all yX10_all, Cond.code yX10_all cX10_all 1 (some .int), Cond.methodLink RX10 186 yX10_leastHarm, Cond.instanceMethod yX10_leastHarm, Cond.selects RX10 yX10_leastHarm yX10_leastHarm, Cond.code yX10_leastHarm cX10_leastHarm 7 (some .int), Cond.fieldLink RX10 145 "OneNailModel" "rowLong" "I", Cond.fieldLink RX10 65 "OneNailModel" "bestRow" "[I", Cond.fieldLink RX10 49 "OneNailModel" "row" "[I", Cond.methodLink RX10 178 yX10_firstOrder, Cond.instanceMethod yX10_firstOrder, Cond.selects RX10 yX10_firstOrder yX10_firstOrder, Cond.code yX10_firstOrder cX10_firstOrder 3 none, Cond.methodLink RX10 166 yX10_harmOf, Cond.instanceMethod yX10_harmOf, Cond.selects RX10 yX10_harmOf yX10_harmOf]
def wsX10_site_r2 : List Cond := [Cond.code yX10_harmOf cX10_harmOf 5 (some .int), Cond.fieldLink RX10 31 "OneNailModel" "harms" "[I", Cond.methodLink RX10 151 yX10_layComings, Cond.instanceMethod yX10_layComings, Cond.selects RX10 yX10_layComings yX10_layComings, Cond.code yX10_layComings cX10_layComings 6 none, Cond.fieldLink RX10 142 "OneNailModel" "comings" "I", Cond.fieldLink RX10 22 "OneNailModel" "place" "[I", Cond.fieldLink RX10 52 "OneNailModel" "comesAt" "[I", Cond.fieldLink RX10 55 "OneNailModel" "comesTo" "[I", Cond.fieldLink RX10 25 "OneNailModel" "stays" "[I", Cond.methodLink RX10 148 yX10_between, Cond.static yX10_between, Cond.code yX10_between cX10_between 2 (some .int), Cond.methodLink RX10 155 yX10_fallsOf, Cond.instanceMethod yX10_fallsOf, Cond.selects RX10 yX10_fallsOf yX10_fallsOf, Cond.code yX10_fallsOf cX10_fallsOf 6 (some .int), Cond.fieldLink RX10 58 "OneNailModel" "falls" "[I", Cond.methodLink RX10 139 yX10_holds, Cond.instanceMethod yX10_holds, Cond.selects RX10 yX10_holds yX10_holds, Cond.code yX10_holds cX10_holds 3 (some .int), Cond.fieldLink RX10 28 "OneNailModel" "hold" "[I"]
def wsX10_site_r3 : List Cond := [Cond.fieldLink RX10 123 "OneNailModel" "rustNow" "I", Cond.fieldLink RX10 19 "OneNailModel" "kind" "[I", Cond.methodLink RX10 182 yX10_nextOrder, Cond.instanceMethod yX10_nextOrder, Cond.selects RX10 yX10_nextOrder yX10_nextOrder, Cond.code yX10_nextOrder cX10_nextOrder 5 (some .boolean), Cond.methodLink RX10 175 yX10_change, Cond.instanceMethod yX10_change, Cond.selects RX10 yX10_change yX10_change, Cond.code yX10_change cX10_change 4 none]
def wsX10_site : List Cond := .code yX10_site cX10_site 7 (some .int) :: ((wsX10_site_r1 ++ (wsX10_site_r2 ++ wsX10_site_r3)) ++ wsX100)
def wsX10_reading : List Cond := .code yX10_reading cX10_reading 4 (some .int) :: ([.fieldLink RX10 126 "OneNailModel" "readings" "I", .fieldLink RX10 71 "OneNailModel" "readThing" "[I", .fieldLink RX10 74 "OneNailModel" "readMinute" "[I", .fieldLink RX10 77 "OneNailModel" "readUp" "[Z", .methodLink RX10 136 yX10_isThing, .instanceMethod yX10_isThing, .selects RX10 yX10_isThing yX10_isThing, .initialized RX10, .code yX10_isThing cX10_isThing 2 (some .boolean), .fieldLink RX10 90 "OneNailModel" "things" "I", .methodLink RX10 86 yX10_within, .static yX10_within, .code yX10_within cX10_within 3 (some .boolean)] ++ wsX100)
def wsX10_back : List Cond := .code yX10_back cX10_back 2 (some .int) :: ([.fieldLink RX10 126 "OneNailModel" "readings" "I", .methodLink RX10 86 yX10_within, .static yX10_within, .initialized RX10, .code yX10_within cX10_within 3 (some .boolean)] ++ wsX100)
def wsX10_isUp : List Cond := .code yX10_isUp cX10_isUp 5 (some .boolean) :: ([.fieldLink RX10 142 "OneNailModel" "comings" "I", .fieldLink RX10 55 "OneNailModel" "comesTo" "[I", .fieldLink RX10 52 "OneNailModel" "comesAt" "[I", .fieldLink RX10 25 "OneNailModel" "stays" "[I", .methodLink RX10 139 yX10_holds, .instanceMethod yX10_holds, .selects RX10 yX10_holds yX10_holds, .initialized RX10, .code yX10_holds cX10_holds 3 (some .int), .fieldLink RX10 28 "OneNailModel" "hold" "[I", .fieldLink RX10 123 "OneNailModel" "rustNow" "I", .fieldLink RX10 19 "OneNailModel" "kind" "[I"] ++ wsX100)
def wsX10_areSo_r1 : List Cond := [Cond.fieldLink RX10 126 "OneNailModel" "readings" "I", Cond.fieldLink RX10 71 "OneNailModel" "readThing" "[I", Cond.fieldLink RX10 74 "OneNailModel" "readMinute" "[I", Cond.fieldLink RX10 77 "OneNailModel" "readUp" "[Z", Cond.methodLink RX10 151 yX10_layComings, Cond.instanceMethod yX10_layComings, Cond.selects RX10 yX10_layComings yX10_layComings, Cond.initialized RX10, Cond.code yX10_layComings cX10_layComings 6 none, Cond.fieldLink RX10 142 "OneNailModel" "comings" "I", Cond.fieldLink RX10 145 "OneNailModel" "rowLong" "I", Cond.fieldLink RX10 117 "OneNailModel" "home" "I", Cond.fieldLink RX10 22 "OneNailModel" "place" "[I", Cond.fieldLink RX10 49 "OneNailModel" "row" "[I", Cond.fieldLink RX10 52 "OneNailModel" "comesAt" "[I", Cond.fieldLink RX10 55 "OneNailModel" "comesTo" "[I", Cond.fieldLink RX10 25 "OneNailModel" "stays" "[I", Cond.methodLink RX10 148 yX10_between, Cond.static yX10_between, Cond.code yX10_between cX10_between 2 (some .int), Cond.methodLink RX10 195 yX10_isUp, Cond.instanceMethod yX10_isUp, Cond.selects RX10 yX10_isUp yX10_isUp, Cond.code yX10_isUp cX10_isUp 5 (some .boolean)]
def wsX10_areSo_r2 : List Cond := [Cond.methodLink RX10 139 yX10_holds, Cond.instanceMethod yX10_holds, Cond.selects RX10 yX10_holds yX10_holds, Cond.code yX10_holds cX10_holds 3 (some .int), Cond.fieldLink RX10 28 "OneNailModel" "hold" "[I", Cond.fieldLink RX10 123 "OneNailModel" "rustNow" "I", Cond.fieldLink RX10 19 "OneNailModel" "kind" "[I"]
def wsX10_areSo : List Cond := .code yX10_areSo cX10_areSo 2 (some .boolean) :: ((wsX10_areSo_r1 ++ wsX10_areSo_r2) ++ wsX100)
def wsX10_fits_r1 : List Cond := [Cond.fieldLink RX10 90 "OneNailModel" "things" "I", Cond.fieldLink RX10 49 "OneNailModel" "row" "[I", Cond.methodLink RX10 86 yX10_within, Cond.static yX10_within, Cond.initialized RX10, Cond.code yX10_within cX10_within 3 (some .boolean), Cond.methodLink RX10 162 yX10_all, Cond.instanceMethod yX10_all, Cond.selects RX10 yX10_all yX10_all, Cond.code yX10_all cX10_all 1 (some .int), Cond.methodLink RX10 178 yX10_firstOrder, Cond.instanceMethod yX10_firstOrder, Cond.selects RX10 yX10_firstOrder yX10_firstOrder, Cond.code yX10_firstOrder cX10_firstOrder 3 none, Cond.fieldLink RX10 145 "OneNailModel" "rowLong" "I", Cond.methodLink RX10 198 yX10_areSo, Cond.instanceMethod yX10_areSo, Cond.selects RX10 yX10_areSo yX10_areSo, Cond.code yX10_areSo cX10_areSo 2 (some .boolean), Cond.fieldLink RX10 126 "OneNailModel" "readings" "I", Cond.fieldLink RX10 71 "OneNailModel" "readThing" "[I", Cond.fieldLink RX10 74 "OneNailModel" "readMinute" "[I", Cond.fieldLink RX10 77 "OneNailModel" "readUp" "[Z", Cond.methodLink RX10 151 yX10_layComings]
def wsX10_fits_r2 : List Cond := [Cond.instanceMethod yX10_layComings, Cond.selects RX10 yX10_layComings yX10_layComings, Cond.code yX10_layComings cX10_layComings 6 none, Cond.fieldLink RX10 142 "OneNailModel" "comings" "I", Cond.fieldLink RX10 117 "OneNailModel" "home" "I", Cond.fieldLink RX10 22 "OneNailModel" "place" "[I", Cond.fieldLink RX10 52 "OneNailModel" "comesAt" "[I", Cond.fieldLink RX10 55 "OneNailModel" "comesTo" "[I", Cond.fieldLink RX10 25 "OneNailModel" "stays" "[I", Cond.methodLink RX10 148 yX10_between, Cond.static yX10_between, Cond.code yX10_between cX10_between 2 (some .int), Cond.methodLink RX10 195 yX10_isUp, Cond.instanceMethod yX10_isUp, Cond.selects RX10 yX10_isUp yX10_isUp, Cond.code yX10_isUp cX10_isUp 5 (some .boolean), Cond.methodLink RX10 139 yX10_holds, Cond.instanceMethod yX10_holds, Cond.selects RX10 yX10_holds yX10_holds, Cond.code yX10_holds cX10_holds 3 (some .int), Cond.fieldLink RX10 28 "OneNailModel" "hold" "[I", Cond.fieldLink RX10 123 "OneNailModel" "rustNow" "I", Cond.fieldLink RX10 19 "OneNailModel" "kind" "[I", Cond.methodLink RX10 182 yX10_nextOrder]
def wsX10_fits_r3 : List Cond := [Cond.instanceMethod yX10_nextOrder, Cond.selects RX10 yX10_nextOrder yX10_nextOrder, Cond.code yX10_nextOrder cX10_nextOrder 5 (some .boolean), Cond.methodLink RX10 175 yX10_change, Cond.instanceMethod yX10_change, Cond.selects RX10 yX10_change yX10_change, Cond.code yX10_change cX10_change 4 none]
def wsX10_fits : List Cond := .code yX10_fits cX10_fits 5 (some .int) :: ((wsX10_fits_r1 ++ (wsX10_fits_r2 ++ wsX10_fits_r3)) ++ wsX100)
def wsX10_sheet : List Cond := .code yX10_sheet cX10_sheet 5 (some .int) :: ([.fieldLink RX10 80 "OneNailModel" "fault" "I", .fieldLink RX10 9 "OneNailModel" "sorts" "[I", .fieldLink RX10 13 "OneNailModel" "sheetLong" "[I", .fieldLink RX10 16 "OneNailModel" "cells" "[I", .methodLink RX10 96 yX10_isSheet, .static yX10_isSheet, .initialized RX10, .code yX10_isSheet cX10_isSheet 1 (some .boolean), .methodLink RX10 86 yX10_within, .static yX10_within, .code yX10_within cX10_within 3 (some .boolean), .methodLink RX10 100 yX10_isSort, .static yX10_isSort, .code yX10_isSort cX10_isSort 1 (some .boolean), .methodLink RX10 107 yX10_fails, .instanceMethod yX10_fails, .selects RX10 yX10_fails yX10_fails, .code yX10_fails cX10_fails 2 (some .int)] ++ wsX100)
def wsX10_lose : List Cond := .code yX10_lose cX10_lose 3 (some .int) :: ([.fieldLink RX10 9 "OneNailModel" "sorts" "[I", .methodLink RX10 96 yX10_isSheet, .static yX10_isSheet, .initialized RX10, .code yX10_isSheet cX10_isSheet 1 (some .boolean), .methodLink RX10 86 yX10_within, .static yX10_within, .code yX10_within cX10_within 3 (some .boolean)] ++ wsX100)
def wsX10_put : List Cond := .code yX10_put cX10_put 4 (some .int) :: ([.fieldLink RX10 80 "OneNailModel" "fault" "I", .fieldLink RX10 9 "OneNailModel" "sorts" "[I", .fieldLink RX10 13 "OneNailModel" "sheetLong" "[I", .fieldLink RX10 16 "OneNailModel" "cells" "[I", .methodLink RX10 96 yX10_isSheet, .static yX10_isSheet, .initialized RX10, .code yX10_isSheet cX10_isSheet 1 (some .boolean), .methodLink RX10 86 yX10_within, .static yX10_within, .code yX10_within cX10_within 3 (some .boolean), .methodLink RX10 107 yX10_fails, .instanceMethod yX10_fails, .selects RX10 yX10_fails yX10_fails, .code yX10_fails cX10_fails 2 (some .int)] ++ wsX100)
def wsX10_cell : List Cond := .code yX10_cell cX10_cell 4 (some .long) :: ([.fieldLink RX10 80 "OneNailModel" "fault" "I", .constantLong RX10 84 (-9223372036854775808), .fieldLink RX10 9 "OneNailModel" "sorts" "[I", .fieldLink RX10 13 "OneNailModel" "sheetLong" "[I", .fieldLink RX10 16 "OneNailModel" "cells" "[I", .methodLink RX10 96 yX10_isSheet, .static yX10_isSheet, .initialized RX10, .code yX10_isSheet cX10_isSheet 1 (some .boolean), .methodLink RX10 86 yX10_within, .static yX10_within, .code yX10_within cX10_within 3 (some .boolean), .methodLink RX10 100 yX10_isSort, .static yX10_isSort, .code yX10_isSort cX10_isSort 1 (some .boolean), .methodLink RX10 201 yX10_lost, .instanceMethod yX10_lost, .selects RX10 yX10_lost yX10_lost, .code yX10_lost cX10_lost 2 (some .long)] ++ wsX100)
def wsX10_copy : List Cond := .code yX10_copy cX10_copy 10 (some .int) :: ([.fieldLink RX10 80 "OneNailModel" "fault" "I", .fieldLink RX10 9 "OneNailModel" "sorts" "[I", .fieldLink RX10 13 "OneNailModel" "sheetLong" "[I", .fieldLink RX10 16 "OneNailModel" "cells" "[I", .methodLink RX10 96 yX10_isSheet, .static yX10_isSheet, .initialized RX10, .code yX10_isSheet cX10_isSheet 1 (some .boolean), .methodLink RX10 86 yX10_within, .static yX10_within, .code yX10_within cX10_within 3 (some .boolean), .methodLink RX10 107 yX10_fails, .instanceMethod yX10_fails, .selects RX10 yX10_fails yX10_fails, .code yX10_fails cX10_fails 2 (some .int)] ++ wsX100)
def wsX10_begins : List Cond := .code yX10_begins cX10_begins 2 none :: ([.fieldLink RX10 205 "OneNailModel" "trace" "I"] ++ wsX100)
def wsX10_tell : List Cond := .code yX10_tell cX10_tell 3 (some .int) :: ([.fieldLink RX10 28 "OneNailModel" "hold" "[I", .fieldLink RX10 19 "OneNailModel" "kind" "[I", .methodLink RX10 136 yX10_isThing, .instanceMethod yX10_isThing, .selects RX10 yX10_isThing yX10_isThing, .initialized RX10, .code yX10_isThing cX10_isThing 2 (some .boolean), .fieldLink RX10 90 "OneNailModel" "things" "I", .methodLink RX10 208 yX10_begins, .instanceMethod yX10_begins, .selects RX10 yX10_begins yX10_begins, .code yX10_begins cX10_begins 2 none, .fieldLink RX10 205 "OneNailModel" "trace" "I"] ++ wsX100)
def wsX10_strike : List Cond := .code yX10_strike cX10_strike 2 (some .int) :: ([.fieldLink RX10 19 "OneNailModel" "kind" "[I", .methodLink RX10 136 yX10_isThing, .instanceMethod yX10_isThing, .selects RX10 yX10_isThing yX10_isThing, .initialized RX10, .code yX10_isThing cX10_isThing 2 (some .boolean), .fieldLink RX10 90 "OneNailModel" "things" "I", .methodLink RX10 208 yX10_begins, .instanceMethod yX10_begins, .selects RX10 yX10_begins yX10_begins, .code yX10_begins cX10_begins 2 none, .fieldLink RX10 205 "OneNailModel" "trace" "I"] ++ wsX100)
def wsX10_as : List Cond := .code yX10_as cX10_as 3 (some .int) :: ([.fieldLink RX10 80 "OneNailModel" "fault" "I", .fieldLink RX10 19 "OneNailModel" "kind" "[I", .methodLink RX10 136 yX10_isThing, .instanceMethod yX10_isThing, .selects RX10 yX10_isThing yX10_isThing, .initialized RX10, .code yX10_isThing cX10_isThing 2 (some .boolean), .fieldLink RX10 90 "OneNailModel" "things" "I", .methodLink RX10 86 yX10_within, .static yX10_within, .code yX10_within cX10_within 3 (some .boolean), .methodLink RX10 107 yX10_fails, .instanceMethod yX10_fails, .selects RX10 yX10_fails yX10_fails, .code yX10_fails cX10_fails 2 (some .int)] ++ wsX100)
def wsX10_trace : List Cond := .code yX10_trace cX10_trace 1 (some .int) :: ([.fieldLink RX10 205 "OneNailModel" "trace" "I"] ++ wsX100)
def wsX10_fault : List Cond := .code yX10_fault cX10_fault 1 (some .int) :: ([.fieldLink RX10 80 "OneNailModel" "fault" "I"] ++ wsX100)
def wsX10_many : List Cond := .code yX10_many cX10_many 2 (some .int) :: ([.fieldLink RX10 90 "OneNailModel" "things" "I", .fieldLink RX10 117 "OneNailModel" "home" "I", .fieldLink RX10 123 "OneNailModel" "rustNow" "I", .fieldLink RX10 126 "OneNailModel" "readings" "I"] ++ wsX100)
def wsJ9_abs_0f7a4 : List Cond := .code yJ9_abs_0f7a4 cJ9_abs_0f7a4 1 (some .int) :: ([])
def wsJ9_max_7cf53 : List Cond := .code yJ9_max_7cf53 cJ9_max_7cf53 2 (some .int) :: ([])
def wsJ9_min_7cf53 : List Cond := .code yJ9_min_7cf53 cJ9_min_7cf53 2 (some .int) :: ([])
def wsL_law_r1 : List Cond := [Cond.classLink RL 7 RX9, Cond.instantiable RX9 8, Cond.initialized RX9, Cond.classLink RL 10 RX10, Cond.instantiable RX10 34, Cond.initialized RX10, Cond.methodLink RL 9 yX9_init, Cond.instanceMethod yX9_init, Cond.code yX9_init cX9_init 2 none, Cond.methodLink RX9 3 objectInit, Cond.instanceMethod objectInit, Cond.code objectInit ⟨#[0xb1]⟩ 1 none, Cond.classLink RX9 9 RX5, Cond.instantiable RX5 8, Cond.initialized RX5, Cond.fieldLink RX9 12 "OneNail" "town" "LOneNail$Street;", Cond.classLink RX9 18 RX3, Cond.instantiable RX3 4, Cond.initialized RX3, Cond.fieldLink RX9 21 "OneNail" "seen" "LOneNail$Readings;", Cond.classLink RX9 25 RX8, Cond.instantiable RX8 10, Cond.initialized RX8, Cond.fieldLink RX9 30 "OneNail" "walk" "LOneNail$Walk;"]
def wsL_law_r2 : List Cond := [Cond.classLink RX9 34 RX2, Cond.instantiable RX2 6, Cond.initialized RX2, Cond.fieldLink RX9 37 "OneNail" "orders" "LOneNail$Orders;", Cond.classLink RX9 41 RX4, Cond.fieldLink RX9 43 "OneNail" "sheets" "[LOneNail$Sheet;", Cond.arrayClass .int, Cond.fieldLink RX9 47 "OneNail" "leastOf" "[I", Cond.classLink RX9 51 RX7, Cond.instantiable RX7 1, Cond.initialized RX7, Cond.fieldLink RX9 54 "OneNail" "traced" "LOneNail$Trace;", Cond.fieldLink RX9 58 "OneNail" "lastFault" "I", Cond.instantiable RX4 3, Cond.initialized RX4, Cond.methodLink RX9 11 yX5_init, Cond.instanceMethod yX5_init, Cond.code yX5_init cX5_init 1 none, Cond.methodLink RX5 3 objectInit, Cond.fieldLink RX5 9 "OneNail$Street" "count" "I", Cond.fieldLink RX5 15 "OneNail$Street" "smithyPlace" "I", Cond.fieldLink RX5 18 "OneNail$Street" "rusted" "I", Cond.classLink RX5 21 RX6, Cond.fieldLink RX5 23 "OneNail$Street" "things" "[LOneNail$Thing;"]
def wsL_law_r3 : List Cond := [Cond.fieldLink RX5 27 "OneNail$Street" "places" "[I", Cond.fieldLink RX5 31 "OneNail$Street" "stays" "[I", Cond.fieldLink RX5 34 "OneNail$Street" "harms" "[I", Cond.fieldLink RX5 37 "OneNail$Street" "holds" "[I", Cond.methodLink RX9 20 yX3_init, Cond.instanceMethod yX3_init, Cond.code yX3_init cX3_init 1 none, Cond.methodLink RX3 3 objectInit, Cond.fieldLink RX3 9 "OneNail$Readings" "count" "I", Cond.fieldLink RX3 15 "OneNail$Readings" "things" "[I", Cond.fieldLink RX3 19 "OneNail$Readings" "minutes" "[I", Cond.arrayClass .boolean, Cond.fieldLink RX3 22 "OneNail$Readings" "ups" "[Z", Cond.methodLink RX9 27 yX8_init, Cond.instanceMethod yX8_init, Cond.code yX8_init cX8_init 2 none, Cond.methodLink RX8 3 objectInit, Cond.fieldLink RX8 9 "OneNail$Walk" "round" "[I", Cond.fieldLink RX8 15 "OneNail$Walk" "length" "I", Cond.fieldLink RX8 19 "OneNail$Walk" "until" "[I", Cond.fieldLink RX8 22 "OneNail$Walk" "fallen" "[I", Cond.fieldLink RX8 25 "OneNail$Walk" "spot" "I", Cond.fieldLink RX8 28 "OneNail$Walk" "from" "I", Cond.fieldLink RX8 31 "OneNail$Walk" "leaves" "I"]
def wsL_law_r4 : List Cond := [Cond.fieldLink RX8 34 "OneNail$Walk" "thing" "I", Cond.fieldLink RX8 37 "OneNail$Walk" "comes" "I", Cond.fieldLink RX8 40 "OneNail$Walk" "town" "LOneNail$Street;", Cond.methodLink RX9 36 yX2_init, Cond.instanceMethod yX2_init, Cond.code yX2_init cX2_init 2 none, Cond.methodLink RX2 3 objectInit, Cond.fieldLink RX2 9 "OneNail$Orders" "row" "[I", Cond.fieldLink RX2 15 "OneNail$Orders" "length" "I", Cond.fieldLink RX2 19 "OneNail$Orders" "comes" "[I", Cond.fieldLink RX2 22 "OneNail$Orders" "period" "I", Cond.fieldLink RX2 25 "OneNail$Orders" "kept" "[I", Cond.fieldLink RX2 28 "OneNail$Orders" "town" "LOneNail$Street;", Cond.methodLink RX9 53 yX7_init, Cond.instanceMethod yX7_init, Cond.code yX7_init cX7_init 1 none, Cond.methodLink RX7 1 objectInit, Cond.fieldLink RX7 7 "OneNail$Trace" "value" "I", Cond.methodLink RX9 62 yX4_init, Cond.instanceMethod yX4_init, Cond.code yX4_init cX4_init 1 none, Cond.methodLink RX4 3 objectInit, Cond.fieldLink RX4 11 "OneNail$Sheet" "lane" "I", Cond.fieldLink RX4 15 "OneNail$Sheet" "length" "I"]
def wsL_law_r5 : List Cond := [Cond.fieldLink RX4 18 "OneNail$Sheet" "cells" "[I", Cond.methodLink RL 12 yX10_init, Cond.instanceMethod yX10_init, Cond.code yX10_init cX10_init 1 none, Cond.methodLink RX10 1 objectInit, Cond.fieldLink RX10 9 "OneNailModel" "sorts" "[I", Cond.fieldLink RX10 13 "OneNailModel" "sheetLong" "[I", Cond.fieldLink RX10 16 "OneNailModel" "cells" "[I", Cond.fieldLink RX10 19 "OneNailModel" "kind" "[I", Cond.fieldLink RX10 22 "OneNailModel" "place" "[I", Cond.fieldLink RX10 25 "OneNailModel" "stays" "[I", Cond.fieldLink RX10 28 "OneNailModel" "hold" "[I", Cond.fieldLink RX10 31 "OneNailModel" "harms" "[I", Cond.fieldLink RX10 34 "OneNailModel" "readKind" "[I", Cond.fieldLink RX10 37 "OneNailModel" "readPlace" "[I", Cond.fieldLink RX10 40 "OneNailModel" "readStays" "[I", Cond.fieldLink RX10 43 "OneNailModel" "readHold" "[I", Cond.fieldLink RX10 46 "OneNailModel" "readHarms" "[I", Cond.fieldLink RX10 49 "OneNailModel" "row" "[I", Cond.fieldLink RX10 52 "OneNailModel" "comesAt" "[I", Cond.fieldLink RX10 55 "OneNailModel" "comesTo" "[I", Cond.fieldLink RX10 58 "OneNailModel" "falls" "[I", Cond.fieldLink RX10 61 "OneNailModel" "doesFall" "[Z", Cond.fieldLink RX10 65 "OneNailModel" "bestRow" "[I"]
def wsL_law_r6 : List Cond := [Cond.fieldLink RX10 68 "OneNailModel" "leastOf" "[I", Cond.fieldLink RX10 71 "OneNailModel" "readThing" "[I", Cond.fieldLink RX10 74 "OneNailModel" "readMinute" "[I", Cond.fieldLink RX10 77 "OneNailModel" "readUp" "[Z", Cond.methodLink RL 13 yX9_street, Cond.instanceMethod yX9_street, Cond.selects RX9 yX9_street yX9_street, Cond.code yX9_street cX9_street 8 (some .int), Cond.fieldLink RX9 83 "OneNail$Street" "count" "I", Cond.methodLink RX9 63 yX9_isLane, Cond.static yX9_isLane, Cond.code yX9_isLane cX9_isLane 1 (some .boolean), Cond.methodLink RX9 67 yX9_refuseCells, Cond.instanceMethod yX9_refuseCells, Cond.selects RX9 yX9_refuseCells yX9_refuseCells, Cond.code yX9_refuseCells cX9_refuseCells 8 (some .int), Cond.methodLink RX9 71 yX9_sheetAt, Cond.instanceMethod yX9_sheetAt, Cond.selects RX9 yX9_sheetAt yX9_sheetAt, Cond.code yX9_sheetAt cX9_sheetAt 2 (some (.object "OneNail$Sheet")), Cond.methodLink RX9 207 yX9_refuseLane, Cond.instanceMethod yX9_refuseLane, Cond.selects RX9 yX9_refuseLane yX9_refuseLane, Cond.code yX9_refuseLane cX9_refuseLane 3 (some .int)]
def wsL_law_r7 : List Cond := [Cond.fieldLink RX9 216 "OneNail$Sheet" "lane" "I", Cond.methodLink RX9 195 yX4_isNothing, Cond.instanceMethod yX4_isNothing, Cond.selects RX4 yX4_isNothing yX4_isNothing, Cond.code yX4_isNothing cX4_isNothing 1 (some .boolean), Cond.methodLink RX9 188 yX9_failBy, Cond.instanceMethod yX9_failBy, Cond.selects RX9 yX9_failBy yX9_failBy, Cond.code yX9_failBy cX9_failBy 2 (some .int), Cond.methodLink RX9 219 yX4_spans, Cond.instanceMethod yX4_spans, Cond.selects RX4 yX4_spans yX4_spans, Cond.code yX4_spans cX4_spans 3 (some .boolean), Cond.methodLink RX9 75 yX9_firstFault, Cond.static yX9_firstFault, Cond.code yX9_firstFault cX9_firstFault 6 (some .int), Cond.methodLink RX9 213 yX4_read, Cond.instanceMethod yX4_read, Cond.selects RX4 yX4_read yX4_read, Cond.code yX4_read cX4_read 2 (some .int), Cond.methodLink RX4 31 yX4_hasCell, Cond.instanceMethod yX4_hasCell, Cond.selects RX4 yX4_hasCell yX4_hasCell, Cond.code yX4_hasCell cX4_hasCell 2 (some .boolean)]
def wsL_law_r8 : List Cond := [Cond.methodLink RX9 245 yX9_goesOn, Cond.static yX9_goesOn, Cond.code yX9_goesOn cX9_goesOn 2 (some .boolean), Cond.methodLink RX9 248 yX9_isDigit, Cond.static yX9_isDigit, Cond.code yX9_isDigit cX9_isDigit 1 (some .boolean), Cond.methodLink RX9 79 yX9_takeText, Cond.instanceMethod yX9_takeText, Cond.selects RX9 yX9_takeText yX9_takeText, Cond.code yX9_takeText cX9_takeText 6 none, Cond.fieldLink RX9 183 "OneNail$Readings" "count" "I", Cond.methodLink RX9 251 yX5_empty, Cond.instanceMethod yX5_empty, Cond.selects RX5 yX5_empty yX5_empty, Cond.code yX5_empty cX5_empty 2 none, Cond.methodLink RX9 254 yX9_readThing, Cond.static yX9_readThing, Cond.code yX9_readThing cX9_readThing 8 (some (.object "OneNail$Thing")), Cond.classLink RX9 262 RX0, Cond.instantiable RX0 5, Cond.initialized RX0, Cond.classLink RX9 267 RX1, Cond.instantiable RX1 5, Cond.initialized RX1]
def wsL_law_r9 : List Cond := [Cond.classLink RX9 91 RX6, Cond.instantiable RX6 5, Cond.initialized RX6, Cond.methodLink RX9 264 yX0_init, Cond.instanceMethod yX0_init, Cond.code yX0_init cX0_init 6 none, Cond.methodLink RX0 1 yX1_init, Cond.instanceMethod yX1_init, Cond.code yX1_init cX1_init 6 none, Cond.methodLink RX1 1 yX6_init, Cond.instanceMethod yX6_init, Cond.code yX6_init cX6_init 6 none, Cond.methodLink RX6 1 objectInit, Cond.fieldLink RX6 7 "OneNail$Thing" "number" "I", Cond.fieldLink RX6 13 "OneNail$Thing" "place" "I", Cond.fieldLink RX6 16 "OneNail$Thing" "stay" "I", Cond.fieldLink RX6 19 "OneNail$Thing" "hold" "I", Cond.fieldLink RX6 22 "OneNail$Thing" "harmDone" "I", Cond.methodLink RX9 269 yX1_init, Cond.methodLink RX9 270 yX6_init, Cond.methodLink RX9 258 yX5_addThing, Cond.instanceMethod yX5_addThing, Cond.selects RX5 yX5_addThing yX5_addThing, Cond.code yX5_addThing cX5_addThing 2 none]
def wsL_law_r10 : List Cond := [Cond.fieldLink RX5 40 "OneNail$Thing" "place" "I", Cond.fieldLink RX5 43 "OneNail$Thing" "stay" "I", Cond.fieldLink RX5 46 "OneNail$Thing" "harmDone" "I", Cond.methodLink RX9 118 yX5_becomeRusty, Cond.instanceMethod yX5_becomeRusty, Cond.selects RX5 yX5_becomeRusty yX5_becomeRusty, Cond.code yX5_becomeRusty cX5_becomeRusty 4 none, Cond.methodLink RX5 49 ⟨"OneNail$Thing", "holdsBy", "(I)I"⟩, Cond.sameMethod "OneNail$Thing" "OneNail$Thing" "holdsBy" "(I)I", Cond.instanceMethod ⟨"OneNail$Thing", "holdsBy", "(I)I"⟩, Cond.selects RX0 ⟨"OneNail$Thing", "holdsBy", "(I)I"⟩ yX0_holdsBy, Cond.instanceMethod yX0_holdsBy, Cond.code yX0_holdsBy cX0_holdsBy 2 (some .int), Cond.methodLink RX0 7 yX1_holdsBy, Cond.sameMethod "OneNail$Door" "OneNail$Door" "holdsBy" "(I)I", Cond.superclass RX0 RX1, Cond.instanceMethod yX1_holdsBy, Cond.code yX1_holdsBy cX1_holdsBy 3 (some .int), Cond.methodLink RX1 7 yX6_holdsBy, Cond.superclass RX1 RX6, Cond.instanceMethod yX6_holdsBy, Cond.code yX6_holdsBy cX6_holdsBy 2 (some .int), Cond.methodLink RX6 25 Lib.Math.max.name, Cond.static Lib.Math.max.name]
def wsL_law_r11 : List Cond := [Cond.initialized "java/lang/Math", Cond.code Lib.Math.max.name Lib.Math.max.code 2 (some .int), Cond.selects RX1 ⟨"OneNail$Thing", "holdsBy", "(I)I"⟩ yX1_holdsBy, Cond.methodLink RX5 49 yX6_holdsBy, Cond.selects RX6 yX6_holdsBy yX6_holdsBy, Cond.methodLink RL 17 yX10_street, Cond.instanceMethod yX10_street, Cond.selects RX10 yX10_street yX10_street, Cond.code yX10_street cX10_street 8 (some .int), Cond.fieldLink RX10 80 "OneNailModel" "fault" "I", Cond.fieldLink RX10 93 "OneNailModel" "at" "I", Cond.fieldLink RX10 114 "OneNailModel" "readHome" "I", Cond.fieldLink RX10 117 "OneNailModel" "home" "I", Cond.fieldLink RX10 120 "OneNailModel" "readThings" "I", Cond.fieldLink RX10 90 "OneNailModel" "things" "I", Cond.fieldLink RX10 123 "OneNailModel" "rustNow" "I", Cond.fieldLink RX10 126 "OneNailModel" "readings" "I", Cond.methodLink RX10 96 yX10_isSheet, Cond.static yX10_isSheet, Cond.code yX10_isSheet cX10_isSheet 1 (some .boolean), Cond.methodLink RX10 86 yX10_within, Cond.static yX10_within, Cond.code yX10_within cX10_within 3 (some .boolean), Cond.methodLink RX10 100 yX10_isSort]
def wsL_law_r12 : List Cond := [Cond.static yX10_isSort, Cond.code yX10_isSort cX10_isSort 1 (some .boolean), Cond.methodLink RX10 103 yX10_against, Cond.instanceMethod yX10_against, Cond.selects RX10 yX10_against yX10_against, Cond.code yX10_against cX10_against 5 (some .int), Cond.methodLink RX10 107 yX10_fails, Cond.instanceMethod yX10_fails, Cond.selects RX10 yX10_fails yX10_fails, Cond.code yX10_fails cX10_fails 2 (some .int), Cond.methodLink RX10 111 yX10_readStreet, Cond.instanceMethod yX10_readStreet, Cond.selects RX10 yX10_readStreet yX10_readStreet, Cond.code yX10_readStreet cX10_readStreet 2 (some .boolean), Cond.methodLink RX10 129 yX10_digit, Cond.instanceMethod yX10_digit, Cond.selects RX10 yX10_digit yX10_digit, Cond.code yX10_digit cX10_digit 3 (some .int), Cond.methodLink RX10 133 yX10_readThing, Cond.instanceMethod yX10_readThing, Cond.selects RX10 yX10_readThing yX10_readThing, Cond.code yX10_readThing cX10_readThing 6 (some .boolean), Cond.methodLink RL 18 yX9_ofThing, Cond.instanceMethod yX9_ofThing]
def wsL_law_r13 : List Cond := [Cond.selects RX9 yX9_ofThing yX9_ofThing, Cond.code yX9_ofThing cX9_ofThing 4 (some .int), Cond.fieldLink RX9 96 "OneNail$Thing" "place" "I", Cond.fieldLink RX9 99 "OneNail$Thing" "stay" "I", Cond.fieldLink RX9 102 "OneNail$Thing" "hold" "I", Cond.fieldLink RX9 105 "OneNail$Thing" "harmDone" "I", Cond.fieldLink RX9 108 "OneNail$Street" "rusted" "I", Cond.methodLink RX9 86 yX5_thingAt, Cond.instanceMethod yX5_thingAt, Cond.selects RX5 yX5_thingAt yX5_thingAt, Cond.code yX5_thingAt cX5_thingAt 2 (some (.object "OneNail$Thing")), Cond.methodLink RX5 53 yX5_has, Cond.instanceMethod yX5_has, Cond.selects RX5 yX5_has yX5_has, Cond.code yX5_has cX5_has 2 (some .boolean), Cond.methodLink RX9 90 ⟨"OneNail$Thing", "kindNumber", "()I"⟩, Cond.sameMethod "OneNail$Thing" "OneNail$Thing" "kindNumber" "()I", Cond.instanceMethod ⟨"OneNail$Thing", "kindNumber", "()I"⟩, Cond.selects RX0 ⟨"OneNail$Thing", "kindNumber", "()I"⟩ yX0_kindNumber, Cond.instanceMethod yX0_kindNumber, Cond.code yX0_kindNumber cX0_kindNumber 1 (some .int), Cond.code yX6_kindNumber cX6_kindNumber 1 (some .int), Cond.selects RX1 ⟨"OneNail$Thing", "kindNumber", "()I"⟩ yX1_kindNumber, Cond.instanceMethod yX1_kindNumber]
def wsL_law_r14 : List Cond := [Cond.code yX1_kindNumber cX1_kindNumber 1 (some .int), Cond.methodLink RX9 90 yX6_kindNumber, Cond.instanceMethod yX6_kindNumber, Cond.selects RX6 yX6_kindNumber yX6_kindNumber, Cond.methodLink RX9 111 ⟨"OneNail$Thing", "holdsBy", "(I)I"⟩, Cond.methodLink RX9 111 yX6_holdsBy, Cond.methodLink RL 22 yX10_ofThing, Cond.instanceMethod yX10_ofThing, Cond.selects RX10 yX10_ofThing yX10_ofThing, Cond.code yX10_ofThing cX10_ofThing 3 (some .int), Cond.methodLink RX10 136 yX10_isThing, Cond.instanceMethod yX10_isThing, Cond.selects RX10 yX10_isThing yX10_isThing, Cond.code yX10_isThing cX10_isThing 2 (some .boolean), Cond.methodLink RX10 139 yX10_holds, Cond.instanceMethod yX10_holds, Cond.selects RX10 yX10_holds yX10_holds, Cond.code yX10_holds cX10_holds 3 (some .int), Cond.methodLink RL 23 yX9_smithy, Cond.instanceMethod yX9_smithy, Cond.selects RX9 yX9_smithy yX9_smithy, Cond.code yX9_smithy cX9_smithy 3 (some .int), Cond.fieldLink RX9 115 "OneNail$Street" "smithyPlace" "I", Cond.methodLink RL 27 yX10_smithy]
def wsL_law_r15 : List Cond := [Cond.instanceMethod yX10_smithy, Cond.selects RX10 yX10_smithy yX10_smithy, Cond.code yX10_smithy cX10_smithy 3 (some .int), Cond.methodLink RL 28 yX9_rust, Cond.instanceMethod yX9_rust, Cond.selects RX9 yX9_rust yX9_rust, Cond.code yX9_rust cX9_rust 3 (some .int), Cond.methodLink RL 31 yX10_rust, Cond.instanceMethod yX10_rust, Cond.selects RX10 yX10_rust yX10_rust, Cond.code yX10_rust cX10_rust 3 (some .int), Cond.methodLink RL 32 yX9_harm, Cond.instanceMethod yX9_harm, Cond.selects RX9 yX9_harm yX9_harm, Cond.code yX9_harm cX9_harm 7 (some .int), Cond.methodLink RX9 122 yX9_isSpan, Cond.static yX9_isSpan, Cond.code yX9_isSpan cX9_isSpan 1 (some .boolean), Cond.methodLink RX9 125 yX9_refuseRound, Cond.instanceMethod yX9_refuseRound, Cond.selects RX9 yX9_refuseRound yX9_refuseRound, Cond.code yX9_refuseRound cX9_refuseRound 9 (some .int), Cond.methodLink RX9 176 yX5_has, Cond.methodLink RX9 242 yX8_layRound]
def wsL_law_r16 : List Cond := [Cond.instanceMethod yX8_layRound, Cond.selects RX8 yX8_layRound yX8_layRound, Cond.code yX8_layRound cX8_layRound 5 none, Cond.methodLink RX8 44 Lib.Math.min.name, Cond.static Lib.Math.min.name, Cond.code Lib.Math.min.name Lib.Math.min.code 2 (some .int), Cond.methodLink RX8 50 yX4_read, Cond.methodLink RX9 128 yX8_markFalls, Cond.instanceMethod yX8_markFalls, Cond.selects RX8 yX8_markFalls yX8_markFalls, Cond.code yX8_markFalls cX8_markFalls 2 none, Cond.fieldLink RX8 61 "OneNail$Street" "count" "I", Cond.methodLink RX8 76 yX8_begin, Cond.instanceMethod yX8_begin, Cond.selects RX8 yX8_begin yX8_begin, Cond.code yX8_begin cX8_begin 2 none, Cond.fieldLink RX8 56 "OneNail$Street" "smithyPlace" "I", Cond.fieldLink RX8 64 "OneNail$Street" "holds" "[I", Cond.methodLink RX8 79 yX8_goOn, Cond.instanceMethod yX8_goOn, Cond.selects RX8 yX8_goOn yX8_goOn, Cond.code yX8_goOn cX8_goOn 1 none, Cond.fieldLink RX8 67 "OneNail$Street" "places" "[I", Cond.methodLink RX8 70 Lib.Math.abs.name]
def wsL_law_r17 : List Cond := [Cond.static Lib.Math.abs.name, Cond.code Lib.Math.abs.name Lib.Math.abs.code 1 (some .int), Cond.fieldLink RX8 73 "OneNail$Street" "stays" "[I", Cond.methodLink RX8 82 yX8_markFall, Cond.instanceMethod yX8_markFall, Cond.selects RX8 yX8_markFall yX8_markFall, Cond.code yX8_markFall cX8_markFall 3 none, Cond.methodLink RX8 86 yX8_nailed, Cond.instanceMethod yX8_nailed, Cond.selects RX8 yX8_nailed yX8_nailed, Cond.code yX8_nailed cX8_nailed 1 none, Cond.methodLink RX9 131 yX8_harmBelow, Cond.instanceMethod yX8_harmBelow, Cond.selects RX8 yX8_harmBelow yX8_harmBelow, Cond.code yX8_harmBelow cX8_harmBelow 5 (some .int), Cond.fieldLink RX8 89 "OneNail$Street" "harms" "[I", Cond.methodLink RL 36 yX10_harm, Cond.instanceMethod yX10_harm, Cond.selects RX10 yX10_harm yX10_harm, Cond.code yX10_harm cX10_harm 7 (some .int), Cond.methodLink RX10 159 yX10_layRow, Cond.instanceMethod yX10_layRow, Cond.selects RX10 yX10_layRow yX10_layRow, Cond.code yX10_layRow cX10_layRow 7 (some .int)]
def wsL_law_r18 : List Cond := [Cond.fieldLink RX10 145 "OneNailModel" "rowLong" "I", Cond.methodLink RX10 162 yX10_all, Cond.instanceMethod yX10_all, Cond.selects RX10 yX10_all yX10_all, Cond.code yX10_all cX10_all 1 (some .int), Cond.methodLink RX10 166 yX10_harmOf, Cond.instanceMethod yX10_harmOf, Cond.selects RX10 yX10_harmOf yX10_harmOf, Cond.code yX10_harmOf cX10_harmOf 5 (some .int), Cond.methodLink RX10 151 yX10_layComings, Cond.instanceMethod yX10_layComings, Cond.selects RX10 yX10_layComings yX10_layComings, Cond.code yX10_layComings cX10_layComings 6 none, Cond.fieldLink RX10 142 "OneNailModel" "comings" "I", Cond.methodLink RX10 148 yX10_between, Cond.static yX10_between, Cond.code yX10_between cX10_between 2 (some .int), Cond.methodLink RX10 155 yX10_fallsOf, Cond.instanceMethod yX10_fallsOf, Cond.selects RX10 yX10_fallsOf yX10_fallsOf, Cond.code yX10_fallsOf cX10_fallsOf 6 (some .int), Cond.methodLink RL 37 yX9_never, Cond.instanceMethod yX9_never, Cond.selects RX9 yX9_never yX9_never]
def wsL_law_r19 : List Cond := [Cond.code yX9_never cX9_never 6 (some .int), Cond.methodLink RX9 134 yX8_nothingEverFalls, Cond.instanceMethod yX8_nothingEverFalls, Cond.selects RX8 yX8_nothingEverFalls yX8_nothingEverFalls, Cond.code yX8_nothingEverFalls cX8_nothingEverFalls 3 (some .boolean), Cond.methodLink RX8 97 yX5_all, Cond.instanceMethod yX5_all, Cond.selects RX5 yX5_all yX5_all, Cond.code yX5_all cX5_all 1 (some .int), Cond.methodLink RL 40 yX10_never, Cond.instanceMethod yX10_never, Cond.selects RX10 yX10_never yX10_never, Cond.code yX10_never cX10_never 6 (some .int), Cond.methodLink RX10 169 yX10_isSafe, Cond.instanceMethod yX10_isSafe, Cond.selects RX10 yX10_isSafe yX10_isSafe, Cond.code yX10_isSafe cX10_isSafe 6 (some .boolean), Cond.constant RX10 158 (100000), Cond.methodLink RL 41 yX9_fall, Cond.instanceMethod yX9_fall, Cond.selects RX9 yX9_fall yX9_fall, Cond.code yX9_fall cX9_fall 7 (some .int), Cond.methodLink RX9 138 yX8_countFalls, Cond.instanceMethod yX8_countFalls]
def wsL_law_r20 : List Cond := [Cond.selects RX8 yX8_countFalls yX8_countFalls, Cond.code yX8_countFalls cX8_countFalls 3 (some .int), Cond.methodLink RX8 92 yJ6_bitCount_0f7a4, Cond.static yJ6_bitCount_0f7a4, Cond.initialized RJ6, Cond.code yJ6_bitCount_0f7a4 cJ6_bitCount_0f7a4 1 (some .int), Cond.constant RJ6 265 (1431655765), Cond.constant RJ6 266 (858993459), Cond.constant RJ6 267 (252645135), Cond.methodLink RX9 141 yX8_fallNumber, Cond.instanceMethod yX8_fallNumber, Cond.selects RX8 yX8_fallNumber yX8_fallNumber, Cond.code yX8_fallNumber cX8_fallNumber 5 (some .int), Cond.methodLink RL 44 yX10_fall, Cond.instanceMethod yX10_fall, Cond.selects RX10 yX10_fall yX10_fall, Cond.code yX10_fall cX10_fall 10 (some .int), Cond.methodLink RX10 172 yX10_layFalls, Cond.instanceMethod yX10_layFalls, Cond.selects RX10 yX10_layFalls yX10_layFalls, Cond.code yX10_layFalls cX10_layFalls 5 (some .int), Cond.methodLink RL 45 yX9_nail, Cond.instanceMethod yX9_nail, Cond.selects RX9 yX9_nail yX9_nail]
def wsL_law_r21 : List Cond := [Cond.code yX9_nail cX9_nail 7 (some .int), Cond.methodLink RX9 144 yX9_isMinute, Cond.static yX9_isMinute, Cond.code yX9_isMinute cX9_isMinute 1 (some .boolean), Cond.methodLink RX9 147 yX8_whereAt, Cond.instanceMethod yX8_whereAt, Cond.selects RX8 yX8_whereAt yX8_whereAt, Cond.code yX8_whereAt cX8_whereAt 3 (some .int), Cond.methodLink RL 48 yX10_nail, Cond.instanceMethod yX10_nail, Cond.selects RX10 yX10_nail yX10_nail, Cond.code yX10_nail cX10_nail 10 (some .int), Cond.methodLink RL 49 yX9_best, Cond.instanceMethod yX9_best, Cond.selects RX9 yX9_best yX9_best, Cond.code yX9_best cX9_best 4 (some .int), Cond.methodLink RX9 150 yX5_all, Cond.methodLink RX9 153 yX2_leastHarm, Cond.instanceMethod yX2_leastHarm, Cond.selects RX2 yX2_leastHarm yX2_leastHarm, Cond.code yX2_leastHarm cX2_leastHarm 8 (some .int), Cond.constant RX2 38 (2147483647), Cond.methodLink RX2 32 yX2_begin, Cond.instanceMethod yX2_begin]
def wsL_law_r22 : List Cond := [Cond.selects RX2 yX2_begin yX2_begin, Cond.code yX2_begin cX2_begin 3 (some .int), Cond.fieldLink RX2 66 "OneNail$Street" "count" "I", Cond.fieldLink RX2 69 "OneNail$Orders" "ORDERS_OF" "[I", Cond.methodLink RX2 39 yX2_time, Cond.instanceMethod yX2_time, Cond.selects RX2 yX2_time yX2_time, Cond.code yX2_time cX2_time 6 none, Cond.fieldLink RX2 76 "OneNail$Street" "places" "[I", Cond.methodLink RX2 79 Lib.Math.abs.name, Cond.fieldLink RX2 84 "OneNail$Street" "stays" "[I", Cond.methodLink RX2 43 yX2_harmBelow, Cond.instanceMethod yX2_harmBelow, Cond.selects RX2 yX2_harmBelow yX2_harmBelow, Cond.code yX2_harmBelow cX2_harmBelow 5 (some .int), Cond.fieldLink RX2 90 "OneNail$Street" "harms" "[I", Cond.methodLink RX2 87 yX2_fallsBelow, Cond.instanceMethod yX2_fallsBelow, Cond.selects RX2 yX2_fallsBelow yX2_fallsBelow, Cond.code yX2_fallsBelow cX2_fallsBelow 7 (some .int), Cond.fieldLink RX2 93 "OneNail$Street" "holds" "[I", Cond.methodLink RX2 47 yX2_keep, Cond.instanceMethod yX2_keep, Cond.selects RX2 yX2_keep yX2_keep]
def wsL_law_r23 : List Cond := [Cond.code yX2_keep cX2_keep 2 none, Cond.methodLink RX2 50 yX2_goOn, Cond.instanceMethod yX2_goOn, Cond.selects RX2 yX2_goOn yX2_goOn, Cond.code yX2_goOn cX2_goOn 5 none, Cond.methodLink RX2 72 yX2_swap, Cond.instanceMethod yX2_swap, Cond.selects RX2 yX2_swap yX2_swap, Cond.code yX2_swap cX2_swap 4 none, Cond.methodLink RX9 157 yX2_keptAt, Cond.instanceMethod yX2_keptAt, Cond.selects RX2 yX2_keptAt yX2_keptAt, Cond.code yX2_keptAt cX2_keptAt 2 (some .int), Cond.methodLink RL 52 yX10_best, Cond.instanceMethod yX10_best, Cond.selects RX10 yX10_best yX10_best, Cond.code yX10_best cX10_best 4 (some .int), Cond.methodLink RX10 186 yX10_leastHarm, Cond.instanceMethod yX10_leastHarm, Cond.selects RX10 yX10_leastHarm yX10_leastHarm, Cond.code yX10_leastHarm cX10_leastHarm 7 (some .int), Cond.methodLink RX10 178 yX10_firstOrder, Cond.instanceMethod yX10_firstOrder, Cond.selects RX10 yX10_firstOrder yX10_firstOrder]
def wsL_law_r24 : List Cond := [Cond.code yX10_firstOrder cX10_firstOrder 3 none, Cond.methodLink RX10 182 yX10_nextOrder, Cond.instanceMethod yX10_nextOrder, Cond.selects RX10 yX10_nextOrder yX10_nextOrder, Cond.code yX10_nextOrder cX10_nextOrder 5 (some .boolean), Cond.methodLink RX10 175 yX10_change, Cond.instanceMethod yX10_change, Cond.selects RX10 yX10_change yX10_change, Cond.code yX10_change cX10_change 4 none, Cond.methodLink RL 53 yX9_safe, Cond.instanceMethod yX9_safe, Cond.selects RX9 yX9_safe yX9_safe, Cond.code yX9_safe cX9_safe 1 (some .int), Cond.constant RX9 162 (2147483647), Cond.methodLink RX9 163 yX2_countSafe, Cond.instanceMethod yX2_countSafe, Cond.selects RX2 yX2_countSafe yX2_countSafe, Cond.code yX2_countSafe cX2_countSafe 6 (some .int), Cond.fieldLink RX2 53 "OneNail$Street" "smithyPlace" "I", Cond.methodLink RX2 58 yX2_nothingEverFalls, Cond.instanceMethod yX2_nothingEverFalls, Cond.selects RX2 yX2_nothingEverFalls yX2_nothingEverFalls, Cond.code yX2_nothingEverFalls cX2_nothingEverFalls 4 (some .boolean), Cond.methodLink RL 57 yX10_safe]
def wsL_law_r25 : List Cond := [Cond.instanceMethod yX10_safe, Cond.selects RX10 yX10_safe yX10_safe, Cond.code yX10_safe cX10_safe 3 (some .int), Cond.methodLink RL 58 yX9_letGo, Cond.instanceMethod yX9_letGo, Cond.selects RX9 yX9_letGo yX9_letGo, Cond.code yX9_letGo cX9_letGo 5 (some .int), Cond.methodLink RX9 167 yJ6_bitCount_0f7a4, Cond.methodLink RL 61 yX10_letGo, Cond.instanceMethod yX10_letGo, Cond.selects RX10 yX10_letGo yX10_letGo, Cond.code yX10_letGo cX10_letGo 3 (some .int), Cond.methodLink RX10 189 yX10_size, Cond.static yX10_size, Cond.code yX10_size cX10_size 3 (some .int), Cond.methodLink RX10 192 yX10_canBeSafe, Cond.instanceMethod yX10_canBeSafe, Cond.selects RX10 yX10_canBeSafe yX10_canBeSafe, Cond.code yX10_canBeSafe cX10_canBeSafe 3 (some .boolean), Cond.methodLink RL 62 yX9_two, Cond.instanceMethod yX9_two, Cond.selects RX9 yX9_two yX9_two, Cond.code yX9_two cX9_two 6 (some .int), Cond.methodLink RX9 170 yX9_isHalf]
def wsL_law_r26 : List Cond := [Cond.static yX9_isHalf, Cond.code yX9_isHalf cX9_isHalf 1 (some .boolean), Cond.methodLink RX9 173 yX9_harmOfBoth, Cond.instanceMethod yX9_harmOfBoth, Cond.selects RX9 yX9_harmOfBoth yX9_harmOfBoth, Cond.code yX9_harmOfBoth cX9_harmOfBoth 3 (some .int), Cond.methodLink RL 65 yX10_two, Cond.instanceMethod yX10_two, Cond.selects RX10 yX10_two yX10_two, Cond.code yX10_two cX10_two 5 (some .int), Cond.methodLink RL 66 yX9_site, Cond.instanceMethod yX9_site, Cond.selects RX9 yX9_site yX9_site, Cond.code yX9_site cX9_site 7 (some .int), Cond.methodLink RL 69 yX10_site, Cond.instanceMethod yX10_site, Cond.selects RX10 yX10_site yX10_site, Cond.code yX10_site cX10_site 7 (some .int), Cond.methodLink RL 70 yX9_reading, Cond.instanceMethod yX9_reading, Cond.selects RX9 yX9_reading yX9_reading, Cond.code yX9_reading cX9_reading 4 (some .int), Cond.methodLink RX9 179 yX3_note, Cond.instanceMethod yX3_note]
def wsL_law_r27 : List Cond := [Cond.selects RX3 yX3_note yX3_note, Cond.code yX3_note cX3_note 4 (some .int), Cond.methodLink RL 74 yX10_reading, Cond.instanceMethod yX10_reading, Cond.selects RX10 yX10_reading yX10_reading, Cond.code yX10_reading cX10_reading 4 (some .int), Cond.methodLink RL 75 yX9_back, Cond.instanceMethod yX9_back, Cond.selects RX9 yX9_back yX9_back, Cond.code yX9_back cX9_back 2 (some .int), Cond.methodLink RL 78 yX10_back, Cond.instanceMethod yX10_back, Cond.selects RX10 yX10_back yX10_back, Cond.code yX10_back cX10_back 2 (some .int), Cond.methodLink RL 79 yX9_fits, Cond.instanceMethod yX9_fits, Cond.selects RX9 yX9_fits yX9_fits, Cond.code yX9_fits cX9_fits 3 (some .int), Cond.methodLink RX9 184 yX2_countFitting, Cond.instanceMethod yX2_countFitting, Cond.selects RX2 yX2_countFitting yX2_countFitting, Cond.code yX2_countFitting cX2_countFitting 6 (some .int), Cond.methodLink RX2 62 yX2_allAreSo, Cond.instanceMethod yX2_allAreSo]
def wsL_law_r28 : List Cond := [Cond.selects RX2 yX2_allAreSo yX2_allAreSo, Cond.code yX2_allAreSo cX2_allAreSo 3 (some .boolean), Cond.fieldLink RX2 96 "OneNail$Readings" "count" "I", Cond.fieldLink RX2 99 "OneNail$Readings" "things" "[I", Cond.fieldLink RX2 102 "OneNail$Readings" "minutes" "[I", Cond.fieldLink RX2 109 "OneNail$Readings" "ups" "[Z", Cond.methodLink RX2 105 yX2_isUp, Cond.instanceMethod yX2_isUp, Cond.selects RX2 yX2_isUp yX2_isUp, Cond.code yX2_isUp cX2_isUp 4 (some .boolean), Cond.methodLink RL 82 yX10_fits, Cond.instanceMethod yX10_fits, Cond.selects RX10 yX10_fits yX10_fits, Cond.code yX10_fits cX10_fits 5 (some .int), Cond.methodLink RX10 198 yX10_areSo, Cond.instanceMethod yX10_areSo, Cond.selects RX10 yX10_areSo yX10_areSo, Cond.code yX10_areSo cX10_areSo 2 (some .boolean), Cond.methodLink RX10 195 yX10_isUp, Cond.instanceMethod yX10_isUp, Cond.selects RX10 yX10_isUp yX10_isUp, Cond.code yX10_isUp cX10_isUp 5 (some .boolean), Cond.methodLink RL 83 yX9_sheet, Cond.instanceMethod yX9_sheet]
def wsL_law_r29 : List Cond := [Cond.selects RX9 yX9_sheet yX9_sheet, Cond.code yX9_sheet cX9_sheet 5 (some .int), Cond.methodLink RX9 191 yX4_makeRow, Cond.instanceMethod yX4_makeRow, Cond.selects RX4 yX4_makeRow yX4_makeRow, Cond.code yX4_makeRow cX4_makeRow 4 none, Cond.methodLink RX4 22 Lib.Math.min.name, Cond.methodLink RX4 28 Lib.Math.max.name, Cond.methodLink RL 87 yX10_sheet, Cond.instanceMethod yX10_sheet, Cond.selects RX10 yX10_sheet yX10_sheet, Cond.code yX10_sheet cX10_sheet 5 (some .int), Cond.methodLink RL 88 yX9_lose, Cond.instanceMethod yX9_lose, Cond.selects RX9 yX9_lose yX9_lose, Cond.code yX9_lose cX9_lose 3 (some .int), Cond.methodLink RX9 198 yX4_makeNothing, Cond.instanceMethod yX4_makeNothing, Cond.selects RX4 yX4_makeNothing yX4_makeNothing, Cond.code yX4_makeNothing cX4_makeNothing 1 none, Cond.methodLink RL 91 yX10_lose, Cond.instanceMethod yX10_lose, Cond.selects RX10 yX10_lose yX10_lose, Cond.code yX10_lose cX10_lose 3 (some .int)]
def wsL_law_r30 : List Cond := [Cond.methodLink RL 92 yX9_put, Cond.instanceMethod yX9_put, Cond.selects RX9 yX9_put yX9_put, Cond.code yX9_put cX9_put 5 (some .int), Cond.methodLink RX9 201 yX4_hasCell, Cond.methodLink RX9 204 yX4_write, Cond.instanceMethod yX4_write, Cond.selects RX4 yX4_write yX4_write, Cond.code yX4_write cX4_write 3 none, Cond.methodLink RL 95 yX10_put, Cond.instanceMethod yX10_put, Cond.selects RX10 yX10_put yX10_put, Cond.code yX10_put cX10_put 4 (some .int), Cond.methodLink RL 96 yX9_cell, Cond.instanceMethod yX9_cell, Cond.selects RX9 yX9_cell yX9_cell, Cond.code yX9_cell cX9_cell 5 (some .long), Cond.constantLong RX9 211 (-9223372036854775808), Cond.methodLink RL 100 yX10_cell, Cond.instanceMethod yX10_cell, Cond.selects RX10 yX10_cell yX10_cell, Cond.code yX10_cell cX10_cell 4 (some .long), Cond.constantLong RX10 84 (-9223372036854775808), Cond.methodLink RX10 201 yX10_lost]
def wsL_law_r31 : List Cond := [Cond.instanceMethod yX10_lost, Cond.selects RX10 yX10_lost yX10_lost, Cond.code yX10_lost cX10_lost 2 (some .long), Cond.methodLink RL 101 yX9_copy, Cond.instanceMethod yX9_copy, Cond.selects RX9 yX9_copy yX9_copy, Cond.code yX9_copy cX9_copy 8 (some .int), Cond.fieldLink RX9 223 "OneNail$Sheet" "cells" "[I", Cond.methodLink RX9 226 arraycopyName, Cond.native arraycopyName, Cond.static arraycopyName, Cond.initialized "java/lang/System", Cond.methodLink RL 104 yX10_copy, Cond.instanceMethod yX10_copy, Cond.selects RX10 yX10_copy yX10_copy, Cond.code yX10_copy cX10_copy 10 (some .int), Cond.methodLink RL 105 yX9_tell, Cond.instanceMethod yX9_tell, Cond.selects RX9 yX9_tell yX9_tell, Cond.code yX9_tell cX9_tell 3 (some .int), Cond.methodLink RX9 232 ⟨"OneNail$Thing", "telling", "(LOneNail$Trace;)I"⟩, Cond.sameMethod "OneNail$Thing" "OneNail$Thing" "telling" "(LOneNail$Trace;)I", Cond.instanceMethod ⟨"OneNail$Thing", "telling", "(LOneNail$Trace;)I"⟩, Cond.selects RX0 ⟨"OneNail$Thing", "telling", "(LOneNail$Trace;)I"⟩ yX0_telling]
def wsL_law_r32 : List Cond := [Cond.instanceMethod yX0_telling, Cond.code yX0_telling cX0_telling 3 (some .int), Cond.methodLink RX0 11 yX7_leave, Cond.instanceMethod yX7_leave, Cond.selects RX7 yX7_leave yX7_leave, Cond.code yX7_leave cX7_leave 2 none, Cond.methodLink RX0 17 yX1_telling, Cond.sameMethod "OneNail$Door" "OneNail$Door" "telling" "(LOneNail$Trace;)I", Cond.instanceMethod yX1_telling, Cond.code yX1_telling cX1_telling 2 (some .int), Cond.methodLink RX1 11 yX7_leave, Cond.methodLink RX1 17 yX6_telling, Cond.instanceMethod yX6_telling, Cond.code yX6_telling cX6_telling 2 (some .int), Cond.methodLink RX6 31 ⟨"OneNail$Thing", "plainTelling", "(LOneNail$Trace;)I"⟩, Cond.sameMethod "OneNail$Thing" "OneNail$Thing" "plainTelling" "(LOneNail$Trace;)I", Cond.selects RX0 ⟨"OneNail$Thing", "plainTelling", "(LOneNail$Trace;)I"⟩ yX6_plainTelling, Cond.instanceMethod yX6_plainTelling, Cond.code yX6_plainTelling cX6_plainTelling 2 (some .int), Cond.methodLink RX6 35 yX7_leave, Cond.selects RX1 ⟨"OneNail$Thing", "plainTelling", "(LOneNail$Trace;)I"⟩ yX6_plainTelling, Cond.methodLink RX6 31 yX6_plainTelling, Cond.selects RX6 yX6_plainTelling yX6_plainTelling, Cond.methodLink RX0 21 ⟨"OneNail$Coffin", "plainTelling", "(LOneNail$Trace;)I"⟩]
def wsL_law_r33 : List Cond := [Cond.sameMethod "OneNail$Coffin" "OneNail$Thing" "plainTelling" "(LOneNail$Trace;)I", Cond.selects RX0 ⟨"OneNail$Coffin", "plainTelling", "(LOneNail$Trace;)I"⟩ yX6_plainTelling, Cond.selects RX1 ⟨"OneNail$Thing", "telling", "(LOneNail$Trace;)I"⟩ yX1_telling, Cond.methodLink RX9 232 yX6_telling, Cond.selects RX6 yX6_telling yX6_telling, Cond.methodLink RL 108 yX10_tell, Cond.instanceMethod yX10_tell, Cond.selects RX10 yX10_tell yX10_tell, Cond.code yX10_tell cX10_tell 3 (some .int), Cond.methodLink RX10 208 yX10_begins, Cond.instanceMethod yX10_begins, Cond.selects RX10 yX10_begins yX10_begins, Cond.code yX10_begins cX10_begins 2 none, Cond.fieldLink RX10 205 "OneNailModel" "trace" "I", Cond.methodLink RL 109 yX9_strike, Cond.instanceMethod yX9_strike, Cond.selects RX9 yX9_strike yX9_strike, Cond.code yX9_strike cX9_strike 3 (some .int), Cond.methodLink RX9 236 ⟨"OneNail$Thing", "struck", "(LOneNail$Trace;)I"⟩, Cond.sameMethod "OneNail$Thing" "OneNail$Thing" "struck" "(LOneNail$Trace;)I", Cond.instanceMethod ⟨"OneNail$Thing", "struck", "(LOneNail$Trace;)I"⟩, Cond.selects RX0 ⟨"OneNail$Thing", "struck", "(LOneNail$Trace;)I"⟩ yX0_struck, Cond.instanceMethod yX0_struck, Cond.code yX0_struck cX0_struck 2 (some .int)]
def wsL_law_r34 : List Cond := [Cond.code yX6_struck cX6_struck 2 (some .int), Cond.selects RX1 ⟨"OneNail$Thing", "struck", "(LOneNail$Trace;)I"⟩ yX6_struck, Cond.instanceMethod yX6_struck, Cond.methodLink RX9 236 yX6_struck, Cond.selects RX6 yX6_struck yX6_struck, Cond.methodLink RL 112 yX10_strike, Cond.instanceMethod yX10_strike, Cond.selects RX10 yX10_strike yX10_strike, Cond.code yX10_strike cX10_strike 2 (some .int), Cond.methodLink RL 113 yX9_as, Cond.instanceMethod yX9_as, Cond.selects RX9 yX9_as yX9_as, Cond.code yX9_as cX9_as 4 (some .int), Cond.methodLink RL 116 yX10_as, Cond.instanceMethod yX10_as, Cond.selects RX10 yX10_as yX10_as, Cond.code yX10_as cX10_as 3 (some .int), Cond.methodLink RL 117 yX9_trace, Cond.instanceMethod yX9_trace, Cond.selects RX9 yX9_trace yX9_trace, Cond.code yX9_trace cX9_trace 1 (some .int), Cond.fieldLink RX9 239 "OneNail$Trace" "value" "I", Cond.methodLink RL 120 yX10_trace, Cond.instanceMethod yX10_trace]
def wsL_law_r35 : List Cond := [Cond.selects RX10 yX10_trace yX10_trace, Cond.code yX10_trace cX10_trace 1 (some .int), Cond.methodLink RL 121 yX9_fault, Cond.instanceMethod yX9_fault, Cond.selects RX9 yX9_fault yX9_fault, Cond.code yX9_fault cX9_fault 1 (some .int), Cond.methodLink RL 124 yX10_fault, Cond.instanceMethod yX10_fault, Cond.selects RX10 yX10_fault yX10_fault, Cond.code yX10_fault cX10_fault 1 (some .int), Cond.methodLink RL 125 yX9_many, Cond.instanceMethod yX9_many, Cond.selects RX9 yX9_many yX9_many, Cond.code yX9_many cX9_many 2 (some .int), Cond.methodLink RL 128 yX10_many, Cond.instanceMethod yX10_many, Cond.selects RX10 yX10_many yX10_many, Cond.code yX10_many cX10_many 2 (some .int)]
def wsL_law : List Cond := (wsL_law_r1 ++ (wsL_law_r2 ++ (wsL_law_r3 ++ (wsL_law_r4 ++ (wsL_law_r5 ++ (wsL_law_r6 ++ (wsL_law_r7 ++ (wsL_law_r8 ++ (wsL_law_r9 ++ (wsL_law_r10 ++ (wsL_law_r11 ++ (wsL_law_r12 ++ (wsL_law_r13 ++ (wsL_law_r14 ++ (wsL_law_r15 ++ (wsL_law_r16 ++ (wsL_law_r17 ++ (wsL_law_r18 ++ (wsL_law_r19 ++ (wsL_law_r20 ++ (wsL_law_r21 ++ (wsL_law_r22 ++ (wsL_law_r23 ++ (wsL_law_r24 ++ (wsL_law_r25 ++ (wsL_law_r26 ++ (wsL_law_r27 ++ (wsL_law_r28 ++ (wsL_law_r29 ++ (wsL_law_r30 ++ (wsL_law_r31 ++ (wsL_law_r32 ++ (wsL_law_r33 ++ (wsL_law_r34 ++ wsL_law_r35)))))))))))))))))))))))))))))))))) ++ wsX90 ++ wsX100 ++ wsX50 ++ wsX30 ++ wsX80 ++ wsX20 ++ wsX70 ++ wsX40 ++ wsX00 ++ wsX10 ++ wsX60 ++ ([] : List Cond)
abbrev vwCl : List vw_C := [(RX0, TX0, 5), (RX1, TX1, 5), (RX2, TX2, 6), (RX3, TX3, 4), (RX4, TX4, 3), (RX5, TX5, 8), (RX6, TX6, 5), (RX7, TX7, 1), (RX8, TX8, 10), (RX9, TX9, 8), (RX10, TX10, 34)]
end
section
set_option maxRecDepth 20000 in
theorem ggX0_init_X1_init : GoodIn wsX0_init wsX1_init := goodIn_r _ [4, 5, 6, 7, 8, 9, 10, 11, 12, 13, 14, 15, 16, 17, 18, 19, 20, 21, 22, 23, 24, 25, 26, 27, 28, 29, 30, 31] (by decide +kernel) (by decide +kernel)
set_option maxRecDepth 20000 in
theorem gX0_init_X1_init : GoodIn wsX0_init (wsX1_init) := ggX0_init_X1_init
theorem dX0_init_0 : decode cX0_init 0 = .ok (.aload_n 0, 1) := by decide +kernel
theorem dX0_init_1 : decode cX0_init 1 = .ok (.iload_n 1, 1) := by decide +kernel
theorem dX0_init_2 : decode cX0_init 2 = .ok (.iload_n 2, 1) := by decide +kernel
theorem dX0_init_3 : decode cX0_init 3 = .ok (.iload_n 3, 1) := by decide +kernel
theorem dX0_init_4 : decode cX0_init 4 = .ok (.iload 4, 2) := by decide +kernel
theorem dX0_init_6 : decode cX0_init 6 = .ok (.iload 5, 2) := by decide +kernel
theorem dX0_init_8 : decode cX0_init 8 = .ok (.invokespecial 1, 3) := by decide +kernel
theorem dX0_init_11 : decode cX0_init 11 = .ok (.return_, 1) := by decide +kernel
theorem dX0_kindNumber_0 : decode cX0_kindNumber 0 = .ok (.iconst 2, 1) := by decide +kernel
theorem dX0_kindNumber_1 : decode cX0_kindNumber 1 = .ok (.ireturn, 1) := by decide +kernel
set_option maxRecDepth 20000 in
theorem ggX0_holdsBy_X1_holdsBy : GoodIn wsX0_holdsBy wsX1_holdsBy := goodIn_r _ [6, 7, 8, 9, 10, 11, 12, 13, 14, 15, 16, 17, 18, 19, 20, 21, 22, 23, 24, 25, 26, 27, 28, 29, 30, 31, 32] (by decide +kernel) (by decide +kernel)
set_option maxRecDepth 20000 in
theorem gX0_holdsBy_X1_holdsBy_s7 : GoodIn wsX0_holdsBy (va_wsSU RX0 7 yX1_holdsBy wsX1_holdsBy) := goodIn_app (goodIn_of _ (by decide +kernel)) ggX0_holdsBy_X1_holdsBy
theorem dX0_holdsBy_0 : decode cX0_holdsBy 0 = .ok (.aload_n 0, 1) := by decide +kernel
theorem dX0_holdsBy_1 : decode cX0_holdsBy 1 = .ok (.iload_n 1, 1) := by decide +kernel
theorem dX0_holdsBy_2 : decode cX0_holdsBy 2 = .ok (.invokespecial 7, 3) := by decide +kernel
theorem dX0_holdsBy_5 : decode cX0_holdsBy 5 = .ok (.bipush 10, 2) := by decide +kernel
theorem dX0_holdsBy_7 : decode cX0_holdsBy 7 = .ok (.iadd, 1) := by decide +kernel
theorem dX0_holdsBy_8 : decode cX0_holdsBy 8 = .ok (.ireturn, 1) := by decide +kernel
set_option maxRecDepth 20000 in
theorem ggX0_telling_X7_leave : GoodIn wsX0_telling wsX7_leave := goodIn_r _ [5, 6, 33] (by decide +kernel) (by decide +kernel)
set_option maxRecDepth 20000 in
theorem gX0_telling_X7_leave : GoodIn wsX0_telling (wsV RX0 11 RX7 yX7_leave wsX7_leave) := goodIn_app (goodIn_of _ (by decide +kernel)) ggX0_telling_X7_leave
set_option maxRecDepth 20000 in
theorem ggX0_telling_X1_telling : GoodIn wsX0_telling wsX1_telling := goodIn_r _ [12, 13, 2, 3, 4, 5, 6, 14, 15, 16, 17, 18, 19, 20, 21, 22, 23, 24, 25, 26, 27, 28, 29, 33, 34, 35, 36, 37, 38, 39, 40, 41, 42, 43, 44, 45, 46, 47, 48] (by decide +kernel) (by decide +kernel)
set_option maxRecDepth 20000 in
theorem gX0_telling_X1_telling_s17 : GoodIn wsX0_telling (va_wsSU RX0 17 yX1_telling wsX1_telling) := goodIn_app (goodIn_of _ (by decide +kernel)) ggX0_telling_X1_telling
set_option maxRecDepth 20000 in
theorem ggX0_telling_X6_plainTelling : GoodIn wsX0_telling wsX6_plainTelling := goodIn_r _ [24, 25, 26, 2, 3, 4, 5, 6, 34, 35, 36, 37, 38, 39, 40, 41, 42, 43, 44, 45, 46, 47, 48, 33] (by decide +kernel) (by decide +kernel)
set_option maxRecDepth 20000 in
theorem gX0_telling_X6_plainTelling_u21X0 : GoodIn wsX0_telling (va_wsU RX0 21 RX0 "OneNail$Thing" ⟨"OneNail$Coffin", "plainTelling", "(LOneNail$Trace;)I"⟩ yX6_plainTelling wsX6_plainTelling) := goodIn_app (goodIn_of _ (by decide +kernel)) ggX0_telling_X6_plainTelling
theorem dX0_telling_0 : decode cX0_telling 0 = .ok (.aload_n 1, 1) := by decide +kernel
theorem dX0_telling_1 : decode cX0_telling 1 = .ok (.iconst 3, 1) := by decide +kernel
theorem dX0_telling_2 : decode cX0_telling 2 = .ok (.invokevirtual 11, 3) := by decide +kernel
theorem dX0_telling_5 : decode cX0_telling 5 = .ok (.aload_n 0, 1) := by decide +kernel
theorem dX0_telling_6 : decode cX0_telling 6 = .ok (.aload_n 1, 1) := by decide +kernel
theorem dX0_telling_7 : decode cX0_telling 7 = .ok (.invokespecial 17, 3) := by decide +kernel
theorem dX0_telling_10 : decode cX0_telling 10 = .ok (.istore_n 2, 1) := by decide +kernel
theorem dX0_telling_11 : decode cX0_telling 11 = .ok (.iload_n 2, 1) := by decide +kernel
theorem dX0_telling_12 : decode cX0_telling 12 = .ok (.aload_n 0, 1) := by decide +kernel
theorem dX0_telling_13 : decode cX0_telling 13 = .ok (.aload_n 1, 1) := by decide +kernel
theorem dX0_telling_14 : decode cX0_telling 14 = .ok (.invokevirtual 21, 3) := by decide +kernel
theorem dX0_telling_17 : decode cX0_telling 17 = .ok (.iadd, 1) := by decide +kernel
theorem dX0_telling_18 : decode cX0_telling 18 = .ok (.ireturn, 1) := by decide +kernel
set_option maxRecDepth 20000 in
theorem ggX0_struck_X7_leave : GoodIn wsX0_struck wsX7_leave := goodIn_r _ [5, 6, 7] (by decide +kernel) (by decide +kernel)
set_option maxRecDepth 20000 in
theorem gX0_struck_X7_leave : GoodIn wsX0_struck (wsV RX0 11 RX7 yX7_leave wsX7_leave) := goodIn_app (goodIn_of _ (by decide +kernel)) ggX0_struck_X7_leave
theorem dX0_struck_0 : decode cX0_struck 0 = .ok (.aload_n 1, 1) := by decide +kernel
theorem dX0_struck_1 : decode cX0_struck 1 = .ok (.iconst 5, 1) := by decide +kernel
theorem dX0_struck_2 : decode cX0_struck 2 = .ok (.invokevirtual 11, 3) := by decide +kernel
theorem dX0_struck_5 : decode cX0_struck 5 = .ok (.bipush 30, 2) := by decide +kernel
theorem dX0_struck_7 : decode cX0_struck 7 = .ok (.ireturn, 1) := by decide +kernel
set_option maxRecDepth 20000 in
theorem ggX1_init_X6_init : GoodIn wsX1_init wsX6_init := goodIn_r _ [4, 5, 6, 7, 8, 9, 10, 11, 12, 13, 14, 15, 16, 17, 18, 19, 20, 21, 22, 23, 24, 25, 26, 27] (by decide +kernel) (by decide +kernel)
set_option maxRecDepth 20000 in
theorem gX1_init_X6_init : GoodIn wsX1_init (wsX6_init) := ggX1_init_X6_init
theorem dX1_init_0 : decode cX1_init 0 = .ok (.aload_n 0, 1) := by decide +kernel
theorem dX1_init_1 : decode cX1_init 1 = .ok (.iload_n 1, 1) := by decide +kernel
theorem dX1_init_2 : decode cX1_init 2 = .ok (.iload_n 2, 1) := by decide +kernel
theorem dX1_init_3 : decode cX1_init 3 = .ok (.iload_n 3, 1) := by decide +kernel
theorem dX1_init_4 : decode cX1_init 4 = .ok (.iload 4, 2) := by decide +kernel
theorem dX1_init_6 : decode cX1_init 6 = .ok (.iload 5, 2) := by decide +kernel
theorem dX1_init_8 : decode cX1_init 8 = .ok (.invokespecial 1, 3) := by decide +kernel
theorem dX1_init_11 : decode cX1_init 11 = .ok (.return_, 1) := by decide +kernel
theorem dX1_kindNumber_0 : decode cX1_kindNumber 0 = .ok (.iconst 1, 1) := by decide +kernel
theorem dX1_kindNumber_1 : decode cX1_kindNumber 1 = .ok (.ireturn, 1) := by decide +kernel
set_option maxRecDepth 20000 in
theorem ggX1_holdsBy_X6_holdsBy : GoodIn wsX1_holdsBy wsX6_holdsBy := goodIn_r _ [6, 7, 8, 9, 10, 11, 12, 13, 14, 15, 16, 17, 18, 19, 20, 21, 22, 23, 24, 25, 26] (by decide +kernel) (by decide +kernel)
set_option maxRecDepth 20000 in
theorem gX1_holdsBy_X6_holdsBy_s7 : GoodIn wsX1_holdsBy (va_wsSU RX1 7 yX6_holdsBy wsX6_holdsBy) := goodIn_app (goodIn_of _ (by decide +kernel)) ggX1_holdsBy_X6_holdsBy
theorem dX1_holdsBy_0 : decode cX1_holdsBy 0 = .ok (.aload_n 0, 1) := by decide +kernel
theorem dX1_holdsBy_1 : decode cX1_holdsBy 1 = .ok (.iload_n 1, 1) := by decide +kernel
theorem dX1_holdsBy_2 : decode cX1_holdsBy 2 = .ok (.invokespecial 7, 3) := by decide +kernel
theorem dX1_holdsBy_5 : decode cX1_holdsBy 5 = .ok (.istore_n 2, 1) := by decide +kernel
theorem dX1_holdsBy_6 : decode cX1_holdsBy 6 = .ok (.iload_n 2, 1) := by decide +kernel
theorem dX1_holdsBy_7 : decode cX1_holdsBy 7 = .ok (.iload_n 2, 1) := by decide +kernel
theorem dX1_holdsBy_8 : decode cX1_holdsBy 8 = .ok (.iconst 2, 1) := by decide +kernel
theorem dX1_holdsBy_9 : decode cX1_holdsBy 9 = .ok (.idiv, 1) := by decide +kernel
theorem dX1_holdsBy_10 : decode cX1_holdsBy 10 = .ok (.iadd, 1) := by decide +kernel
theorem dX1_holdsBy_11 : decode cX1_holdsBy 11 = .ok (.ireturn, 1) := by decide +kernel
set_option maxRecDepth 20000 in
theorem ggX1_telling_X7_leave : GoodIn wsX1_telling wsX7_leave := goodIn_r _ [5, 6, 23] (by decide +kernel) (by decide +kernel)
set_option maxRecDepth 20000 in
theorem gX1_telling_X7_leave : GoodIn wsX1_telling (wsV RX1 11 RX7 yX7_leave wsX7_leave) := goodIn_app (goodIn_of _ (by decide +kernel)) ggX1_telling_X7_leave
set_option maxRecDepth 20000 in
theorem ggX1_telling_X6_telling : GoodIn wsX1_telling wsX6_telling := goodIn_r _ [12, 13, 14, 15, 16, 11, 17, 18, 19, 2, 3, 4, 5, 6, 20, 21, 22, 24, 25, 26, 27, 28, 29, 30, 31, 32, 33, 34, 35, 36, 37, 38, 23] (by decide +kernel) (by decide +kernel)
set_option maxRecDepth 20000 in
theorem gX1_telling_X6_telling_s17 : GoodIn wsX1_telling (va_wsSU RX1 17 yX6_telling wsX6_telling) := goodIn_app (goodIn_of _ (by decide +kernel)) ggX1_telling_X6_telling
theorem dX1_telling_0 : decode cX1_telling 0 = .ok (.aload_n 1, 1) := by decide +kernel
theorem dX1_telling_1 : decode cX1_telling 1 = .ok (.iconst 2, 1) := by decide +kernel
theorem dX1_telling_2 : decode cX1_telling 2 = .ok (.invokevirtual 11, 3) := by decide +kernel
theorem dX1_telling_5 : decode cX1_telling 5 = .ok (.aload_n 0, 1) := by decide +kernel
theorem dX1_telling_6 : decode cX1_telling 6 = .ok (.aload_n 1, 1) := by decide +kernel
theorem dX1_telling_7 : decode cX1_telling 7 = .ok (.invokespecial 17, 3) := by decide +kernel
theorem dX1_telling_10 : decode cX1_telling 10 = .ok (.bipush 100, 2) := by decide +kernel
theorem dX1_telling_12 : decode cX1_telling 12 = .ok (.iadd, 1) := by decide +kernel
theorem dX1_telling_13 : decode cX1_telling 13 = .ok (.ireturn, 1) := by decide +kernel
theorem dX2_init_0 : decode cX2_init 0 = .ok (.aload_n 0, 1) := by decide +kernel
theorem dX2_init_1 : decode cX2_init 1 = .ok (.invokespecial 3, 3) := by decide +kernel
theorem dX2_init_4 : decode cX2_init 4 = .ok (.aload_n 0, 1) := by decide +kernel
theorem dX2_init_5 : decode cX2_init 5 = .ok (.bipush 6, 2) := by decide +kernel
theorem dX2_init_7 : decode cX2_init 7 = .ok (.newarray .int, 2) := by decide +kernel
theorem dX2_init_9 : decode cX2_init 9 = .ok (.putfield 9, 3) := by decide +kernel
theorem dX2_init_12 : decode cX2_init 12 = .ok (.aload_n 0, 1) := by decide +kernel
theorem dX2_init_13 : decode cX2_init 13 = .ok (.iconst 0, 1) := by decide +kernel
theorem dX2_init_14 : decode cX2_init 14 = .ok (.putfield 15, 3) := by decide +kernel
theorem dX2_init_17 : decode cX2_init 17 = .ok (.aload_n 0, 1) := by decide +kernel
theorem dX2_init_18 : decode cX2_init 18 = .ok (.bipush 6, 2) := by decide +kernel
theorem dX2_init_20 : decode cX2_init 20 = .ok (.newarray .int, 2) := by decide +kernel
theorem dX2_init_22 : decode cX2_init 22 = .ok (.putfield 19, 3) := by decide +kernel
theorem dX2_init_25 : decode cX2_init 25 = .ok (.aload_n 0, 1) := by decide +kernel
theorem dX2_init_26 : decode cX2_init 26 = .ok (.iconst 0, 1) := by decide +kernel
theorem dX2_init_27 : decode cX2_init 27 = .ok (.putfield 22, 3) := by decide +kernel
theorem dX2_init_30 : decode cX2_init 30 = .ok (.aload_n 0, 1) := by decide +kernel
theorem dX2_init_31 : decode cX2_init 31 = .ok (.bipush 6, 2) := by decide +kernel
theorem dX2_init_33 : decode cX2_init 33 = .ok (.newarray .int, 2) := by decide +kernel
theorem dX2_init_35 : decode cX2_init 35 = .ok (.putfield 25, 3) := by decide +kernel
theorem dX2_init_38 : decode cX2_init 38 = .ok (.aload_n 0, 1) := by decide +kernel
theorem dX2_init_39 : decode cX2_init 39 = .ok (.aload_n 1, 1) := by decide +kernel
theorem dX2_init_40 : decode cX2_init 40 = .ok (.putfield 28, 3) := by decide +kernel
theorem dX2_init_43 : decode cX2_init 43 = .ok (.return_, 1) := by decide +kernel
set_option maxRecDepth 20000 in
theorem ggX2_leastHarm_X2_begin : GoodIn wsX2_leastHarm wsX2_begin := goodIn_r _ [6, 7, 8, 9, 10, 11, 47, 48, 49, 50, 51, 52, 53, 54, 55, 56, 57, 58, 59, 60] (by decide +kernel) (by decide +kernel)
set_option maxRecDepth 20000 in
theorem gX2_leastHarm_X2_begin : GoodIn wsX2_leastHarm (wsV RX2 32 RX2 yX2_begin wsX2_begin) := goodIn_app (goodIn_of _ (by decide +kernel)) ggX2_leastHarm_X2_begin
set_option maxRecDepth 20000 in
theorem ggX2_leastHarm_X2_time : GoodIn wsX2_leastHarm wsX2_time := goodIn_r _ [15, 16, 7, 10, 8, 17, 18, 19, 20, 21, 22, 23, 47, 48, 49, 50, 51, 52, 53, 54, 55, 56, 57, 58, 59, 60] (by decide +kernel) (by decide +kernel)
set_option maxRecDepth 20000 in
theorem gX2_leastHarm_X2_time : GoodIn wsX2_leastHarm (wsV RX2 39 RX2 yX2_time wsX2_time) := goodIn_app (goodIn_of _ (by decide +kernel)) ggX2_leastHarm_X2_time
set_option maxRecDepth 20000 in
theorem ggX2_leastHarm_X2_harmBelow : GoodIn wsX2_leastHarm wsX2_harmBelow := goodIn_r _ [27, 7, 10, 8, 28, 29, 30, 31, 5, 32, 33, 22, 23, 16, 47, 48, 49, 50, 51, 52, 53, 54, 55, 56, 57, 58, 59, 60] (by decide +kernel) (by decide +kernel)
set_option maxRecDepth 20000 in
theorem gX2_leastHarm_X2_harmBelow : GoodIn wsX2_leastHarm (wsV RX2 43 RX2 yX2_harmBelow wsX2_harmBelow) := goodIn_app (goodIn_of _ (by decide +kernel)) ggX2_leastHarm_X2_harmBelow
set_option maxRecDepth 20000 in
theorem ggX2_leastHarm_X2_keep : GoodIn wsX2_leastHarm wsX2_keep := goodIn_r _ [37, 7, 38, 10, 47, 48, 49, 50, 51, 52] (by decide +kernel) (by decide +kernel)
set_option maxRecDepth 20000 in
theorem gX2_leastHarm_X2_keep : GoodIn wsX2_leastHarm (wsV RX2 47 RX2 yX2_keep wsX2_keep) := goodIn_app (goodIn_of _ (by decide +kernel)) ggX2_leastHarm_X2_keep
set_option maxRecDepth 20000 in
theorem ggX2_leastHarm_X2_goOn : GoodIn wsX2_leastHarm wsX2_goOn := goodIn_r _ [42, 7, 10, 43, 44, 45, 5, 46, 47, 48, 49, 50, 51, 52] (by decide +kernel) (by decide +kernel)
set_option maxRecDepth 20000 in
theorem gX2_leastHarm_X2_goOn : GoodIn wsX2_leastHarm (wsV RX2 50 RX2 yX2_goOn wsX2_goOn) := goodIn_app (goodIn_of _ (by decide +kernel)) ggX2_leastHarm_X2_goOn
theorem dX2_leastHarm_0 : decode cX2_leastHarm 0 = .ok (.aload_n 0, 1) := by decide +kernel
theorem dX2_leastHarm_1 : decode cX2_leastHarm 1 = .ok (.iload_n 1, 1) := by decide +kernel
theorem dX2_leastHarm_2 : decode cX2_leastHarm 2 = .ok (.invokevirtual 32, 3) := by decide +kernel
theorem dX2_leastHarm_5 : decode cX2_leastHarm 5 = .ok (.istore 4, 2) := by decide +kernel
theorem dX2_leastHarm_7 : decode cX2_leastHarm 7 = .ok (.ldc 38, 2) := by decide +kernel
theorem dX2_leastHarm_9 : decode cX2_leastHarm 9 = .ok (.istore 5, 2) := by decide +kernel
theorem dX2_leastHarm_11 : decode cX2_leastHarm 11 = .ok (.iconst 0, 1) := by decide +kernel
theorem dX2_leastHarm_12 : decode cX2_leastHarm 12 = .ok (.istore 6, 2) := by decide +kernel
theorem dX2_leastHarm_14 : decode cX2_leastHarm 14 = .ok (.iload 6, 2) := by decide +kernel
theorem dX2_leastHarm_16 : decode cX2_leastHarm 16 = .ok (.iload 4, 2) := by decide +kernel
theorem dX2_leastHarm_18 : decode cX2_leastHarm 18 = .ok (.if_icmp .ge 47, 3) := by decide +kernel
theorem dX2_leastHarm_21 : decode cX2_leastHarm 21 = .ok (.iload 5, 2) := by decide +kernel
theorem dX2_leastHarm_23 : decode cX2_leastHarm 23 = .ok (.ifCond .le 42, 3) := by decide +kernel
theorem dX2_leastHarm_26 : decode cX2_leastHarm 26 = .ok (.aload_n 0, 1) := by decide +kernel
theorem dX2_leastHarm_27 : decode cX2_leastHarm 27 = .ok (.iload_n 2, 1) := by decide +kernel
theorem dX2_leastHarm_28 : decode cX2_leastHarm 28 = .ok (.invokevirtual 39, 3) := by decide +kernel
theorem dX2_leastHarm_31 : decode cX2_leastHarm 31 = .ok (.aload_n 0, 1) := by decide +kernel
theorem dX2_leastHarm_32 : decode cX2_leastHarm 32 = .ok (.iload_n 3, 1) := by decide +kernel
theorem dX2_leastHarm_33 : decode cX2_leastHarm 33 = .ok (.iload 5, 2) := by decide +kernel
theorem dX2_leastHarm_35 : decode cX2_leastHarm 35 = .ok (.invokevirtual 43, 3) := by decide +kernel
theorem dX2_leastHarm_38 : decode cX2_leastHarm 38 = .ok (.istore 7, 2) := by decide +kernel
theorem dX2_leastHarm_40 : decode cX2_leastHarm 40 = .ok (.iload 7, 2) := by decide +kernel
theorem dX2_leastHarm_42 : decode cX2_leastHarm 42 = .ok (.iload 5, 2) := by decide +kernel
theorem dX2_leastHarm_44 : decode cX2_leastHarm 44 = .ok (.if_icmp .ge 11, 3) := by decide +kernel
theorem dX2_leastHarm_47 : decode cX2_leastHarm 47 = .ok (.iload 7, 2) := by decide +kernel
theorem dX2_leastHarm_49 : decode cX2_leastHarm 49 = .ok (.istore 5, 2) := by decide +kernel
theorem dX2_leastHarm_51 : decode cX2_leastHarm 51 = .ok (.aload_n 0, 1) := by decide +kernel
theorem dX2_leastHarm_52 : decode cX2_leastHarm 52 = .ok (.invokevirtual 47, 3) := by decide +kernel
theorem dX2_leastHarm_55 : decode cX2_leastHarm 55 = .ok (.aload_n 0, 1) := by decide +kernel
theorem dX2_leastHarm_56 : decode cX2_leastHarm 56 = .ok (.invokevirtual 50, 3) := by decide +kernel
theorem dX2_leastHarm_59 : decode cX2_leastHarm 59 = .ok (.iinc 6 1, 3) := by decide +kernel
theorem dX2_leastHarm_62 : decode cX2_leastHarm 62 = .ok (.goto (-48), 3) := by decide +kernel
theorem dX2_leastHarm_65 : decode cX2_leastHarm 65 = .ok (.iload 5, 2) := by decide +kernel
theorem dX2_leastHarm_67 : decode cX2_leastHarm 67 = .ok (.ireturn, 1) := by decide +kernel
set_option maxRecDepth 20000 in
theorem ggX2_countSafe_X2_begin : GoodIn wsX2_countSafe wsX2_begin := goodIn_r _ [7, 8, 1, 9, 10, 11, 37, 38, 39, 40, 41, 42, 43, 44, 45, 46, 47, 48, 49, 50] (by decide +kernel) (by decide +kernel)
set_option maxRecDepth 20000 in
theorem gX2_countSafe_X2_begin : GoodIn wsX2_countSafe (wsV RX2 32 RX2 yX2_begin wsX2_begin) := goodIn_app (goodIn_of _ (by decide +kernel)) ggX2_countSafe_X2_begin
set_option maxRecDepth 20000 in
theorem ggX2_countSafe_X2_time : GoodIn wsX2_countSafe wsX2_time := goodIn_r _ [15, 16, 8, 10, 1, 17, 18, 19, 20, 21, 22, 23, 37, 38, 39, 40, 41, 42, 43, 44, 45, 46, 47, 48, 49, 50] (by decide +kernel) (by decide +kernel)
set_option maxRecDepth 20000 in
theorem gX2_countSafe_X2_time : GoodIn wsX2_countSafe (wsV RX2 39 RX2 yX2_time wsX2_time) := goodIn_app (goodIn_of _ (by decide +kernel)) ggX2_countSafe_X2_time
set_option maxRecDepth 20000 in
theorem ggX2_countSafe_X2_nothingEverFalls : GoodIn wsX2_countSafe wsX2_nothingEverFalls := goodIn_r _ [27, 8, 10, 1, 28, 22, 23, 16, 37, 38, 39, 40, 41, 42, 43, 44, 45, 46, 47, 48, 49, 50] (by decide +kernel) (by decide +kernel)
set_option maxRecDepth 20000 in
theorem gX2_countSafe_X2_nothingEverFalls : GoodIn wsX2_countSafe (wsV RX2 58 RX2 yX2_nothingEverFalls wsX2_nothingEverFalls) := goodIn_app (goodIn_of _ (by decide +kernel)) ggX2_countSafe_X2_nothingEverFalls
set_option maxRecDepth 20000 in
theorem ggX2_countSafe_X2_goOn : GoodIn wsX2_countSafe wsX2_goOn := goodIn_r _ [32, 8, 10, 33, 34, 35, 6, 36, 37, 38, 39, 40, 41, 42] (by decide +kernel) (by decide +kernel)
set_option maxRecDepth 20000 in
theorem gX2_countSafe_X2_goOn : GoodIn wsX2_countSafe (wsV RX2 50 RX2 yX2_goOn wsX2_goOn) := goodIn_app (goodIn_of _ (by decide +kernel)) ggX2_countSafe_X2_goOn
theorem dX2_countSafe_0 : decode cX2_countSafe 0 = .ok (.aload_n 0, 1) := by decide +kernel
theorem dX2_countSafe_1 : decode cX2_countSafe 1 = .ok (.iload_n 1, 1) := by decide +kernel
theorem dX2_countSafe_2 : decode cX2_countSafe 2 = .ok (.invokevirtual 32, 3) := by decide +kernel
theorem dX2_countSafe_5 : decode cX2_countSafe 5 = .ok (.istore_n 3, 1) := by decide +kernel
theorem dX2_countSafe_6 : decode cX2_countSafe 6 = .ok (.iconst 0, 1) := by decide +kernel
theorem dX2_countSafe_7 : decode cX2_countSafe 7 = .ok (.istore 4, 2) := by decide +kernel
theorem dX2_countSafe_9 : decode cX2_countSafe 9 = .ok (.iconst 0, 1) := by decide +kernel
theorem dX2_countSafe_10 : decode cX2_countSafe 10 = .ok (.istore 5, 2) := by decide +kernel
theorem dX2_countSafe_12 : decode cX2_countSafe 12 = .ok (.iload 5, 2) := by decide +kernel
theorem dX2_countSafe_14 : decode cX2_countSafe 14 = .ok (.iload_n 3, 1) := by decide +kernel
theorem dX2_countSafe_15 : decode cX2_countSafe 15 = .ok (.if_icmp .ge 40, 3) := by decide +kernel
theorem dX2_countSafe_18 : decode cX2_countSafe 18 = .ok (.iload 4, 2) := by decide +kernel
theorem dX2_countSafe_20 : decode cX2_countSafe 20 = .ok (.iload_n 2, 1) := by decide +kernel
theorem dX2_countSafe_21 : decode cX2_countSafe 21 = .ok (.if_icmp .ge 34, 3) := by decide +kernel
theorem dX2_countSafe_24 : decode cX2_countSafe 24 = .ok (.aload_n 0, 1) := by decide +kernel
theorem dX2_countSafe_25 : decode cX2_countSafe 25 = .ok (.aload_n 0, 1) := by decide +kernel
theorem dX2_countSafe_26 : decode cX2_countSafe 26 = .ok (.getfield 28, 3) := by decide +kernel
theorem dX2_countSafe_29 : decode cX2_countSafe 29 = .ok (.getfield 53, 3) := by decide +kernel
theorem dX2_countSafe_32 : decode cX2_countSafe 32 = .ok (.invokevirtual 39, 3) := by decide +kernel
theorem dX2_countSafe_35 : decode cX2_countSafe 35 = .ok (.aload_n 0, 1) := by decide +kernel
theorem dX2_countSafe_36 : decode cX2_countSafe 36 = .ok (.invokevirtual 58, 3) := by decide +kernel
theorem dX2_countSafe_39 : decode cX2_countSafe 39 = .ok (.ifCond .eq 6, 3) := by decide +kernel
theorem dX2_countSafe_42 : decode cX2_countSafe 42 = .ok (.iinc 4 1, 3) := by decide +kernel
theorem dX2_countSafe_45 : decode cX2_countSafe 45 = .ok (.aload_n 0, 1) := by decide +kernel
theorem dX2_countSafe_46 : decode cX2_countSafe 46 = .ok (.invokevirtual 50, 3) := by decide +kernel
theorem dX2_countSafe_49 : decode cX2_countSafe 49 = .ok (.iinc 5 1, 3) := by decide +kernel
theorem dX2_countSafe_52 : decode cX2_countSafe 52 = .ok (.goto (-40), 3) := by decide +kernel
theorem dX2_countSafe_55 : decode cX2_countSafe 55 = .ok (.iload 4, 2) := by decide +kernel
theorem dX2_countSafe_57 : decode cX2_countSafe 57 = .ok (.ireturn, 1) := by decide +kernel
set_option maxRecDepth 20000 in
theorem ggX2_countFitting_X2_begin : GoodIn wsX2_countFitting wsX2_begin := goodIn_r _ [7, 8, 1, 9, 10, 11, 50, 51, 52, 53, 54, 55, 56, 57, 58, 59, 60, 61, 62, 63] (by decide +kernel) (by decide +kernel)
set_option maxRecDepth 20000 in
theorem gX2_countFitting_X2_begin : GoodIn wsX2_countFitting (wsV RX2 32 RX2 yX2_begin wsX2_begin) := goodIn_app (goodIn_of _ (by decide +kernel)) ggX2_countFitting_X2_begin
set_option maxRecDepth 20000 in
theorem ggX2_countFitting_X2_time : GoodIn wsX2_countFitting wsX2_time := goodIn_r _ [15, 16, 8, 10, 1, 17, 18, 19, 20, 21, 22, 23, 50, 51, 52, 53, 54, 55, 56, 57, 58, 59, 60, 61, 62, 63] (by decide +kernel) (by decide +kernel)
set_option maxRecDepth 20000 in
theorem gX2_countFitting_X2_time : GoodIn wsX2_countFitting (wsV RX2 39 RX2 yX2_time wsX2_time) := goodIn_app (goodIn_of _ (by decide +kernel)) ggX2_countFitting_X2_time
set_option maxRecDepth 20000 in
theorem ggX2_countFitting_X2_allAreSo : GoodIn wsX2_countFitting wsX2_allAreSo := goodIn_r _ [27, 28, 29, 30, 31, 32, 33, 34, 6, 35, 22, 1, 36, 16, 23, 64, 65, 66, 67, 50, 51, 52, 53, 54, 55, 56, 57, 58, 59, 60, 61, 62, 63] (by decide +kernel) (by decide +kernel)
set_option maxRecDepth 20000 in
theorem gX2_countFitting_X2_allAreSo : GoodIn wsX2_countFitting (wsV RX2 62 RX2 yX2_allAreSo wsX2_allAreSo) := goodIn_app (goodIn_of _ (by decide +kernel)) ggX2_countFitting_X2_allAreSo
set_option maxRecDepth 20000 in
theorem ggX2_countFitting_X2_keep : GoodIn wsX2_countFitting wsX2_keep := goodIn_r _ [40, 8, 41, 10, 50, 51, 52, 53, 54, 55] (by decide +kernel) (by decide +kernel)
set_option maxRecDepth 20000 in
theorem gX2_countFitting_X2_keep : GoodIn wsX2_countFitting (wsV RX2 47 RX2 yX2_keep wsX2_keep) := goodIn_app (goodIn_of _ (by decide +kernel)) ggX2_countFitting_X2_keep
set_option maxRecDepth 20000 in
theorem ggX2_countFitting_X2_goOn : GoodIn wsX2_countFitting wsX2_goOn := goodIn_r _ [45, 8, 10, 46, 47, 48, 6, 49, 50, 51, 52, 53, 54, 55] (by decide +kernel) (by decide +kernel)
set_option maxRecDepth 20000 in
theorem gX2_countFitting_X2_goOn : GoodIn wsX2_countFitting (wsV RX2 50 RX2 yX2_goOn wsX2_goOn) := goodIn_app (goodIn_of _ (by decide +kernel)) ggX2_countFitting_X2_goOn
theorem dX2_countFitting_0 : decode cX2_countFitting 0 = .ok (.aload_n 0, 1) := by decide +kernel
theorem dX2_countFitting_1 : decode cX2_countFitting 1 = .ok (.iload_n 1, 1) := by decide +kernel
theorem dX2_countFitting_2 : decode cX2_countFitting 2 = .ok (.invokevirtual 32, 3) := by decide +kernel
theorem dX2_countFitting_5 : decode cX2_countFitting 5 = .ok (.istore_n 3, 1) := by decide +kernel
theorem dX2_countFitting_6 : decode cX2_countFitting 6 = .ok (.iconst 0, 1) := by decide +kernel
theorem dX2_countFitting_7 : decode cX2_countFitting 7 = .ok (.istore 4, 2) := by decide +kernel
theorem dX2_countFitting_9 : decode cX2_countFitting 9 = .ok (.iconst 0, 1) := by decide +kernel
theorem dX2_countFitting_10 : decode cX2_countFitting 10 = .ok (.istore 5, 2) := by decide +kernel
theorem dX2_countFitting_12 : decode cX2_countFitting 12 = .ok (.iload 5, 2) := by decide +kernel
theorem dX2_countFitting_14 : decode cX2_countFitting 14 = .ok (.iload_n 3, 1) := by decide +kernel
theorem dX2_countFitting_15 : decode cX2_countFitting 15 = .ok (.if_icmp .ge 45, 3) := by decide +kernel
theorem dX2_countFitting_18 : decode cX2_countFitting 18 = .ok (.aload_n 0, 1) := by decide +kernel
theorem dX2_countFitting_19 : decode cX2_countFitting 19 = .ok (.aload_n 0, 1) := by decide +kernel
theorem dX2_countFitting_20 : decode cX2_countFitting 20 = .ok (.getfield 28, 3) := by decide +kernel
theorem dX2_countFitting_23 : decode cX2_countFitting 23 = .ok (.getfield 53, 3) := by decide +kernel
theorem dX2_countFitting_26 : decode cX2_countFitting 26 = .ok (.invokevirtual 39, 3) := by decide +kernel
theorem dX2_countFitting_29 : decode cX2_countFitting 29 = .ok (.aload_n 0, 1) := by decide +kernel
theorem dX2_countFitting_30 : decode cX2_countFitting 30 = .ok (.aload_n 2, 1) := by decide +kernel
theorem dX2_countFitting_31 : decode cX2_countFitting 31 = .ok (.invokevirtual 62, 3) := by decide +kernel
theorem dX2_countFitting_34 : decode cX2_countFitting 34 = .ok (.ifCond .eq 16, 3) := by decide +kernel
theorem dX2_countFitting_37 : decode cX2_countFitting 37 = .ok (.iinc 4 1, 3) := by decide +kernel
theorem dX2_countFitting_40 : decode cX2_countFitting 40 = .ok (.iload 4, 2) := by decide +kernel
theorem dX2_countFitting_42 : decode cX2_countFitting 42 = .ok (.iconst 1, 1) := by decide +kernel
theorem dX2_countFitting_43 : decode cX2_countFitting 43 = .ok (.if_icmp .ne 7, 3) := by decide +kernel
theorem dX2_countFitting_46 : decode cX2_countFitting 46 = .ok (.aload_n 0, 1) := by decide +kernel
theorem dX2_countFitting_47 : decode cX2_countFitting 47 = .ok (.invokevirtual 47, 3) := by decide +kernel
theorem dX2_countFitting_50 : decode cX2_countFitting 50 = .ok (.aload_n 0, 1) := by decide +kernel
theorem dX2_countFitting_51 : decode cX2_countFitting 51 = .ok (.invokevirtual 50, 3) := by decide +kernel
theorem dX2_countFitting_54 : decode cX2_countFitting 54 = .ok (.iinc 5 1, 3) := by decide +kernel
theorem dX2_countFitting_57 : decode cX2_countFitting 57 = .ok (.goto (-45), 3) := by decide +kernel
theorem dX2_countFitting_60 : decode cX2_countFitting 60 = .ok (.iload 4, 2) := by decide +kernel
theorem dX2_countFitting_62 : decode cX2_countFitting 62 = .ok (.ireturn, 1) := by decide +kernel
theorem dX2_keptAt_0 : decode cX2_keptAt 0 = .ok (.iload_n 1, 1) := by decide +kernel
theorem dX2_keptAt_1 : decode cX2_keptAt 1 = .ok (.ifCond .lt 20, 3) := by decide +kernel
theorem dX2_keptAt_4 : decode cX2_keptAt 4 = .ok (.iload_n 1, 1) := by decide +kernel
theorem dX2_keptAt_5 : decode cX2_keptAt 5 = .ok (.aload_n 0, 1) := by decide +kernel
theorem dX2_keptAt_6 : decode cX2_keptAt 6 = .ok (.getfield 15, 3) := by decide +kernel
theorem dX2_keptAt_9 : decode cX2_keptAt 9 = .ok (.if_icmp .ge 12, 3) := by decide +kernel
theorem dX2_keptAt_12 : decode cX2_keptAt 12 = .ok (.aload_n 0, 1) := by decide +kernel
theorem dX2_keptAt_13 : decode cX2_keptAt 13 = .ok (.getfield 25, 3) := by decide +kernel
theorem dX2_keptAt_16 : decode cX2_keptAt 16 = .ok (.iload_n 1, 1) := by decide +kernel
theorem dX2_keptAt_17 : decode cX2_keptAt 17 = .ok (.iaload, 1) := by decide +kernel
theorem dX2_keptAt_18 : decode cX2_keptAt 18 = .ok (.goto 5, 3) := by decide +kernel
theorem dX2_keptAt_21 : decode cX2_keptAt 21 = .ok (.bipush (-9), 2) := by decide +kernel
theorem dX2_keptAt_23 : decode cX2_keptAt 23 = .ok (.ireturn, 1) := by decide +kernel
theorem dX2_keep_0 : decode cX2_keep 0 = .ok (.iconst 0, 1) := by decide +kernel
theorem dX2_keep_1 : decode cX2_keep 1 = .ok (.istore_n 1, 1) := by decide +kernel
theorem dX2_keep_2 : decode cX2_keep 2 = .ok (.iload_n 1, 1) := by decide +kernel
theorem dX2_keep_3 : decode cX2_keep 3 = .ok (.aload_n 0, 1) := by decide +kernel
theorem dX2_keep_4 : decode cX2_keep 4 = .ok (.getfield 15, 3) := by decide +kernel
theorem dX2_keep_7 : decode cX2_keep 7 = .ok (.if_icmp .ge 21, 3) := by decide +kernel
theorem dX2_keep_10 : decode cX2_keep 10 = .ok (.aload_n 0, 1) := by decide +kernel
theorem dX2_keep_11 : decode cX2_keep 11 = .ok (.getfield 25, 3) := by decide +kernel
theorem dX2_keep_14 : decode cX2_keep 14 = .ok (.iload_n 1, 1) := by decide +kernel
theorem dX2_keep_15 : decode cX2_keep 15 = .ok (.aload_n 0, 1) := by decide +kernel
theorem dX2_keep_16 : decode cX2_keep 16 = .ok (.getfield 9, 3) := by decide +kernel
theorem dX2_keep_19 : decode cX2_keep 19 = .ok (.iload_n 1, 1) := by decide +kernel
theorem dX2_keep_20 : decode cX2_keep 20 = .ok (.iaload, 1) := by decide +kernel
theorem dX2_keep_21 : decode cX2_keep 21 = .ok (.iastore, 1) := by decide +kernel
theorem dX2_keep_22 : decode cX2_keep 22 = .ok (.iinc 1 1, 3) := by decide +kernel
theorem dX2_keep_25 : decode cX2_keep 25 = .ok (.goto (-23), 3) := by decide +kernel
theorem dX2_keep_28 : decode cX2_keep 28 = .ok (.return_, 1) := by decide +kernel
theorem dX2_begin_0 : decode cX2_begin 0 = .ok (.aload_n 0, 1) := by decide +kernel
theorem dX2_begin_1 : decode cX2_begin 1 = .ok (.iconst 0, 1) := by decide +kernel
theorem dX2_begin_2 : decode cX2_begin 2 = .ok (.putfield 15, 3) := by decide +kernel
theorem dX2_begin_5 : decode cX2_begin 5 = .ok (.iconst 0, 1) := by decide +kernel
theorem dX2_begin_6 : decode cX2_begin 6 = .ok (.istore_n 2, 1) := by decide +kernel
theorem dX2_begin_7 : decode cX2_begin 7 = .ok (.iload_n 2, 1) := by decide +kernel
theorem dX2_begin_8 : decode cX2_begin 8 = .ok (.aload_n 0, 1) := by decide +kernel
theorem dX2_begin_9 : decode cX2_begin 9 = .ok (.getfield 28, 3) := by decide +kernel
theorem dX2_begin_12 : decode cX2_begin 12 = .ok (.getfield 66, 3) := by decide +kernel
theorem dX2_begin_15 : decode cX2_begin 15 = .ok (.if_icmp .ge 38, 3) := by decide +kernel
theorem dX2_begin_18 : decode cX2_begin 18 = .ok (.iload_n 1, 1) := by decide +kernel
theorem dX2_begin_19 : decode cX2_begin 19 = .ok (.iload_n 2, 1) := by decide +kernel
theorem dX2_begin_20 : decode cX2_begin 20 = .ok (.ishr, 1) := by decide +kernel
theorem dX2_begin_21 : decode cX2_begin 21 = .ok (.iconst 1, 1) := by decide +kernel
theorem dX2_begin_22 : decode cX2_begin 22 = .ok (.iand, 1) := by decide +kernel
theorem dX2_begin_23 : decode cX2_begin 23 = .ok (.iconst 1, 1) := by decide +kernel
theorem dX2_begin_24 : decode cX2_begin 24 = .ok (.if_icmp .ne 23, 3) := by decide +kernel
theorem dX2_begin_27 : decode cX2_begin 27 = .ok (.aload_n 0, 1) := by decide +kernel
theorem dX2_begin_28 : decode cX2_begin 28 = .ok (.getfield 9, 3) := by decide +kernel
theorem dX2_begin_31 : decode cX2_begin 31 = .ok (.aload_n 0, 1) := by decide +kernel
theorem dX2_begin_32 : decode cX2_begin 32 = .ok (.getfield 15, 3) := by decide +kernel
theorem dX2_begin_35 : decode cX2_begin 35 = .ok (.iload_n 2, 1) := by decide +kernel
theorem dX2_begin_36 : decode cX2_begin 36 = .ok (.iastore, 1) := by decide +kernel
theorem dX2_begin_37 : decode cX2_begin 37 = .ok (.aload_n 0, 1) := by decide +kernel
theorem dX2_begin_38 : decode cX2_begin 38 = .ok (.dup, 1) := by decide +kernel
theorem dX2_begin_39 : decode cX2_begin 39 = .ok (.getfield 15, 3) := by decide +kernel
theorem dX2_begin_42 : decode cX2_begin 42 = .ok (.iconst 1, 1) := by decide +kernel
theorem dX2_begin_43 : decode cX2_begin 43 = .ok (.iadd, 1) := by decide +kernel
theorem dX2_begin_44 : decode cX2_begin 44 = .ok (.putfield 15, 3) := by decide +kernel
theorem dX2_begin_47 : decode cX2_begin 47 = .ok (.iinc 2 1, 3) := by decide +kernel
theorem dX2_begin_50 : decode cX2_begin 50 = .ok (.goto (-43), 3) := by decide +kernel
theorem dX2_begin_53 : decode cX2_begin 53 = .ok (.getstatic 69, 3) := by decide +kernel
theorem dX2_begin_56 : decode cX2_begin 56 = .ok (.aload_n 0, 1) := by decide +kernel
theorem dX2_begin_57 : decode cX2_begin 57 = .ok (.getfield 15, 3) := by decide +kernel
theorem dX2_begin_60 : decode cX2_begin 60 = .ok (.iaload, 1) := by decide +kernel
theorem dX2_begin_61 : decode cX2_begin 61 = .ok (.ireturn, 1) := by decide +kernel
set_option maxRecDepth 20000 in
theorem ggX2_goOn_X2_swap : GoodIn wsX2_goOn wsX2_swap := goodIn_r _ [7, 2, 8, 9, 10, 11, 12, 13] (by decide +kernel) (by decide +kernel)
set_option maxRecDepth 20000 in
theorem gX2_goOn_X2_swap : GoodIn wsX2_goOn (wsV RX2 72 RX2 yX2_swap wsX2_swap) := goodIn_app (goodIn_of _ (by decide +kernel)) ggX2_goOn_X2_swap
theorem dX2_goOn_0 : decode cX2_goOn 0 = .ok (.aload_n 0, 1) := by decide +kernel
theorem dX2_goOn_1 : decode cX2_goOn 1 = .ok (.getfield 15, 3) := by decide +kernel
theorem dX2_goOn_4 : decode cX2_goOn 4 = .ok (.iconst 2, 1) := by decide +kernel
theorem dX2_goOn_5 : decode cX2_goOn 5 = .ok (.isub, 1) := by decide +kernel
theorem dX2_goOn_6 : decode cX2_goOn 6 = .ok (.istore_n 1, 1) := by decide +kernel
theorem dX2_goOn_7 : decode cX2_goOn 7 = .ok (.iload_n 1, 1) := by decide +kernel
theorem dX2_goOn_8 : decode cX2_goOn 8 = .ok (.ifCond .lt 26, 3) := by decide +kernel
theorem dX2_goOn_11 : decode cX2_goOn 11 = .ok (.aload_n 0, 1) := by decide +kernel
theorem dX2_goOn_12 : decode cX2_goOn 12 = .ok (.getfield 9, 3) := by decide +kernel
theorem dX2_goOn_15 : decode cX2_goOn 15 = .ok (.iload_n 1, 1) := by decide +kernel
theorem dX2_goOn_16 : decode cX2_goOn 16 = .ok (.iaload, 1) := by decide +kernel
theorem dX2_goOn_17 : decode cX2_goOn 17 = .ok (.aload_n 0, 1) := by decide +kernel
theorem dX2_goOn_18 : decode cX2_goOn 18 = .ok (.getfield 9, 3) := by decide +kernel
theorem dX2_goOn_21 : decode cX2_goOn 21 = .ok (.iload_n 1, 1) := by decide +kernel
theorem dX2_goOn_22 : decode cX2_goOn 22 = .ok (.iconst 1, 1) := by decide +kernel
theorem dX2_goOn_23 : decode cX2_goOn 23 = .ok (.iadd, 1) := by decide +kernel
theorem dX2_goOn_24 : decode cX2_goOn 24 = .ok (.iaload, 1) := by decide +kernel
theorem dX2_goOn_25 : decode cX2_goOn 25 = .ok (.if_icmp .le 9, 3) := by decide +kernel
theorem dX2_goOn_28 : decode cX2_goOn 28 = .ok (.iinc 1 (-1), 3) := by decide +kernel
theorem dX2_goOn_31 : decode cX2_goOn 31 = .ok (.goto (-24), 3) := by decide +kernel
theorem dX2_goOn_34 : decode cX2_goOn 34 = .ok (.iload_n 1, 1) := by decide +kernel
theorem dX2_goOn_35 : decode cX2_goOn 35 = .ok (.ifCond .ge 4, 3) := by decide +kernel
theorem dX2_goOn_38 : decode cX2_goOn 38 = .ok (.return_, 1) := by decide +kernel
theorem dX2_goOn_39 : decode cX2_goOn 39 = .ok (.aload_n 0, 1) := by decide +kernel
theorem dX2_goOn_40 : decode cX2_goOn 40 = .ok (.getfield 15, 3) := by decide +kernel
theorem dX2_goOn_43 : decode cX2_goOn 43 = .ok (.iconst 1, 1) := by decide +kernel
theorem dX2_goOn_44 : decode cX2_goOn 44 = .ok (.isub, 1) := by decide +kernel
theorem dX2_goOn_45 : decode cX2_goOn 45 = .ok (.istore_n 2, 1) := by decide +kernel
theorem dX2_goOn_46 : decode cX2_goOn 46 = .ok (.iload_n 2, 1) := by decide +kernel
theorem dX2_goOn_47 : decode cX2_goOn 47 = .ok (.iload_n 1, 1) := by decide +kernel
theorem dX2_goOn_48 : decode cX2_goOn 48 = .ok (.if_icmp .le 24, 3) := by decide +kernel
theorem dX2_goOn_51 : decode cX2_goOn 51 = .ok (.aload_n 0, 1) := by decide +kernel
theorem dX2_goOn_52 : decode cX2_goOn 52 = .ok (.getfield 9, 3) := by decide +kernel
theorem dX2_goOn_55 : decode cX2_goOn 55 = .ok (.iload_n 2, 1) := by decide +kernel
theorem dX2_goOn_56 : decode cX2_goOn 56 = .ok (.iaload, 1) := by decide +kernel
theorem dX2_goOn_57 : decode cX2_goOn 57 = .ok (.aload_n 0, 1) := by decide +kernel
theorem dX2_goOn_58 : decode cX2_goOn 58 = .ok (.getfield 9, 3) := by decide +kernel
theorem dX2_goOn_61 : decode cX2_goOn 61 = .ok (.iload_n 1, 1) := by decide +kernel
theorem dX2_goOn_62 : decode cX2_goOn 62 = .ok (.iaload, 1) := by decide +kernel
theorem dX2_goOn_63 : decode cX2_goOn 63 = .ok (.if_icmp .ge 9, 3) := by decide +kernel
theorem dX2_goOn_66 : decode cX2_goOn 66 = .ok (.iinc 2 (-1), 3) := by decide +kernel
theorem dX2_goOn_69 : decode cX2_goOn 69 = .ok (.goto (-23), 3) := by decide +kernel
theorem dX2_goOn_72 : decode cX2_goOn 72 = .ok (.aload_n 0, 1) := by decide +kernel
theorem dX2_goOn_73 : decode cX2_goOn 73 = .ok (.iload_n 1, 1) := by decide +kernel
theorem dX2_goOn_74 : decode cX2_goOn 74 = .ok (.iload_n 2, 1) := by decide +kernel
theorem dX2_goOn_75 : decode cX2_goOn 75 = .ok (.invokevirtual 72, 3) := by decide +kernel
theorem dX2_goOn_78 : decode cX2_goOn 78 = .ok (.iload_n 1, 1) := by decide +kernel
theorem dX2_goOn_79 : decode cX2_goOn 79 = .ok (.iconst 1, 1) := by decide +kernel
theorem dX2_goOn_80 : decode cX2_goOn 80 = .ok (.iadd, 1) := by decide +kernel
theorem dX2_goOn_81 : decode cX2_goOn 81 = .ok (.istore_n 3, 1) := by decide +kernel
theorem dX2_goOn_82 : decode cX2_goOn 82 = .ok (.aload_n 0, 1) := by decide +kernel
theorem dX2_goOn_83 : decode cX2_goOn 83 = .ok (.getfield 15, 3) := by decide +kernel
theorem dX2_goOn_86 : decode cX2_goOn 86 = .ok (.iconst 1, 1) := by decide +kernel
theorem dX2_goOn_87 : decode cX2_goOn 87 = .ok (.isub, 1) := by decide +kernel
theorem dX2_goOn_88 : decode cX2_goOn 88 = .ok (.istore 4, 2) := by decide +kernel
theorem dX2_goOn_90 : decode cX2_goOn 90 = .ok (.iload_n 3, 1) := by decide +kernel
theorem dX2_goOn_91 : decode cX2_goOn 91 = .ok (.iload 4, 2) := by decide +kernel
theorem dX2_goOn_93 : decode cX2_goOn 93 = .ok (.if_icmp .ge 19, 3) := by decide +kernel
theorem dX2_goOn_96 : decode cX2_goOn 96 = .ok (.aload_n 0, 1) := by decide +kernel
theorem dX2_goOn_97 : decode cX2_goOn 97 = .ok (.iload_n 3, 1) := by decide +kernel
theorem dX2_goOn_98 : decode cX2_goOn 98 = .ok (.iload 4, 2) := by decide +kernel
theorem dX2_goOn_100 : decode cX2_goOn 100 = .ok (.invokevirtual 72, 3) := by decide +kernel
theorem dX2_goOn_103 : decode cX2_goOn 103 = .ok (.iinc 3 1, 3) := by decide +kernel
theorem dX2_goOn_106 : decode cX2_goOn 106 = .ok (.iinc 4 (-1), 3) := by decide +kernel
theorem dX2_goOn_109 : decode cX2_goOn 109 = .ok (.goto (-19), 3) := by decide +kernel
theorem dX2_goOn_112 : decode cX2_goOn 112 = .ok (.return_, 1) := by decide +kernel
theorem dX2_swap_0 : decode cX2_swap 0 = .ok (.aload_n 0, 1) := by decide +kernel
theorem dX2_swap_1 : decode cX2_swap 1 = .ok (.getfield 9, 3) := by decide +kernel
theorem dX2_swap_4 : decode cX2_swap 4 = .ok (.iload_n 1, 1) := by decide +kernel
theorem dX2_swap_5 : decode cX2_swap 5 = .ok (.iaload, 1) := by decide +kernel
theorem dX2_swap_6 : decode cX2_swap 6 = .ok (.istore_n 3, 1) := by decide +kernel
theorem dX2_swap_7 : decode cX2_swap 7 = .ok (.aload_n 0, 1) := by decide +kernel
theorem dX2_swap_8 : decode cX2_swap 8 = .ok (.getfield 9, 3) := by decide +kernel
theorem dX2_swap_11 : decode cX2_swap 11 = .ok (.iload_n 1, 1) := by decide +kernel
theorem dX2_swap_12 : decode cX2_swap 12 = .ok (.aload_n 0, 1) := by decide +kernel
theorem dX2_swap_13 : decode cX2_swap 13 = .ok (.getfield 9, 3) := by decide +kernel
theorem dX2_swap_16 : decode cX2_swap 16 = .ok (.iload_n 2, 1) := by decide +kernel
theorem dX2_swap_17 : decode cX2_swap 17 = .ok (.iaload, 1) := by decide +kernel
theorem dX2_swap_18 : decode cX2_swap 18 = .ok (.iastore, 1) := by decide +kernel
theorem dX2_swap_19 : decode cX2_swap 19 = .ok (.aload_n 0, 1) := by decide +kernel
theorem dX2_swap_20 : decode cX2_swap 20 = .ok (.getfield 9, 3) := by decide +kernel
theorem dX2_swap_23 : decode cX2_swap 23 = .ok (.iload_n 2, 1) := by decide +kernel
theorem dX2_swap_24 : decode cX2_swap 24 = .ok (.iload_n 3, 1) := by decide +kernel
theorem dX2_swap_25 : decode cX2_swap 25 = .ok (.iastore, 1) := by decide +kernel
theorem dX2_swap_26 : decode cX2_swap 26 = .ok (.return_, 1) := by decide +kernel
theorem dX2_time_0 : decode cX2_time 0 = .ok (.aload_n 0, 1) := by decide +kernel
theorem dX2_time_1 : decode cX2_time 1 = .ok (.iconst 0, 1) := by decide +kernel
theorem dX2_time_2 : decode cX2_time 2 = .ok (.putfield 22, 3) := by decide +kernel
theorem dX2_time_5 : decode cX2_time 5 = .ok (.aload_n 0, 1) := by decide +kernel
theorem dX2_time_6 : decode cX2_time 6 = .ok (.getfield 15, 3) := by decide +kernel
theorem dX2_time_9 : decode cX2_time 9 = .ok (.ifCond .ne 4, 3) := by decide +kernel
theorem dX2_time_12 : decode cX2_time 12 = .ok (.return_, 1) := by decide +kernel
theorem dX2_time_13 : decode cX2_time 13 = .ok (.iconst 0, 1) := by decide +kernel
theorem dX2_time_14 : decode cX2_time 14 = .ok (.istore_n 2, 1) := by decide +kernel
theorem dX2_time_15 : decode cX2_time 15 = .ok (.iload_n 1, 1) := by decide +kernel
theorem dX2_time_16 : decode cX2_time 16 = .ok (.istore_n 3, 1) := by decide +kernel
theorem dX2_time_17 : decode cX2_time 17 = .ok (.iconst 0, 1) := by decide +kernel
theorem dX2_time_18 : decode cX2_time 18 = .ok (.istore 4, 2) := by decide +kernel
theorem dX2_time_20 : decode cX2_time 20 = .ok (.iload 4, 2) := by decide +kernel
theorem dX2_time_22 : decode cX2_time 22 = .ok (.aload_n 0, 1) := by decide +kernel
theorem dX2_time_23 : decode cX2_time 23 = .ok (.getfield 15, 3) := by decide +kernel
theorem dX2_time_26 : decode cX2_time 26 = .ok (.if_icmp .ge 68, 3) := by decide +kernel
theorem dX2_time_29 : decode cX2_time 29 = .ok (.aload_n 0, 1) := by decide +kernel
theorem dX2_time_30 : decode cX2_time 30 = .ok (.getfield 9, 3) := by decide +kernel
theorem dX2_time_33 : decode cX2_time 33 = .ok (.iload 4, 2) := by decide +kernel
theorem dX2_time_35 : decode cX2_time 35 = .ok (.iaload, 1) := by decide +kernel
theorem dX2_time_36 : decode cX2_time 36 = .ok (.istore 5, 2) := by decide +kernel
theorem dX2_time_38 : decode cX2_time 38 = .ok (.iload_n 2, 1) := by decide +kernel
theorem dX2_time_39 : decode cX2_time 39 = .ok (.aload_n 0, 1) := by decide +kernel
theorem dX2_time_40 : decode cX2_time 40 = .ok (.getfield 28, 3) := by decide +kernel
theorem dX2_time_43 : decode cX2_time 43 = .ok (.getfield 76, 3) := by decide +kernel
theorem dX2_time_46 : decode cX2_time 46 = .ok (.iload 5, 2) := by decide +kernel
theorem dX2_time_48 : decode cX2_time 48 = .ok (.iaload, 1) := by decide +kernel
theorem dX2_time_49 : decode cX2_time 49 = .ok (.iload_n 3, 1) := by decide +kernel
theorem dX2_time_50 : decode cX2_time 50 = .ok (.isub, 1) := by decide +kernel
theorem dX2_time_51 : decode cX2_time 51 = .ok (.invokestatic 79, 3) := by decide +kernel
theorem dX2_time_54 : decode cX2_time 54 = .ok (.iadd, 1) := by decide +kernel
theorem dX2_time_55 : decode cX2_time 55 = .ok (.istore_n 2, 1) := by decide +kernel
theorem dX2_time_56 : decode cX2_time 56 = .ok (.aload_n 0, 1) := by decide +kernel
theorem dX2_time_57 : decode cX2_time 57 = .ok (.getfield 19, 3) := by decide +kernel
theorem dX2_time_60 : decode cX2_time 60 = .ok (.iload 5, 2) := by decide +kernel
theorem dX2_time_62 : decode cX2_time 62 = .ok (.iload_n 2, 1) := by decide +kernel
theorem dX2_time_63 : decode cX2_time 63 = .ok (.iastore, 1) := by decide +kernel
theorem dX2_time_64 : decode cX2_time 64 = .ok (.iload_n 2, 1) := by decide +kernel
theorem dX2_time_65 : decode cX2_time 65 = .ok (.aload_n 0, 1) := by decide +kernel
theorem dX2_time_66 : decode cX2_time 66 = .ok (.getfield 28, 3) := by decide +kernel
theorem dX2_time_69 : decode cX2_time 69 = .ok (.getfield 84, 3) := by decide +kernel
theorem dX2_time_72 : decode cX2_time 72 = .ok (.iload 5, 2) := by decide +kernel
theorem dX2_time_74 : decode cX2_time 74 = .ok (.iaload, 1) := by decide +kernel
theorem dX2_time_75 : decode cX2_time 75 = .ok (.iadd, 1) := by decide +kernel
theorem dX2_time_76 : decode cX2_time 76 = .ok (.istore_n 2, 1) := by decide +kernel
theorem dX2_time_77 : decode cX2_time 77 = .ok (.aload_n 0, 1) := by decide +kernel
theorem dX2_time_78 : decode cX2_time 78 = .ok (.getfield 28, 3) := by decide +kernel
theorem dX2_time_81 : decode cX2_time 81 = .ok (.getfield 76, 3) := by decide +kernel
theorem dX2_time_84 : decode cX2_time 84 = .ok (.iload 5, 2) := by decide +kernel
theorem dX2_time_86 : decode cX2_time 86 = .ok (.iaload, 1) := by decide +kernel
theorem dX2_time_87 : decode cX2_time 87 = .ok (.istore_n 3, 1) := by decide +kernel
theorem dX2_time_88 : decode cX2_time 88 = .ok (.iinc 4 1, 3) := by decide +kernel
theorem dX2_time_91 : decode cX2_time 91 = .ok (.goto (-71), 3) := by decide +kernel
theorem dX2_time_94 : decode cX2_time 94 = .ok (.aload_n 0, 1) := by decide +kernel
theorem dX2_time_95 : decode cX2_time 95 = .ok (.getfield 9, 3) := by decide +kernel
theorem dX2_time_98 : decode cX2_time 98 = .ok (.iconst 0, 1) := by decide +kernel
theorem dX2_time_99 : decode cX2_time 99 = .ok (.iaload, 1) := by decide +kernel
theorem dX2_time_100 : decode cX2_time 100 = .ok (.istore 4, 2) := by decide +kernel
theorem dX2_time_102 : decode cX2_time 102 = .ok (.aload_n 0, 1) := by decide +kernel
theorem dX2_time_103 : decode cX2_time 103 = .ok (.iload_n 2, 1) := by decide +kernel
theorem dX2_time_104 : decode cX2_time 104 = .ok (.aload_n 0, 1) := by decide +kernel
theorem dX2_time_105 : decode cX2_time 105 = .ok (.getfield 28, 3) := by decide +kernel
theorem dX2_time_108 : decode cX2_time 108 = .ok (.getfield 76, 3) := by decide +kernel
theorem dX2_time_111 : decode cX2_time 111 = .ok (.iload 4, 2) := by decide +kernel
theorem dX2_time_113 : decode cX2_time 113 = .ok (.iaload, 1) := by decide +kernel
theorem dX2_time_114 : decode cX2_time 114 = .ok (.iload_n 3, 1) := by decide +kernel
theorem dX2_time_115 : decode cX2_time 115 = .ok (.isub, 1) := by decide +kernel
theorem dX2_time_116 : decode cX2_time 116 = .ok (.invokestatic 79, 3) := by decide +kernel
theorem dX2_time_119 : decode cX2_time 119 = .ok (.iadd, 1) := by decide +kernel
theorem dX2_time_120 : decode cX2_time 120 = .ok (.aload_n 0, 1) := by decide +kernel
theorem dX2_time_121 : decode cX2_time 121 = .ok (.getfield 19, 3) := by decide +kernel
theorem dX2_time_124 : decode cX2_time 124 = .ok (.iload 4, 2) := by decide +kernel
theorem dX2_time_126 : decode cX2_time 126 = .ok (.iaload, 1) := by decide +kernel
theorem dX2_time_127 : decode cX2_time 127 = .ok (.isub, 1) := by decide +kernel
theorem dX2_time_128 : decode cX2_time 128 = .ok (.putfield 22, 3) := by decide +kernel
theorem dX2_time_131 : decode cX2_time 131 = .ok (.return_, 1) := by decide +kernel
set_option maxRecDepth 20000 in
theorem ggX2_harmBelow_X2_fallsBelow : GoodIn wsX2_harmBelow wsX2_fallsBelow := goodIn_r _ [9, 3, 10, 11, 12, 13, 14, 15, 16, 17, 18, 19, 20, 21, 22, 23, 24, 25, 26, 27] (by decide +kernel) (by decide +kernel)
set_option maxRecDepth 20000 in
theorem gX2_harmBelow_X2_fallsBelow : GoodIn wsX2_harmBelow (wsV RX2 87 RX2 yX2_fallsBelow wsX2_fallsBelow) := goodIn_app (goodIn_of _ (by decide +kernel)) ggX2_harmBelow_X2_fallsBelow
theorem dX2_harmBelow_0 : decode cX2_harmBelow 0 = .ok (.iconst 0, 1) := by decide +kernel
theorem dX2_harmBelow_1 : decode cX2_harmBelow 1 = .ok (.istore_n 3, 1) := by decide +kernel
theorem dX2_harmBelow_2 : decode cX2_harmBelow 2 = .ok (.iconst 0, 1) := by decide +kernel
theorem dX2_harmBelow_3 : decode cX2_harmBelow 3 = .ok (.istore 4, 2) := by decide +kernel
theorem dX2_harmBelow_5 : decode cX2_harmBelow 5 = .ok (.iload 4, 2) := by decide +kernel
theorem dX2_harmBelow_7 : decode cX2_harmBelow 7 = .ok (.aload_n 0, 1) := by decide +kernel
theorem dX2_harmBelow_8 : decode cX2_harmBelow 8 = .ok (.getfield 15, 3) := by decide +kernel
theorem dX2_harmBelow_11 : decode cX2_harmBelow 11 = .ok (.if_icmp .ge 45, 3) := by decide +kernel
theorem dX2_harmBelow_14 : decode cX2_harmBelow 14 = .ok (.iload_n 3, 1) := by decide +kernel
theorem dX2_harmBelow_15 : decode cX2_harmBelow 15 = .ok (.iload_n 2, 1) := by decide +kernel
theorem dX2_harmBelow_16 : decode cX2_harmBelow 16 = .ok (.if_icmp .ge 40, 3) := by decide +kernel
theorem dX2_harmBelow_19 : decode cX2_harmBelow 19 = .ok (.iload_n 3, 1) := by decide +kernel
theorem dX2_harmBelow_20 : decode cX2_harmBelow 20 = .ok (.aload_n 0, 1) := by decide +kernel
theorem dX2_harmBelow_21 : decode cX2_harmBelow 21 = .ok (.aload_n 0, 1) := by decide +kernel
theorem dX2_harmBelow_22 : decode cX2_harmBelow 22 = .ok (.getfield 9, 3) := by decide +kernel
theorem dX2_harmBelow_25 : decode cX2_harmBelow 25 = .ok (.iload 4, 2) := by decide +kernel
theorem dX2_harmBelow_27 : decode cX2_harmBelow 27 = .ok (.iaload, 1) := by decide +kernel
theorem dX2_harmBelow_28 : decode cX2_harmBelow 28 = .ok (.iload_n 1, 1) := by decide +kernel
theorem dX2_harmBelow_29 : decode cX2_harmBelow 29 = .ok (.invokevirtual 87, 3) := by decide +kernel
theorem dX2_harmBelow_32 : decode cX2_harmBelow 32 = .ok (.aload_n 0, 1) := by decide +kernel
theorem dX2_harmBelow_33 : decode cX2_harmBelow 33 = .ok (.getfield 28, 3) := by decide +kernel
theorem dX2_harmBelow_36 : decode cX2_harmBelow 36 = .ok (.getfield 90, 3) := by decide +kernel
theorem dX2_harmBelow_39 : decode cX2_harmBelow 39 = .ok (.aload_n 0, 1) := by decide +kernel
theorem dX2_harmBelow_40 : decode cX2_harmBelow 40 = .ok (.getfield 9, 3) := by decide +kernel
theorem dX2_harmBelow_43 : decode cX2_harmBelow 43 = .ok (.iload 4, 2) := by decide +kernel
theorem dX2_harmBelow_45 : decode cX2_harmBelow 45 = .ok (.iaload, 1) := by decide +kernel
theorem dX2_harmBelow_46 : decode cX2_harmBelow 46 = .ok (.iaload, 1) := by decide +kernel
theorem dX2_harmBelow_47 : decode cX2_harmBelow 47 = .ok (.imul, 1) := by decide +kernel
theorem dX2_harmBelow_48 : decode cX2_harmBelow 48 = .ok (.iadd, 1) := by decide +kernel
theorem dX2_harmBelow_49 : decode cX2_harmBelow 49 = .ok (.istore_n 3, 1) := by decide +kernel
theorem dX2_harmBelow_50 : decode cX2_harmBelow 50 = .ok (.iinc 4 1, 3) := by decide +kernel
theorem dX2_harmBelow_53 : decode cX2_harmBelow 53 = .ok (.goto (-48), 3) := by decide +kernel
theorem dX2_harmBelow_56 : decode cX2_harmBelow 56 = .ok (.iload_n 3, 1) := by decide +kernel
theorem dX2_harmBelow_57 : decode cX2_harmBelow 57 = .ok (.ireturn, 1) := by decide +kernel
theorem dX2_fallsBelow_0 : decode cX2_fallsBelow 0 = .ok (.aload_n 0, 1) := by decide +kernel
theorem dX2_fallsBelow_1 : decode cX2_fallsBelow 1 = .ok (.getfield 28, 3) := by decide +kernel
theorem dX2_fallsBelow_4 : decode cX2_fallsBelow 4 = .ok (.getfield 93, 3) := by decide +kernel
theorem dX2_fallsBelow_7 : decode cX2_fallsBelow 7 = .ok (.iload_n 1, 1) := by decide +kernel
theorem dX2_fallsBelow_8 : decode cX2_fallsBelow 8 = .ok (.iaload, 1) := by decide +kernel
theorem dX2_fallsBelow_9 : decode cX2_fallsBelow 9 = .ok (.istore_n 3, 1) := by decide +kernel
theorem dX2_fallsBelow_10 : decode cX2_fallsBelow 10 = .ok (.iload_n 3, 1) := by decide +kernel
theorem dX2_fallsBelow_11 : decode cX2_fallsBelow 11 = .ok (.aload_n 0, 1) := by decide +kernel
theorem dX2_fallsBelow_12 : decode cX2_fallsBelow 12 = .ok (.getfield 19, 3) := by decide +kernel
theorem dX2_fallsBelow_15 : decode cX2_fallsBelow 15 = .ok (.iload_n 1, 1) := by decide +kernel
theorem dX2_fallsBelow_16 : decode cX2_fallsBelow 16 = .ok (.iaload, 1) := by decide +kernel
theorem dX2_fallsBelow_17 : decode cX2_fallsBelow 17 = .ok (.if_icmp .ge 12, 3) := by decide +kernel
theorem dX2_fallsBelow_20 : decode cX2_fallsBelow 20 = .ok (.iload_n 3, 1) := by decide +kernel
theorem dX2_fallsBelow_21 : decode cX2_fallsBelow 21 = .ok (.iload_n 2, 1) := by decide +kernel
theorem dX2_fallsBelow_22 : decode cX2_fallsBelow 22 = .ok (.if_icmp .ge 7, 3) := by decide +kernel
theorem dX2_fallsBelow_25 : decode cX2_fallsBelow 25 = .ok (.iconst 1, 1) := by decide +kernel
theorem dX2_fallsBelow_26 : decode cX2_fallsBelow 26 = .ok (.goto 4, 3) := by decide +kernel
theorem dX2_fallsBelow_29 : decode cX2_fallsBelow 29 = .ok (.iconst 0, 1) := by decide +kernel
theorem dX2_fallsBelow_30 : decode cX2_fallsBelow 30 = .ok (.istore 4, 2) := by decide +kernel
theorem dX2_fallsBelow_32 : decode cX2_fallsBelow 32 = .ok (.aload_n 0, 1) := by decide +kernel
theorem dX2_fallsBelow_33 : decode cX2_fallsBelow 33 = .ok (.getfield 28, 3) := by decide +kernel
theorem dX2_fallsBelow_36 : decode cX2_fallsBelow 36 = .ok (.getfield 84, 3) := by decide +kernel
theorem dX2_fallsBelow_39 : decode cX2_fallsBelow 39 = .ok (.iload_n 1, 1) := by decide +kernel
theorem dX2_fallsBelow_40 : decode cX2_fallsBelow 40 = .ok (.iaload, 1) := by decide +kernel
theorem dX2_fallsBelow_41 : decode cX2_fallsBelow 41 = .ok (.iload_n 3, 1) := by decide +kernel
theorem dX2_fallsBelow_42 : decode cX2_fallsBelow 42 = .ok (.iadd, 1) := by decide +kernel
theorem dX2_fallsBelow_43 : decode cX2_fallsBelow 43 = .ok (.istore 5, 2) := by decide +kernel
theorem dX2_fallsBelow_45 : decode cX2_fallsBelow 45 = .ok (.aload_n 0, 1) := by decide +kernel
theorem dX2_fallsBelow_46 : decode cX2_fallsBelow 46 = .ok (.getfield 19, 3) := by decide +kernel
theorem dX2_fallsBelow_49 : decode cX2_fallsBelow 49 = .ok (.iload_n 1, 1) := by decide +kernel
theorem dX2_fallsBelow_50 : decode cX2_fallsBelow 50 = .ok (.iaload, 1) := by decide +kernel
theorem dX2_fallsBelow_51 : decode cX2_fallsBelow 51 = .ok (.iload 5, 2) := by decide +kernel
theorem dX2_fallsBelow_53 : decode cX2_fallsBelow 53 = .ok (.iadd, 1) := by decide +kernel
theorem dX2_fallsBelow_54 : decode cX2_fallsBelow 54 = .ok (.istore 6, 2) := by decide +kernel
theorem dX2_fallsBelow_56 : decode cX2_fallsBelow 56 = .ok (.aload_n 0, 1) := by decide +kernel
theorem dX2_fallsBelow_57 : decode cX2_fallsBelow 57 = .ok (.getfield 22, 3) := by decide +kernel
theorem dX2_fallsBelow_60 : decode cX2_fallsBelow 60 = .ok (.ifCond .le 36, 3) := by decide +kernel
theorem dX2_fallsBelow_63 : decode cX2_fallsBelow 63 = .ok (.aload_n 0, 1) := by decide +kernel
theorem dX2_fallsBelow_64 : decode cX2_fallsBelow 64 = .ok (.getfield 22, 3) := by decide +kernel
theorem dX2_fallsBelow_67 : decode cX2_fallsBelow 67 = .ok (.iload 5, 2) := by decide +kernel
theorem dX2_fallsBelow_69 : decode cX2_fallsBelow 69 = .ok (.if_icmp .le 27, 3) := by decide +kernel
theorem dX2_fallsBelow_72 : decode cX2_fallsBelow 72 = .ok (.iload 6, 2) := by decide +kernel
theorem dX2_fallsBelow_74 : decode cX2_fallsBelow 74 = .ok (.iload_n 2, 1) := by decide +kernel
theorem dX2_fallsBelow_75 : decode cX2_fallsBelow 75 = .ok (.if_icmp .ge 21, 3) := by decide +kernel
theorem dX2_fallsBelow_78 : decode cX2_fallsBelow 78 = .ok (.iload 4, 2) := by decide +kernel
theorem dX2_fallsBelow_80 : decode cX2_fallsBelow 80 = .ok (.iconst 1, 1) := by decide +kernel
theorem dX2_fallsBelow_81 : decode cX2_fallsBelow 81 = .ok (.iload_n 2, 1) := by decide +kernel
theorem dX2_fallsBelow_82 : decode cX2_fallsBelow 82 = .ok (.iconst 1, 1) := by decide +kernel
theorem dX2_fallsBelow_83 : decode cX2_fallsBelow 83 = .ok (.isub, 1) := by decide +kernel
theorem dX2_fallsBelow_84 : decode cX2_fallsBelow 84 = .ok (.iload 6, 2) := by decide +kernel
theorem dX2_fallsBelow_86 : decode cX2_fallsBelow 86 = .ok (.isub, 1) := by decide +kernel
theorem dX2_fallsBelow_87 : decode cX2_fallsBelow 87 = .ok (.aload_n 0, 1) := by decide +kernel
theorem dX2_fallsBelow_88 : decode cX2_fallsBelow 88 = .ok (.getfield 22, 3) := by decide +kernel
theorem dX2_fallsBelow_91 : decode cX2_fallsBelow 91 = .ok (.idiv, 1) := by decide +kernel
theorem dX2_fallsBelow_92 : decode cX2_fallsBelow 92 = .ok (.iadd, 1) := by decide +kernel
theorem dX2_fallsBelow_93 : decode cX2_fallsBelow 93 = .ok (.iadd, 1) := by decide +kernel
theorem dX2_fallsBelow_94 : decode cX2_fallsBelow 94 = .ok (.istore 4, 2) := by decide +kernel
theorem dX2_fallsBelow_96 : decode cX2_fallsBelow 96 = .ok (.iload 4, 2) := by decide +kernel
theorem dX2_fallsBelow_98 : decode cX2_fallsBelow 98 = .ok (.ireturn, 1) := by decide +kernel
theorem dX2_nothingEverFalls_0 : decode cX2_nothingEverFalls 0 = .ok (.iconst 0, 1) := by decide +kernel
theorem dX2_nothingEverFalls_1 : decode cX2_nothingEverFalls 1 = .ok (.istore_n 1, 1) := by decide +kernel
theorem dX2_nothingEverFalls_2 : decode cX2_nothingEverFalls 2 = .ok (.iload_n 1, 1) := by decide +kernel
theorem dX2_nothingEverFalls_3 : decode cX2_nothingEverFalls 3 = .ok (.aload_n 0, 1) := by decide +kernel
theorem dX2_nothingEverFalls_4 : decode cX2_nothingEverFalls 4 = .ok (.getfield 15, 3) := by decide +kernel
theorem dX2_nothingEverFalls_7 : decode cX2_nothingEverFalls 7 = .ok (.if_icmp .ge 56, 3) := by decide +kernel
theorem dX2_nothingEverFalls_10 : decode cX2_nothingEverFalls 10 = .ok (.aload_n 0, 1) := by decide +kernel
theorem dX2_nothingEverFalls_11 : decode cX2_nothingEverFalls 11 = .ok (.getfield 9, 3) := by decide +kernel
theorem dX2_nothingEverFalls_14 : decode cX2_nothingEverFalls 14 = .ok (.iload_n 1, 1) := by decide +kernel
theorem dX2_nothingEverFalls_15 : decode cX2_nothingEverFalls 15 = .ok (.iaload, 1) := by decide +kernel
theorem dX2_nothingEverFalls_16 : decode cX2_nothingEverFalls 16 = .ok (.istore_n 2, 1) := by decide +kernel
theorem dX2_nothingEverFalls_17 : decode cX2_nothingEverFalls 17 = .ok (.aload_n 0, 1) := by decide +kernel
theorem dX2_nothingEverFalls_18 : decode cX2_nothingEverFalls 18 = .ok (.getfield 28, 3) := by decide +kernel
theorem dX2_nothingEverFalls_21 : decode cX2_nothingEverFalls 21 = .ok (.getfield 93, 3) := by decide +kernel
theorem dX2_nothingEverFalls_24 : decode cX2_nothingEverFalls 24 = .ok (.iload_n 2, 1) := by decide +kernel
theorem dX2_nothingEverFalls_25 : decode cX2_nothingEverFalls 25 = .ok (.iaload, 1) := by decide +kernel
theorem dX2_nothingEverFalls_26 : decode cX2_nothingEverFalls 26 = .ok (.istore_n 3, 1) := by decide +kernel
theorem dX2_nothingEverFalls_27 : decode cX2_nothingEverFalls 27 = .ok (.iload_n 3, 1) := by decide +kernel
theorem dX2_nothingEverFalls_28 : decode cX2_nothingEverFalls 28 = .ok (.aload_n 0, 1) := by decide +kernel
theorem dX2_nothingEverFalls_29 : decode cX2_nothingEverFalls 29 = .ok (.getfield 19, 3) := by decide +kernel
theorem dX2_nothingEverFalls_32 : decode cX2_nothingEverFalls 32 = .ok (.iload_n 2, 1) := by decide +kernel
theorem dX2_nothingEverFalls_33 : decode cX2_nothingEverFalls 33 = .ok (.iaload, 1) := by decide +kernel
theorem dX2_nothingEverFalls_34 : decode cX2_nothingEverFalls 34 = .ok (.if_icmp .lt 21, 3) := by decide +kernel
theorem dX2_nothingEverFalls_37 : decode cX2_nothingEverFalls 37 = .ok (.aload_n 0, 1) := by decide +kernel
theorem dX2_nothingEverFalls_38 : decode cX2_nothingEverFalls 38 = .ok (.getfield 28, 3) := by decide +kernel
theorem dX2_nothingEverFalls_41 : decode cX2_nothingEverFalls 41 = .ok (.getfield 84, 3) := by decide +kernel
theorem dX2_nothingEverFalls_44 : decode cX2_nothingEverFalls 44 = .ok (.iload_n 2, 1) := by decide +kernel
theorem dX2_nothingEverFalls_45 : decode cX2_nothingEverFalls 45 = .ok (.iaload, 1) := by decide +kernel
theorem dX2_nothingEverFalls_46 : decode cX2_nothingEverFalls 46 = .ok (.iload_n 3, 1) := by decide +kernel
theorem dX2_nothingEverFalls_47 : decode cX2_nothingEverFalls 47 = .ok (.iadd, 1) := by decide +kernel
theorem dX2_nothingEverFalls_48 : decode cX2_nothingEverFalls 48 = .ok (.aload_n 0, 1) := by decide +kernel
theorem dX2_nothingEverFalls_49 : decode cX2_nothingEverFalls 49 = .ok (.getfield 22, 3) := by decide +kernel
theorem dX2_nothingEverFalls_52 : decode cX2_nothingEverFalls 52 = .ok (.if_icmp .ge 5, 3) := by decide +kernel
theorem dX2_nothingEverFalls_55 : decode cX2_nothingEverFalls 55 = .ok (.iconst 0, 1) := by decide +kernel
theorem dX2_nothingEverFalls_56 : decode cX2_nothingEverFalls 56 = .ok (.ireturn, 1) := by decide +kernel
theorem dX2_nothingEverFalls_57 : decode cX2_nothingEverFalls 57 = .ok (.iinc 1 1, 3) := by decide +kernel
theorem dX2_nothingEverFalls_60 : decode cX2_nothingEverFalls 60 = .ok (.goto (-58), 3) := by decide +kernel
theorem dX2_nothingEverFalls_63 : decode cX2_nothingEverFalls 63 = .ok (.iconst 1, 1) := by decide +kernel
theorem dX2_nothingEverFalls_64 : decode cX2_nothingEverFalls 64 = .ok (.ireturn, 1) := by decide +kernel
set_option maxRecDepth 20000 in
theorem ggX2_allAreSo_X2_isUp : GoodIn wsX2_allAreSo wsX2_isUp := goodIn_r _ [9, 10, 11, 12, 13, 14, 19, 20, 21, 22, 23, 24, 25, 26, 27, 28, 29, 30, 31, 32] (by decide +kernel) (by decide +kernel)
set_option maxRecDepth 20000 in
theorem gX2_allAreSo_X2_isUp : GoodIn wsX2_allAreSo (wsV RX2 105 RX2 yX2_isUp wsX2_isUp) := goodIn_app (goodIn_of _ (by decide +kernel)) ggX2_allAreSo_X2_isUp
theorem dX2_allAreSo_0 : decode cX2_allAreSo 0 = .ok (.iconst 0, 1) := by decide +kernel
theorem dX2_allAreSo_1 : decode cX2_allAreSo 1 = .ok (.istore_n 2, 1) := by decide +kernel
theorem dX2_allAreSo_2 : decode cX2_allAreSo 2 = .ok (.iload_n 2, 1) := by decide +kernel
theorem dX2_allAreSo_3 : decode cX2_allAreSo 3 = .ok (.aload_n 1, 1) := by decide +kernel
theorem dX2_allAreSo_4 : decode cX2_allAreSo 4 = .ok (.getfield 96, 3) := by decide +kernel
theorem dX2_allAreSo_7 : decode cX2_allAreSo 7 = .ok (.if_icmp .ge 36, 3) := by decide +kernel
theorem dX2_allAreSo_10 : decode cX2_allAreSo 10 = .ok (.aload_n 0, 1) := by decide +kernel
theorem dX2_allAreSo_11 : decode cX2_allAreSo 11 = .ok (.aload_n 1, 1) := by decide +kernel
theorem dX2_allAreSo_12 : decode cX2_allAreSo 12 = .ok (.getfield 99, 3) := by decide +kernel
theorem dX2_allAreSo_15 : decode cX2_allAreSo 15 = .ok (.iload_n 2, 1) := by decide +kernel
theorem dX2_allAreSo_16 : decode cX2_allAreSo 16 = .ok (.iaload, 1) := by decide +kernel
theorem dX2_allAreSo_17 : decode cX2_allAreSo 17 = .ok (.aload_n 1, 1) := by decide +kernel
theorem dX2_allAreSo_18 : decode cX2_allAreSo 18 = .ok (.getfield 102, 3) := by decide +kernel
theorem dX2_allAreSo_21 : decode cX2_allAreSo 21 = .ok (.iload_n 2, 1) := by decide +kernel
theorem dX2_allAreSo_22 : decode cX2_allAreSo 22 = .ok (.iaload, 1) := by decide +kernel
theorem dX2_allAreSo_23 : decode cX2_allAreSo 23 = .ok (.invokevirtual 105, 3) := by decide +kernel
theorem dX2_allAreSo_26 : decode cX2_allAreSo 26 = .ok (.aload_n 1, 1) := by decide +kernel
theorem dX2_allAreSo_27 : decode cX2_allAreSo 27 = .ok (.getfield 109, 3) := by decide +kernel
theorem dX2_allAreSo_30 : decode cX2_allAreSo 30 = .ok (.iload_n 2, 1) := by decide +kernel
theorem dX2_allAreSo_31 : decode cX2_allAreSo 31 = .ok (.baload, 1) := by decide +kernel
theorem dX2_allAreSo_32 : decode cX2_allAreSo 32 = .ok (.if_icmp .eq 5, 3) := by decide +kernel
theorem dX2_allAreSo_35 : decode cX2_allAreSo 35 = .ok (.iconst 0, 1) := by decide +kernel
theorem dX2_allAreSo_36 : decode cX2_allAreSo 36 = .ok (.ireturn, 1) := by decide +kernel
theorem dX2_allAreSo_37 : decode cX2_allAreSo 37 = .ok (.iinc 2 1, 3) := by decide +kernel
theorem dX2_allAreSo_40 : decode cX2_allAreSo 40 = .ok (.goto (-38), 3) := by decide +kernel
theorem dX2_allAreSo_43 : decode cX2_allAreSo 43 = .ok (.iconst 1, 1) := by decide +kernel
theorem dX2_allAreSo_44 : decode cX2_allAreSo 44 = .ok (.ireturn, 1) := by decide +kernel
theorem dX2_isUp_0 : decode cX2_isUp 0 = .ok (.iload_n 2, 1) := by decide +kernel
theorem dX2_isUp_1 : decode cX2_isUp 1 = .ok (.aload_n 0, 1) := by decide +kernel
theorem dX2_isUp_2 : decode cX2_isUp 2 = .ok (.getfield 19, 3) := by decide +kernel
theorem dX2_isUp_5 : decode cX2_isUp 5 = .ok (.iload_n 1, 1) := by decide +kernel
theorem dX2_isUp_6 : decode cX2_isUp 6 = .ok (.iaload, 1) := by decide +kernel
theorem dX2_isUp_7 : decode cX2_isUp 7 = .ok (.isub, 1) := by decide +kernel
theorem dX2_isUp_8 : decode cX2_isUp 8 = .ok (.istore_n 3, 1) := by decide +kernel
theorem dX2_isUp_9 : decode cX2_isUp 9 = .ok (.iload_n 3, 1) := by decide +kernel
theorem dX2_isUp_10 : decode cX2_isUp 10 = .ok (.ifCond .ge 22, 3) := by decide +kernel
theorem dX2_isUp_13 : decode cX2_isUp 13 = .ok (.iload_n 2, 1) := by decide +kernel
theorem dX2_isUp_14 : decode cX2_isUp 14 = .ok (.aload_n 0, 1) := by decide +kernel
theorem dX2_isUp_15 : decode cX2_isUp 15 = .ok (.getfield 28, 3) := by decide +kernel
theorem dX2_isUp_18 : decode cX2_isUp 18 = .ok (.getfield 93, 3) := by decide +kernel
theorem dX2_isUp_21 : decode cX2_isUp 21 = .ok (.iload_n 1, 1) := by decide +kernel
theorem dX2_isUp_22 : decode cX2_isUp 22 = .ok (.iaload, 1) := by decide +kernel
theorem dX2_isUp_23 : decode cX2_isUp 23 = .ok (.if_icmp .ge 7, 3) := by decide +kernel
theorem dX2_isUp_26 : decode cX2_isUp 26 = .ok (.iconst 1, 1) := by decide +kernel
theorem dX2_isUp_27 : decode cX2_isUp 27 = .ok (.goto 4, 3) := by decide +kernel
theorem dX2_isUp_30 : decode cX2_isUp 30 = .ok (.iconst 0, 1) := by decide +kernel
theorem dX2_isUp_31 : decode cX2_isUp 31 = .ok (.ireturn, 1) := by decide +kernel
theorem dX2_isUp_32 : decode cX2_isUp 32 = .ok (.aload_n 0, 1) := by decide +kernel
theorem dX2_isUp_33 : decode cX2_isUp 33 = .ok (.getfield 22, 3) := by decide +kernel
theorem dX2_isUp_36 : decode cX2_isUp 36 = .ok (.ifCond .le 35, 3) := by decide +kernel
theorem dX2_isUp_39 : decode cX2_isUp 39 = .ok (.iload_n 3, 1) := by decide +kernel
theorem dX2_isUp_40 : decode cX2_isUp 40 = .ok (.aload_n 0, 1) := by decide +kernel
theorem dX2_isUp_41 : decode cX2_isUp 41 = .ok (.getfield 22, 3) := by decide +kernel
theorem dX2_isUp_44 : decode cX2_isUp 44 = .ok (.irem, 1) := by decide +kernel
theorem dX2_isUp_45 : decode cX2_isUp 45 = .ok (.aload_n 0, 1) := by decide +kernel
theorem dX2_isUp_46 : decode cX2_isUp 46 = .ok (.getfield 28, 3) := by decide +kernel
theorem dX2_isUp_49 : decode cX2_isUp 49 = .ok (.getfield 84, 3) := by decide +kernel
theorem dX2_isUp_52 : decode cX2_isUp 52 = .ok (.iload_n 1, 1) := by decide +kernel
theorem dX2_isUp_53 : decode cX2_isUp 53 = .ok (.iaload, 1) := by decide +kernel
theorem dX2_isUp_54 : decode cX2_isUp 54 = .ok (.aload_n 0, 1) := by decide +kernel
theorem dX2_isUp_55 : decode cX2_isUp 55 = .ok (.getfield 28, 3) := by decide +kernel
theorem dX2_isUp_58 : decode cX2_isUp 58 = .ok (.getfield 93, 3) := by decide +kernel
theorem dX2_isUp_61 : decode cX2_isUp 61 = .ok (.iload_n 1, 1) := by decide +kernel
theorem dX2_isUp_62 : decode cX2_isUp 62 = .ok (.iaload, 1) := by decide +kernel
theorem dX2_isUp_63 : decode cX2_isUp 63 = .ok (.iadd, 1) := by decide +kernel
theorem dX2_isUp_64 : decode cX2_isUp 64 = .ok (.if_icmp .ge 7, 3) := by decide +kernel
theorem dX2_isUp_67 : decode cX2_isUp 67 = .ok (.iconst 1, 1) := by decide +kernel
theorem dX2_isUp_68 : decode cX2_isUp 68 = .ok (.goto 4, 3) := by decide +kernel
theorem dX2_isUp_71 : decode cX2_isUp 71 = .ok (.iconst 0, 1) := by decide +kernel
theorem dX2_isUp_72 : decode cX2_isUp 72 = .ok (.ireturn, 1) := by decide +kernel
theorem dX3_init_0 : decode cX3_init 0 = .ok (.aload_n 0, 1) := by decide +kernel
theorem dX3_init_1 : decode cX3_init 1 = .ok (.invokespecial 3, 3) := by decide +kernel
theorem dX3_init_4 : decode cX3_init 4 = .ok (.aload_n 0, 1) := by decide +kernel
theorem dX3_init_5 : decode cX3_init 5 = .ok (.iconst 0, 1) := by decide +kernel
theorem dX3_init_6 : decode cX3_init 6 = .ok (.putfield 9, 3) := by decide +kernel
theorem dX3_init_9 : decode cX3_init 9 = .ok (.aload_n 0, 1) := by decide +kernel
theorem dX3_init_10 : decode cX3_init 10 = .ok (.bipush 8, 2) := by decide +kernel
theorem dX3_init_12 : decode cX3_init 12 = .ok (.newarray .int, 2) := by decide +kernel
theorem dX3_init_14 : decode cX3_init 14 = .ok (.putfield 15, 3) := by decide +kernel
theorem dX3_init_17 : decode cX3_init 17 = .ok (.aload_n 0, 1) := by decide +kernel
theorem dX3_init_18 : decode cX3_init 18 = .ok (.bipush 8, 2) := by decide +kernel
theorem dX3_init_20 : decode cX3_init 20 = .ok (.newarray .int, 2) := by decide +kernel
theorem dX3_init_22 : decode cX3_init 22 = .ok (.putfield 19, 3) := by decide +kernel
theorem dX3_init_25 : decode cX3_init 25 = .ok (.aload_n 0, 1) := by decide +kernel
theorem dX3_init_26 : decode cX3_init 26 = .ok (.bipush 8, 2) := by decide +kernel
theorem dX3_init_28 : decode cX3_init 28 = .ok (.newarray .boolean, 2) := by decide +kernel
theorem dX3_init_30 : decode cX3_init 30 = .ok (.putfield 22, 3) := by decide +kernel
theorem dX3_init_33 : decode cX3_init 33 = .ok (.return_, 1) := by decide +kernel
theorem dX3_note_0 : decode cX3_note 0 = .ok (.aload_n 0, 1) := by decide +kernel
theorem dX3_note_1 : decode cX3_note 1 = .ok (.getfield 9, 3) := by decide +kernel
theorem dX3_note_4 : decode cX3_note 4 = .ok (.bipush 8, 2) := by decide +kernel
theorem dX3_note_6 : decode cX3_note 6 = .ok (.if_icmp .lt 6, 3) := by decide +kernel
theorem dX3_note_9 : decode cX3_note 9 = .ok (.bipush (-4), 2) := by decide +kernel
theorem dX3_note_11 : decode cX3_note 11 = .ok (.ireturn, 1) := by decide +kernel
theorem dX3_note_12 : decode cX3_note 12 = .ok (.aload_n 0, 1) := by decide +kernel
theorem dX3_note_13 : decode cX3_note 13 = .ok (.getfield 15, 3) := by decide +kernel
theorem dX3_note_16 : decode cX3_note 16 = .ok (.aload_n 0, 1) := by decide +kernel
theorem dX3_note_17 : decode cX3_note 17 = .ok (.getfield 9, 3) := by decide +kernel
theorem dX3_note_20 : decode cX3_note 20 = .ok (.iload_n 1, 1) := by decide +kernel
theorem dX3_note_21 : decode cX3_note 21 = .ok (.iastore, 1) := by decide +kernel
theorem dX3_note_22 : decode cX3_note 22 = .ok (.aload_n 0, 1) := by decide +kernel
theorem dX3_note_23 : decode cX3_note 23 = .ok (.getfield 19, 3) := by decide +kernel
theorem dX3_note_26 : decode cX3_note 26 = .ok (.aload_n 0, 1) := by decide +kernel
theorem dX3_note_27 : decode cX3_note 27 = .ok (.getfield 9, 3) := by decide +kernel
theorem dX3_note_30 : decode cX3_note 30 = .ok (.iload_n 2, 1) := by decide +kernel
theorem dX3_note_31 : decode cX3_note 31 = .ok (.iastore, 1) := by decide +kernel
theorem dX3_note_32 : decode cX3_note 32 = .ok (.aload_n 0, 1) := by decide +kernel
theorem dX3_note_33 : decode cX3_note 33 = .ok (.getfield 22, 3) := by decide +kernel
theorem dX3_note_36 : decode cX3_note 36 = .ok (.aload_n 0, 1) := by decide +kernel
theorem dX3_note_37 : decode cX3_note 37 = .ok (.getfield 9, 3) := by decide +kernel
theorem dX3_note_40 : decode cX3_note 40 = .ok (.iload_n 3, 1) := by decide +kernel
theorem dX3_note_41 : decode cX3_note 41 = .ok (.bastore, 1) := by decide +kernel
theorem dX3_note_42 : decode cX3_note 42 = .ok (.aload_n 0, 1) := by decide +kernel
theorem dX3_note_43 : decode cX3_note 43 = .ok (.dup, 1) := by decide +kernel
theorem dX3_note_44 : decode cX3_note 44 = .ok (.getfield 9, 3) := by decide +kernel
theorem dX3_note_47 : decode cX3_note 47 = .ok (.iconst 1, 1) := by decide +kernel
theorem dX3_note_48 : decode cX3_note 48 = .ok (.iadd, 1) := by decide +kernel
theorem dX3_note_49 : decode cX3_note 49 = .ok (.putfield 9, 3) := by decide +kernel
theorem dX3_note_52 : decode cX3_note 52 = .ok (.aload_n 0, 1) := by decide +kernel
theorem dX3_note_53 : decode cX3_note 53 = .ok (.getfield 9, 3) := by decide +kernel
theorem dX3_note_56 : decode cX3_note 56 = .ok (.iconst 1, 1) := by decide +kernel
theorem dX3_note_57 : decode cX3_note 57 = .ok (.isub, 1) := by decide +kernel
theorem dX3_note_58 : decode cX3_note 58 = .ok (.ireturn, 1) := by decide +kernel
theorem dX4_init_0 : decode cX4_init 0 = .ok (.aload_n 0, 1) := by decide +kernel
theorem dX4_init_1 : decode cX4_init 1 = .ok (.invokespecial 3, 3) := by decide +kernel
theorem dX4_init_4 : decode cX4_init 4 = .ok (.aload_n 0, 1) := by decide +kernel
theorem dX4_init_5 : decode cX4_init 5 = .ok (.iconst (-1), 1) := by decide +kernel
theorem dX4_init_6 : decode cX4_init 6 = .ok (.putfield 11, 3) := by decide +kernel
theorem dX4_init_9 : decode cX4_init 9 = .ok (.aload_n 0, 1) := by decide +kernel
theorem dX4_init_10 : decode cX4_init 10 = .ok (.iconst 0, 1) := by decide +kernel
theorem dX4_init_11 : decode cX4_init 11 = .ok (.putfield 15, 3) := by decide +kernel
theorem dX4_init_14 : decode cX4_init 14 = .ok (.aload_n 0, 1) := by decide +kernel
theorem dX4_init_15 : decode cX4_init 15 = .ok (.bipush 60, 2) := by decide +kernel
theorem dX4_init_17 : decode cX4_init 17 = .ok (.newarray .int, 2) := by decide +kernel
theorem dX4_init_19 : decode cX4_init 19 = .ok (.putfield 18, 3) := by decide +kernel
theorem dX4_init_22 : decode cX4_init 22 = .ok (.return_, 1) := by decide +kernel
theorem dX4_isNothing_0 : decode cX4_isNothing 0 = .ok (.aload_n 0, 1) := by decide +kernel
theorem dX4_isNothing_1 : decode cX4_isNothing 1 = .ok (.getfield 11, 3) := by decide +kernel
theorem dX4_isNothing_4 : decode cX4_isNothing 4 = .ok (.iconst (-1), 1) := by decide +kernel
theorem dX4_isNothing_5 : decode cX4_isNothing 5 = .ok (.if_icmp .ne 7, 3) := by decide +kernel
theorem dX4_isNothing_8 : decode cX4_isNothing 8 = .ok (.iconst 1, 1) := by decide +kernel
theorem dX4_isNothing_9 : decode cX4_isNothing 9 = .ok (.goto 4, 3) := by decide +kernel
theorem dX4_isNothing_12 : decode cX4_isNothing 12 = .ok (.iconst 0, 1) := by decide +kernel
theorem dX4_isNothing_13 : decode cX4_isNothing 13 = .ok (.ireturn, 1) := by decide +kernel
theorem dX4_makeNothing_0 : decode cX4_makeNothing 0 = .ok (.aload_n 0, 1) := by decide +kernel
theorem dX4_makeNothing_1 : decode cX4_makeNothing 1 = .ok (.iconst (-1), 1) := by decide +kernel
theorem dX4_makeNothing_2 : decode cX4_makeNothing 2 = .ok (.putfield 11, 3) := by decide +kernel
theorem dX4_makeNothing_5 : decode cX4_makeNothing 5 = .ok (.aload_n 0, 1) := by decide +kernel
theorem dX4_makeNothing_6 : decode cX4_makeNothing 6 = .ok (.iconst 0, 1) := by decide +kernel
theorem dX4_makeNothing_7 : decode cX4_makeNothing 7 = .ok (.putfield 15, 3) := by decide +kernel
theorem dX4_makeNothing_10 : decode cX4_makeNothing 10 = .ok (.return_, 1) := by decide +kernel
theorem dX4_makeRow_0 : decode cX4_makeRow 0 = .ok (.aload_n 0, 1) := by decide +kernel
theorem dX4_makeRow_1 : decode cX4_makeRow 1 = .ok (.iload_n 1, 1) := by decide +kernel
theorem dX4_makeRow_2 : decode cX4_makeRow 2 = .ok (.putfield 11, 3) := by decide +kernel
theorem dX4_makeRow_5 : decode cX4_makeRow 5 = .ok (.aload_n 0, 1) := by decide +kernel
theorem dX4_makeRow_6 : decode cX4_makeRow 6 = .ok (.iconst 0, 1) := by decide +kernel
theorem dX4_makeRow_7 : decode cX4_makeRow 7 = .ok (.iload_n 2, 1) := by decide +kernel
theorem dX4_makeRow_8 : decode cX4_makeRow 8 = .ok (.bipush 60, 2) := by decide +kernel
theorem dX4_makeRow_10 : decode cX4_makeRow 10 = .ok (.invokestatic 22, 3) := by decide +kernel
theorem dX4_makeRow_13 : decode cX4_makeRow 13 = .ok (.invokestatic 28, 3) := by decide +kernel
theorem dX4_makeRow_16 : decode cX4_makeRow 16 = .ok (.putfield 15, 3) := by decide +kernel
theorem dX4_makeRow_19 : decode cX4_makeRow 19 = .ok (.iconst 0, 1) := by decide +kernel
theorem dX4_makeRow_20 : decode cX4_makeRow 20 = .ok (.istore_n 3, 1) := by decide +kernel
theorem dX4_makeRow_21 : decode cX4_makeRow 21 = .ok (.iload_n 3, 1) := by decide +kernel
theorem dX4_makeRow_22 : decode cX4_makeRow 22 = .ok (.aload_n 0, 1) := by decide +kernel
theorem dX4_makeRow_23 : decode cX4_makeRow 23 = .ok (.getfield 15, 3) := by decide +kernel
theorem dX4_makeRow_26 : decode cX4_makeRow 26 = .ok (.if_icmp .ge 16, 3) := by decide +kernel
theorem dX4_makeRow_29 : decode cX4_makeRow 29 = .ok (.aload_n 0, 1) := by decide +kernel
theorem dX4_makeRow_30 : decode cX4_makeRow 30 = .ok (.getfield 18, 3) := by decide +kernel
theorem dX4_makeRow_33 : decode cX4_makeRow 33 = .ok (.iload_n 3, 1) := by decide +kernel
theorem dX4_makeRow_34 : decode cX4_makeRow 34 = .ok (.iconst 0, 1) := by decide +kernel
theorem dX4_makeRow_35 : decode cX4_makeRow 35 = .ok (.iastore, 1) := by decide +kernel
theorem dX4_makeRow_36 : decode cX4_makeRow 36 = .ok (.iinc 3 1, 3) := by decide +kernel
theorem dX4_makeRow_39 : decode cX4_makeRow 39 = .ok (.goto (-18), 3) := by decide +kernel
theorem dX4_makeRow_42 : decode cX4_makeRow 42 = .ok (.return_, 1) := by decide +kernel
theorem dX4_hasCell_0 : decode cX4_hasCell 0 = .ok (.iload_n 1, 1) := by decide +kernel
theorem dX4_hasCell_1 : decode cX4_hasCell 1 = .ok (.ifCond .lt 15, 3) := by decide +kernel
theorem dX4_hasCell_4 : decode cX4_hasCell 4 = .ok (.iload_n 1, 1) := by decide +kernel
theorem dX4_hasCell_5 : decode cX4_hasCell 5 = .ok (.aload_n 0, 1) := by decide +kernel
theorem dX4_hasCell_6 : decode cX4_hasCell 6 = .ok (.getfield 15, 3) := by decide +kernel
theorem dX4_hasCell_9 : decode cX4_hasCell 9 = .ok (.if_icmp .ge 7, 3) := by decide +kernel
theorem dX4_hasCell_12 : decode cX4_hasCell 12 = .ok (.iconst 1, 1) := by decide +kernel
theorem dX4_hasCell_13 : decode cX4_hasCell 13 = .ok (.goto 4, 3) := by decide +kernel
theorem dX4_hasCell_16 : decode cX4_hasCell 16 = .ok (.iconst 0, 1) := by decide +kernel
theorem dX4_hasCell_17 : decode cX4_hasCell 17 = .ok (.ireturn, 1) := by decide +kernel
theorem dX4_spans_0 : decode cX4_spans 0 = .ok (.iload_n 2, 1) := by decide +kernel
theorem dX4_spans_1 : decode cX4_spans 1 = .ok (.ifCond .lt 29, 3) := by decide +kernel
theorem dX4_spans_4 : decode cX4_spans 4 = .ok (.iload_n 1, 1) := by decide +kernel
theorem dX4_spans_5 : decode cX4_spans 5 = .ok (.ifCond .lt 25, 3) := by decide +kernel
theorem dX4_spans_8 : decode cX4_spans 8 = .ok (.iload_n 1, 1) := by decide +kernel
theorem dX4_spans_9 : decode cX4_spans 9 = .ok (.aload_n 0, 1) := by decide +kernel
theorem dX4_spans_10 : decode cX4_spans 10 = .ok (.getfield 15, 3) := by decide +kernel
theorem dX4_spans_13 : decode cX4_spans 13 = .ok (.if_icmp .gt 17, 3) := by decide +kernel
theorem dX4_spans_16 : decode cX4_spans 16 = .ok (.iload_n 2, 1) := by decide +kernel
theorem dX4_spans_17 : decode cX4_spans 17 = .ok (.aload_n 0, 1) := by decide +kernel
theorem dX4_spans_18 : decode cX4_spans 18 = .ok (.getfield 15, 3) := by decide +kernel
theorem dX4_spans_21 : decode cX4_spans 21 = .ok (.iload_n 1, 1) := by decide +kernel
theorem dX4_spans_22 : decode cX4_spans 22 = .ok (.isub, 1) := by decide +kernel
theorem dX4_spans_23 : decode cX4_spans 23 = .ok (.if_icmp .gt 7, 3) := by decide +kernel
theorem dX4_spans_26 : decode cX4_spans 26 = .ok (.iconst 1, 1) := by decide +kernel
theorem dX4_spans_27 : decode cX4_spans 27 = .ok (.goto 4, 3) := by decide +kernel
theorem dX4_spans_30 : decode cX4_spans 30 = .ok (.iconst 0, 1) := by decide +kernel
theorem dX4_spans_31 : decode cX4_spans 31 = .ok (.ireturn, 1) := by decide +kernel
set_option maxRecDepth 20000 in
theorem ggX4_read_X4_hasCell : GoodIn wsX4_read wsX4_hasCell := goodIn_r _ [6, 7, 8, 9, 10] (by decide +kernel) (by decide +kernel)
set_option maxRecDepth 20000 in
theorem gX4_read_X4_hasCell : GoodIn wsX4_read (wsV RX4 31 RX4 yX4_hasCell wsX4_hasCell) := goodIn_app (goodIn_of _ (by decide +kernel)) ggX4_read_X4_hasCell
theorem dX4_read_0 : decode cX4_read 0 = .ok (.aload_n 0, 1) := by decide +kernel
theorem dX4_read_1 : decode cX4_read 1 = .ok (.iload_n 1, 1) := by decide +kernel
theorem dX4_read_2 : decode cX4_read 2 = .ok (.invokevirtual 31, 3) := by decide +kernel
theorem dX4_read_5 : decode cX4_read 5 = .ok (.ifCond .eq 12, 3) := by decide +kernel
theorem dX4_read_8 : decode cX4_read 8 = .ok (.aload_n 0, 1) := by decide +kernel
theorem dX4_read_9 : decode cX4_read 9 = .ok (.getfield 18, 3) := by decide +kernel
theorem dX4_read_12 : decode cX4_read 12 = .ok (.iload_n 1, 1) := by decide +kernel
theorem dX4_read_13 : decode cX4_read 13 = .ok (.iaload, 1) := by decide +kernel
theorem dX4_read_14 : decode cX4_read 14 = .ok (.goto 4, 3) := by decide +kernel
theorem dX4_read_17 : decode cX4_read 17 = .ok (.iconst 0, 1) := by decide +kernel
theorem dX4_read_18 : decode cX4_read 18 = .ok (.ireturn, 1) := by decide +kernel
set_option maxRecDepth 20000 in
theorem ggX4_write_X4_hasCell : GoodIn wsX4_write wsX4_hasCell := goodIn_r _ [7, 8, 9, 10, 11] (by decide +kernel) (by decide +kernel)
set_option maxRecDepth 20000 in
theorem gX4_write_X4_hasCell : GoodIn wsX4_write (wsV RX4 31 RX4 yX4_hasCell wsX4_hasCell) := goodIn_app (goodIn_of _ (by decide +kernel)) ggX4_write_X4_hasCell
theorem dX4_write_0 : decode cX4_write 0 = .ok (.aload_n 0, 1) := by decide +kernel
theorem dX4_write_1 : decode cX4_write 1 = .ok (.iload_n 1, 1) := by decide +kernel
theorem dX4_write_2 : decode cX4_write 2 = .ok (.invokevirtual 31, 3) := by decide +kernel
theorem dX4_write_5 : decode cX4_write 5 = .ok (.ifCond .ne 4, 3) := by decide +kernel
theorem dX4_write_8 : decode cX4_write 8 = .ok (.return_, 1) := by decide +kernel
theorem dX4_write_9 : decode cX4_write 9 = .ok (.aload_n 0, 1) := by decide +kernel
theorem dX4_write_10 : decode cX4_write 10 = .ok (.getfield 11, 3) := by decide +kernel
theorem dX4_write_13 : decode cX4_write 13 = .ok (.ifCond .ne 14, 3) := by decide +kernel
theorem dX4_write_16 : decode cX4_write 16 = .ok (.aload_n 0, 1) := by decide +kernel
theorem dX4_write_17 : decode cX4_write 17 = .ok (.getfield 18, 3) := by decide +kernel
theorem dX4_write_20 : decode cX4_write 20 = .ok (.iload_n 1, 1) := by decide +kernel
theorem dX4_write_21 : decode cX4_write 21 = .ok (.iload_n 2, 1) := by decide +kernel
theorem dX4_write_22 : decode cX4_write 22 = .ok (.i2b, 1) := by decide +kernel
theorem dX4_write_23 : decode cX4_write 23 = .ok (.iastore, 1) := by decide +kernel
theorem dX4_write_24 : decode cX4_write 24 = .ok (.goto 29, 3) := by decide +kernel
theorem dX4_write_27 : decode cX4_write 27 = .ok (.aload_n 0, 1) := by decide +kernel
theorem dX4_write_28 : decode cX4_write 28 = .ok (.getfield 11, 3) := by decide +kernel
theorem dX4_write_31 : decode cX4_write 31 = .ok (.iconst 1, 1) := by decide +kernel
theorem dX4_write_32 : decode cX4_write 32 = .ok (.if_icmp .ne 14, 3) := by decide +kernel
theorem dX4_write_35 : decode cX4_write 35 = .ok (.aload_n 0, 1) := by decide +kernel
theorem dX4_write_36 : decode cX4_write 36 = .ok (.getfield 18, 3) := by decide +kernel
theorem dX4_write_39 : decode cX4_write 39 = .ok (.iload_n 1, 1) := by decide +kernel
theorem dX4_write_40 : decode cX4_write 40 = .ok (.iload_n 2, 1) := by decide +kernel
theorem dX4_write_41 : decode cX4_write 41 = .ok (.i2s, 1) := by decide +kernel
theorem dX4_write_42 : decode cX4_write 42 = .ok (.iastore, 1) := by decide +kernel
theorem dX4_write_43 : decode cX4_write 43 = .ok (.goto 10, 3) := by decide +kernel
theorem dX4_write_46 : decode cX4_write 46 = .ok (.aload_n 0, 1) := by decide +kernel
theorem dX4_write_47 : decode cX4_write 47 = .ok (.getfield 18, 3) := by decide +kernel
theorem dX4_write_50 : decode cX4_write 50 = .ok (.iload_n 1, 1) := by decide +kernel
theorem dX4_write_51 : decode cX4_write 51 = .ok (.iload_n 2, 1) := by decide +kernel
theorem dX4_write_52 : decode cX4_write 52 = .ok (.iastore, 1) := by decide +kernel
theorem dX4_write_53 : decode cX4_write 53 = .ok (.return_, 1) := by decide +kernel
theorem dX5_init_0 : decode cX5_init 0 = .ok (.aload_n 0, 1) := by decide +kernel
theorem dX5_init_1 : decode cX5_init 1 = .ok (.invokespecial 3, 3) := by decide +kernel
theorem dX5_init_4 : decode cX5_init 4 = .ok (.aload_n 0, 1) := by decide +kernel
theorem dX5_init_5 : decode cX5_init 5 = .ok (.iconst 0, 1) := by decide +kernel
theorem dX5_init_6 : decode cX5_init 6 = .ok (.putfield 9, 3) := by decide +kernel
theorem dX5_init_9 : decode cX5_init 9 = .ok (.aload_n 0, 1) := by decide +kernel
theorem dX5_init_10 : decode cX5_init 10 = .ok (.iconst 0, 1) := by decide +kernel
theorem dX5_init_11 : decode cX5_init 11 = .ok (.putfield 15, 3) := by decide +kernel
theorem dX5_init_14 : decode cX5_init 14 = .ok (.aload_n 0, 1) := by decide +kernel
theorem dX5_init_15 : decode cX5_init 15 = .ok (.iconst 0, 1) := by decide +kernel
theorem dX5_init_16 : decode cX5_init 16 = .ok (.putfield 18, 3) := by decide +kernel
theorem dX5_init_19 : decode cX5_init 19 = .ok (.aload_n 0, 1) := by decide +kernel
theorem dX5_init_20 : decode cX5_init 20 = .ok (.bipush 6, 2) := by decide +kernel
theorem dX5_init_22 : decode cX5_init 22 = .ok (.anewarray 21, 3) := by decide +kernel
theorem dX5_init_25 : decode cX5_init 25 = .ok (.putfield 23, 3) := by decide +kernel
theorem dX5_init_28 : decode cX5_init 28 = .ok (.aload_n 0, 1) := by decide +kernel
theorem dX5_init_29 : decode cX5_init 29 = .ok (.bipush 6, 2) := by decide +kernel
theorem dX5_init_31 : decode cX5_init 31 = .ok (.newarray .int, 2) := by decide +kernel
theorem dX5_init_33 : decode cX5_init 33 = .ok (.putfield 27, 3) := by decide +kernel
theorem dX5_init_36 : decode cX5_init 36 = .ok (.aload_n 0, 1) := by decide +kernel
theorem dX5_init_37 : decode cX5_init 37 = .ok (.bipush 6, 2) := by decide +kernel
theorem dX5_init_39 : decode cX5_init 39 = .ok (.newarray .int, 2) := by decide +kernel
theorem dX5_init_41 : decode cX5_init 41 = .ok (.putfield 31, 3) := by decide +kernel
theorem dX5_init_44 : decode cX5_init 44 = .ok (.aload_n 0, 1) := by decide +kernel
theorem dX5_init_45 : decode cX5_init 45 = .ok (.bipush 6, 2) := by decide +kernel
theorem dX5_init_47 : decode cX5_init 47 = .ok (.newarray .int, 2) := by decide +kernel
theorem dX5_init_49 : decode cX5_init 49 = .ok (.putfield 34, 3) := by decide +kernel
theorem dX5_init_52 : decode cX5_init 52 = .ok (.aload_n 0, 1) := by decide +kernel
theorem dX5_init_53 : decode cX5_init 53 = .ok (.bipush 6, 2) := by decide +kernel
theorem dX5_init_55 : decode cX5_init 55 = .ok (.newarray .int, 2) := by decide +kernel
theorem dX5_init_57 : decode cX5_init 57 = .ok (.putfield 37, 3) := by decide +kernel
theorem dX5_init_60 : decode cX5_init 60 = .ok (.return_, 1) := by decide +kernel
theorem dX5_empty_0 : decode cX5_empty 0 = .ok (.aload_n 0, 1) := by decide +kernel
theorem dX5_empty_1 : decode cX5_empty 1 = .ok (.iconst 0, 1) := by decide +kernel
theorem dX5_empty_2 : decode cX5_empty 2 = .ok (.putfield 9, 3) := by decide +kernel
theorem dX5_empty_5 : decode cX5_empty 5 = .ok (.aload_n 0, 1) := by decide +kernel
theorem dX5_empty_6 : decode cX5_empty 6 = .ok (.iload_n 1, 1) := by decide +kernel
theorem dX5_empty_7 : decode cX5_empty 7 = .ok (.putfield 15, 3) := by decide +kernel
theorem dX5_empty_10 : decode cX5_empty 10 = .ok (.return_, 1) := by decide +kernel
theorem dX5_addThing_0 : decode cX5_addThing 0 = .ok (.aload_n 0, 1) := by decide +kernel
theorem dX5_addThing_1 : decode cX5_addThing 1 = .ok (.getfield 9, 3) := by decide +kernel
theorem dX5_addThing_4 : decode cX5_addThing 4 = .ok (.bipush 6, 2) := by decide +kernel
theorem dX5_addThing_6 : decode cX5_addThing 6 = .ok (.if_icmp .lt 4, 3) := by decide +kernel
theorem dX5_addThing_9 : decode cX5_addThing 9 = .ok (.return_, 1) := by decide +kernel
theorem dX5_addThing_10 : decode cX5_addThing 10 = .ok (.aload_n 0, 1) := by decide +kernel
theorem dX5_addThing_11 : decode cX5_addThing 11 = .ok (.getfield 23, 3) := by decide +kernel
theorem dX5_addThing_14 : decode cX5_addThing 14 = .ok (.aload_n 0, 1) := by decide +kernel
theorem dX5_addThing_15 : decode cX5_addThing 15 = .ok (.getfield 9, 3) := by decide +kernel
theorem dX5_addThing_18 : decode cX5_addThing 18 = .ok (.aload_n 1, 1) := by decide +kernel
theorem dX5_addThing_19 : decode cX5_addThing 19 = .ok (.aastore, 1) := by decide +kernel
theorem dX5_addThing_20 : decode cX5_addThing 20 = .ok (.aload_n 0, 1) := by decide +kernel
theorem dX5_addThing_21 : decode cX5_addThing 21 = .ok (.getfield 27, 3) := by decide +kernel
theorem dX5_addThing_24 : decode cX5_addThing 24 = .ok (.aload_n 0, 1) := by decide +kernel
theorem dX5_addThing_25 : decode cX5_addThing 25 = .ok (.getfield 9, 3) := by decide +kernel
theorem dX5_addThing_28 : decode cX5_addThing 28 = .ok (.aload_n 1, 1) := by decide +kernel
theorem dX5_addThing_29 : decode cX5_addThing 29 = .ok (.getfield 40, 3) := by decide +kernel
theorem dX5_addThing_32 : decode cX5_addThing 32 = .ok (.iastore, 1) := by decide +kernel
theorem dX5_addThing_33 : decode cX5_addThing 33 = .ok (.aload_n 0, 1) := by decide +kernel
theorem dX5_addThing_34 : decode cX5_addThing 34 = .ok (.getfield 31, 3) := by decide +kernel
theorem dX5_addThing_37 : decode cX5_addThing 37 = .ok (.aload_n 0, 1) := by decide +kernel
theorem dX5_addThing_38 : decode cX5_addThing 38 = .ok (.getfield 9, 3) := by decide +kernel
theorem dX5_addThing_41 : decode cX5_addThing 41 = .ok (.aload_n 1, 1) := by decide +kernel
theorem dX5_addThing_42 : decode cX5_addThing 42 = .ok (.getfield 43, 3) := by decide +kernel
theorem dX5_addThing_45 : decode cX5_addThing 45 = .ok (.iastore, 1) := by decide +kernel
theorem dX5_addThing_46 : decode cX5_addThing 46 = .ok (.aload_n 0, 1) := by decide +kernel
theorem dX5_addThing_47 : decode cX5_addThing 47 = .ok (.getfield 34, 3) := by decide +kernel
theorem dX5_addThing_50 : decode cX5_addThing 50 = .ok (.aload_n 0, 1) := by decide +kernel
theorem dX5_addThing_51 : decode cX5_addThing 51 = .ok (.getfield 9, 3) := by decide +kernel
theorem dX5_addThing_54 : decode cX5_addThing 54 = .ok (.aload_n 1, 1) := by decide +kernel
theorem dX5_addThing_55 : decode cX5_addThing 55 = .ok (.getfield 46, 3) := by decide +kernel
theorem dX5_addThing_58 : decode cX5_addThing 58 = .ok (.iastore, 1) := by decide +kernel
theorem dX5_addThing_59 : decode cX5_addThing 59 = .ok (.aload_n 0, 1) := by decide +kernel
theorem dX5_addThing_60 : decode cX5_addThing 60 = .ok (.dup, 1) := by decide +kernel
theorem dX5_addThing_61 : decode cX5_addThing 61 = .ok (.getfield 9, 3) := by decide +kernel
theorem dX5_addThing_64 : decode cX5_addThing 64 = .ok (.iconst 1, 1) := by decide +kernel
theorem dX5_addThing_65 : decode cX5_addThing 65 = .ok (.iadd, 1) := by decide +kernel
theorem dX5_addThing_66 : decode cX5_addThing 66 = .ok (.putfield 9, 3) := by decide +kernel
theorem dX5_addThing_69 : decode cX5_addThing 69 = .ok (.return_, 1) := by decide +kernel
set_option maxRecDepth 20000 in
theorem ggX5_becomeRusty_X0_holdsBy : GoodIn wsX5_becomeRusty wsX0_holdsBy := goodIn_r _ [11, 12, 13, 14, 15, 16, 17, 18, 6, 19, 20, 21, 22, 23, 24, 25, 26, 27, 39, 40, 41, 42, 43, 44, 45, 46, 47, 48, 49, 50, 51, 52, 53] (by decide +kernel) (by decide +kernel)
set_option maxRecDepth 20000 in
theorem gX5_becomeRusty_X0_holdsBy_u49X0 : GoodIn wsX5_becomeRusty (va_wsO RX5 49 RX0 "OneNail$Thing" ⟨"OneNail$Thing", "holdsBy", "(I)I"⟩ yX0_holdsBy wsX0_holdsBy) := goodIn_app (goodIn_of _ (by decide +kernel)) ggX5_becomeRusty_X0_holdsBy
set_option maxRecDepth 20000 in
theorem ggX5_becomeRusty_X1_holdsBy : GoodIn wsX5_becomeRusty wsX1_holdsBy := goodIn_r _ [17, 18, 6, 19, 20, 21, 22, 23, 24, 25, 26, 27, 39, 40, 41, 42, 43, 44, 45, 46, 47, 48, 49, 50, 51, 52, 53] (by decide +kernel) (by decide +kernel)
set_option maxRecDepth 20000 in
theorem gX5_becomeRusty_X1_holdsBy_u49X1 : GoodIn wsX5_becomeRusty (va_wsO RX5 49 RX1 "OneNail$Thing" ⟨"OneNail$Thing", "holdsBy", "(I)I"⟩ yX1_holdsBy wsX1_holdsBy) := goodIn_app (goodIn_of _ (by decide +kernel)) ggX5_becomeRusty_X1_holdsBy
set_option maxRecDepth 20000 in
theorem ggX5_becomeRusty_X6_holdsBy : GoodIn wsX5_becomeRusty wsX6_holdsBy := goodIn_r _ [22, 23, 24, 25, 26, 27, 39, 40, 41, 42, 43, 44, 45, 46, 47, 48, 49, 50, 51, 52, 53] (by decide +kernel) (by decide +kernel)
set_option maxRecDepth 20000 in
theorem gX5_becomeRusty_X6_holdsBy : GoodIn wsX5_becomeRusty (wsV RX5 49 RX6 yX6_holdsBy wsX6_holdsBy) := goodIn_app (goodIn_of _ (by decide +kernel)) ggX5_becomeRusty_X6_holdsBy
theorem dX5_becomeRusty_0 : decode cX5_becomeRusty 0 = .ok (.aload_n 0, 1) := by decide +kernel
theorem dX5_becomeRusty_1 : decode cX5_becomeRusty 1 = .ok (.iload_n 1, 1) := by decide +kernel
theorem dX5_becomeRusty_2 : decode cX5_becomeRusty 2 = .ok (.putfield 18, 3) := by decide +kernel
theorem dX5_becomeRusty_5 : decode cX5_becomeRusty 5 = .ok (.iconst 0, 1) := by decide +kernel
theorem dX5_becomeRusty_6 : decode cX5_becomeRusty 6 = .ok (.istore_n 2, 1) := by decide +kernel
theorem dX5_becomeRusty_7 : decode cX5_becomeRusty 7 = .ok (.iload_n 2, 1) := by decide +kernel
theorem dX5_becomeRusty_8 : decode cX5_becomeRusty 8 = .ok (.aload_n 0, 1) := by decide +kernel
theorem dX5_becomeRusty_9 : decode cX5_becomeRusty 9 = .ok (.getfield 9, 3) := by decide +kernel
theorem dX5_becomeRusty_12 : decode cX5_becomeRusty 12 = .ok (.if_icmp .ge 31, 3) := by decide +kernel
theorem dX5_becomeRusty_15 : decode cX5_becomeRusty 15 = .ok (.aload_n 0, 1) := by decide +kernel
theorem dX5_becomeRusty_16 : decode cX5_becomeRusty 16 = .ok (.getfield 23, 3) := by decide +kernel
theorem dX5_becomeRusty_19 : decode cX5_becomeRusty 19 = .ok (.iload_n 2, 1) := by decide +kernel
theorem dX5_becomeRusty_20 : decode cX5_becomeRusty 20 = .ok (.aaload, 1) := by decide +kernel
theorem dX5_becomeRusty_21 : decode cX5_becomeRusty 21 = .ok (.astore_n 3, 1) := by decide +kernel
theorem dX5_becomeRusty_22 : decode cX5_becomeRusty 22 = .ok (.aload_n 3, 1) := by decide +kernel
theorem dX5_becomeRusty_23 : decode cX5_becomeRusty 23 = .ok (.ifnull 14, 3) := by decide +kernel
theorem dX5_becomeRusty_26 : decode cX5_becomeRusty 26 = .ok (.aload_n 0, 1) := by decide +kernel
theorem dX5_becomeRusty_27 : decode cX5_becomeRusty 27 = .ok (.getfield 37, 3) := by decide +kernel
theorem dX5_becomeRusty_30 : decode cX5_becomeRusty 30 = .ok (.iload_n 2, 1) := by decide +kernel
theorem dX5_becomeRusty_31 : decode cX5_becomeRusty 31 = .ok (.aload_n 3, 1) := by decide +kernel
theorem dX5_becomeRusty_32 : decode cX5_becomeRusty 32 = .ok (.iload_n 1, 1) := by decide +kernel
theorem dX5_becomeRusty_33 : decode cX5_becomeRusty 33 = .ok (.invokevirtual 49, 3) := by decide +kernel
theorem dX5_becomeRusty_36 : decode cX5_becomeRusty 36 = .ok (.iastore, 1) := by decide +kernel
theorem dX5_becomeRusty_37 : decode cX5_becomeRusty 37 = .ok (.iinc 2 1, 3) := by decide +kernel
theorem dX5_becomeRusty_40 : decode cX5_becomeRusty 40 = .ok (.goto (-33), 3) := by decide +kernel
theorem dX5_becomeRusty_43 : decode cX5_becomeRusty 43 = .ok (.return_, 1) := by decide +kernel
theorem dX5_has_0 : decode cX5_has 0 = .ok (.iload_n 1, 1) := by decide +kernel
theorem dX5_has_1 : decode cX5_has 1 = .ok (.ifCond .lt 15, 3) := by decide +kernel
theorem dX5_has_4 : decode cX5_has 4 = .ok (.iload_n 1, 1) := by decide +kernel
theorem dX5_has_5 : decode cX5_has 5 = .ok (.aload_n 0, 1) := by decide +kernel
theorem dX5_has_6 : decode cX5_has 6 = .ok (.getfield 9, 3) := by decide +kernel
theorem dX5_has_9 : decode cX5_has 9 = .ok (.if_icmp .ge 7, 3) := by decide +kernel
theorem dX5_has_12 : decode cX5_has 12 = .ok (.iconst 1, 1) := by decide +kernel
theorem dX5_has_13 : decode cX5_has 13 = .ok (.goto 4, 3) := by decide +kernel
theorem dX5_has_16 : decode cX5_has 16 = .ok (.iconst 0, 1) := by decide +kernel
theorem dX5_has_17 : decode cX5_has 17 = .ok (.ireturn, 1) := by decide +kernel
set_option maxRecDepth 20000 in
theorem ggX5_thingAt_X5_has : GoodIn wsX5_thingAt wsX5_has := goodIn_r _ [6, 7, 8, 9, 10, 11, 12, 13, 14, 15] (by decide +kernel) (by decide +kernel)
set_option maxRecDepth 20000 in
theorem gX5_thingAt_X5_has : GoodIn wsX5_thingAt (wsV RX5 53 RX5 yX5_has wsX5_has) := goodIn_app (goodIn_of _ (by decide +kernel)) ggX5_thingAt_X5_has
theorem dX5_thingAt_0 : decode cX5_thingAt 0 = .ok (.aload_n 0, 1) := by decide +kernel
theorem dX5_thingAt_1 : decode cX5_thingAt 1 = .ok (.iload_n 1, 1) := by decide +kernel
theorem dX5_thingAt_2 : decode cX5_thingAt 2 = .ok (.invokevirtual 53, 3) := by decide +kernel
theorem dX5_thingAt_5 : decode cX5_thingAt 5 = .ok (.ifCond .eq 12, 3) := by decide +kernel
theorem dX5_thingAt_8 : decode cX5_thingAt 8 = .ok (.aload_n 0, 1) := by decide +kernel
theorem dX5_thingAt_9 : decode cX5_thingAt 9 = .ok (.getfield 23, 3) := by decide +kernel
theorem dX5_thingAt_12 : decode cX5_thingAt 12 = .ok (.iload_n 1, 1) := by decide +kernel
theorem dX5_thingAt_13 : decode cX5_thingAt 13 = .ok (.aaload, 1) := by decide +kernel
theorem dX5_thingAt_14 : decode cX5_thingAt 14 = .ok (.goto 4, 3) := by decide +kernel
theorem dX5_thingAt_17 : decode cX5_thingAt 17 = .ok (.aconst_null, 1) := by decide +kernel
theorem dX5_thingAt_18 : decode cX5_thingAt 18 = .ok (.areturn, 1) := by decide +kernel
theorem dX5_all_0 : decode cX5_all 0 = .ok (.iconst 1, 1) := by decide +kernel
theorem dX5_all_1 : decode cX5_all 1 = .ok (.aload_n 0, 1) := by decide +kernel
theorem dX5_all_2 : decode cX5_all 2 = .ok (.getfield 9, 3) := by decide +kernel
theorem dX5_all_5 : decode cX5_all 5 = .ok (.ishl, 1) := by decide +kernel
theorem dX5_all_6 : decode cX5_all 6 = .ok (.iconst 1, 1) := by decide +kernel
theorem dX5_all_7 : decode cX5_all 7 = .ok (.isub, 1) := by decide +kernel
theorem dX5_all_8 : decode cX5_all 8 = .ok (.ireturn, 1) := by decide +kernel
theorem dX6_init_0 : decode cX6_init 0 = .ok (.aload_n 0, 1) := by decide +kernel
theorem dX6_init_1 : decode cX6_init 1 = .ok (.invokespecial 1, 3) := by decide +kernel
theorem dX6_init_4 : decode cX6_init 4 = .ok (.aload_n 0, 1) := by decide +kernel
theorem dX6_init_5 : decode cX6_init 5 = .ok (.iload_n 1, 1) := by decide +kernel
theorem dX6_init_6 : decode cX6_init 6 = .ok (.putfield 7, 3) := by decide +kernel
theorem dX6_init_9 : decode cX6_init 9 = .ok (.aload_n 0, 1) := by decide +kernel
theorem dX6_init_10 : decode cX6_init 10 = .ok (.iload_n 2, 1) := by decide +kernel
theorem dX6_init_11 : decode cX6_init 11 = .ok (.putfield 13, 3) := by decide +kernel
theorem dX6_init_14 : decode cX6_init 14 = .ok (.aload_n 0, 1) := by decide +kernel
theorem dX6_init_15 : decode cX6_init 15 = .ok (.iload_n 3, 1) := by decide +kernel
theorem dX6_init_16 : decode cX6_init 16 = .ok (.putfield 16, 3) := by decide +kernel
theorem dX6_init_19 : decode cX6_init 19 = .ok (.aload_n 0, 1) := by decide +kernel
theorem dX6_init_20 : decode cX6_init 20 = .ok (.iload 4, 2) := by decide +kernel
theorem dX6_init_22 : decode cX6_init 22 = .ok (.putfield 19, 3) := by decide +kernel
theorem dX6_init_25 : decode cX6_init 25 = .ok (.aload_n 0, 1) := by decide +kernel
theorem dX6_init_26 : decode cX6_init 26 = .ok (.iload 5, 2) := by decide +kernel
theorem dX6_init_28 : decode cX6_init 28 = .ok (.putfield 22, 3) := by decide +kernel
theorem dX6_init_31 : decode cX6_init 31 = .ok (.return_, 1) := by decide +kernel
theorem dX6_kindNumber_0 : decode cX6_kindNumber 0 = .ok (.iconst 0, 1) := by decide +kernel
theorem dX6_kindNumber_1 : decode cX6_kindNumber 1 = .ok (.ireturn, 1) := by decide +kernel
theorem dX6_holdsBy_0 : decode cX6_holdsBy 0 = .ok (.iconst 1, 1) := by decide +kernel
theorem dX6_holdsBy_1 : decode cX6_holdsBy 1 = .ok (.aload_n 0, 1) := by decide +kernel
theorem dX6_holdsBy_2 : decode cX6_holdsBy 2 = .ok (.getfield 19, 3) := by decide +kernel
theorem dX6_holdsBy_5 : decode cX6_holdsBy 5 = .ok (.iload_n 1, 1) := by decide +kernel
theorem dX6_holdsBy_6 : decode cX6_holdsBy 6 = .ok (.isub, 1) := by decide +kernel
theorem dX6_holdsBy_7 : decode cX6_holdsBy 7 = .ok (.invokestatic 25, 3) := by decide +kernel
theorem dX6_holdsBy_10 : decode cX6_holdsBy 10 = .ok (.ireturn, 1) := by decide +kernel
set_option maxRecDepth 20000 in
theorem ggX6_telling_X6_plainTelling : GoodIn wsX6_telling wsX6_plainTelling := goodIn_r _ [6, 7, 8, 9, 10, 11, 12, 13, 17, 18, 19, 20, 21, 22, 23, 24, 25, 26, 27, 28, 29, 30, 31, 32] (by decide +kernel) (by decide +kernel)
set_option maxRecDepth 20000 in
theorem gX6_telling_X6_plainTelling_u31X0 : GoodIn wsX6_telling (va_wsU RX6 31 RX0 "OneNail$Thing" ⟨"OneNail$Thing", "plainTelling", "(LOneNail$Trace;)I"⟩ yX6_plainTelling wsX6_plainTelling) := goodIn_app (goodIn_of _ (by decide +kernel)) ggX6_telling_X6_plainTelling
set_option maxRecDepth 20000 in
theorem gX6_telling_X6_plainTelling_u31X1 : GoodIn wsX6_telling (va_wsU RX6 31 RX1 "OneNail$Thing" ⟨"OneNail$Thing", "plainTelling", "(LOneNail$Trace;)I"⟩ yX6_plainTelling wsX6_plainTelling) := goodIn_app (goodIn_of _ (by decide +kernel)) ggX6_telling_X6_plainTelling
set_option maxRecDepth 20000 in
theorem gX6_telling_X6_plainTelling : GoodIn wsX6_telling (wsV RX6 31 RX6 yX6_plainTelling wsX6_plainTelling) := goodIn_app (goodIn_of _ (by decide +kernel)) ggX6_telling_X6_plainTelling
theorem dX6_telling_0 : decode cX6_telling 0 = .ok (.aload_n 0, 1) := by decide +kernel
theorem dX6_telling_1 : decode cX6_telling 1 = .ok (.aload_n 1, 1) := by decide +kernel
theorem dX6_telling_2 : decode cX6_telling 2 = .ok (.invokevirtual 31, 3) := by decide +kernel
theorem dX6_telling_5 : decode cX6_telling 5 = .ok (.ireturn, 1) := by decide +kernel
set_option maxRecDepth 20000 in
theorem ggX6_plainTelling_X7_leave : GoodIn wsX6_plainTelling wsX7_leave := goodIn_r _ [6, 7, 23] (by decide +kernel) (by decide +kernel)
set_option maxRecDepth 20000 in
theorem gX6_plainTelling_X7_leave : GoodIn wsX6_plainTelling (wsV RX6 35 RX7 yX7_leave wsX7_leave) := goodIn_app (goodIn_of _ (by decide +kernel)) ggX6_plainTelling_X7_leave
theorem dX6_plainTelling_0 : decode cX6_plainTelling 0 = .ok (.aload_n 1, 1) := by decide +kernel
theorem dX6_plainTelling_1 : decode cX6_plainTelling 1 = .ok (.iconst 1, 1) := by decide +kernel
theorem dX6_plainTelling_2 : decode cX6_plainTelling 2 = .ok (.invokevirtual 35, 3) := by decide +kernel
theorem dX6_plainTelling_5 : decode cX6_plainTelling 5 = .ok (.aload_n 0, 1) := by decide +kernel
theorem dX6_plainTelling_6 : decode cX6_plainTelling 6 = .ok (.getfield 19, 3) := by decide +kernel
theorem dX6_plainTelling_9 : decode cX6_plainTelling 9 = .ok (.ireturn, 1) := by decide +kernel
set_option maxRecDepth 20000 in
theorem ggX6_struck_X7_leave : GoodIn wsX6_struck wsX7_leave := goodIn_r _ [6, 7, 23] (by decide +kernel) (by decide +kernel)
set_option maxRecDepth 20000 in
theorem gX6_struck_X7_leave : GoodIn wsX6_struck (wsV RX6 35 RX7 yX7_leave wsX7_leave) := goodIn_app (goodIn_of _ (by decide +kernel)) ggX6_struck_X7_leave
theorem dX6_struck_0 : decode cX6_struck 0 = .ok (.aload_n 1, 1) := by decide +kernel
theorem dX6_struck_1 : decode cX6_struck 1 = .ok (.iconst 4, 1) := by decide +kernel
theorem dX6_struck_2 : decode cX6_struck 2 = .ok (.invokevirtual 35, 3) := by decide +kernel
theorem dX6_struck_5 : decode cX6_struck 5 = .ok (.aload_n 0, 1) := by decide +kernel
theorem dX6_struck_6 : decode cX6_struck 6 = .ok (.getfield 7, 3) := by decide +kernel
theorem dX6_struck_9 : decode cX6_struck 9 = .ok (.ireturn, 1) := by decide +kernel
theorem dX7_init_0 : decode cX7_init 0 = .ok (.aload_n 0, 1) := by decide +kernel
theorem dX7_init_1 : decode cX7_init 1 = .ok (.invokespecial 1, 3) := by decide +kernel
theorem dX7_init_4 : decode cX7_init 4 = .ok (.aload_n 0, 1) := by decide +kernel
theorem dX7_init_5 : decode cX7_init 5 = .ok (.iconst 0, 1) := by decide +kernel
theorem dX7_init_6 : decode cX7_init 6 = .ok (.putfield 7, 3) := by decide +kernel
theorem dX7_init_9 : decode cX7_init 9 = .ok (.return_, 1) := by decide +kernel
theorem dX7_leave_0 : decode cX7_leave 0 = .ok (.aload_n 0, 1) := by decide +kernel
theorem dX7_leave_1 : decode cX7_leave 1 = .ok (.bipush 31, 2) := by decide +kernel
theorem dX7_leave_3 : decode cX7_leave 3 = .ok (.aload_n 0, 1) := by decide +kernel
theorem dX7_leave_4 : decode cX7_leave 4 = .ok (.getfield 7, 3) := by decide +kernel
theorem dX7_leave_7 : decode cX7_leave 7 = .ok (.imul, 1) := by decide +kernel
theorem dX7_leave_8 : decode cX7_leave 8 = .ok (.iload_n 1, 1) := by decide +kernel
theorem dX7_leave_9 : decode cX7_leave 9 = .ok (.iadd, 1) := by decide +kernel
theorem dX7_leave_10 : decode cX7_leave 10 = .ok (.putfield 7, 3) := by decide +kernel
theorem dX7_leave_13 : decode cX7_leave 13 = .ok (.return_, 1) := by decide +kernel
theorem dX8_init_0 : decode cX8_init 0 = .ok (.aload_n 0, 1) := by decide +kernel
theorem dX8_init_1 : decode cX8_init 1 = .ok (.invokespecial 3, 3) := by decide +kernel
theorem dX8_init_4 : decode cX8_init 4 = .ok (.aload_n 0, 1) := by decide +kernel
theorem dX8_init_5 : decode cX8_init 5 = .ok (.bipush 8, 2) := by decide +kernel
theorem dX8_init_7 : decode cX8_init 7 = .ok (.newarray .int, 2) := by decide +kernel
theorem dX8_init_9 : decode cX8_init 9 = .ok (.putfield 9, 3) := by decide +kernel
theorem dX8_init_12 : decode cX8_init 12 = .ok (.aload_n 0, 1) := by decide +kernel
theorem dX8_init_13 : decode cX8_init 13 = .ok (.iconst 0, 1) := by decide +kernel
theorem dX8_init_14 : decode cX8_init 14 = .ok (.putfield 15, 3) := by decide +kernel
theorem dX8_init_17 : decode cX8_init 17 = .ok (.aload_n 0, 1) := by decide +kernel
theorem dX8_init_18 : decode cX8_init 18 = .ok (.bipush 6, 2) := by decide +kernel
theorem dX8_init_20 : decode cX8_init 20 = .ok (.newarray .int, 2) := by decide +kernel
theorem dX8_init_22 : decode cX8_init 22 = .ok (.putfield 19, 3) := by decide +kernel
theorem dX8_init_25 : decode cX8_init 25 = .ok (.aload_n 0, 1) := by decide +kernel
theorem dX8_init_26 : decode cX8_init 26 = .ok (.sipush 300, 3) := by decide +kernel
theorem dX8_init_29 : decode cX8_init 29 = .ok (.newarray .int, 2) := by decide +kernel
theorem dX8_init_31 : decode cX8_init 31 = .ok (.putfield 22, 3) := by decide +kernel
theorem dX8_init_34 : decode cX8_init 34 = .ok (.aload_n 0, 1) := by decide +kernel
theorem dX8_init_35 : decode cX8_init 35 = .ok (.iconst 0, 1) := by decide +kernel
theorem dX8_init_36 : decode cX8_init 36 = .ok (.putfield 25, 3) := by decide +kernel
theorem dX8_init_39 : decode cX8_init 39 = .ok (.aload_n 0, 1) := by decide +kernel
theorem dX8_init_40 : decode cX8_init 40 = .ok (.iconst 0, 1) := by decide +kernel
theorem dX8_init_41 : decode cX8_init 41 = .ok (.putfield 28, 3) := by decide +kernel
theorem dX8_init_44 : decode cX8_init 44 = .ok (.aload_n 0, 1) := by decide +kernel
theorem dX8_init_45 : decode cX8_init 45 = .ok (.iconst 0, 1) := by decide +kernel
theorem dX8_init_46 : decode cX8_init 46 = .ok (.putfield 31, 3) := by decide +kernel
theorem dX8_init_49 : decode cX8_init 49 = .ok (.aload_n 0, 1) := by decide +kernel
theorem dX8_init_50 : decode cX8_init 50 = .ok (.iconst 0, 1) := by decide +kernel
theorem dX8_init_51 : decode cX8_init 51 = .ok (.putfield 34, 3) := by decide +kernel
theorem dX8_init_54 : decode cX8_init 54 = .ok (.aload_n 0, 1) := by decide +kernel
theorem dX8_init_55 : decode cX8_init 55 = .ok (.iconst 0, 1) := by decide +kernel
theorem dX8_init_56 : decode cX8_init 56 = .ok (.putfield 37, 3) := by decide +kernel
theorem dX8_init_59 : decode cX8_init 59 = .ok (.aload_n 0, 1) := by decide +kernel
theorem dX8_init_60 : decode cX8_init 60 = .ok (.aload_n 1, 1) := by decide +kernel
theorem dX8_init_61 : decode cX8_init 61 = .ok (.putfield 40, 3) := by decide +kernel
theorem dX8_init_64 : decode cX8_init 64 = .ok (.return_, 1) := by decide +kernel
set_option maxRecDepth 20000 in
theorem ggX8_layRound_X4_read : GoodIn wsX8_layRound wsX4_read := goodIn_r _ [11, 12, 13, 14, 15, 10, 16, 17, 28, 29, 30] (by decide +kernel) (by decide +kernel)
set_option maxRecDepth 20000 in
theorem gX8_layRound_X4_read : GoodIn wsX8_layRound (wsV RX8 50 RX4 yX4_read wsX4_read) := goodIn_app (goodIn_of _ (by decide +kernel)) ggX8_layRound_X4_read
theorem dX8_layRound_0 : decode cX8_layRound 0 = .ok (.aload_n 0, 1) := by decide +kernel
theorem dX8_layRound_1 : decode cX8_layRound 1 = .ok (.iload_n 3, 1) := by decide +kernel
theorem dX8_layRound_2 : decode cX8_layRound 2 = .ok (.bipush 8, 2) := by decide +kernel
theorem dX8_layRound_4 : decode cX8_layRound 4 = .ok (.invokestatic 44, 3) := by decide +kernel
theorem dX8_layRound_7 : decode cX8_layRound 7 = .ok (.putfield 15, 3) := by decide +kernel
theorem dX8_layRound_10 : decode cX8_layRound 10 = .ok (.iconst 0, 1) := by decide +kernel
theorem dX8_layRound_11 : decode cX8_layRound 11 = .ok (.istore 4, 2) := by decide +kernel
theorem dX8_layRound_13 : decode cX8_layRound 13 = .ok (.iload 4, 2) := by decide +kernel
theorem dX8_layRound_15 : decode cX8_layRound 15 = .ok (.aload_n 0, 1) := by decide +kernel
theorem dX8_layRound_16 : decode cX8_layRound 16 = .ok (.getfield 15, 3) := by decide +kernel
theorem dX8_layRound_19 : decode cX8_layRound 19 = .ok (.if_icmp .ge 24, 3) := by decide +kernel
theorem dX8_layRound_22 : decode cX8_layRound 22 = .ok (.aload_n 0, 1) := by decide +kernel
theorem dX8_layRound_23 : decode cX8_layRound 23 = .ok (.getfield 9, 3) := by decide +kernel
theorem dX8_layRound_26 : decode cX8_layRound 26 = .ok (.iload 4, 2) := by decide +kernel
theorem dX8_layRound_28 : decode cX8_layRound 28 = .ok (.aload_n 1, 1) := by decide +kernel
theorem dX8_layRound_29 : decode cX8_layRound 29 = .ok (.iload_n 2, 1) := by decide +kernel
theorem dX8_layRound_30 : decode cX8_layRound 30 = .ok (.iload 4, 2) := by decide +kernel
theorem dX8_layRound_32 : decode cX8_layRound 32 = .ok (.iadd, 1) := by decide +kernel
theorem dX8_layRound_33 : decode cX8_layRound 33 = .ok (.invokevirtual 50, 3) := by decide +kernel
theorem dX8_layRound_36 : decode cX8_layRound 36 = .ok (.iastore, 1) := by decide +kernel
theorem dX8_layRound_37 : decode cX8_layRound 37 = .ok (.iinc 4 1, 3) := by decide +kernel
theorem dX8_layRound_40 : decode cX8_layRound 40 = .ok (.goto (-27), 3) := by decide +kernel
theorem dX8_layRound_43 : decode cX8_layRound 43 = .ok (.return_, 1) := by decide +kernel
theorem dX8_begin_0 : decode cX8_begin 0 = .ok (.aload_n 0, 1) := by decide +kernel
theorem dX8_begin_1 : decode cX8_begin 1 = .ok (.iconst 0, 1) := by decide +kernel
theorem dX8_begin_2 : decode cX8_begin 2 = .ok (.putfield 25, 3) := by decide +kernel
theorem dX8_begin_5 : decode cX8_begin 5 = .ok (.aload_n 0, 1) := by decide +kernel
theorem dX8_begin_6 : decode cX8_begin 6 = .ok (.aload_n 0, 1) := by decide +kernel
theorem dX8_begin_7 : decode cX8_begin 7 = .ok (.getfield 40, 3) := by decide +kernel
theorem dX8_begin_10 : decode cX8_begin 10 = .ok (.getfield 56, 3) := by decide +kernel
theorem dX8_begin_13 : decode cX8_begin 13 = .ok (.putfield 28, 3) := by decide +kernel
theorem dX8_begin_16 : decode cX8_begin 16 = .ok (.aload_n 0, 1) := by decide +kernel
theorem dX8_begin_17 : decode cX8_begin 17 = .ok (.iconst 0, 1) := by decide +kernel
theorem dX8_begin_18 : decode cX8_begin 18 = .ok (.putfield 31, 3) := by decide +kernel
theorem dX8_begin_21 : decode cX8_begin 21 = .ok (.iconst 0, 1) := by decide +kernel
theorem dX8_begin_22 : decode cX8_begin 22 = .ok (.istore_n 1, 1) := by decide +kernel
theorem dX8_begin_23 : decode cX8_begin 23 = .ok (.iload_n 1, 1) := by decide +kernel
theorem dX8_begin_24 : decode cX8_begin 24 = .ok (.aload_n 0, 1) := by decide +kernel
theorem dX8_begin_25 : decode cX8_begin 25 = .ok (.getfield 40, 3) := by decide +kernel
theorem dX8_begin_28 : decode cX8_begin 28 = .ok (.getfield 61, 3) := by decide +kernel
theorem dX8_begin_31 : decode cX8_begin 31 = .ok (.if_icmp .ge 24, 3) := by decide +kernel
theorem dX8_begin_34 : decode cX8_begin 34 = .ok (.aload_n 0, 1) := by decide +kernel
theorem dX8_begin_35 : decode cX8_begin 35 = .ok (.getfield 19, 3) := by decide +kernel
theorem dX8_begin_38 : decode cX8_begin 38 = .ok (.iload_n 1, 1) := by decide +kernel
theorem dX8_begin_39 : decode cX8_begin 39 = .ok (.aload_n 0, 1) := by decide +kernel
theorem dX8_begin_40 : decode cX8_begin 40 = .ok (.getfield 40, 3) := by decide +kernel
theorem dX8_begin_43 : decode cX8_begin 43 = .ok (.getfield 64, 3) := by decide +kernel
theorem dX8_begin_46 : decode cX8_begin 46 = .ok (.iload_n 1, 1) := by decide +kernel
theorem dX8_begin_47 : decode cX8_begin 47 = .ok (.iaload, 1) := by decide +kernel
theorem dX8_begin_48 : decode cX8_begin 48 = .ok (.iastore, 1) := by decide +kernel
theorem dX8_begin_49 : decode cX8_begin 49 = .ok (.iinc 1 1, 3) := by decide +kernel
theorem dX8_begin_52 : decode cX8_begin 52 = .ok (.goto (-29), 3) := by decide +kernel
theorem dX8_begin_55 : decode cX8_begin 55 = .ok (.return_, 1) := by decide +kernel
theorem dX8_goOn_0 : decode cX8_goOn 0 = .ok (.aload_n 0, 1) := by decide +kernel
theorem dX8_goOn_1 : decode cX8_goOn 1 = .ok (.aload_n 0, 1) := by decide +kernel
theorem dX8_goOn_2 : decode cX8_goOn 2 = .ok (.getfield 9, 3) := by decide +kernel
theorem dX8_goOn_5 : decode cX8_goOn 5 = .ok (.aload_n 0, 1) := by decide +kernel
theorem dX8_goOn_6 : decode cX8_goOn 6 = .ok (.getfield 25, 3) := by decide +kernel
theorem dX8_goOn_9 : decode cX8_goOn 9 = .ok (.iaload, 1) := by decide +kernel
theorem dX8_goOn_10 : decode cX8_goOn 10 = .ok (.putfield 34, 3) := by decide +kernel
theorem dX8_goOn_13 : decode cX8_goOn 13 = .ok (.aload_n 0, 1) := by decide +kernel
theorem dX8_goOn_14 : decode cX8_goOn 14 = .ok (.aload_n 0, 1) := by decide +kernel
theorem dX8_goOn_15 : decode cX8_goOn 15 = .ok (.getfield 31, 3) := by decide +kernel
theorem dX8_goOn_18 : decode cX8_goOn 18 = .ok (.aload_n 0, 1) := by decide +kernel
theorem dX8_goOn_19 : decode cX8_goOn 19 = .ok (.getfield 40, 3) := by decide +kernel
theorem dX8_goOn_22 : decode cX8_goOn 22 = .ok (.getfield 67, 3) := by decide +kernel
theorem dX8_goOn_25 : decode cX8_goOn 25 = .ok (.aload_n 0, 1) := by decide +kernel
theorem dX8_goOn_26 : decode cX8_goOn 26 = .ok (.getfield 34, 3) := by decide +kernel
theorem dX8_goOn_29 : decode cX8_goOn 29 = .ok (.iaload, 1) := by decide +kernel
theorem dX8_goOn_30 : decode cX8_goOn 30 = .ok (.aload_n 0, 1) := by decide +kernel
theorem dX8_goOn_31 : decode cX8_goOn 31 = .ok (.getfield 28, 3) := by decide +kernel
theorem dX8_goOn_34 : decode cX8_goOn 34 = .ok (.isub, 1) := by decide +kernel
theorem dX8_goOn_35 : decode cX8_goOn 35 = .ok (.invokestatic 70, 3) := by decide +kernel
theorem dX8_goOn_38 : decode cX8_goOn 38 = .ok (.iadd, 1) := by decide +kernel
theorem dX8_goOn_39 : decode cX8_goOn 39 = .ok (.putfield 37, 3) := by decide +kernel
theorem dX8_goOn_42 : decode cX8_goOn 42 = .ok (.aload_n 0, 1) := by decide +kernel
theorem dX8_goOn_43 : decode cX8_goOn 43 = .ok (.aload_n 0, 1) := by decide +kernel
theorem dX8_goOn_44 : decode cX8_goOn 44 = .ok (.getfield 40, 3) := by decide +kernel
theorem dX8_goOn_47 : decode cX8_goOn 47 = .ok (.getfield 67, 3) := by decide +kernel
theorem dX8_goOn_50 : decode cX8_goOn 50 = .ok (.aload_n 0, 1) := by decide +kernel
theorem dX8_goOn_51 : decode cX8_goOn 51 = .ok (.getfield 34, 3) := by decide +kernel
theorem dX8_goOn_54 : decode cX8_goOn 54 = .ok (.iaload, 1) := by decide +kernel
theorem dX8_goOn_55 : decode cX8_goOn 55 = .ok (.putfield 28, 3) := by decide +kernel
theorem dX8_goOn_58 : decode cX8_goOn 58 = .ok (.aload_n 0, 1) := by decide +kernel
theorem dX8_goOn_59 : decode cX8_goOn 59 = .ok (.aload_n 0, 1) := by decide +kernel
theorem dX8_goOn_60 : decode cX8_goOn 60 = .ok (.getfield 37, 3) := by decide +kernel
theorem dX8_goOn_63 : decode cX8_goOn 63 = .ok (.aload_n 0, 1) := by decide +kernel
theorem dX8_goOn_64 : decode cX8_goOn 64 = .ok (.getfield 40, 3) := by decide +kernel
theorem dX8_goOn_67 : decode cX8_goOn 67 = .ok (.getfield 73, 3) := by decide +kernel
theorem dX8_goOn_70 : decode cX8_goOn 70 = .ok (.aload_n 0, 1) := by decide +kernel
theorem dX8_goOn_71 : decode cX8_goOn 71 = .ok (.getfield 34, 3) := by decide +kernel
theorem dX8_goOn_74 : decode cX8_goOn 74 = .ok (.iaload, 1) := by decide +kernel
theorem dX8_goOn_75 : decode cX8_goOn 75 = .ok (.iadd, 1) := by decide +kernel
theorem dX8_goOn_76 : decode cX8_goOn 76 = .ok (.putfield 31, 3) := by decide +kernel
theorem dX8_goOn_79 : decode cX8_goOn 79 = .ok (.aload_n 0, 1) := by decide +kernel
theorem dX8_goOn_80 : decode cX8_goOn 80 = .ok (.aload_n 0, 1) := by decide +kernel
theorem dX8_goOn_81 : decode cX8_goOn 81 = .ok (.getfield 25, 3) := by decide +kernel
theorem dX8_goOn_84 : decode cX8_goOn 84 = .ok (.iconst 1, 1) := by decide +kernel
theorem dX8_goOn_85 : decode cX8_goOn 85 = .ok (.iadd, 1) := by decide +kernel
theorem dX8_goOn_86 : decode cX8_goOn 86 = .ok (.aload_n 0, 1) := by decide +kernel
theorem dX8_goOn_87 : decode cX8_goOn 87 = .ok (.getfield 15, 3) := by decide +kernel
theorem dX8_goOn_90 : decode cX8_goOn 90 = .ok (.if_icmp .ge 12, 3) := by decide +kernel
theorem dX8_goOn_93 : decode cX8_goOn 93 = .ok (.aload_n 0, 1) := by decide +kernel
theorem dX8_goOn_94 : decode cX8_goOn 94 = .ok (.getfield 25, 3) := by decide +kernel
theorem dX8_goOn_97 : decode cX8_goOn 97 = .ok (.iconst 1, 1) := by decide +kernel
theorem dX8_goOn_98 : decode cX8_goOn 98 = .ok (.iadd, 1) := by decide +kernel
theorem dX8_goOn_99 : decode cX8_goOn 99 = .ok (.goto 4, 3) := by decide +kernel
theorem dX8_goOn_102 : decode cX8_goOn 102 = .ok (.iconst 0, 1) := by decide +kernel
theorem dX8_goOn_103 : decode cX8_goOn 103 = .ok (.putfield 25, 3) := by decide +kernel
theorem dX8_goOn_106 : decode cX8_goOn 106 = .ok (.return_, 1) := by decide +kernel
theorem dX8_nailed_0 : decode cX8_nailed 0 = .ok (.aload_n 0, 1) := by decide +kernel
theorem dX8_nailed_1 : decode cX8_nailed 1 = .ok (.getfield 19, 3) := by decide +kernel
theorem dX8_nailed_4 : decode cX8_nailed 4 = .ok (.aload_n 0, 1) := by decide +kernel
theorem dX8_nailed_5 : decode cX8_nailed 5 = .ok (.getfield 34, 3) := by decide +kernel
theorem dX8_nailed_8 : decode cX8_nailed 8 = .ok (.aload_n 0, 1) := by decide +kernel
theorem dX8_nailed_9 : decode cX8_nailed 9 = .ok (.getfield 31, 3) := by decide +kernel
theorem dX8_nailed_12 : decode cX8_nailed 12 = .ok (.aload_n 0, 1) := by decide +kernel
theorem dX8_nailed_13 : decode cX8_nailed 13 = .ok (.getfield 40, 3) := by decide +kernel
theorem dX8_nailed_16 : decode cX8_nailed 16 = .ok (.getfield 64, 3) := by decide +kernel
theorem dX8_nailed_19 : decode cX8_nailed 19 = .ok (.aload_n 0, 1) := by decide +kernel
theorem dX8_nailed_20 : decode cX8_nailed 20 = .ok (.getfield 34, 3) := by decide +kernel
theorem dX8_nailed_23 : decode cX8_nailed 23 = .ok (.iaload, 1) := by decide +kernel
theorem dX8_nailed_24 : decode cX8_nailed 24 = .ok (.iadd, 1) := by decide +kernel
theorem dX8_nailed_25 : decode cX8_nailed 25 = .ok (.iastore, 1) := by decide +kernel
theorem dX8_nailed_26 : decode cX8_nailed 26 = .ok (.return_, 1) := by decide +kernel
theorem dX8_markFall_0 : decode cX8_markFall 0 = .ok (.aload_n 0, 1) := by decide +kernel
theorem dX8_markFall_1 : decode cX8_markFall 1 = .ok (.getfield 19, 3) := by decide +kernel
theorem dX8_markFall_4 : decode cX8_markFall 4 = .ok (.iload_n 1, 1) := by decide +kernel
theorem dX8_markFall_5 : decode cX8_markFall 5 = .ok (.iaload, 1) := by decide +kernel
theorem dX8_markFall_6 : decode cX8_markFall 6 = .ok (.istore_n 2, 1) := by decide +kernel
theorem dX8_markFall_7 : decode cX8_markFall 7 = .ok (.iload_n 2, 1) := by decide +kernel
theorem dX8_markFall_8 : decode cX8_markFall 8 = .ok (.ifCond .lt 22, 3) := by decide +kernel
theorem dX8_markFall_11 : decode cX8_markFall 11 = .ok (.iload_n 2, 1) := by decide +kernel
theorem dX8_markFall_12 : decode cX8_markFall 12 = .ok (.sipush 300, 3) := by decide +kernel
theorem dX8_markFall_15 : decode cX8_markFall 15 = .ok (.if_icmp .ge 15, 3) := by decide +kernel
theorem dX8_markFall_18 : decode cX8_markFall 18 = .ok (.aload_n 0, 1) := by decide +kernel
theorem dX8_markFall_19 : decode cX8_markFall 19 = .ok (.getfield 22, 3) := by decide +kernel
theorem dX8_markFall_22 : decode cX8_markFall 22 = .ok (.iload_n 2, 1) := by decide +kernel
theorem dX8_markFall_23 : decode cX8_markFall 23 = .ok (.dup2, 1) := by decide +kernel
theorem dX8_markFall_24 : decode cX8_markFall 24 = .ok (.iaload, 1) := by decide +kernel
theorem dX8_markFall_25 : decode cX8_markFall 25 = .ok (.iconst 1, 1) := by decide +kernel
theorem dX8_markFall_26 : decode cX8_markFall 26 = .ok (.iload_n 1, 1) := by decide +kernel
theorem dX8_markFall_27 : decode cX8_markFall 27 = .ok (.ishl, 1) := by decide +kernel
theorem dX8_markFall_28 : decode cX8_markFall 28 = .ok (.ior, 1) := by decide +kernel
theorem dX8_markFall_29 : decode cX8_markFall 29 = .ok (.iastore, 1) := by decide +kernel
theorem dX8_markFall_30 : decode cX8_markFall 30 = .ok (.return_, 1) := by decide +kernel
set_option maxRecDepth 20000 in
theorem ggX8_markFalls_X8_begin : GoodIn wsX8_markFalls wsX8_begin := goodIn_r _ [11, 12, 5, 13, 14, 15, 6, 3, 16, 37, 38, 39, 40, 41, 42, 43, 44, 45, 46, 47, 48, 49, 50, 51, 52, 53, 54] (by decide +kernel) (by decide +kernel)
set_option maxRecDepth 20000 in
theorem gX8_markFalls_X8_begin : GoodIn wsX8_markFalls (wsV RX8 76 RX8 yX8_begin wsX8_begin) := goodIn_app (goodIn_of _ (by decide +kernel)) ggX8_markFalls_X8_begin
set_option maxRecDepth 20000 in
theorem ggX8_markFalls_X8_goOn : GoodIn wsX8_markFalls wsX8_goOn := goodIn_r _ [20, 21, 12, 4, 15, 5, 22, 14, 23, 24, 25, 26, 2, 27, 28, 37, 38, 39, 40, 41, 42, 43, 44, 45, 46, 47, 48, 49, 50, 51, 52, 53, 54] (by decide +kernel) (by decide +kernel)
set_option maxRecDepth 20000 in
theorem gX8_markFalls_X8_goOn : GoodIn wsX8_markFalls (wsV RX8 79 RX8 yX8_goOn wsX8_goOn) := goodIn_app (goodIn_of _ (by decide +kernel)) ggX8_markFalls_X8_goOn
set_option maxRecDepth 20000 in
theorem ggX8_markFalls_X8_markFall : GoodIn wsX8_markFalls wsX8_markFall := goodIn_r _ [32, 3, 1, 37, 38, 39, 40, 41, 42, 43, 44, 45, 46] (by decide +kernel) (by decide +kernel)
set_option maxRecDepth 20000 in
theorem gX8_markFalls_X8_markFall : GoodIn wsX8_markFalls (wsV RX8 82 RX8 yX8_markFall wsX8_markFall) := goodIn_app (goodIn_of _ (by decide +kernel)) ggX8_markFalls_X8_markFall
set_option maxRecDepth 20000 in
theorem ggX8_markFalls_X8_nailed : GoodIn wsX8_markFalls wsX8_nailed := goodIn_r _ [36, 3, 4, 15, 5, 16, 37, 38, 39, 40, 41, 42, 43, 44, 45, 46, 47, 48, 49, 50, 51, 52, 53, 54] (by decide +kernel) (by decide +kernel)
set_option maxRecDepth 20000 in
theorem gX8_markFalls_X8_nailed : GoodIn wsX8_markFalls (wsV RX8 86 RX8 yX8_nailed wsX8_nailed) := goodIn_app (goodIn_of _ (by decide +kernel)) ggX8_markFalls_X8_nailed
theorem dX8_markFalls_0 : decode cX8_markFalls 0 = .ok (.iconst 0, 1) := by decide +kernel
theorem dX8_markFalls_1 : decode cX8_markFalls 1 = .ok (.istore_n 1, 1) := by decide +kernel
theorem dX8_markFalls_2 : decode cX8_markFalls 2 = .ok (.iload_n 1, 1) := by decide +kernel
theorem dX8_markFalls_3 : decode cX8_markFalls 3 = .ok (.sipush 300, 3) := by decide +kernel
theorem dX8_markFalls_6 : decode cX8_markFalls 6 = .ok (.if_icmp .ge 16, 3) := by decide +kernel
theorem dX8_markFalls_9 : decode cX8_markFalls 9 = .ok (.aload_n 0, 1) := by decide +kernel
theorem dX8_markFalls_10 : decode cX8_markFalls 10 = .ok (.getfield 22, 3) := by decide +kernel
theorem dX8_markFalls_13 : decode cX8_markFalls 13 = .ok (.iload_n 1, 1) := by decide +kernel
theorem dX8_markFalls_14 : decode cX8_markFalls 14 = .ok (.iconst 0, 1) := by decide +kernel
theorem dX8_markFalls_15 : decode cX8_markFalls 15 = .ok (.iastore, 1) := by decide +kernel
theorem dX8_markFalls_16 : decode cX8_markFalls 16 = .ok (.iinc 1 1, 3) := by decide +kernel
theorem dX8_markFalls_19 : decode cX8_markFalls 19 = .ok (.goto (-17), 3) := by decide +kernel
theorem dX8_markFalls_22 : decode cX8_markFalls 22 = .ok (.aload_n 0, 1) := by decide +kernel
theorem dX8_markFalls_23 : decode cX8_markFalls 23 = .ok (.invokevirtual 76, 3) := by decide +kernel
theorem dX8_markFalls_26 : decode cX8_markFalls 26 = .ok (.iconst 0, 1) := by decide +kernel
theorem dX8_markFalls_27 : decode cX8_markFalls 27 = .ok (.istore_n 1, 1) := by decide +kernel
theorem dX8_markFalls_28 : decode cX8_markFalls 28 = .ok (.iload_n 1, 1) := by decide +kernel
theorem dX8_markFalls_29 : decode cX8_markFalls 29 = .ok (.sipush 300, 3) := by decide +kernel
theorem dX8_markFalls_32 : decode cX8_markFalls 32 = .ok (.if_icmp .ge 54, 3) := by decide +kernel
theorem dX8_markFalls_35 : decode cX8_markFalls 35 = .ok (.aload_n 0, 1) := by decide +kernel
theorem dX8_markFalls_36 : decode cX8_markFalls 36 = .ok (.invokevirtual 79, 3) := by decide +kernel
theorem dX8_markFalls_39 : decode cX8_markFalls 39 = .ok (.aload_n 0, 1) := by decide +kernel
theorem dX8_markFalls_40 : decode cX8_markFalls 40 = .ok (.getfield 37, 3) := by decide +kernel
theorem dX8_markFalls_43 : decode cX8_markFalls 43 = .ok (.sipush 300, 3) := by decide +kernel
theorem dX8_markFalls_46 : decode cX8_markFalls 46 = .ok (.if_icmp .lt 6, 3) := by decide +kernel
theorem dX8_markFalls_49 : decode cX8_markFalls 49 = .ok (.goto 37, 3) := by decide +kernel
theorem dX8_markFalls_52 : decode cX8_markFalls 52 = .ok (.aload_n 0, 1) := by decide +kernel
theorem dX8_markFalls_53 : decode cX8_markFalls 53 = .ok (.getfield 19, 3) := by decide +kernel
theorem dX8_markFalls_56 : decode cX8_markFalls 56 = .ok (.aload_n 0, 1) := by decide +kernel
theorem dX8_markFalls_57 : decode cX8_markFalls 57 = .ok (.getfield 34, 3) := by decide +kernel
theorem dX8_markFalls_60 : decode cX8_markFalls 60 = .ok (.iaload, 1) := by decide +kernel
theorem dX8_markFalls_61 : decode cX8_markFalls 61 = .ok (.aload_n 0, 1) := by decide +kernel
theorem dX8_markFalls_62 : decode cX8_markFalls 62 = .ok (.getfield 37, 3) := by decide +kernel
theorem dX8_markFalls_65 : decode cX8_markFalls 65 = .ok (.if_icmp .ge 11, 3) := by decide +kernel
theorem dX8_markFalls_68 : decode cX8_markFalls 68 = .ok (.aload_n 0, 1) := by decide +kernel
theorem dX8_markFalls_69 : decode cX8_markFalls 69 = .ok (.aload_n 0, 1) := by decide +kernel
theorem dX8_markFalls_70 : decode cX8_markFalls 70 = .ok (.getfield 34, 3) := by decide +kernel
theorem dX8_markFalls_73 : decode cX8_markFalls 73 = .ok (.invokevirtual 82, 3) := by decide +kernel
theorem dX8_markFalls_76 : decode cX8_markFalls 76 = .ok (.aload_n 0, 1) := by decide +kernel
theorem dX8_markFalls_77 : decode cX8_markFalls 77 = .ok (.invokevirtual 86, 3) := by decide +kernel
theorem dX8_markFalls_80 : decode cX8_markFalls 80 = .ok (.iinc 1 1, 3) := by decide +kernel
theorem dX8_markFalls_83 : decode cX8_markFalls 83 = .ok (.goto (-55), 3) := by decide +kernel
theorem dX8_markFalls_86 : decode cX8_markFalls 86 = .ok (.iconst 0, 1) := by decide +kernel
theorem dX8_markFalls_87 : decode cX8_markFalls 87 = .ok (.istore_n 1, 1) := by decide +kernel
theorem dX8_markFalls_88 : decode cX8_markFalls 88 = .ok (.iload_n 1, 1) := by decide +kernel
theorem dX8_markFalls_89 : decode cX8_markFalls 89 = .ok (.aload_n 0, 1) := by decide +kernel
theorem dX8_markFalls_90 : decode cX8_markFalls 90 = .ok (.getfield 40, 3) := by decide +kernel
theorem dX8_markFalls_93 : decode cX8_markFalls 93 = .ok (.getfield 61, 3) := by decide +kernel
theorem dX8_markFalls_96 : decode cX8_markFalls 96 = .ok (.if_icmp .ge 14, 3) := by decide +kernel
theorem dX8_markFalls_99 : decode cX8_markFalls 99 = .ok (.aload_n 0, 1) := by decide +kernel
theorem dX8_markFalls_100 : decode cX8_markFalls 100 = .ok (.iload_n 1, 1) := by decide +kernel
theorem dX8_markFalls_101 : decode cX8_markFalls 101 = .ok (.invokevirtual 82, 3) := by decide +kernel
theorem dX8_markFalls_104 : decode cX8_markFalls 104 = .ok (.iinc 1 1, 3) := by decide +kernel
theorem dX8_markFalls_107 : decode cX8_markFalls 107 = .ok (.goto (-19), 3) := by decide +kernel
theorem dX8_markFalls_110 : decode cX8_markFalls 110 = .ok (.return_, 1) := by decide +kernel
theorem dX8_harmBelow_0 : decode cX8_harmBelow 0 = .ok (.iconst 0, 1) := by decide +kernel
theorem dX8_harmBelow_1 : decode cX8_harmBelow 1 = .ok (.istore_n 2, 1) := by decide +kernel
theorem dX8_harmBelow_2 : decode cX8_harmBelow 2 = .ok (.iconst 0, 1) := by decide +kernel
theorem dX8_harmBelow_3 : decode cX8_harmBelow 3 = .ok (.istore_n 3, 1) := by decide +kernel
theorem dX8_harmBelow_4 : decode cX8_harmBelow 4 = .ok (.iload_n 3, 1) := by decide +kernel
theorem dX8_harmBelow_5 : decode cX8_harmBelow 5 = .ok (.iload_n 1, 1) := by decide +kernel
theorem dX8_harmBelow_6 : decode cX8_harmBelow 6 = .ok (.if_icmp .ge 71, 3) := by decide +kernel
theorem dX8_harmBelow_9 : decode cX8_harmBelow 9 = .ok (.iload_n 3, 1) := by decide +kernel
theorem dX8_harmBelow_10 : decode cX8_harmBelow 10 = .ok (.sipush 300, 3) := by decide +kernel
theorem dX8_harmBelow_13 : decode cX8_harmBelow 13 = .ok (.if_icmp .ge 64, 3) := by decide +kernel
theorem dX8_harmBelow_16 : decode cX8_harmBelow 16 = .ok (.iconst 0, 1) := by decide +kernel
theorem dX8_harmBelow_17 : decode cX8_harmBelow 17 = .ok (.istore 4, 2) := by decide +kernel
theorem dX8_harmBelow_19 : decode cX8_harmBelow 19 = .ok (.aload_n 0, 1) := by decide +kernel
theorem dX8_harmBelow_20 : decode cX8_harmBelow 20 = .ok (.getfield 22, 3) := by decide +kernel
theorem dX8_harmBelow_23 : decode cX8_harmBelow 23 = .ok (.iload_n 3, 1) := by decide +kernel
theorem dX8_harmBelow_24 : decode cX8_harmBelow 24 = .ok (.iaload, 1) := by decide +kernel
theorem dX8_harmBelow_25 : decode cX8_harmBelow 25 = .ok (.ifCond .eq 46, 3) := by decide +kernel
theorem dX8_harmBelow_28 : decode cX8_harmBelow 28 = .ok (.iload 4, 2) := by decide +kernel
theorem dX8_harmBelow_30 : decode cX8_harmBelow 30 = .ok (.aload_n 0, 1) := by decide +kernel
theorem dX8_harmBelow_31 : decode cX8_harmBelow 31 = .ok (.getfield 40, 3) := by decide +kernel
theorem dX8_harmBelow_34 : decode cX8_harmBelow 34 = .ok (.getfield 61, 3) := by decide +kernel
theorem dX8_harmBelow_37 : decode cX8_harmBelow 37 = .ok (.if_icmp .ge 34, 3) := by decide +kernel
theorem dX8_harmBelow_40 : decode cX8_harmBelow 40 = .ok (.iload_n 2, 1) := by decide +kernel
theorem dX8_harmBelow_41 : decode cX8_harmBelow 41 = .ok (.aload_n 0, 1) := by decide +kernel
theorem dX8_harmBelow_42 : decode cX8_harmBelow 42 = .ok (.getfield 22, 3) := by decide +kernel
theorem dX8_harmBelow_45 : decode cX8_harmBelow 45 = .ok (.iload_n 3, 1) := by decide +kernel
theorem dX8_harmBelow_46 : decode cX8_harmBelow 46 = .ok (.iaload, 1) := by decide +kernel
theorem dX8_harmBelow_47 : decode cX8_harmBelow 47 = .ok (.iload 4, 2) := by decide +kernel
theorem dX8_harmBelow_49 : decode cX8_harmBelow 49 = .ok (.ishr, 1) := by decide +kernel
theorem dX8_harmBelow_50 : decode cX8_harmBelow 50 = .ok (.iconst 1, 1) := by decide +kernel
theorem dX8_harmBelow_51 : decode cX8_harmBelow 51 = .ok (.iand, 1) := by decide +kernel
theorem dX8_harmBelow_52 : decode cX8_harmBelow 52 = .ok (.aload_n 0, 1) := by decide +kernel
theorem dX8_harmBelow_53 : decode cX8_harmBelow 53 = .ok (.getfield 40, 3) := by decide +kernel
theorem dX8_harmBelow_56 : decode cX8_harmBelow 56 = .ok (.getfield 89, 3) := by decide +kernel
theorem dX8_harmBelow_59 : decode cX8_harmBelow 59 = .ok (.iload 4, 2) := by decide +kernel
theorem dX8_harmBelow_61 : decode cX8_harmBelow 61 = .ok (.iaload, 1) := by decide +kernel
theorem dX8_harmBelow_62 : decode cX8_harmBelow 62 = .ok (.imul, 1) := by decide +kernel
theorem dX8_harmBelow_63 : decode cX8_harmBelow 63 = .ok (.iadd, 1) := by decide +kernel
theorem dX8_harmBelow_64 : decode cX8_harmBelow 64 = .ok (.istore_n 2, 1) := by decide +kernel
theorem dX8_harmBelow_65 : decode cX8_harmBelow 65 = .ok (.iinc 4 1, 3) := by decide +kernel
theorem dX8_harmBelow_68 : decode cX8_harmBelow 68 = .ok (.goto (-49), 3) := by decide +kernel
theorem dX8_harmBelow_71 : decode cX8_harmBelow 71 = .ok (.iinc 3 1, 3) := by decide +kernel
theorem dX8_harmBelow_74 : decode cX8_harmBelow 74 = .ok (.goto (-70), 3) := by decide +kernel
theorem dX8_harmBelow_77 : decode cX8_harmBelow 77 = .ok (.iload_n 2, 1) := by decide +kernel
theorem dX8_harmBelow_78 : decode cX8_harmBelow 78 = .ok (.ireturn, 1) := by decide +kernel
set_option maxRecDepth 20000 in
theorem ggX8_countFalls_J6_bitCount_0f7a4 : GoodIn wsX8_countFalls wsJ6_bitCount_0f7a4 := goodIn_r _ [5, 6, 7, 8] (by decide +kernel) (by decide +kernel)
set_option maxRecDepth 20000 in
theorem gX8_countFalls_J6_bitCount_0f7a4 : GoodIn wsX8_countFalls (va_wsS RX8 92 yJ6_bitCount_0f7a4 wsJ6_bitCount_0f7a4) := goodIn_app (goodIn_of _ (by decide +kernel)) ggX8_countFalls_J6_bitCount_0f7a4
theorem dX8_countFalls_0 : decode cX8_countFalls 0 = .ok (.iconst 0, 1) := by decide +kernel
theorem dX8_countFalls_1 : decode cX8_countFalls 1 = .ok (.istore_n 1, 1) := by decide +kernel
theorem dX8_countFalls_2 : decode cX8_countFalls 2 = .ok (.iconst 0, 1) := by decide +kernel
theorem dX8_countFalls_3 : decode cX8_countFalls 3 = .ok (.istore_n 2, 1) := by decide +kernel
theorem dX8_countFalls_4 : decode cX8_countFalls 4 = .ok (.iload_n 2, 1) := by decide +kernel
theorem dX8_countFalls_5 : decode cX8_countFalls 5 = .ok (.sipush 300, 3) := by decide +kernel
theorem dX8_countFalls_8 : decode cX8_countFalls 8 = .ok (.if_icmp .ge 21, 3) := by decide +kernel
theorem dX8_countFalls_11 : decode cX8_countFalls 11 = .ok (.iload_n 1, 1) := by decide +kernel
theorem dX8_countFalls_12 : decode cX8_countFalls 12 = .ok (.aload_n 0, 1) := by decide +kernel
theorem dX8_countFalls_13 : decode cX8_countFalls 13 = .ok (.getfield 22, 3) := by decide +kernel
theorem dX8_countFalls_16 : decode cX8_countFalls 16 = .ok (.iload_n 2, 1) := by decide +kernel
theorem dX8_countFalls_17 : decode cX8_countFalls 17 = .ok (.iaload, 1) := by decide +kernel
theorem dX8_countFalls_18 : decode cX8_countFalls 18 = .ok (.invokestatic 92, 3) := by decide +kernel
theorem dX8_countFalls_21 : decode cX8_countFalls 21 = .ok (.iadd, 1) := by decide +kernel
theorem dX8_countFalls_22 : decode cX8_countFalls 22 = .ok (.istore_n 1, 1) := by decide +kernel
theorem dX8_countFalls_23 : decode cX8_countFalls 23 = .ok (.iinc 2 1, 3) := by decide +kernel
theorem dX8_countFalls_26 : decode cX8_countFalls 26 = .ok (.goto (-22), 3) := by decide +kernel
theorem dX8_countFalls_29 : decode cX8_countFalls 29 = .ok (.iload_n 1, 1) := by decide +kernel
theorem dX8_countFalls_30 : decode cX8_countFalls 30 = .ok (.ireturn, 1) := by decide +kernel
theorem dX8_fallNumber_0 : decode cX8_fallNumber 0 = .ok (.iload_n 1, 1) := by decide +kernel
theorem dX8_fallNumber_1 : decode cX8_fallNumber 1 = .ok (.istore_n 2, 1) := by decide +kernel
theorem dX8_fallNumber_2 : decode cX8_fallNumber 2 = .ok (.iconst 0, 1) := by decide +kernel
theorem dX8_fallNumber_3 : decode cX8_fallNumber 3 = .ok (.istore_n 3, 1) := by decide +kernel
theorem dX8_fallNumber_4 : decode cX8_fallNumber 4 = .ok (.iload_n 3, 1) := by decide +kernel
theorem dX8_fallNumber_5 : decode cX8_fallNumber 5 = .ok (.sipush 300, 3) := by decide +kernel
theorem dX8_fallNumber_8 : decode cX8_fallNumber 8 = .ok (.if_icmp .ge 69, 3) := by decide +kernel
theorem dX8_fallNumber_11 : decode cX8_fallNumber 11 = .ok (.iconst 0, 1) := by decide +kernel
theorem dX8_fallNumber_12 : decode cX8_fallNumber 12 = .ok (.istore 4, 2) := by decide +kernel
theorem dX8_fallNumber_14 : decode cX8_fallNumber 14 = .ok (.aload_n 0, 1) := by decide +kernel
theorem dX8_fallNumber_15 : decode cX8_fallNumber 15 = .ok (.getfield 22, 3) := by decide +kernel
theorem dX8_fallNumber_18 : decode cX8_fallNumber 18 = .ok (.iload_n 3, 1) := by decide +kernel
theorem dX8_fallNumber_19 : decode cX8_fallNumber 19 = .ok (.iaload, 1) := by decide +kernel
theorem dX8_fallNumber_20 : decode cX8_fallNumber 20 = .ok (.ifCond .eq 51, 3) := by decide +kernel
theorem dX8_fallNumber_23 : decode cX8_fallNumber 23 = .ok (.iload 4, 2) := by decide +kernel
theorem dX8_fallNumber_25 : decode cX8_fallNumber 25 = .ok (.aload_n 0, 1) := by decide +kernel
theorem dX8_fallNumber_26 : decode cX8_fallNumber 26 = .ok (.getfield 40, 3) := by decide +kernel
theorem dX8_fallNumber_29 : decode cX8_fallNumber 29 = .ok (.getfield 61, 3) := by decide +kernel
theorem dX8_fallNumber_32 : decode cX8_fallNumber 32 = .ok (.if_icmp .ge 39, 3) := by decide +kernel
theorem dX8_fallNumber_35 : decode cX8_fallNumber 35 = .ok (.aload_n 0, 1) := by decide +kernel
theorem dX8_fallNumber_36 : decode cX8_fallNumber 36 = .ok (.getfield 22, 3) := by decide +kernel
theorem dX8_fallNumber_39 : decode cX8_fallNumber 39 = .ok (.iload_n 3, 1) := by decide +kernel
theorem dX8_fallNumber_40 : decode cX8_fallNumber 40 = .ok (.iaload, 1) := by decide +kernel
theorem dX8_fallNumber_41 : decode cX8_fallNumber 41 = .ok (.iload 4, 2) := by decide +kernel
theorem dX8_fallNumber_43 : decode cX8_fallNumber 43 = .ok (.ishr, 1) := by decide +kernel
theorem dX8_fallNumber_44 : decode cX8_fallNumber 44 = .ok (.iconst 1, 1) := by decide +kernel
theorem dX8_fallNumber_45 : decode cX8_fallNumber 45 = .ok (.iand, 1) := by decide +kernel
theorem dX8_fallNumber_46 : decode cX8_fallNumber 46 = .ok (.iconst 1, 1) := by decide +kernel
theorem dX8_fallNumber_47 : decode cX8_fallNumber 47 = .ok (.if_icmp .ne 18, 3) := by decide +kernel
theorem dX8_fallNumber_50 : decode cX8_fallNumber 50 = .ok (.iload_n 2, 1) := by decide +kernel
theorem dX8_fallNumber_51 : decode cX8_fallNumber 51 = .ok (.ifCond .ne 11, 3) := by decide +kernel
theorem dX8_fallNumber_54 : decode cX8_fallNumber 54 = .ok (.bipush 10, 2) := by decide +kernel
theorem dX8_fallNumber_56 : decode cX8_fallNumber 56 = .ok (.iload_n 3, 1) := by decide +kernel
theorem dX8_fallNumber_57 : decode cX8_fallNumber 57 = .ok (.imul, 1) := by decide +kernel
theorem dX8_fallNumber_58 : decode cX8_fallNumber 58 = .ok (.iload 4, 2) := by decide +kernel
theorem dX8_fallNumber_60 : decode cX8_fallNumber 60 = .ok (.iadd, 1) := by decide +kernel
theorem dX8_fallNumber_61 : decode cX8_fallNumber 61 = .ok (.ireturn, 1) := by decide +kernel
theorem dX8_fallNumber_62 : decode cX8_fallNumber 62 = .ok (.iinc 2 (-1), 3) := by decide +kernel
theorem dX8_fallNumber_65 : decode cX8_fallNumber 65 = .ok (.iinc 4 1, 3) := by decide +kernel
theorem dX8_fallNumber_68 : decode cX8_fallNumber 68 = .ok (.goto (-54), 3) := by decide +kernel
theorem dX8_fallNumber_71 : decode cX8_fallNumber 71 = .ok (.iinc 3 1, 3) := by decide +kernel
theorem dX8_fallNumber_74 : decode cX8_fallNumber 74 = .ok (.goto (-70), 3) := by decide +kernel
theorem dX8_fallNumber_77 : decode cX8_fallNumber 77 = .ok (.bipush (-9), 2) := by decide +kernel
theorem dX8_fallNumber_79 : decode cX8_fallNumber 79 = .ok (.ireturn, 1) := by decide +kernel
set_option maxRecDepth 20000 in
theorem ggX8_nothingEverFalls_X8_begin : GoodIn wsX8_nothingEverFalls wsX8_begin := goodIn_r _ [10, 11, 5, 12, 13, 14, 15, 2, 16, 38, 39, 40, 41, 42, 43, 44, 45, 46, 47, 48, 49, 50, 51, 52, 53, 54, 55] (by decide +kernel) (by decide +kernel)
set_option maxRecDepth 20000 in
theorem gX8_nothingEverFalls_X8_begin : GoodIn wsX8_nothingEverFalls (wsV RX8 76 RX8 yX8_begin wsX8_begin) := goodIn_app (goodIn_of _ (by decide +kernel)) ggX8_nothingEverFalls_X8_begin
set_option maxRecDepth 20000 in
theorem ggX8_nothingEverFalls_X8_goOn : GoodIn wsX8_nothingEverFalls wsX8_goOn := goodIn_r _ [20, 21, 11, 3, 14, 5, 22, 13, 23, 24, 25, 26, 4, 27, 1, 38, 39, 40, 41, 42, 43, 44, 45, 46, 47, 48, 49, 50, 51, 52, 53, 54, 55] (by decide +kernel) (by decide +kernel)
set_option maxRecDepth 20000 in
theorem gX8_nothingEverFalls_X8_goOn : GoodIn wsX8_nothingEverFalls (wsV RX8 79 RX8 yX8_goOn wsX8_goOn) := goodIn_app (goodIn_of _ (by decide +kernel)) ggX8_nothingEverFalls_X8_goOn
set_option maxRecDepth 20000 in
theorem ggX8_nothingEverFalls_X8_nailed : GoodIn wsX8_nothingEverFalls wsX8_nailed := goodIn_r _ [31, 2, 3, 14, 5, 16, 38, 39, 40, 41, 42, 43, 44, 45, 46, 47, 48, 49, 50, 51, 52, 53, 54, 55] (by decide +kernel) (by decide +kernel)
set_option maxRecDepth 20000 in
theorem gX8_nothingEverFalls_X8_nailed : GoodIn wsX8_nothingEverFalls (wsV RX8 86 RX8 yX8_nailed wsX8_nailed) := goodIn_app (goodIn_of _ (by decide +kernel)) ggX8_nothingEverFalls_X8_nailed
set_option maxRecDepth 20000 in
theorem ggX8_nothingEverFalls_X5_all : GoodIn wsX8_nothingEverFalls wsX5_all := goodIn_r _ [36, 37, 48, 49, 50, 51, 52, 53, 54, 55] (by decide +kernel) (by decide +kernel)
set_option maxRecDepth 20000 in
theorem gX8_nothingEverFalls_X5_all : GoodIn wsX8_nothingEverFalls (wsV RX8 97 RX5 yX5_all wsX5_all) := goodIn_app (goodIn_of _ (by decide +kernel)) ggX8_nothingEverFalls_X5_all
theorem dX8_nothingEverFalls_0 : decode cX8_nothingEverFalls 0 = .ok (.aload_n 0, 1) := by decide +kernel
theorem dX8_nothingEverFalls_1 : decode cX8_nothingEverFalls 1 = .ok (.invokevirtual 76, 3) := by decide +kernel
theorem dX8_nothingEverFalls_4 : decode cX8_nothingEverFalls 4 = .ok (.iconst 0, 1) := by decide +kernel
theorem dX8_nothingEverFalls_5 : decode cX8_nothingEverFalls 5 = .ok (.istore_n 1, 1) := by decide +kernel
theorem dX8_nothingEverFalls_6 : decode cX8_nothingEverFalls 6 = .ok (.iconst 0, 1) := by decide +kernel
theorem dX8_nothingEverFalls_7 : decode cX8_nothingEverFalls 7 = .ok (.istore_n 2, 1) := by decide +kernel
theorem dX8_nothingEverFalls_8 : decode cX8_nothingEverFalls 8 = .ok (.iload_n 2, 1) := by decide +kernel
theorem dX8_nothingEverFalls_9 : decode cX8_nothingEverFalls 9 = .ok (.iconst 2, 1) := by decide +kernel
theorem dX8_nothingEverFalls_10 : decode cX8_nothingEverFalls 10 = .ok (.aload_n 0, 1) := by decide +kernel
theorem dX8_nothingEverFalls_11 : decode cX8_nothingEverFalls 11 = .ok (.getfield 15, 3) := by decide +kernel
theorem dX8_nothingEverFalls_14 : decode cX8_nothingEverFalls 14 = .ok (.imul, 1) := by decide +kernel
theorem dX8_nothingEverFalls_15 : decode cX8_nothingEverFalls 15 = .ok (.if_icmp .ge 44, 3) := by decide +kernel
theorem dX8_nothingEverFalls_18 : decode cX8_nothingEverFalls 18 = .ok (.aload_n 0, 1) := by decide +kernel
theorem dX8_nothingEverFalls_19 : decode cX8_nothingEverFalls 19 = .ok (.invokevirtual 79, 3) := by decide +kernel
theorem dX8_nothingEverFalls_22 : decode cX8_nothingEverFalls 22 = .ok (.aload_n 0, 1) := by decide +kernel
theorem dX8_nothingEverFalls_23 : decode cX8_nothingEverFalls 23 = .ok (.getfield 19, 3) := by decide +kernel
theorem dX8_nothingEverFalls_26 : decode cX8_nothingEverFalls 26 = .ok (.aload_n 0, 1) := by decide +kernel
theorem dX8_nothingEverFalls_27 : decode cX8_nothingEverFalls 27 = .ok (.getfield 34, 3) := by decide +kernel
theorem dX8_nothingEverFalls_30 : decode cX8_nothingEverFalls 30 = .ok (.iaload, 1) := by decide +kernel
theorem dX8_nothingEverFalls_31 : decode cX8_nothingEverFalls 31 = .ok (.aload_n 0, 1) := by decide +kernel
theorem dX8_nothingEverFalls_32 : decode cX8_nothingEverFalls 32 = .ok (.getfield 37, 3) := by decide +kernel
theorem dX8_nothingEverFalls_35 : decode cX8_nothingEverFalls 35 = .ok (.if_icmp .ge 5, 3) := by decide +kernel
theorem dX8_nothingEverFalls_38 : decode cX8_nothingEverFalls 38 = .ok (.iconst 0, 1) := by decide +kernel
theorem dX8_nothingEverFalls_39 : decode cX8_nothingEverFalls 39 = .ok (.ireturn, 1) := by decide +kernel
theorem dX8_nothingEverFalls_40 : decode cX8_nothingEverFalls 40 = .ok (.iload_n 1, 1) := by decide +kernel
theorem dX8_nothingEverFalls_41 : decode cX8_nothingEverFalls 41 = .ok (.iconst 1, 1) := by decide +kernel
theorem dX8_nothingEverFalls_42 : decode cX8_nothingEverFalls 42 = .ok (.aload_n 0, 1) := by decide +kernel
theorem dX8_nothingEverFalls_43 : decode cX8_nothingEverFalls 43 = .ok (.getfield 34, 3) := by decide +kernel
theorem dX8_nothingEverFalls_46 : decode cX8_nothingEverFalls 46 = .ok (.ishl, 1) := by decide +kernel
theorem dX8_nothingEverFalls_47 : decode cX8_nothingEverFalls 47 = .ok (.ior, 1) := by decide +kernel
theorem dX8_nothingEverFalls_48 : decode cX8_nothingEverFalls 48 = .ok (.istore_n 1, 1) := by decide +kernel
theorem dX8_nothingEverFalls_49 : decode cX8_nothingEverFalls 49 = .ok (.aload_n 0, 1) := by decide +kernel
theorem dX8_nothingEverFalls_50 : decode cX8_nothingEverFalls 50 = .ok (.invokevirtual 86, 3) := by decide +kernel
theorem dX8_nothingEverFalls_53 : decode cX8_nothingEverFalls 53 = .ok (.iinc 2 1, 3) := by decide +kernel
theorem dX8_nothingEverFalls_56 : decode cX8_nothingEverFalls 56 = .ok (.goto (-48), 3) := by decide +kernel
theorem dX8_nothingEverFalls_59 : decode cX8_nothingEverFalls 59 = .ok (.iload_n 1, 1) := by decide +kernel
theorem dX8_nothingEverFalls_60 : decode cX8_nothingEverFalls 60 = .ok (.aload_n 0, 1) := by decide +kernel
theorem dX8_nothingEverFalls_61 : decode cX8_nothingEverFalls 61 = .ok (.getfield 40, 3) := by decide +kernel
theorem dX8_nothingEverFalls_64 : decode cX8_nothingEverFalls 64 = .ok (.invokevirtual 97, 3) := by decide +kernel
theorem dX8_nothingEverFalls_67 : decode cX8_nothingEverFalls 67 = .ok (.if_icmp .ne 7, 3) := by decide +kernel
theorem dX8_nothingEverFalls_70 : decode cX8_nothingEverFalls 70 = .ok (.iconst 1, 1) := by decide +kernel
theorem dX8_nothingEverFalls_71 : decode cX8_nothingEverFalls 71 = .ok (.goto 4, 3) := by decide +kernel
theorem dX8_nothingEverFalls_74 : decode cX8_nothingEverFalls 74 = .ok (.iconst 0, 1) := by decide +kernel
theorem dX8_nothingEverFalls_75 : decode cX8_nothingEverFalls 75 = .ok (.ireturn, 1) := by decide +kernel
set_option maxRecDepth 20000 in
theorem ggX8_whereAt_X8_begin : GoodIn wsX8_whereAt wsX8_begin := goodIn_r _ [8, 9, 10, 11, 12, 2, 13, 14, 15, 28, 29, 30, 31, 32, 33, 34, 35, 36, 37, 38, 39, 40, 41, 42, 43, 44, 45] (by decide +kernel) (by decide +kernel)
set_option maxRecDepth 20000 in
theorem gX8_whereAt_X8_begin : GoodIn wsX8_whereAt (wsV RX8 76 RX8 yX8_begin wsX8_begin) := goodIn_app (goodIn_of _ (by decide +kernel)) ggX8_whereAt_X8_begin
set_option maxRecDepth 20000 in
theorem ggX8_whereAt_X8_goOn : GoodIn wsX8_whereAt wsX8_goOn := goodIn_r _ [19, 20, 9, 3, 2, 10, 21, 12, 22, 23, 24, 25, 1, 26, 27, 28, 29, 30, 31, 32, 33, 34, 35, 36, 37, 38, 39, 40, 41, 42, 43, 44, 45] (by decide +kernel) (by decide +kernel)
set_option maxRecDepth 20000 in
theorem gX8_whereAt_X8_goOn : GoodIn wsX8_whereAt (wsV RX8 79 RX8 yX8_goOn wsX8_goOn) := goodIn_app (goodIn_of _ (by decide +kernel)) ggX8_whereAt_X8_goOn
theorem dX8_whereAt_0 : decode cX8_whereAt 0 = .ok (.aload_n 0, 1) := by decide +kernel
theorem dX8_whereAt_1 : decode cX8_whereAt 1 = .ok (.invokevirtual 76, 3) := by decide +kernel
theorem dX8_whereAt_4 : decode cX8_whereAt 4 = .ok (.iconst 0, 1) := by decide +kernel
theorem dX8_whereAt_5 : decode cX8_whereAt 5 = .ok (.istore_n 2, 1) := by decide +kernel
theorem dX8_whereAt_6 : decode cX8_whereAt 6 = .ok (.iload_n 2, 1) := by decide +kernel
theorem dX8_whereAt_7 : decode cX8_whereAt 7 = .ok (.sipush 300, 3) := by decide +kernel
theorem dX8_whereAt_10 : decode cX8_whereAt 10 = .ok (.if_icmp .gt 37, 3) := by decide +kernel
theorem dX8_whereAt_13 : decode cX8_whereAt 13 = .ok (.aload_n 0, 1) := by decide +kernel
theorem dX8_whereAt_14 : decode cX8_whereAt 14 = .ok (.invokevirtual 79, 3) := by decide +kernel
theorem dX8_whereAt_17 : decode cX8_whereAt 17 = .ok (.iload_n 1, 1) := by decide +kernel
theorem dX8_whereAt_18 : decode cX8_whereAt 18 = .ok (.aload_n 0, 1) := by decide +kernel
theorem dX8_whereAt_19 : decode cX8_whereAt 19 = .ok (.getfield 37, 3) := by decide +kernel
theorem dX8_whereAt_22 : decode cX8_whereAt 22 = .ok (.if_icmp .ge 6, 3) := by decide +kernel
theorem dX8_whereAt_25 : decode cX8_whereAt 25 = .ok (.bipush (-9), 2) := by decide +kernel
theorem dX8_whereAt_27 : decode cX8_whereAt 27 = .ok (.ireturn, 1) := by decide +kernel
theorem dX8_whereAt_28 : decode cX8_whereAt 28 = .ok (.iload_n 1, 1) := by decide +kernel
theorem dX8_whereAt_29 : decode cX8_whereAt 29 = .ok (.aload_n 0, 1) := by decide +kernel
theorem dX8_whereAt_30 : decode cX8_whereAt 30 = .ok (.getfield 31, 3) := by decide +kernel
theorem dX8_whereAt_33 : decode cX8_whereAt 33 = .ok (.if_icmp .ge 8, 3) := by decide +kernel
theorem dX8_whereAt_36 : decode cX8_whereAt 36 = .ok (.aload_n 0, 1) := by decide +kernel
theorem dX8_whereAt_37 : decode cX8_whereAt 37 = .ok (.getfield 34, 3) := by decide +kernel
theorem dX8_whereAt_40 : decode cX8_whereAt 40 = .ok (.ireturn, 1) := by decide +kernel
theorem dX8_whereAt_41 : decode cX8_whereAt 41 = .ok (.iinc 2 1, 3) := by decide +kernel
theorem dX8_whereAt_44 : decode cX8_whereAt 44 = .ok (.goto (-38), 3) := by decide +kernel
theorem dX8_whereAt_47 : decode cX8_whereAt 47 = .ok (.bipush (-9), 2) := by decide +kernel
theorem dX8_whereAt_49 : decode cX8_whereAt 49 = .ok (.ireturn, 1) := by decide +kernel
set_option maxRecDepth 20000 in
theorem ggX9_init_X5_init : GoodIn wsX9_init wsX5_init := goodIn_r _ [33, 34, 2, 3, 35, 36, 37, 38, 39, 22, 40, 41, 42, 43, 89, 90, 91, 92, 93, 94, 95, 96] (by decide +kernel) (by decide +kernel)
set_option maxRecDepth 20000 in
theorem gX9_init_X5_init : GoodIn wsX9_init (wsX5_init) := ggX9_init_X5_init
set_option maxRecDepth 20000 in
theorem ggX9_init_X3_init : GoodIn wsX9_init wsX3_init := goodIn_r _ [46, 47, 2, 3, 48, 22, 49, 50, 51, 52, 105, 106, 107, 108] (by decide +kernel) (by decide +kernel)
set_option maxRecDepth 20000 in
theorem gX9_init_X3_init : GoodIn wsX9_init (wsX3_init) := ggX9_init_X3_init
set_option maxRecDepth 20000 in
theorem ggX9_init_X8_init : GoodIn wsX9_init wsX8_init := goodIn_r _ [55, 56, 2, 3, 22, 57, 58, 59, 60, 61, 62, 63, 64, 65, 66, 109, 110, 111, 112, 113, 114, 115, 116, 117, 118] (by decide +kernel) (by decide +kernel)
set_option maxRecDepth 20000 in
theorem gX9_init_X8_init : GoodIn wsX9_init (wsX8_init) := ggX9_init_X8_init
set_option maxRecDepth 20000 in
theorem ggX9_init_X2_init : GoodIn wsX9_init wsX2_init := goodIn_r _ [69, 70, 2, 3, 22, 71, 72, 73, 74, 75, 76, 119, 120, 121, 122, 123, 124] (by decide +kernel) (by decide +kernel)
set_option maxRecDepth 20000 in
theorem gX9_init_X2_init : GoodIn wsX9_init (wsX2_init) := ggX9_init_X2_init
set_option maxRecDepth 20000 in
theorem ggX9_init_X7_init : GoodIn wsX9_init wsX7_init := goodIn_r _ [79, 80, 2, 3, 81, 125] (by decide +kernel) (by decide +kernel)
set_option maxRecDepth 20000 in
theorem gX9_init_X7_init : GoodIn wsX9_init (wsX7_init) := ggX9_init_X7_init
set_option maxRecDepth 20000 in
theorem ggX9_init_X4_init : GoodIn wsX9_init wsX4_init := goodIn_r _ [84, 85, 2, 3, 86, 87, 22, 88, 126, 127, 128] (by decide +kernel) (by decide +kernel)
set_option maxRecDepth 20000 in
theorem gX9_init_X4_init : GoodIn wsX9_init (wsX4_init) := ggX9_init_X4_init
theorem dX9_init_0 : decode cX9_init 0 = .ok (.aload_n 0, 1) := by decide +kernel
theorem dX9_init_1 : decode cX9_init 1 = .ok (.invokespecial 3, 3) := by decide +kernel
theorem dX9_init_4 : decode cX9_init 4 = .ok (.aload_n 0, 1) := by decide +kernel
theorem dX9_init_5 : decode cX9_init 5 = .ok (.new 9, 3) := by decide +kernel
theorem dX9_init_8 : decode cX9_init 8 = .ok (.dup, 1) := by decide +kernel
theorem dX9_init_9 : decode cX9_init 9 = .ok (.invokespecial 11, 3) := by decide +kernel
theorem dX9_init_12 : decode cX9_init 12 = .ok (.putfield 12, 3) := by decide +kernel
theorem dX9_init_15 : decode cX9_init 15 = .ok (.aload_n 0, 1) := by decide +kernel
theorem dX9_init_16 : decode cX9_init 16 = .ok (.new 18, 3) := by decide +kernel
theorem dX9_init_19 : decode cX9_init 19 = .ok (.dup, 1) := by decide +kernel
theorem dX9_init_20 : decode cX9_init 20 = .ok (.invokespecial 20, 3) := by decide +kernel
theorem dX9_init_23 : decode cX9_init 23 = .ok (.putfield 21, 3) := by decide +kernel
theorem dX9_init_26 : decode cX9_init 26 = .ok (.aload_n 0, 1) := by decide +kernel
theorem dX9_init_27 : decode cX9_init 27 = .ok (.new 25, 3) := by decide +kernel
theorem dX9_init_30 : decode cX9_init 30 = .ok (.dup, 1) := by decide +kernel
theorem dX9_init_31 : decode cX9_init 31 = .ok (.aload_n 0, 1) := by decide +kernel
theorem dX9_init_32 : decode cX9_init 32 = .ok (.getfield 12, 3) := by decide +kernel
theorem dX9_init_35 : decode cX9_init 35 = .ok (.invokespecial 27, 3) := by decide +kernel
theorem dX9_init_38 : decode cX9_init 38 = .ok (.putfield 30, 3) := by decide +kernel
theorem dX9_init_41 : decode cX9_init 41 = .ok (.aload_n 0, 1) := by decide +kernel
theorem dX9_init_42 : decode cX9_init 42 = .ok (.new 34, 3) := by decide +kernel
theorem dX9_init_45 : decode cX9_init 45 = .ok (.dup, 1) := by decide +kernel
theorem dX9_init_46 : decode cX9_init 46 = .ok (.aload_n 0, 1) := by decide +kernel
theorem dX9_init_47 : decode cX9_init 47 = .ok (.getfield 12, 3) := by decide +kernel
theorem dX9_init_50 : decode cX9_init 50 = .ok (.invokespecial 36, 3) := by decide +kernel
theorem dX9_init_53 : decode cX9_init 53 = .ok (.putfield 37, 3) := by decide +kernel
theorem dX9_init_56 : decode cX9_init 56 = .ok (.aload_n 0, 1) := by decide +kernel
theorem dX9_init_57 : decode cX9_init 57 = .ok (.iconst 4, 1) := by decide +kernel
theorem dX9_init_58 : decode cX9_init 58 = .ok (.anewarray 41, 3) := by decide +kernel
theorem dX9_init_61 : decode cX9_init 61 = .ok (.putfield 43, 3) := by decide +kernel
theorem dX9_init_64 : decode cX9_init 64 = .ok (.aload_n 0, 1) := by decide +kernel
theorem dX9_init_65 : decode cX9_init 65 = .ok (.bipush 64, 2) := by decide +kernel
theorem dX9_init_67 : decode cX9_init 67 = .ok (.newarray .int, 2) := by decide +kernel
theorem dX9_init_69 : decode cX9_init 69 = .ok (.putfield 47, 3) := by decide +kernel
theorem dX9_init_72 : decode cX9_init 72 = .ok (.aload_n 0, 1) := by decide +kernel
theorem dX9_init_73 : decode cX9_init 73 = .ok (.new 51, 3) := by decide +kernel
theorem dX9_init_76 : decode cX9_init 76 = .ok (.dup, 1) := by decide +kernel
theorem dX9_init_77 : decode cX9_init 77 = .ok (.invokespecial 53, 3) := by decide +kernel
theorem dX9_init_80 : decode cX9_init 80 = .ok (.putfield 54, 3) := by decide +kernel
theorem dX9_init_83 : decode cX9_init 83 = .ok (.aload_n 0, 1) := by decide +kernel
theorem dX9_init_84 : decode cX9_init 84 = .ok (.iconst 0, 1) := by decide +kernel
theorem dX9_init_85 : decode cX9_init 85 = .ok (.putfield 58, 3) := by decide +kernel
theorem dX9_init_88 : decode cX9_init 88 = .ok (.iconst 0, 1) := by decide +kernel
theorem dX9_init_89 : decode cX9_init 89 = .ok (.istore_n 1, 1) := by decide +kernel
theorem dX9_init_90 : decode cX9_init 90 = .ok (.iload_n 1, 1) := by decide +kernel
theorem dX9_init_91 : decode cX9_init 91 = .ok (.aload_n 0, 1) := by decide +kernel
theorem dX9_init_92 : decode cX9_init 92 = .ok (.getfield 43, 3) := by decide +kernel
theorem dX9_init_95 : decode cX9_init 95 = .ok (.arraylength, 1) := by decide +kernel
theorem dX9_init_96 : decode cX9_init 96 = .ok (.if_icmp .ge 22, 3) := by decide +kernel
theorem dX9_init_99 : decode cX9_init 99 = .ok (.aload_n 0, 1) := by decide +kernel
theorem dX9_init_100 : decode cX9_init 100 = .ok (.getfield 43, 3) := by decide +kernel
end
section
theorem dX9_init_103 : decode cX9_init 103 = .ok (.iload_n 1, 1) := by decide +kernel
theorem dX9_init_104 : decode cX9_init 104 = .ok (.new 41, 3) := by decide +kernel
theorem dX9_init_107 : decode cX9_init 107 = .ok (.dup, 1) := by decide +kernel
theorem dX9_init_108 : decode cX9_init 108 = .ok (.invokespecial 62, 3) := by decide +kernel
theorem dX9_init_111 : decode cX9_init 111 = .ok (.aastore, 1) := by decide +kernel
theorem dX9_init_112 : decode cX9_init 112 = .ok (.iinc 1 1, 3) := by decide +kernel
theorem dX9_init_115 : decode cX9_init 115 = .ok (.goto (-25), 3) := by decide +kernel
theorem dX9_init_118 : decode cX9_init 118 = .ok (.return_, 1) := by decide +kernel
set_option maxRecDepth 20000 in
theorem ggX9_street_X9_isLane : GoodIn wsX9_street wsX9_isLane := goodIn_r _ [6] (by decide +kernel) (by decide +kernel)
set_option maxRecDepth 20000 in
theorem gX9_street_X9_isLane : GoodIn wsX9_street (va_wsS RX9 63 yX9_isLane wsX9_isLane) := goodIn_app (goodIn_of _ (by decide +kernel)) ggX9_street_X9_isLane
set_option maxRecDepth 20000 in
theorem ggX9_street_X9_refuseCells : GoodIn wsX9_street wsX9_refuseCells := goodIn_r _ [10, 11, 12, 13, 14, 5, 15, 16, 17, 18, 19, 20, 21, 22, 23, 24, 25, 26, 27, 28, 29, 30, 31, 32, 33, 34, 35, 36, 138, 139, 140, 141, 142, 143, 144, 145, 154, 155, 156] (by decide +kernel) (by decide +kernel)
set_option maxRecDepth 20000 in
theorem gX9_street_X9_refuseCells : GoodIn wsX9_street (wsV RX9 67 RX9 yX9_refuseCells wsX9_refuseCells) := goodIn_app (goodIn_of _ (by decide +kernel)) ggX9_street_X9_refuseCells
set_option maxRecDepth 20000 in
theorem ggX9_street_X9_sheetAt : GoodIn wsX9_street wsX9_sheetAt := goodIn_r _ [15, 16, 138, 139, 140, 141, 142, 143, 144, 145] (by decide +kernel) (by decide +kernel)
set_option maxRecDepth 20000 in
theorem gX9_street_X9_sheetAt : GoodIn wsX9_street (wsV RX9 71 RX9 yX9_sheetAt wsX9_sheetAt) := goodIn_app (goodIn_of _ (by decide +kernel)) ggX9_street_X9_sheetAt
set_option maxRecDepth 20000 in
theorem ggX9_street_X9_firstFault : GoodIn wsX9_street wsX9_firstFault := goodIn_r _ [39, 40, 41, 42, 25, 43, 44, 45, 46, 47, 48, 36, 49, 50, 5, 51, 52, 53, 54, 154, 155, 156] (by decide +kernel) (by decide +kernel)
set_option maxRecDepth 20000 in
theorem gX9_street_X9_firstFault : GoodIn wsX9_street (va_wsS RX9 75 yX9_firstFault wsX9_firstFault) := goodIn_app (goodIn_of _ (by decide +kernel)) ggX9_street_X9_firstFault
set_option maxRecDepth 20000 in
theorem ggX9_street_X9_takeText : GoodIn wsX9_street wsX9_takeText := goodIn_r _ [58, 1, 59, 60, 40, 41, 42, 25, 43, 44, 45, 46, 47, 48, 36, 61, 62, 63, 64, 65, 66, 67, 68, 69, 5, 70, 71, 72, 73, 74, 75, 76, 77, 78, 79, 80, 81, 82, 83, 84, 85, 86, 87, 88, 89, 90, 91, 92, 93, 94, 95, 96, 97, 98, 99, 100, 101, 102, 103, 104, 105, 106, 107, 108, 109, 110, 111, 112, 113, 114, 115, 116, 117, 118, 119, 120, 121, 122, 123, 124, 125, 126, 127, 128, 129, 130, 131, 132, 133, 134, 135, 136, 137, 138, 139, 140, 141, 142, 143, 144, 145, 157, 158, 159, 160, 154, 155, 156, 146, 147, 148, 149, 150, 151, 152, 153, 161, 162, 163, 164, 165, 166, 167, 168, 169, 170, 171, 172, 173, 174, 175] (by decide +kernel) (by decide +kernel)
set_option maxRecDepth 20000 in
theorem gX9_street_X9_takeText : GoodIn wsX9_street (wsV RX9 79 RX9 yX9_takeText wsX9_takeText) := goodIn_app (goodIn_of _ (by decide +kernel)) ggX9_street_X9_takeText
theorem dX9_street_0 : decode cX9_street 0 = .ok (.aload_n 0, 1) := by decide +kernel
theorem dX9_street_1 : decode cX9_street 1 = .ok (.iload_n 1, 1) := by decide +kernel
theorem dX9_street_2 : decode cX9_street 2 = .ok (.iload_n 2, 1) := by decide +kernel
theorem dX9_street_3 : decode cX9_street 3 = .ok (.invokestatic 63, 3) := by decide +kernel
theorem dX9_street_6 : decode cX9_street 6 = .ok (.iload_n 2, 1) := by decide +kernel
theorem dX9_street_7 : decode cX9_street 7 = .ok (.iload_n 3, 1) := by decide +kernel
theorem dX9_street_8 : decode cX9_street 8 = .ok (.iload 4, 2) := by decide +kernel
theorem dX9_street_10 : decode cX9_street 10 = .ok (.invokevirtual 67, 3) := by decide +kernel
theorem dX9_street_13 : decode cX9_street 13 = .ok (.istore 5, 2) := by decide +kernel
theorem dX9_street_15 : decode cX9_street 15 = .ok (.aload_n 0, 1) := by decide +kernel
theorem dX9_street_16 : decode cX9_street 16 = .ok (.iload_n 1, 1) := by decide +kernel
theorem dX9_street_17 : decode cX9_street 17 = .ok (.invokevirtual 71, 3) := by decide +kernel
theorem dX9_street_20 : decode cX9_street 20 = .ok (.astore 6, 2) := by decide +kernel
theorem dX9_street_22 : decode cX9_street 22 = .ok (.iload 5, 2) := by decide +kernel
theorem dX9_street_24 : decode cX9_street 24 = .ok (.ifCond .ne 8, 3) := by decide +kernel
theorem dX9_street_27 : decode cX9_street 27 = .ok (.aload 6, 2) := by decide +kernel
theorem dX9_street_29 : decode cX9_street 29 = .ok (.ifnonnull 6, 3) := by decide +kernel
theorem dX9_street_32 : decode cX9_street 32 = .ok (.iload 5, 2) := by decide +kernel
theorem dX9_street_34 : decode cX9_street 34 = .ok (.ireturn, 1) := by decide +kernel
theorem dX9_street_35 : decode cX9_street 35 = .ok (.aload 6, 2) := by decide +kernel
theorem dX9_street_37 : decode cX9_street 37 = .ok (.iload_n 3, 1) := by decide +kernel
theorem dX9_street_38 : decode cX9_street 38 = .ok (.iload 4, 2) := by decide +kernel
theorem dX9_street_40 : decode cX9_street 40 = .ok (.invokestatic 75, 3) := by decide +kernel
theorem dX9_street_43 : decode cX9_street 43 = .ok (.istore 7, 2) := by decide +kernel
theorem dX9_street_45 : decode cX9_street 45 = .ok (.iload 7, 2) := by decide +kernel
theorem dX9_street_47 : decode cX9_street 47 = .ok (.ifCond .lt 9, 3) := by decide +kernel
theorem dX9_street_50 : decode cX9_street 50 = .ok (.bipush (-100), 2) := by decide +kernel
theorem dX9_street_52 : decode cX9_street 52 = .ok (.iload 7, 2) := by decide +kernel
theorem dX9_street_54 : decode cX9_street 54 = .ok (.isub, 1) := by decide +kernel
theorem dX9_street_55 : decode cX9_street 55 = .ok (.ireturn, 1) := by decide +kernel
theorem dX9_street_56 : decode cX9_street 56 = .ok (.aload_n 0, 1) := by decide +kernel
theorem dX9_street_57 : decode cX9_street 57 = .ok (.aload 6, 2) := by decide +kernel
theorem dX9_street_59 : decode cX9_street 59 = .ok (.iload_n 3, 1) := by decide +kernel
theorem dX9_street_60 : decode cX9_street 60 = .ok (.iload 4, 2) := by decide +kernel
theorem dX9_street_62 : decode cX9_street 62 = .ok (.invokevirtual 79, 3) := by decide +kernel
theorem dX9_street_65 : decode cX9_street 65 = .ok (.aload_n 0, 1) := by decide +kernel
theorem dX9_street_66 : decode cX9_street 66 = .ok (.getfield 12, 3) := by decide +kernel
theorem dX9_street_69 : decode cX9_street 69 = .ok (.getfield 83, 3) := by decide +kernel
theorem dX9_street_72 : decode cX9_street 72 = .ok (.ireturn, 1) := by decide +kernel
set_option maxRecDepth 20000 in
theorem ggX9_ofThing_X5_thingAt : GoodIn wsX9_ofThing wsX5_thingAt := goodIn_r _ [11, 12, 13, 14, 15, 10, 16, 17, 80, 81, 82, 83, 84, 85, 86, 87] (by decide +kernel) (by decide +kernel)
set_option maxRecDepth 20000 in
theorem gX9_ofThing_X5_thingAt : GoodIn wsX9_ofThing (wsV RX9 86 RX5 yX5_thingAt wsX5_thingAt) := goodIn_app (goodIn_of _ (by decide +kernel)) ggX9_ofThing_X5_thingAt
set_option maxRecDepth 20000 in
theorem ggX9_ofThing_X0_kindNumber : GoodIn wsX9_ofThing wsX0_kindNumber := goodIn_r _ [24] (by decide +kernel) (by decide +kernel)
set_option maxRecDepth 20000 in
theorem gX9_ofThing_X0_kindNumber_u90X0 : GoodIn wsX9_ofThing (va_wsO RX9 90 RX0 "OneNail$Thing" ⟨"OneNail$Thing", "kindNumber", "()I"⟩ yX0_kindNumber wsX0_kindNumber) := goodIn_app (goodIn_of _ (by decide +kernel)) ggX9_ofThing_X0_kindNumber
set_option maxRecDepth 20000 in
theorem ggX9_ofThing_X1_kindNumber : GoodIn wsX9_ofThing wsX1_kindNumber := goodIn_r _ [29] (by decide +kernel) (by decide +kernel)
set_option maxRecDepth 20000 in
theorem gX9_ofThing_X1_kindNumber_u90X1 : GoodIn wsX9_ofThing (va_wsO RX9 90 RX1 "OneNail$Thing" ⟨"OneNail$Thing", "kindNumber", "()I"⟩ yX1_kindNumber wsX1_kindNumber) := goodIn_app (goodIn_of _ (by decide +kernel)) ggX9_ofThing_X1_kindNumber
set_option maxRecDepth 20000 in
theorem ggX9_ofThing_X6_kindNumber : GoodIn wsX9_ofThing wsX6_kindNumber := goodIn_r _ [25] (by decide +kernel) (by decide +kernel)
set_option maxRecDepth 20000 in
theorem gX9_ofThing_X6_kindNumber : GoodIn wsX9_ofThing (wsV RX9 90 RX6 yX6_kindNumber wsX6_kindNumber) := goodIn_app (goodIn_of _ (by decide +kernel)) ggX9_ofThing_X6_kindNumber
set_option maxRecDepth 20000 in
theorem ggX9_ofThing_X0_holdsBy : GoodIn wsX9_ofThing wsX0_holdsBy := goodIn_r _ [39, 40, 41, 42, 43, 28, 44, 45, 35, 46, 47, 33, 48, 49, 50, 51, 52, 53, 65, 66, 67, 68, 69, 70, 71, 72, 73, 74, 75, 76, 77, 78, 79] (by decide +kernel) (by decide +kernel)
set_option maxRecDepth 20000 in
theorem gX9_ofThing_X0_holdsBy_u111X0 : GoodIn wsX9_ofThing (va_wsO RX9 111 RX0 "OneNail$Thing" ⟨"OneNail$Thing", "holdsBy", "(I)I"⟩ yX0_holdsBy wsX0_holdsBy) := goodIn_app (goodIn_of _ (by decide +kernel)) ggX9_ofThing_X0_holdsBy
set_option maxRecDepth 20000 in
theorem ggX9_ofThing_X1_holdsBy : GoodIn wsX9_ofThing wsX1_holdsBy := goodIn_r _ [44, 45, 35, 46, 47, 33, 48, 49, 50, 51, 52, 53, 65, 66, 67, 68, 69, 70, 71, 72, 73, 74, 75, 76, 77, 78, 79] (by decide +kernel) (by decide +kernel)
set_option maxRecDepth 20000 in
theorem gX9_ofThing_X1_holdsBy_u111X1 : GoodIn wsX9_ofThing (va_wsO RX9 111 RX1 "OneNail$Thing" ⟨"OneNail$Thing", "holdsBy", "(I)I"⟩ yX1_holdsBy wsX1_holdsBy) := goodIn_app (goodIn_of _ (by decide +kernel)) ggX9_ofThing_X1_holdsBy
set_option maxRecDepth 20000 in
theorem ggX9_ofThing_X6_holdsBy : GoodIn wsX9_ofThing wsX6_holdsBy := goodIn_r _ [48, 49, 50, 51, 52, 53, 65, 66, 67, 68, 69, 70, 71, 72, 73, 74, 75, 76, 77, 78, 79] (by decide +kernel) (by decide +kernel)
set_option maxRecDepth 20000 in
theorem gX9_ofThing_X6_holdsBy : GoodIn wsX9_ofThing (wsV RX9 111 RX6 yX6_holdsBy wsX6_holdsBy) := goodIn_app (goodIn_of _ (by decide +kernel)) ggX9_ofThing_X6_holdsBy
theorem dX9_ofThing_0 : decode cX9_ofThing 0 = .ok (.aload_n 0, 1) := by decide +kernel
theorem dX9_ofThing_1 : decode cX9_ofThing 1 = .ok (.getfield 12, 3) := by decide +kernel
theorem dX9_ofThing_4 : decode cX9_ofThing 4 = .ok (.iload_n 1, 1) := by decide +kernel
theorem dX9_ofThing_5 : decode cX9_ofThing 5 = .ok (.invokevirtual 86, 3) := by decide +kernel
theorem dX9_ofThing_8 : decode cX9_ofThing 8 = .ok (.astore_n 3, 1) := by decide +kernel
theorem dX9_ofThing_9 : decode cX9_ofThing 9 = .ok (.aload_n 3, 1) := by decide +kernel
theorem dX9_ofThing_10 : decode cX9_ofThing 10 = .ok (.ifnonnull 5, 3) := by decide +kernel
theorem dX9_ofThing_13 : decode cX9_ofThing 13 = .ok (.iconst (-1), 1) := by decide +kernel
theorem dX9_ofThing_14 : decode cX9_ofThing 14 = .ok (.ireturn, 1) := by decide +kernel
theorem dX9_ofThing_15 : decode cX9_ofThing 15 = .ok (.iload_n 2, 1) := by decide +kernel
theorem dX9_ofThing_16 : decode cX9_ofThing 16 = .ok (.tableswitch 77 0 5 #[40, 45, 50, 55, 60, 65], 40) := by decide +kernel
theorem dX9_ofThing_56 : decode cX9_ofThing 56 = .ok (.aload_n 3, 1) := by decide +kernel
theorem dX9_ofThing_57 : decode cX9_ofThing 57 = .ok (.invokevirtual 90, 3) := by decide +kernel
theorem dX9_ofThing_60 : decode cX9_ofThing 60 = .ok (.ireturn, 1) := by decide +kernel
theorem dX9_ofThing_61 : decode cX9_ofThing 61 = .ok (.aload_n 3, 1) := by decide +kernel
theorem dX9_ofThing_62 : decode cX9_ofThing 62 = .ok (.getfield 96, 3) := by decide +kernel
theorem dX9_ofThing_65 : decode cX9_ofThing 65 = .ok (.ireturn, 1) := by decide +kernel
theorem dX9_ofThing_66 : decode cX9_ofThing 66 = .ok (.aload_n 3, 1) := by decide +kernel
theorem dX9_ofThing_67 : decode cX9_ofThing 67 = .ok (.getfield 99, 3) := by decide +kernel
theorem dX9_ofThing_70 : decode cX9_ofThing 70 = .ok (.ireturn, 1) := by decide +kernel
theorem dX9_ofThing_71 : decode cX9_ofThing 71 = .ok (.aload_n 3, 1) := by decide +kernel
theorem dX9_ofThing_72 : decode cX9_ofThing 72 = .ok (.getfield 102, 3) := by decide +kernel
theorem dX9_ofThing_75 : decode cX9_ofThing 75 = .ok (.ireturn, 1) := by decide +kernel
theorem dX9_ofThing_76 : decode cX9_ofThing 76 = .ok (.aload_n 3, 1) := by decide +kernel
theorem dX9_ofThing_77 : decode cX9_ofThing 77 = .ok (.getfield 105, 3) := by decide +kernel
theorem dX9_ofThing_80 : decode cX9_ofThing 80 = .ok (.ireturn, 1) := by decide +kernel
theorem dX9_ofThing_81 : decode cX9_ofThing 81 = .ok (.aload_n 3, 1) := by decide +kernel
theorem dX9_ofThing_82 : decode cX9_ofThing 82 = .ok (.aload_n 0, 1) := by decide +kernel
theorem dX9_ofThing_83 : decode cX9_ofThing 83 = .ok (.getfield 12, 3) := by decide +kernel
theorem dX9_ofThing_86 : decode cX9_ofThing 86 = .ok (.getfield 108, 3) := by decide +kernel
theorem dX9_ofThing_89 : decode cX9_ofThing 89 = .ok (.invokevirtual 111, 3) := by decide +kernel
theorem dX9_ofThing_92 : decode cX9_ofThing 92 = .ok (.ireturn, 1) := by decide +kernel
theorem dX9_ofThing_93 : decode cX9_ofThing 93 = .ok (.bipush (-2), 2) := by decide +kernel
theorem dX9_ofThing_95 : decode cX9_ofThing 95 = .ok (.ireturn, 1) := by decide +kernel
theorem dX9_smithy_0 : decode cX9_smithy 0 = .ok (.iload_n 1, 1) := by decide +kernel
theorem dX9_smithy_1 : decode cX9_smithy 1 = .ok (.ifCond .lt 9, 3) := by decide +kernel
theorem dX9_smithy_4 : decode cX9_smithy 4 = .ok (.iload_n 1, 1) := by decide +kernel
theorem dX9_smithy_5 : decode cX9_smithy 5 = .ok (.bipush 9, 2) := by decide +kernel
theorem dX9_smithy_7 : decode cX9_smithy 7 = .ok (.if_icmp .le 6, 3) := by decide +kernel
theorem dX9_smithy_10 : decode cX9_smithy 10 = .ok (.bipush (-2), 2) := by decide +kernel
theorem dX9_smithy_12 : decode cX9_smithy 12 = .ok (.ireturn, 1) := by decide +kernel
theorem dX9_smithy_13 : decode cX9_smithy 13 = .ok (.aload_n 0, 1) := by decide +kernel
theorem dX9_smithy_14 : decode cX9_smithy 14 = .ok (.getfield 12, 3) := by decide +kernel
theorem dX9_smithy_17 : decode cX9_smithy 17 = .ok (.getfield 83, 3) := by decide +kernel
theorem dX9_smithy_20 : decode cX9_smithy 20 = .ok (.ifCond .ne 6, 3) := by decide +kernel
theorem dX9_smithy_23 : decode cX9_smithy 23 = .ok (.bipush (-3), 2) := by decide +kernel
theorem dX9_smithy_25 : decode cX9_smithy 25 = .ok (.ireturn, 1) := by decide +kernel
theorem dX9_smithy_26 : decode cX9_smithy 26 = .ok (.aload_n 0, 1) := by decide +kernel
theorem dX9_smithy_27 : decode cX9_smithy 27 = .ok (.getfield 12, 3) := by decide +kernel
theorem dX9_smithy_30 : decode cX9_smithy 30 = .ok (.getfield 115, 3) := by decide +kernel
theorem dX9_smithy_33 : decode cX9_smithy 33 = .ok (.istore_n 2, 1) := by decide +kernel
theorem dX9_smithy_34 : decode cX9_smithy 34 = .ok (.aload_n 0, 1) := by decide +kernel
theorem dX9_smithy_35 : decode cX9_smithy 35 = .ok (.getfield 12, 3) := by decide +kernel
theorem dX9_smithy_38 : decode cX9_smithy 38 = .ok (.iload_n 1, 1) := by decide +kernel
theorem dX9_smithy_39 : decode cX9_smithy 39 = .ok (.putfield 115, 3) := by decide +kernel
theorem dX9_smithy_42 : decode cX9_smithy 42 = .ok (.iload_n 2, 1) := by decide +kernel
theorem dX9_smithy_43 : decode cX9_smithy 43 = .ok (.ireturn, 1) := by decide +kernel
set_option maxRecDepth 20000 in
theorem ggX9_rust_X5_becomeRusty : GoodIn wsX9_rust wsX5_becomeRusty := goodIn_r _ [8, 9, 10, 11, 12, 13, 14, 15, 16, 17, 18, 19, 20, 21, 22, 23, 24, 25, 26, 27, 28, 29, 30, 31, 32, 33, 34, 35, 36, 37, 38, 47, 48, 49, 50, 51, 52, 53, 54, 55, 56, 57, 58, 59, 60, 61, 62, 63, 64, 65, 66, 67, 68, 69] (by decide +kernel) (by decide +kernel)
set_option maxRecDepth 20000 in
theorem gX9_rust_X5_becomeRusty : GoodIn wsX9_rust (wsV RX9 118 RX5 yX5_becomeRusty wsX5_becomeRusty) := goodIn_app (goodIn_of _ (by decide +kernel)) ggX9_rust_X5_becomeRusty
theorem dX9_rust_0 : decode cX9_rust 0 = .ok (.iload_n 1, 1) := by decide +kernel
theorem dX9_rust_1 : decode cX9_rust 1 = .ok (.ifCond .lt 9, 3) := by decide +kernel
theorem dX9_rust_4 : decode cX9_rust 4 = .ok (.iload_n 1, 1) := by decide +kernel
theorem dX9_rust_5 : decode cX9_rust 5 = .ok (.bipush 50, 2) := by decide +kernel
theorem dX9_rust_7 : decode cX9_rust 7 = .ok (.if_icmp .le 6, 3) := by decide +kernel
theorem dX9_rust_10 : decode cX9_rust 10 = .ok (.bipush (-2), 2) := by decide +kernel
theorem dX9_rust_12 : decode cX9_rust 12 = .ok (.ireturn, 1) := by decide +kernel
theorem dX9_rust_13 : decode cX9_rust 13 = .ok (.aload_n 0, 1) := by decide +kernel
theorem dX9_rust_14 : decode cX9_rust 14 = .ok (.getfield 12, 3) := by decide +kernel
theorem dX9_rust_17 : decode cX9_rust 17 = .ok (.getfield 83, 3) := by decide +kernel
theorem dX9_rust_20 : decode cX9_rust 20 = .ok (.ifCond .ne 6, 3) := by decide +kernel
theorem dX9_rust_23 : decode cX9_rust 23 = .ok (.bipush (-3), 2) := by decide +kernel
theorem dX9_rust_25 : decode cX9_rust 25 = .ok (.ireturn, 1) := by decide +kernel
theorem dX9_rust_26 : decode cX9_rust 26 = .ok (.aload_n 0, 1) := by decide +kernel
theorem dX9_rust_27 : decode cX9_rust 27 = .ok (.getfield 12, 3) := by decide +kernel
theorem dX9_rust_30 : decode cX9_rust 30 = .ok (.getfield 108, 3) := by decide +kernel
theorem dX9_rust_33 : decode cX9_rust 33 = .ok (.istore_n 2, 1) := by decide +kernel
theorem dX9_rust_34 : decode cX9_rust 34 = .ok (.aload_n 0, 1) := by decide +kernel
theorem dX9_rust_35 : decode cX9_rust 35 = .ok (.getfield 12, 3) := by decide +kernel
theorem dX9_rust_38 : decode cX9_rust 38 = .ok (.iload_n 1, 1) := by decide +kernel
theorem dX9_rust_39 : decode cX9_rust 39 = .ok (.invokevirtual 118, 3) := by decide +kernel
theorem dX9_rust_42 : decode cX9_rust 42 = .ok (.iload_n 2, 1) := by decide +kernel
theorem dX9_rust_43 : decode cX9_rust 43 = .ok (.ireturn, 1) := by decide +kernel
set_option maxRecDepth 20000 in
theorem ggX9_harm_X9_isLane : GoodIn wsX9_harm wsX9_isLane := goodIn_r _ [5] (by decide +kernel) (by decide +kernel)
set_option maxRecDepth 20000 in
theorem gX9_harm_X9_isLane : GoodIn wsX9_harm (va_wsS RX9 63 yX9_isLane wsX9_isLane) := goodIn_app (goodIn_of _ (by decide +kernel)) ggX9_harm_X9_isLane
set_option maxRecDepth 20000 in
theorem ggX9_harm_X9_isSpan : GoodIn wsX9_harm wsX9_isSpan := goodIn_r _ [8] (by decide +kernel) (by decide +kernel)
set_option maxRecDepth 20000 in
theorem gX9_harm_X9_isSpan : GoodIn wsX9_harm (va_wsS RX9 122 yX9_isSpan wsX9_isSpan) := goodIn_app (goodIn_of _ (by decide +kernel)) ggX9_harm_X9_isSpan
set_option maxRecDepth 20000 in
theorem ggX9_harm_X9_refuseRound : GoodIn wsX9_harm wsX9_refuseRound := goodIn_r _ [12, 13, 14, 1, 15, 16, 17, 4, 18, 19, 20, 21, 22, 23, 24, 25, 26, 27, 28, 29, 30, 31, 32, 33, 34, 35, 36, 37, 38, 39, 40, 41, 42, 43, 44, 45, 46, 47, 48, 49, 50, 51, 52, 53, 54, 55, 56, 57, 58, 59, 60, 61, 62, 63, 64, 65, 66, 67, 68, 69, 70, 71, 113, 114, 115, 116, 117, 118, 119, 120, 121, 122, 123, 124, 125, 126, 127, 128, 129, 130, 131, 132, 133, 134, 135, 136, 137, 138, 139, 140, 141] (by decide +kernel) (by decide +kernel)
set_option maxRecDepth 20000 in
theorem gX9_harm_X9_refuseRound : GoodIn wsX9_harm (wsV RX9 125 RX9 yX9_refuseRound wsX9_refuseRound) := goodIn_app (goodIn_of _ (by decide +kernel)) ggX9_harm_X9_refuseRound
set_option maxRecDepth 20000 in
theorem ggX9_harm_X8_markFalls : GoodIn wsX9_harm wsX8_markFalls := goodIn_r _ [75, 76, 77, 78, 79, 80, 81, 82, 83, 84, 63, 85, 86, 87, 88, 89, 90, 91, 92, 93, 94, 70, 95, 96, 97, 67, 98, 99, 69, 100, 101, 102, 103, 104, 105, 106, 107, 132, 133, 134, 135, 136, 137, 138, 139, 140, 141, 121, 122, 123, 124, 125, 126, 127, 128] (by decide +kernel) (by decide +kernel)
set_option maxRecDepth 20000 in
theorem gX9_harm_X8_markFalls : GoodIn wsX9_harm (wsV RX9 128 RX8 yX8_markFalls wsX8_markFalls) := goodIn_app (goodIn_of _ (by decide +kernel)) ggX9_harm_X8_markFalls
set_option maxRecDepth 20000 in
theorem ggX9_harm_X8_harmBelow : GoodIn wsX9_harm wsX8_harmBelow := goodIn_r _ [111, 76, 80, 81, 112, 132, 133, 134, 135, 136, 137, 138, 139, 140, 141, 121, 122, 123, 124, 125, 126, 127, 128] (by decide +kernel) (by decide +kernel)
set_option maxRecDepth 20000 in
theorem gX9_harm_X8_harmBelow : GoodIn wsX9_harm (wsV RX9 131 RX8 yX8_harmBelow wsX8_harmBelow) := goodIn_app (goodIn_of _ (by decide +kernel)) ggX9_harm_X8_harmBelow
theorem dX9_harm_0 : decode cX9_harm 0 = .ok (.aload_n 0, 1) := by decide +kernel
theorem dX9_harm_1 : decode cX9_harm 1 = .ok (.iload_n 1, 1) := by decide +kernel
theorem dX9_harm_2 : decode cX9_harm 2 = .ok (.iload_n 2, 1) := by decide +kernel
theorem dX9_harm_3 : decode cX9_harm 3 = .ok (.invokestatic 63, 3) := by decide +kernel
theorem dX9_harm_6 : decode cX9_harm 6 = .ok (.ifCond .eq 15, 3) := by decide +kernel
theorem dX9_harm_9 : decode cX9_harm 9 = .ok (.iload 5, 2) := by decide +kernel
theorem dX9_harm_11 : decode cX9_harm 11 = .ok (.invokestatic 122, 3) := by decide +kernel
theorem dX9_harm_14 : decode cX9_harm 14 = .ok (.ifCond .eq 7, 3) := by decide +kernel
theorem dX9_harm_17 : decode cX9_harm 17 = .ok (.iconst 1, 1) := by decide +kernel
theorem dX9_harm_18 : decode cX9_harm 18 = .ok (.goto 4, 3) := by decide +kernel
theorem dX9_harm_21 : decode cX9_harm 21 = .ok (.iconst 0, 1) := by decide +kernel
theorem dX9_harm_22 : decode cX9_harm 22 = .ok (.iload_n 2, 1) := by decide +kernel
theorem dX9_harm_23 : decode cX9_harm 23 = .ok (.iload_n 3, 1) := by decide +kernel
theorem dX9_harm_24 : decode cX9_harm 24 = .ok (.iload 4, 2) := by decide +kernel
theorem dX9_harm_26 : decode cX9_harm 26 = .ok (.invokevirtual 125, 3) := by decide +kernel
theorem dX9_harm_29 : decode cX9_harm 29 = .ok (.istore 6, 2) := by decide +kernel
theorem dX9_harm_31 : decode cX9_harm 31 = .ok (.iload 6, 2) := by decide +kernel
theorem dX9_harm_33 : decode cX9_harm 33 = .ok (.ifCond .eq 6, 3) := by decide +kernel
theorem dX9_harm_36 : decode cX9_harm 36 = .ok (.iload 6, 2) := by decide +kernel
theorem dX9_harm_38 : decode cX9_harm 38 = .ok (.ireturn, 1) := by decide +kernel
theorem dX9_harm_39 : decode cX9_harm 39 = .ok (.aload_n 0, 1) := by decide +kernel
theorem dX9_harm_40 : decode cX9_harm 40 = .ok (.getfield 30, 3) := by decide +kernel
theorem dX9_harm_43 : decode cX9_harm 43 = .ok (.invokevirtual 128, 3) := by decide +kernel
theorem dX9_harm_46 : decode cX9_harm 46 = .ok (.aload_n 0, 1) := by decide +kernel
theorem dX9_harm_47 : decode cX9_harm 47 = .ok (.getfield 30, 3) := by decide +kernel
theorem dX9_harm_50 : decode cX9_harm 50 = .ok (.iload 5, 2) := by decide +kernel
theorem dX9_harm_52 : decode cX9_harm 52 = .ok (.invokevirtual 131, 3) := by decide +kernel
theorem dX9_harm_55 : decode cX9_harm 55 = .ok (.ireturn, 1) := by decide +kernel
set_option maxRecDepth 20000 in
theorem ggX9_never_X9_isLane : GoodIn wsX9_never wsX9_isLane := goodIn_r _ [5] (by decide +kernel) (by decide +kernel)
set_option maxRecDepth 20000 in
theorem gX9_never_X9_isLane : GoodIn wsX9_never (va_wsS RX9 63 yX9_isLane wsX9_isLane) := goodIn_app (goodIn_of _ (by decide +kernel)) ggX9_never_X9_isLane
set_option maxRecDepth 20000 in
theorem ggX9_never_X9_refuseRound : GoodIn wsX9_never wsX9_refuseRound := goodIn_r _ [9, 10, 11, 1, 12, 13, 14, 4, 15, 16, 17, 18, 19, 20, 21, 22, 23, 24, 25, 26, 27, 28, 29, 30, 31, 32, 33, 34, 35, 36, 37, 38, 39, 40, 41, 42, 43, 44, 45, 46, 47, 48, 49, 50, 51, 52, 53, 54, 55, 56, 57, 58, 59, 60, 61, 62, 63, 64, 65, 66, 67, 68, 104, 105, 106, 107, 108, 109, 110, 111, 112, 113, 114, 115, 116, 117, 118, 119, 120, 121, 122, 123, 124, 125, 126, 127, 128, 129, 130, 131, 132] (by decide +kernel) (by decide +kernel)
set_option maxRecDepth 20000 in
theorem gX9_never_X9_refuseRound : GoodIn wsX9_never (wsV RX9 125 RX9 yX9_refuseRound wsX9_refuseRound) := goodIn_app (goodIn_of _ (by decide +kernel)) ggX9_never_X9_refuseRound
set_option maxRecDepth 20000 in
theorem ggX9_never_X8_nothingEverFalls : GoodIn wsX9_never wsX8_nothingEverFalls := goodIn_r _ [72, 66, 73, 74, 75, 76, 77, 78, 79, 60, 80, 81, 82, 83, 84, 85, 86, 87, 88, 89, 90, 67, 91, 92, 93, 64, 94, 95, 96, 97, 98, 99, 100, 101, 102, 54, 103, 56, 123, 124, 125, 126, 127, 128, 129, 130, 131, 132, 112, 113, 114, 115, 116, 117, 118, 119] (by decide +kernel) (by decide +kernel)
set_option maxRecDepth 20000 in
theorem gX9_never_X8_nothingEverFalls : GoodIn wsX9_never (wsV RX9 134 RX8 yX8_nothingEverFalls wsX8_nothingEverFalls) := goodIn_app (goodIn_of _ (by decide +kernel)) ggX9_never_X8_nothingEverFalls
theorem dX9_never_0 : decode cX9_never 0 = .ok (.aload_n 0, 1) := by decide +kernel
theorem dX9_never_1 : decode cX9_never 1 = .ok (.iload_n 1, 1) := by decide +kernel
theorem dX9_never_2 : decode cX9_never 2 = .ok (.iload_n 2, 1) := by decide +kernel
theorem dX9_never_3 : decode cX9_never 3 = .ok (.invokestatic 63, 3) := by decide +kernel
theorem dX9_never_6 : decode cX9_never 6 = .ok (.iload_n 2, 1) := by decide +kernel
theorem dX9_never_7 : decode cX9_never 7 = .ok (.iload_n 3, 1) := by decide +kernel
theorem dX9_never_8 : decode cX9_never 8 = .ok (.iload 4, 2) := by decide +kernel
theorem dX9_never_10 : decode cX9_never 10 = .ok (.invokevirtual 125, 3) := by decide +kernel
theorem dX9_never_13 : decode cX9_never 13 = .ok (.istore 5, 2) := by decide +kernel
theorem dX9_never_15 : decode cX9_never 15 = .ok (.iload 5, 2) := by decide +kernel
theorem dX9_never_17 : decode cX9_never 17 = .ok (.ifCond .eq 6, 3) := by decide +kernel
theorem dX9_never_20 : decode cX9_never 20 = .ok (.iload 5, 2) := by decide +kernel
theorem dX9_never_22 : decode cX9_never 22 = .ok (.ireturn, 1) := by decide +kernel
theorem dX9_never_23 : decode cX9_never 23 = .ok (.aload_n 0, 1) := by decide +kernel
theorem dX9_never_24 : decode cX9_never 24 = .ok (.getfield 30, 3) := by decide +kernel
theorem dX9_never_27 : decode cX9_never 27 = .ok (.invokevirtual 134, 3) := by decide +kernel
theorem dX9_never_30 : decode cX9_never 30 = .ok (.ifCond .eq 7, 3) := by decide +kernel
theorem dX9_never_33 : decode cX9_never 33 = .ok (.iconst 1, 1) := by decide +kernel
theorem dX9_never_34 : decode cX9_never 34 = .ok (.goto 4, 3) := by decide +kernel
theorem dX9_never_37 : decode cX9_never 37 = .ok (.iconst 0, 1) := by decide +kernel
theorem dX9_never_38 : decode cX9_never 38 = .ok (.ireturn, 1) := by decide +kernel
set_option maxRecDepth 20000 in
theorem ggX9_fall_X9_isLane : GoodIn wsX9_fall wsX9_isLane := goodIn_r _ [5] (by decide +kernel) (by decide +kernel)
set_option maxRecDepth 20000 in
theorem gX9_fall_X9_isLane : GoodIn wsX9_fall (va_wsS RX9 63 yX9_isLane wsX9_isLane) := goodIn_app (goodIn_of _ (by decide +kernel)) ggX9_fall_X9_isLane
set_option maxRecDepth 20000 in
theorem ggX9_fall_X9_refuseRound : GoodIn wsX9_fall wsX9_refuseRound := goodIn_r _ [9, 10, 11, 1, 12, 13, 14, 4, 15, 16, 17, 18, 19, 20, 21, 22, 23, 24, 25, 26, 27, 28, 29, 30, 31, 32, 33, 34, 35, 36, 37, 38, 39, 40, 41, 42, 43, 44, 45, 46, 47, 48, 49, 50, 51, 52, 53, 54, 55, 56, 57, 58, 59, 60, 61, 62, 63, 64, 65, 66, 67, 68, 120, 121, 122, 123, 124, 125, 126, 127, 128, 129, 130, 131, 132, 133, 134, 135, 136, 137, 138, 139, 140, 141, 142, 143, 144, 145, 146, 147, 148] (by decide +kernel) (by decide +kernel)
set_option maxRecDepth 20000 in
theorem gX9_fall_X9_refuseRound : GoodIn wsX9_fall (wsV RX9 125 RX9 yX9_refuseRound wsX9_refuseRound) := goodIn_app (goodIn_of _ (by decide +kernel)) ggX9_fall_X9_refuseRound
set_option maxRecDepth 20000 in
theorem ggX9_fall_X8_markFalls : GoodIn wsX9_fall wsX8_markFalls := goodIn_r _ [72, 73, 74, 75, 76, 77, 78, 79, 80, 81, 60, 82, 83, 84, 85, 86, 87, 88, 89, 90, 91, 67, 92, 93, 94, 64, 95, 96, 66, 97, 98, 99, 100, 101, 102, 103, 104, 139, 140, 141, 142, 143, 144, 145, 146, 147, 148, 128, 129, 130, 131, 132, 133, 134, 135] (by decide +kernel) (by decide +kernel)
set_option maxRecDepth 20000 in
theorem gX9_fall_X8_markFalls : GoodIn wsX9_fall (wsV RX9 128 RX8 yX8_markFalls wsX8_markFalls) := goodIn_app (goodIn_of _ (by decide +kernel)) ggX9_fall_X8_markFalls
set_option maxRecDepth 20000 in
theorem ggX9_fall_X8_countFalls : GoodIn wsX9_fall wsX8_countFalls := goodIn_r _ [108, 73, 109, 110, 111, 112, 113, 114, 115, 139, 140, 141, 142, 143, 144, 145, 146, 147, 148] (by decide +kernel) (by decide +kernel)
set_option maxRecDepth 20000 in
theorem gX9_fall_X8_countFalls : GoodIn wsX9_fall (wsV RX9 138 RX8 yX8_countFalls wsX8_countFalls) := goodIn_app (goodIn_of _ (by decide +kernel)) ggX9_fall_X8_countFalls
set_option maxRecDepth 20000 in
theorem ggX9_fall_X8_fallNumber : GoodIn wsX9_fall wsX8_fallNumber := goodIn_r _ [119, 73, 77, 78, 139, 140, 141, 142, 143, 144, 145, 146, 147, 148, 128, 129, 130, 131, 132, 133, 134, 135] (by decide +kernel) (by decide +kernel)
set_option maxRecDepth 20000 in
theorem gX9_fall_X8_fallNumber : GoodIn wsX9_fall (wsV RX9 141 RX8 yX8_fallNumber wsX8_fallNumber) := goodIn_app (goodIn_of _ (by decide +kernel)) ggX9_fall_X8_fallNumber
theorem dX9_fall_0 : decode cX9_fall 0 = .ok (.aload_n 0, 1) := by decide +kernel
theorem dX9_fall_1 : decode cX9_fall 1 = .ok (.iload 5, 2) := by decide +kernel
theorem dX9_fall_3 : decode cX9_fall 3 = .ok (.iconst (-1), 1) := by decide +kernel
theorem dX9_fall_4 : decode cX9_fall 4 = .ok (.if_icmp .ge 7, 3) := by decide +kernel
theorem dX9_fall_7 : decode cX9_fall 7 = .ok (.iconst (-1), 1) := by decide +kernel
theorem dX9_fall_8 : decode cX9_fall 8 = .ok (.goto 4, 3) := by decide +kernel
theorem dX9_fall_11 : decode cX9_fall 11 = .ok (.iload_n 1, 1) := by decide +kernel
theorem dX9_fall_12 : decode cX9_fall 12 = .ok (.iload_n 2, 1) := by decide +kernel
theorem dX9_fall_13 : decode cX9_fall 13 = .ok (.invokestatic 63, 3) := by decide +kernel
theorem dX9_fall_16 : decode cX9_fall 16 = .ok (.iload_n 2, 1) := by decide +kernel
theorem dX9_fall_17 : decode cX9_fall 17 = .ok (.iload_n 3, 1) := by decide +kernel
theorem dX9_fall_18 : decode cX9_fall 18 = .ok (.iload 4, 2) := by decide +kernel
theorem dX9_fall_20 : decode cX9_fall 20 = .ok (.invokevirtual 125, 3) := by decide +kernel
theorem dX9_fall_23 : decode cX9_fall 23 = .ok (.istore 6, 2) := by decide +kernel
theorem dX9_fall_25 : decode cX9_fall 25 = .ok (.iload 6, 2) := by decide +kernel
theorem dX9_fall_27 : decode cX9_fall 27 = .ok (.ifCond .eq 6, 3) := by decide +kernel
theorem dX9_fall_30 : decode cX9_fall 30 = .ok (.iload 6, 2) := by decide +kernel
theorem dX9_fall_32 : decode cX9_fall 32 = .ok (.ireturn, 1) := by decide +kernel
theorem dX9_fall_33 : decode cX9_fall 33 = .ok (.aload_n 0, 1) := by decide +kernel
theorem dX9_fall_34 : decode cX9_fall 34 = .ok (.getfield 30, 3) := by decide +kernel
theorem dX9_fall_37 : decode cX9_fall 37 = .ok (.invokevirtual 128, 3) := by decide +kernel
theorem dX9_fall_40 : decode cX9_fall 40 = .ok (.iload 5, 2) := by decide +kernel
theorem dX9_fall_42 : decode cX9_fall 42 = .ok (.iconst (-1), 1) := by decide +kernel
theorem dX9_fall_43 : decode cX9_fall 43 = .ok (.if_icmp .ne 13, 3) := by decide +kernel
theorem dX9_fall_46 : decode cX9_fall 46 = .ok (.aload_n 0, 1) := by decide +kernel
theorem dX9_fall_47 : decode cX9_fall 47 = .ok (.getfield 30, 3) := by decide +kernel
theorem dX9_fall_50 : decode cX9_fall 50 = .ok (.invokevirtual 138, 3) := by decide +kernel
theorem dX9_fall_53 : decode cX9_fall 53 = .ok (.goto 12, 3) := by decide +kernel
theorem dX9_fall_56 : decode cX9_fall 56 = .ok (.aload_n 0, 1) := by decide +kernel
theorem dX9_fall_57 : decode cX9_fall 57 = .ok (.getfield 30, 3) := by decide +kernel
theorem dX9_fall_60 : decode cX9_fall 60 = .ok (.iload 5, 2) := by decide +kernel
theorem dX9_fall_62 : decode cX9_fall 62 = .ok (.invokevirtual 141, 3) := by decide +kernel
theorem dX9_fall_65 : decode cX9_fall 65 = .ok (.ireturn, 1) := by decide +kernel
set_option maxRecDepth 20000 in
theorem ggX9_nail_X9_isLane : GoodIn wsX9_nail wsX9_isLane := goodIn_r _ [5] (by decide +kernel) (by decide +kernel)
set_option maxRecDepth 20000 in
theorem gX9_nail_X9_isLane : GoodIn wsX9_nail (va_wsS RX9 63 yX9_isLane wsX9_isLane) := goodIn_app (goodIn_of _ (by decide +kernel)) ggX9_nail_X9_isLane
set_option maxRecDepth 20000 in
theorem ggX9_nail_X9_isMinute : GoodIn wsX9_nail wsX9_isMinute := goodIn_r _ [8] (by decide +kernel) (by decide +kernel)
set_option maxRecDepth 20000 in
theorem gX9_nail_X9_isMinute : GoodIn wsX9_nail (va_wsS RX9 144 yX9_isMinute wsX9_isMinute) := goodIn_app (goodIn_of _ (by decide +kernel)) ggX9_nail_X9_isMinute
set_option maxRecDepth 20000 in
theorem ggX9_nail_X9_refuseRound : GoodIn wsX9_nail wsX9_refuseRound := goodIn_r _ [12, 13, 14, 1, 15, 16, 17, 4, 18, 19, 20, 21, 22, 23, 24, 25, 26, 27, 28, 29, 30, 31, 32, 33, 34, 35, 36, 37, 38, 39, 40, 41, 42, 43, 44, 45, 46, 47, 48, 49, 50, 51, 52, 53, 54, 55, 56, 57, 58, 59, 60, 61, 62, 63, 64, 65, 66, 67, 68, 69, 70, 71, 99, 100, 101, 102, 103, 104, 105, 106, 107, 108, 109, 110, 111, 112, 113, 114, 115, 116, 117, 118, 119, 120, 121, 122, 123, 124, 125, 126, 127] (by decide +kernel) (by decide +kernel)
set_option maxRecDepth 20000 in
theorem gX9_nail_X9_refuseRound : GoodIn wsX9_nail (wsV RX9 125 RX9 yX9_refuseRound wsX9_refuseRound) := goodIn_app (goodIn_of _ (by decide +kernel)) ggX9_nail_X9_refuseRound
set_option maxRecDepth 20000 in
theorem ggX9_nail_X8_whereAt : GoodIn wsX9_nail wsX8_whereAt := goodIn_r _ [75, 76, 77, 78, 79, 80, 81, 63, 82, 83, 84, 85, 86, 87, 88, 89, 90, 91, 92, 93, 70, 94, 95, 96, 67, 97, 98, 69, 118, 119, 120, 121, 122, 123, 124, 125, 126, 127, 107, 108, 109, 110, 111, 112, 113, 114] (by decide +kernel) (by decide +kernel)
set_option maxRecDepth 20000 in
theorem gX9_nail_X8_whereAt : GoodIn wsX9_nail (wsV RX9 147 RX8 yX8_whereAt wsX8_whereAt) := goodIn_app (goodIn_of _ (by decide +kernel)) ggX9_nail_X8_whereAt
theorem dX9_nail_0 : decode cX9_nail 0 = .ok (.aload_n 0, 1) := by decide +kernel
theorem dX9_nail_1 : decode cX9_nail 1 = .ok (.iload_n 1, 1) := by decide +kernel
theorem dX9_nail_2 : decode cX9_nail 2 = .ok (.iload_n 2, 1) := by decide +kernel
theorem dX9_nail_3 : decode cX9_nail 3 = .ok (.invokestatic 63, 3) := by decide +kernel
theorem dX9_nail_6 : decode cX9_nail 6 = .ok (.ifCond .eq 15, 3) := by decide +kernel
theorem dX9_nail_9 : decode cX9_nail 9 = .ok (.iload 5, 2) := by decide +kernel
theorem dX9_nail_11 : decode cX9_nail 11 = .ok (.invokestatic 144, 3) := by decide +kernel
theorem dX9_nail_14 : decode cX9_nail 14 = .ok (.ifCond .eq 7, 3) := by decide +kernel
theorem dX9_nail_17 : decode cX9_nail 17 = .ok (.iconst 1, 1) := by decide +kernel
theorem dX9_nail_18 : decode cX9_nail 18 = .ok (.goto 4, 3) := by decide +kernel
theorem dX9_nail_21 : decode cX9_nail 21 = .ok (.iconst 0, 1) := by decide +kernel
theorem dX9_nail_22 : decode cX9_nail 22 = .ok (.iload_n 2, 1) := by decide +kernel
theorem dX9_nail_23 : decode cX9_nail 23 = .ok (.iload_n 3, 1) := by decide +kernel
theorem dX9_nail_24 : decode cX9_nail 24 = .ok (.iload 4, 2) := by decide +kernel
theorem dX9_nail_26 : decode cX9_nail 26 = .ok (.invokevirtual 125, 3) := by decide +kernel
theorem dX9_nail_29 : decode cX9_nail 29 = .ok (.istore 6, 2) := by decide +kernel
theorem dX9_nail_31 : decode cX9_nail 31 = .ok (.iload 6, 2) := by decide +kernel
theorem dX9_nail_33 : decode cX9_nail 33 = .ok (.ifCond .eq 6, 3) := by decide +kernel
theorem dX9_nail_36 : decode cX9_nail 36 = .ok (.iload 6, 2) := by decide +kernel
theorem dX9_nail_38 : decode cX9_nail 38 = .ok (.ireturn, 1) := by decide +kernel
theorem dX9_nail_39 : decode cX9_nail 39 = .ok (.aload_n 0, 1) := by decide +kernel
theorem dX9_nail_40 : decode cX9_nail 40 = .ok (.getfield 30, 3) := by decide +kernel
theorem dX9_nail_43 : decode cX9_nail 43 = .ok (.iload 5, 2) := by decide +kernel
theorem dX9_nail_45 : decode cX9_nail 45 = .ok (.invokevirtual 147, 3) := by decide +kernel
theorem dX9_nail_48 : decode cX9_nail 48 = .ok (.ireturn, 1) := by decide +kernel
set_option maxRecDepth 20000 in
theorem ggX9_best_X9_isSpan : GoodIn wsX9_best wsX9_isSpan := goodIn_r _ [8] (by decide +kernel) (by decide +kernel)
set_option maxRecDepth 20000 in
theorem gX9_best_X9_isSpan : GoodIn wsX9_best (va_wsS RX9 122 yX9_isSpan wsX9_isSpan) := goodIn_app (goodIn_of _ (by decide +kernel)) ggX9_best_X9_isSpan
set_option maxRecDepth 20000 in
theorem ggX9_best_X5_all : GoodIn wsX9_best wsX5_all := goodIn_r _ [13, 14, 77, 78, 79, 80, 81, 82, 83, 84] (by decide +kernel) (by decide +kernel)
set_option maxRecDepth 20000 in
theorem gX9_best_X5_all : GoodIn wsX9_best (wsV RX9 150 RX5 yX5_all wsX5_all) := goodIn_app (goodIn_of _ (by decide +kernel)) ggX9_best_X5_all
set_option maxRecDepth 20000 in
theorem ggX9_best_X2_leastHarm : GoodIn wsX9_best wsX2_leastHarm := goodIn_r _ [19, 20, 21, 22, 23, 18, 24, 25, 26, 27, 28, 29, 30, 31, 32, 33, 34, 35, 36, 37, 38, 39, 40, 41, 42, 43, 44, 45, 46, 47, 48, 49, 50, 51, 52, 53, 54, 55, 56, 57, 58, 59, 60, 61, 62, 63, 64, 85, 86, 87, 88, 89, 90, 77, 78, 79, 80, 81, 82, 83, 84] (by decide +kernel) (by decide +kernel)
set_option maxRecDepth 20000 in
theorem gX9_best_X2_leastHarm : GoodIn wsX9_best (wsV RX9 153 RX2 yX2_leastHarm wsX2_leastHarm) := goodIn_app (goodIn_of _ (by decide +kernel)) ggX9_best_X2_leastHarm
set_option maxRecDepth 20000 in
theorem ggX9_best_X2_keptAt : GoodIn wsX9_best wsX2_keptAt := goodIn_r _ [68, 25, 56, 85, 86, 87, 88, 89, 90] (by decide +kernel) (by decide +kernel)
set_option maxRecDepth 20000 in
theorem gX9_best_X2_keptAt : GoodIn wsX9_best (wsV RX9 157 RX2 yX2_keptAt wsX2_keptAt) := goodIn_app (goodIn_of _ (by decide +kernel)) ggX9_best_X2_keptAt
theorem dX9_best_0 : decode cX9_best 0 = .ok (.aload_n 0, 1) := by decide +kernel
theorem dX9_best_1 : decode cX9_best 1 = .ok (.getfield 12, 3) := by decide +kernel
theorem dX9_best_4 : decode cX9_best 4 = .ok (.getfield 83, 3) := by decide +kernel
theorem dX9_best_7 : decode cX9_best 7 = .ok (.ifCond .ne 6, 3) := by decide +kernel
theorem dX9_best_10 : decode cX9_best 10 = .ok (.bipush (-3), 2) := by decide +kernel
theorem dX9_best_12 : decode cX9_best 12 = .ok (.ireturn, 1) := by decide +kernel
theorem dX9_best_13 : decode cX9_best 13 = .ok (.iload_n 1, 1) := by decide +kernel
theorem dX9_best_14 : decode cX9_best 14 = .ok (.invokestatic 122, 3) := by decide +kernel
theorem dX9_best_17 : decode cX9_best 17 = .ok (.ifCond .ne 6, 3) := by decide +kernel
theorem dX9_best_20 : decode cX9_best 20 = .ok (.bipush (-2), 2) := by decide +kernel
theorem dX9_best_22 : decode cX9_best 22 = .ok (.ireturn, 1) := by decide +kernel
theorem dX9_best_23 : decode cX9_best 23 = .ok (.iload_n 2, 1) := by decide +kernel
theorem dX9_best_24 : decode cX9_best 24 = .ok (.iconst (-1), 1) := by decide +kernel
theorem dX9_best_25 : decode cX9_best 25 = .ok (.if_icmp .lt 14, 3) := by decide +kernel
theorem dX9_best_28 : decode cX9_best 28 = .ok (.iload_n 2, 1) := by decide +kernel
theorem dX9_best_29 : decode cX9_best 29 = .ok (.aload_n 0, 1) := by decide +kernel
theorem dX9_best_30 : decode cX9_best 30 = .ok (.getfield 12, 3) := by decide +kernel
theorem dX9_best_33 : decode cX9_best 33 = .ok (.getfield 83, 3) := by decide +kernel
theorem dX9_best_36 : decode cX9_best 36 = .ok (.if_icmp .lt 5, 3) := by decide +kernel
theorem dX9_best_39 : decode cX9_best 39 = .ok (.iconst (-1), 1) := by decide +kernel
theorem dX9_best_40 : decode cX9_best 40 = .ok (.ireturn, 1) := by decide +kernel
theorem dX9_best_41 : decode cX9_best 41 = .ok (.aload_n 0, 1) := by decide +kernel
theorem dX9_best_42 : decode cX9_best 42 = .ok (.getfield 37, 3) := by decide +kernel
theorem dX9_best_45 : decode cX9_best 45 = .ok (.aload_n 0, 1) := by decide +kernel
theorem dX9_best_46 : decode cX9_best 46 = .ok (.getfield 12, 3) := by decide +kernel
theorem dX9_best_49 : decode cX9_best 49 = .ok (.invokevirtual 150, 3) := by decide +kernel
theorem dX9_best_52 : decode cX9_best 52 = .ok (.aload_n 0, 1) := by decide +kernel
theorem dX9_best_53 : decode cX9_best 53 = .ok (.getfield 12, 3) := by decide +kernel
theorem dX9_best_56 : decode cX9_best 56 = .ok (.getfield 115, 3) := by decide +kernel
theorem dX9_best_59 : decode cX9_best 59 = .ok (.iload_n 1, 1) := by decide +kernel
theorem dX9_best_60 : decode cX9_best 60 = .ok (.invokevirtual 153, 3) := by decide +kernel
theorem dX9_best_63 : decode cX9_best 63 = .ok (.istore_n 3, 1) := by decide +kernel
theorem dX9_best_64 : decode cX9_best 64 = .ok (.iload_n 2, 1) := by decide +kernel
theorem dX9_best_65 : decode cX9_best 65 = .ok (.iconst (-1), 1) := by decide +kernel
theorem dX9_best_66 : decode cX9_best 66 = .ok (.if_icmp .ne 7, 3) := by decide +kernel
theorem dX9_best_69 : decode cX9_best 69 = .ok (.iload_n 3, 1) := by decide +kernel
theorem dX9_best_70 : decode cX9_best 70 = .ok (.goto 11, 3) := by decide +kernel
theorem dX9_best_73 : decode cX9_best 73 = .ok (.aload_n 0, 1) := by decide +kernel
theorem dX9_best_74 : decode cX9_best 74 = .ok (.getfield 37, 3) := by decide +kernel
theorem dX9_best_77 : decode cX9_best 77 = .ok (.iload_n 2, 1) := by decide +kernel
theorem dX9_best_78 : decode cX9_best 78 = .ok (.invokevirtual 157, 3) := by decide +kernel
theorem dX9_best_81 : decode cX9_best 81 = .ok (.ireturn, 1) := by decide +kernel
set_option maxRecDepth 20000 in
theorem ggX9_safe_X5_all : GoodIn wsX9_safe wsX5_all := goodIn_r _ [9, 10, 59, 60, 61, 62, 63, 64, 65, 66] (by decide +kernel) (by decide +kernel)
set_option maxRecDepth 20000 in
theorem gX9_safe_X5_all : GoodIn wsX9_safe (wsV RX9 150 RX5 yX5_all wsX5_all) := goodIn_app (goodIn_of _ (by decide +kernel)) ggX9_safe_X5_all
set_option maxRecDepth 20000 in
theorem ggX9_safe_X2_countSafe : GoodIn wsX9_safe wsX2_countSafe := goodIn_r _ [15, 16, 17, 18, 19, 20, 14, 21, 22, 23, 24, 25, 26, 27, 28, 29, 30, 31, 32, 33, 34, 35, 36, 37, 38, 39, 40, 41, 42, 43, 44, 45, 46, 47, 48, 49, 50, 67, 68, 69, 70, 71, 72, 59, 60, 61, 62, 63, 64, 65, 66] (by decide +kernel) (by decide +kernel)
set_option maxRecDepth 20000 in
theorem gX9_safe_X2_countSafe : GoodIn wsX9_safe (wsV RX9 163 RX2 yX2_countSafe wsX2_countSafe) := goodIn_app (goodIn_of _ (by decide +kernel)) ggX9_safe_X2_countSafe
theorem dX9_safe_0 : decode cX9_safe 0 = .ok (.aload_n 0, 1) := by decide +kernel
theorem dX9_safe_1 : decode cX9_safe 1 = .ok (.getfield 12, 3) := by decide +kernel
theorem dX9_safe_4 : decode cX9_safe 4 = .ok (.getfield 83, 3) := by decide +kernel
theorem dX9_safe_7 : decode cX9_safe 7 = .ok (.ifCond .ne 6, 3) := by decide +kernel
theorem dX9_safe_10 : decode cX9_safe 10 = .ok (.bipush (-3), 2) := by decide +kernel
theorem dX9_safe_12 : decode cX9_safe 12 = .ok (.ireturn, 1) := by decide +kernel
theorem dX9_safe_13 : decode cX9_safe 13 = .ok (.aload_n 0, 1) := by decide +kernel
theorem dX9_safe_14 : decode cX9_safe 14 = .ok (.getfield 37, 3) := by decide +kernel
theorem dX9_safe_17 : decode cX9_safe 17 = .ok (.aload_n 0, 1) := by decide +kernel
theorem dX9_safe_18 : decode cX9_safe 18 = .ok (.getfield 12, 3) := by decide +kernel
theorem dX9_safe_21 : decode cX9_safe 21 = .ok (.invokevirtual 150, 3) := by decide +kernel
theorem dX9_safe_24 : decode cX9_safe 24 = .ok (.ldc 162, 2) := by decide +kernel
theorem dX9_safe_26 : decode cX9_safe 26 = .ok (.invokevirtual 163, 3) := by decide +kernel
theorem dX9_safe_29 : decode cX9_safe 29 = .ok (.ireturn, 1) := by decide +kernel
set_option maxRecDepth 20000 in
theorem ggX9_letGo_X5_all : GoodIn wsX9_letGo wsX5_all := goodIn_r _ [8, 9, 65, 66, 67, 68, 69, 70, 71, 72] (by decide +kernel) (by decide +kernel)
set_option maxRecDepth 20000 in
theorem gX9_letGo_X5_all : GoodIn wsX9_letGo (wsV RX9 150 RX5 yX5_all wsX5_all) := goodIn_app (goodIn_of _ (by decide +kernel)) ggX9_letGo_X5_all
set_option maxRecDepth 20000 in
theorem ggX9_letGo_J6_bitCount_0f7a4 : GoodIn wsX9_letGo wsJ6_bitCount_0f7a4 := goodIn_r _ [13, 14, 15, 16] (by decide +kernel) (by decide +kernel)
set_option maxRecDepth 20000 in
theorem gX9_letGo_J6_bitCount_0f7a4 : GoodIn wsX9_letGo (va_wsS RX9 167 yJ6_bitCount_0f7a4 wsJ6_bitCount_0f7a4) := goodIn_app (goodIn_of _ (by decide +kernel)) ggX9_letGo_J6_bitCount_0f7a4
set_option maxRecDepth 20000 in
theorem ggX9_letGo_X2_countSafe : GoodIn wsX9_letGo wsX2_countSafe := goodIn_r _ [21, 22, 23, 24, 25, 26, 20, 27, 28, 29, 30, 31, 32, 33, 34, 35, 36, 37, 38, 39, 40, 41, 42, 43, 44, 45, 46, 47, 48, 49, 50, 51, 52, 53, 54, 55, 56, 73, 74, 75, 76, 77, 78, 65, 66, 67, 68, 69, 70, 71, 72] (by decide +kernel) (by decide +kernel)
set_option maxRecDepth 20000 in
theorem gX9_letGo_X2_countSafe : GoodIn wsX9_letGo (wsV RX9 163 RX2 yX2_countSafe wsX2_countSafe) := goodIn_app (goodIn_of _ (by decide +kernel)) ggX9_letGo_X2_countSafe
theorem dX9_letGo_0 : decode cX9_letGo 0 = .ok (.aload_n 0, 1) := by decide +kernel
theorem dX9_letGo_1 : decode cX9_letGo 1 = .ok (.getfield 12, 3) := by decide +kernel
theorem dX9_letGo_4 : decode cX9_letGo 4 = .ok (.getfield 83, 3) := by decide +kernel
theorem dX9_letGo_7 : decode cX9_letGo 7 = .ok (.ifCond .ne 6, 3) := by decide +kernel
theorem dX9_letGo_10 : decode cX9_letGo 10 = .ok (.bipush (-3), 2) := by decide +kernel
theorem dX9_letGo_12 : decode cX9_letGo 12 = .ok (.ireturn, 1) := by decide +kernel
theorem dX9_letGo_13 : decode cX9_letGo 13 = .ok (.aload_n 0, 1) := by decide +kernel
theorem dX9_letGo_14 : decode cX9_letGo 14 = .ok (.getfield 12, 3) := by decide +kernel
theorem dX9_letGo_17 : decode cX9_letGo 17 = .ok (.invokevirtual 150, 3) := by decide +kernel
theorem dX9_letGo_20 : decode cX9_letGo 20 = .ok (.istore_n 1, 1) := by decide +kernel
theorem dX9_letGo_21 : decode cX9_letGo 21 = .ok (.iload_n 1, 1) := by decide +kernel
theorem dX9_letGo_22 : decode cX9_letGo 22 = .ok (.istore_n 2, 1) := by decide +kernel
theorem dX9_letGo_23 : decode cX9_letGo 23 = .ok (.iconst 0, 1) := by decide +kernel
theorem dX9_letGo_24 : decode cX9_letGo 24 = .ok (.istore_n 3, 1) := by decide +kernel
theorem dX9_letGo_25 : decode cX9_letGo 25 = .ok (.iload_n 3, 1) := by decide +kernel
theorem dX9_letGo_26 : decode cX9_letGo 26 = .ok (.iload_n 1, 1) := by decide +kernel
theorem dX9_letGo_27 : decode cX9_letGo 27 = .ok (.if_icmp .gt 50, 3) := by decide +kernel
theorem dX9_letGo_30 : decode cX9_letGo 30 = .ok (.iload_n 3, 1) := by decide +kernel
theorem dX9_letGo_31 : decode cX9_letGo 31 = .ok (.invokestatic 167, 3) := by decide +kernel
theorem dX9_letGo_34 : decode cX9_letGo 34 = .ok (.iload_n 2, 1) := by decide +kernel
theorem dX9_letGo_35 : decode cX9_letGo 35 = .ok (.invokestatic 167, 3) := by decide +kernel
theorem dX9_letGo_38 : decode cX9_letGo 38 = .ok (.if_icmp .ge 7, 3) := by decide +kernel
theorem dX9_letGo_41 : decode cX9_letGo 41 = .ok (.iconst 1, 1) := by decide +kernel
theorem dX9_letGo_42 : decode cX9_letGo 42 = .ok (.goto 4, 3) := by decide +kernel
theorem dX9_letGo_45 : decode cX9_letGo 45 = .ok (.iconst 0, 1) := by decide +kernel
theorem dX9_letGo_46 : decode cX9_letGo 46 = .ok (.istore 4, 2) := by decide +kernel
theorem dX9_letGo_48 : decode cX9_letGo 48 = .ok (.iload 4, 2) := by decide +kernel
theorem dX9_letGo_50 : decode cX9_letGo 50 = .ok (.ifCond .eq 21, 3) := by decide +kernel
theorem dX9_letGo_53 : decode cX9_letGo 53 = .ok (.aload_n 0, 1) := by decide +kernel
theorem dX9_letGo_54 : decode cX9_letGo 54 = .ok (.getfield 37, 3) := by decide +kernel
theorem dX9_letGo_57 : decode cX9_letGo 57 = .ok (.iload_n 1, 1) := by decide +kernel
theorem dX9_letGo_58 : decode cX9_letGo 58 = .ok (.iload_n 3, 1) := by decide +kernel
theorem dX9_letGo_59 : decode cX9_letGo 59 = .ok (.iconst (-1), 1) := by decide +kernel
theorem dX9_letGo_60 : decode cX9_letGo 60 = .ok (.ixor, 1) := by decide +kernel
theorem dX9_letGo_61 : decode cX9_letGo 61 = .ok (.iand, 1) := by decide +kernel
theorem dX9_letGo_62 : decode cX9_letGo 62 = .ok (.iconst 1, 1) := by decide +kernel
theorem dX9_letGo_63 : decode cX9_letGo 63 = .ok (.invokevirtual 163, 3) := by decide +kernel
theorem dX9_letGo_66 : decode cX9_letGo 66 = .ok (.ifCond .le 5, 3) := by decide +kernel
theorem dX9_letGo_69 : decode cX9_letGo 69 = .ok (.iload_n 3, 1) := by decide +kernel
theorem dX9_letGo_70 : decode cX9_letGo 70 = .ok (.istore_n 2, 1) := by decide +kernel
theorem dX9_letGo_71 : decode cX9_letGo 71 = .ok (.iinc 3 1, 3) := by decide +kernel
theorem dX9_letGo_74 : decode cX9_letGo 74 = .ok (.goto (-49), 3) := by decide +kernel
theorem dX9_letGo_77 : decode cX9_letGo 77 = .ok (.iload_n 2, 1) := by decide +kernel
theorem dX9_letGo_78 : decode cX9_letGo 78 = .ok (.ireturn, 1) := by decide +kernel
set_option maxRecDepth 20000 in
theorem ggX9_two_X9_isSpan : GoodIn wsX9_two wsX9_isSpan := goodIn_r _ [9] (by decide +kernel) (by decide +kernel)
set_option maxRecDepth 20000 in
theorem gX9_two_X9_isSpan : GoodIn wsX9_two (va_wsS RX9 122 yX9_isSpan wsX9_isSpan) := goodIn_app (goodIn_of _ (by decide +kernel)) ggX9_two_X9_isSpan
set_option maxRecDepth 20000 in
theorem ggX9_two_X9_isHalf : GoodIn wsX9_two wsX9_isHalf := goodIn_r _ [12] (by decide +kernel) (by decide +kernel)
set_option maxRecDepth 20000 in
theorem gX9_two_X9_isHalf : GoodIn wsX9_two (va_wsS RX9 170 yX9_isHalf wsX9_isHalf) := goodIn_app (goodIn_of _ (by decide +kernel)) ggX9_two_X9_isHalf
set_option maxRecDepth 20000 in
theorem ggX9_two_X5_all : GoodIn wsX9_two wsX5_all := goodIn_r _ [17, 18, 81, 82, 83, 84, 85, 86, 87, 88] (by decide +kernel) (by decide +kernel)
set_option maxRecDepth 20000 in
theorem gX9_two_X5_all : GoodIn wsX9_two (wsV RX9 150 RX5 yX5_all wsX5_all) := goodIn_app (goodIn_of _ (by decide +kernel)) ggX9_two_X5_all
set_option maxRecDepth 20000 in
theorem ggX9_two_X2_leastHarm : GoodIn wsX9_two wsX2_leastHarm := goodIn_r _ [23, 24, 25, 26, 27, 22, 28, 29, 30, 31, 32, 33, 34, 35, 36, 37, 38, 39, 40, 41, 42, 43, 44, 45, 46, 47, 48, 49, 50, 51, 52, 53, 54, 55, 56, 57, 58, 59, 60, 61, 62, 63, 64, 65, 66, 67, 68, 89, 90, 91, 92, 93, 94, 81, 82, 83, 84, 85, 86, 87, 88] (by decide +kernel) (by decide +kernel)
set_option maxRecDepth 20000 in
theorem gX9_two_X2_leastHarm : GoodIn wsX9_two (wsV RX9 153 RX2 yX2_leastHarm wsX2_leastHarm) := goodIn_app (goodIn_of _ (by decide +kernel)) ggX9_two_X2_leastHarm
set_option maxRecDepth 20000 in
theorem ggX9_two_X9_harmOfBoth : GoodIn wsX9_two wsX9_harmOfBoth := goodIn_r _ [72, 1, 3, 13, 14, 15, 16, 17, 18, 73, 74, 75, 76, 77, 78, 79, 80, 81, 82, 83, 84, 85, 86, 87, 88] (by decide +kernel) (by decide +kernel)
set_option maxRecDepth 20000 in
theorem gX9_two_X9_harmOfBoth : GoodIn wsX9_two (wsV RX9 173 RX9 yX9_harmOfBoth wsX9_harmOfBoth) := goodIn_app (goodIn_of _ (by decide +kernel)) ggX9_two_X9_harmOfBoth
theorem dX9_two_0 : decode cX9_two 0 = .ok (.aload_n 0, 1) := by decide +kernel
theorem dX9_two_1 : decode cX9_two 1 = .ok (.getfield 12, 3) := by decide +kernel
theorem dX9_two_4 : decode cX9_two 4 = .ok (.getfield 83, 3) := by decide +kernel
theorem dX9_two_7 : decode cX9_two 7 = .ok (.ifCond .ne 6, 3) := by decide +kernel
theorem dX9_two_10 : decode cX9_two 10 = .ok (.bipush (-3), 2) := by decide +kernel
theorem dX9_two_12 : decode cX9_two 12 = .ok (.ireturn, 1) := by decide +kernel
theorem dX9_two_13 : decode cX9_two 13 = .ok (.iload_n 1, 1) := by decide +kernel
theorem dX9_two_14 : decode cX9_two 14 = .ok (.invokestatic 122, 3) := by decide +kernel
theorem dX9_two_17 : decode cX9_two 17 = .ok (.ifCond .eq 10, 3) := by decide +kernel
theorem dX9_two_20 : decode cX9_two 20 = .ok (.iload_n 2, 1) := by decide +kernel
theorem dX9_two_21 : decode cX9_two 21 = .ok (.invokestatic 170, 3) := by decide +kernel
theorem dX9_two_24 : decode cX9_two 24 = .ok (.ifCond .ne 6, 3) := by decide +kernel
theorem dX9_two_27 : decode cX9_two 27 = .ok (.bipush (-2), 2) := by decide +kernel
theorem dX9_two_29 : decode cX9_two 29 = .ok (.ireturn, 1) := by decide +kernel
theorem dX9_two_30 : decode cX9_two 30 = .ok (.aload_n 0, 1) := by decide +kernel
theorem dX9_two_31 : decode cX9_two 31 = .ok (.getfield 12, 3) := by decide +kernel
theorem dX9_two_34 : decode cX9_two 34 = .ok (.invokevirtual 150, 3) := by decide +kernel
theorem dX9_two_37 : decode cX9_two 37 = .ok (.istore_n 3, 1) := by decide +kernel
theorem dX9_two_38 : decode cX9_two 38 = .ok (.iconst 0, 1) := by decide +kernel
theorem dX9_two_39 : decode cX9_two 39 = .ok (.istore 4, 2) := by decide +kernel
theorem dX9_two_41 : decode cX9_two 41 = .ok (.iload 4, 2) := by decide +kernel
theorem dX9_two_43 : decode cX9_two 43 = .ok (.iload_n 3, 1) := by decide +kernel
theorem dX9_two_44 : decode cX9_two 44 = .ok (.if_icmp .gt 43, 3) := by decide +kernel
theorem dX9_two_47 : decode cX9_two 47 = .ok (.iload 4, 2) := by decide +kernel
theorem dX9_two_49 : decode cX9_two 49 = .ok (.aload_n 0, 1) := by decide +kernel
theorem dX9_two_50 : decode cX9_two 50 = .ok (.getfield 47, 3) := by decide +kernel
theorem dX9_two_53 : decode cX9_two 53 = .ok (.arraylength, 1) := by decide +kernel
theorem dX9_two_54 : decode cX9_two 54 = .ok (.if_icmp .ge 33, 3) := by decide +kernel
theorem dX9_two_57 : decode cX9_two 57 = .ok (.aload_n 0, 1) := by decide +kernel
theorem dX9_two_58 : decode cX9_two 58 = .ok (.getfield 47, 3) := by decide +kernel
theorem dX9_two_61 : decode cX9_two 61 = .ok (.iload 4, 2) := by decide +kernel
theorem dX9_two_63 : decode cX9_two 63 = .ok (.aload_n 0, 1) := by decide +kernel
theorem dX9_two_64 : decode cX9_two 64 = .ok (.getfield 37, 3) := by decide +kernel
theorem dX9_two_67 : decode cX9_two 67 = .ok (.iload 4, 2) := by decide +kernel
theorem dX9_two_69 : decode cX9_two 69 = .ok (.aload_n 0, 1) := by decide +kernel
theorem dX9_two_70 : decode cX9_two 70 = .ok (.getfield 12, 3) := by decide +kernel
theorem dX9_two_73 : decode cX9_two 73 = .ok (.getfield 115, 3) := by decide +kernel
theorem dX9_two_76 : decode cX9_two 76 = .ok (.iload_n 1, 1) := by decide +kernel
theorem dX9_two_77 : decode cX9_two 77 = .ok (.invokevirtual 153, 3) := by decide +kernel
theorem dX9_two_80 : decode cX9_two 80 = .ok (.iastore, 1) := by decide +kernel
theorem dX9_two_81 : decode cX9_two 81 = .ok (.iinc 4 1, 3) := by decide +kernel
theorem dX9_two_84 : decode cX9_two 84 = .ok (.goto (-43), 3) := by decide +kernel
theorem dX9_two_87 : decode cX9_two 87 = .ok (.iconst 0, 1) := by decide +kernel
theorem dX9_two_88 : decode cX9_two 88 = .ok (.istore 4, 2) := by decide +kernel
theorem dX9_two_90 : decode cX9_two 90 = .ok (.iconst 1, 1) := by decide +kernel
theorem dX9_two_91 : decode cX9_two 91 = .ok (.istore 5, 2) := by decide +kernel
theorem dX9_two_93 : decode cX9_two 93 = .ok (.iload 5, 2) := by decide +kernel
theorem dX9_two_95 : decode cX9_two 95 = .ok (.iload_n 3, 1) := by decide +kernel
theorem dX9_two_96 : decode cX9_two 96 = .ok (.if_icmp .gt 28, 3) := by decide +kernel
theorem dX9_two_99 : decode cX9_two 99 = .ok (.aload_n 0, 1) := by decide +kernel
theorem dX9_two_100 : decode cX9_two 100 = .ok (.iload 5, 2) := by decide +kernel
theorem dX9_two_102 : decode cX9_two 102 = .ok (.invokevirtual 173, 3) := by decide +kernel
theorem dX9_two_105 : decode cX9_two 105 = .ok (.aload_n 0, 1) := by decide +kernel
theorem dX9_two_106 : decode cX9_two 106 = .ok (.iload 4, 2) := by decide +kernel
theorem dX9_two_108 : decode cX9_two 108 = .ok (.invokevirtual 173, 3) := by decide +kernel
theorem dX9_two_111 : decode cX9_two 111 = .ok (.if_icmp .ge 7, 3) := by decide +kernel
theorem dX9_two_114 : decode cX9_two 114 = .ok (.iload 5, 2) := by decide +kernel
theorem dX9_two_116 : decode cX9_two 116 = .ok (.istore 4, 2) := by decide +kernel
theorem dX9_two_118 : decode cX9_two 118 = .ok (.iinc 5 1, 3) := by decide +kernel
theorem dX9_two_121 : decode cX9_two 121 = .ok (.goto (-28), 3) := by decide +kernel
theorem dX9_two_124 : decode cX9_two 124 = .ok (.iload_n 2, 1) := by decide +kernel
theorem dX9_two_125 : decode cX9_two 125 = .ok (.ifCond .ne 8, 3) := by decide +kernel
theorem dX9_two_128 : decode cX9_two 128 = .ok (.iload 4, 2) := by decide +kernel
theorem dX9_two_130 : decode cX9_two 130 = .ok (.goto 9, 3) := by decide +kernel
theorem dX9_two_133 : decode cX9_two 133 = .ok (.aload_n 0, 1) := by decide +kernel
theorem dX9_two_134 : decode cX9_two 134 = .ok (.iload 4, 2) := by decide +kernel
theorem dX9_two_136 : decode cX9_two 136 = .ok (.invokevirtual 173, 3) := by decide +kernel
theorem dX9_two_139 : decode cX9_two 139 = .ok (.ireturn, 1) := by decide +kernel
set_option maxRecDepth 20000 in
theorem ggX9_site_X9_isSpan : GoodIn wsX9_site wsX9_isSpan := goodIn_r _ [7] (by decide +kernel) (by decide +kernel)
set_option maxRecDepth 20000 in
theorem gX9_site_X9_isSpan : GoodIn wsX9_site (va_wsS RX9 122 yX9_isSpan wsX9_isSpan) := goodIn_app (goodIn_of _ (by decide +kernel)) ggX9_site_X9_isSpan
set_option maxRecDepth 20000 in
theorem ggX9_site_X9_isHalf : GoodIn wsX9_site wsX9_isHalf := goodIn_r _ [10] (by decide +kernel) (by decide +kernel)
set_option maxRecDepth 20000 in
theorem gX9_site_X9_isHalf : GoodIn wsX9_site (va_wsS RX9 170 yX9_isHalf wsX9_isHalf) := goodIn_app (goodIn_of _ (by decide +kernel)) ggX9_site_X9_isHalf
set_option maxRecDepth 20000 in
theorem ggX9_site_X5_all : GoodIn wsX9_site wsX5_all := goodIn_r _ [15, 16, 75, 76, 77, 78, 79, 80, 81, 82] (by decide +kernel) (by decide +kernel)
set_option maxRecDepth 20000 in
theorem gX9_site_X5_all : GoodIn wsX9_site (wsV RX9 150 RX5 yX5_all wsX5_all) := goodIn_app (goodIn_of _ (by decide +kernel)) ggX9_site_X5_all
set_option maxRecDepth 20000 in
theorem ggX9_site_X2_leastHarm : GoodIn wsX9_site wsX2_leastHarm := goodIn_r _ [21, 22, 23, 24, 25, 20, 26, 27, 28, 29, 30, 31, 32, 33, 34, 35, 36, 37, 38, 39, 40, 41, 42, 43, 44, 45, 46, 47, 48, 49, 50, 51, 52, 53, 54, 55, 56, 57, 58, 59, 60, 61, 62, 63, 64, 65, 66, 83, 84, 85, 86, 87, 88, 75, 76, 77, 78, 79, 80, 81, 82] (by decide +kernel) (by decide +kernel)
set_option maxRecDepth 20000 in
theorem gX9_site_X2_leastHarm : GoodIn wsX9_site (wsV RX9 153 RX2 yX2_leastHarm wsX2_leastHarm) := goodIn_app (goodIn_of _ (by decide +kernel)) ggX9_site_X2_leastHarm
theorem dX9_site_0 : decode cX9_site 0 = .ok (.aload_n 0, 1) := by decide +kernel
theorem dX9_site_1 : decode cX9_site 1 = .ok (.getfield 12, 3) := by decide +kernel
theorem dX9_site_4 : decode cX9_site 4 = .ok (.getfield 83, 3) := by decide +kernel
theorem dX9_site_7 : decode cX9_site 7 = .ok (.ifCond .ne 6, 3) := by decide +kernel
theorem dX9_site_10 : decode cX9_site 10 = .ok (.bipush (-3), 2) := by decide +kernel
theorem dX9_site_12 : decode cX9_site 12 = .ok (.ireturn, 1) := by decide +kernel
theorem dX9_site_13 : decode cX9_site 13 = .ok (.iload_n 1, 1) := by decide +kernel
theorem dX9_site_14 : decode cX9_site 14 = .ok (.invokestatic 122, 3) := by decide +kernel
theorem dX9_site_17 : decode cX9_site 17 = .ok (.ifCond .eq 10, 3) := by decide +kernel
theorem dX9_site_20 : decode cX9_site 20 = .ok (.iload_n 2, 1) := by decide +kernel
theorem dX9_site_21 : decode cX9_site 21 = .ok (.invokestatic 170, 3) := by decide +kernel
theorem dX9_site_24 : decode cX9_site 24 = .ok (.ifCond .ne 6, 3) := by decide +kernel
theorem dX9_site_27 : decode cX9_site 27 = .ok (.bipush (-2), 2) := by decide +kernel
theorem dX9_site_29 : decode cX9_site 29 = .ok (.ireturn, 1) := by decide +kernel
theorem dX9_site_30 : decode cX9_site 30 = .ok (.iconst 0, 1) := by decide +kernel
theorem dX9_site_31 : decode cX9_site 31 = .ok (.istore_n 3, 1) := by decide +kernel
theorem dX9_site_32 : decode cX9_site 32 = .ok (.aload_n 0, 1) := by decide +kernel
theorem dX9_site_33 : decode cX9_site 33 = .ok (.getfield 37, 3) := by decide +kernel
theorem dX9_site_36 : decode cX9_site 36 = .ok (.aload_n 0, 1) := by decide +kernel
theorem dX9_site_37 : decode cX9_site 37 = .ok (.getfield 12, 3) := by decide +kernel
theorem dX9_site_40 : decode cX9_site 40 = .ok (.invokevirtual 150, 3) := by decide +kernel
theorem dX9_site_43 : decode cX9_site 43 = .ok (.iconst 0, 1) := by decide +kernel
theorem dX9_site_44 : decode cX9_site 44 = .ok (.iload_n 1, 1) := by decide +kernel
theorem dX9_site_45 : decode cX9_site 45 = .ok (.invokevirtual 153, 3) := by decide +kernel
theorem dX9_site_48 : decode cX9_site 48 = .ok (.istore 4, 2) := by decide +kernel
theorem dX9_site_50 : decode cX9_site 50 = .ok (.iconst 1, 1) := by decide +kernel
theorem dX9_site_51 : decode cX9_site 51 = .ok (.istore 5, 2) := by decide +kernel
theorem dX9_site_53 : decode cX9_site 53 = .ok (.iload 5, 2) := by decide +kernel
theorem dX9_site_55 : decode cX9_site 55 = .ok (.bipush 9, 2) := by decide +kernel
theorem dX9_site_57 : decode cX9_site 57 = .ok (.if_icmp .gt 47, 3) := by decide +kernel
theorem dX9_site_60 : decode cX9_site 60 = .ok (.iload 4, 2) := by decide +kernel
theorem dX9_site_62 : decode cX9_site 62 = .ok (.ifCond .le 42, 3) := by decide +kernel
theorem dX9_site_65 : decode cX9_site 65 = .ok (.aload_n 0, 1) := by decide +kernel
theorem dX9_site_66 : decode cX9_site 66 = .ok (.getfield 37, 3) := by decide +kernel
theorem dX9_site_69 : decode cX9_site 69 = .ok (.aload_n 0, 1) := by decide +kernel
theorem dX9_site_70 : decode cX9_site 70 = .ok (.getfield 12, 3) := by decide +kernel
theorem dX9_site_73 : decode cX9_site 73 = .ok (.invokevirtual 150, 3) := by decide +kernel
theorem dX9_site_76 : decode cX9_site 76 = .ok (.iload 5, 2) := by decide +kernel
theorem dX9_site_78 : decode cX9_site 78 = .ok (.iload_n 1, 1) := by decide +kernel
theorem dX9_site_79 : decode cX9_site 79 = .ok (.invokevirtual 153, 3) := by decide +kernel
theorem dX9_site_82 : decode cX9_site 82 = .ok (.istore 6, 2) := by decide +kernel
theorem dX9_site_84 : decode cX9_site 84 = .ok (.iload 6, 2) := by decide +kernel
theorem dX9_site_86 : decode cX9_site 86 = .ok (.iload 4, 2) := by decide +kernel
theorem dX9_site_88 : decode cX9_site 88 = .ok (.if_icmp .ge 10, 3) := by decide +kernel
theorem dX9_site_91 : decode cX9_site 91 = .ok (.iload 6, 2) := by decide +kernel
theorem dX9_site_93 : decode cX9_site 93 = .ok (.istore 4, 2) := by decide +kernel
theorem dX9_site_95 : decode cX9_site 95 = .ok (.iload 5, 2) := by decide +kernel
theorem dX9_site_97 : decode cX9_site 97 = .ok (.istore_n 3, 1) := by decide +kernel
theorem dX9_site_98 : decode cX9_site 98 = .ok (.iinc 5 1, 3) := by decide +kernel
theorem dX9_site_101 : decode cX9_site 101 = .ok (.goto (-48), 3) := by decide +kernel
theorem dX9_site_104 : decode cX9_site 104 = .ok (.iload_n 2, 1) := by decide +kernel
theorem dX9_site_105 : decode cX9_site 105 = .ok (.ifCond .ne 7, 3) := by decide +kernel
theorem dX9_site_108 : decode cX9_site 108 = .ok (.iload_n 3, 1) := by decide +kernel
theorem dX9_site_109 : decode cX9_site 109 = .ok (.goto 5, 3) := by decide +kernel
theorem dX9_site_112 : decode cX9_site 112 = .ok (.iload 4, 2) := by decide +kernel
theorem dX9_site_114 : decode cX9_site 114 = .ok (.ireturn, 1) := by decide +kernel
set_option maxRecDepth 20000 in
theorem ggX9_reading_X5_has : GoodIn wsX9_reading wsX5_has := goodIn_r _ [7, 8, 30, 31, 32, 33, 34, 35, 36, 37] (by decide +kernel) (by decide +kernel)
set_option maxRecDepth 20000 in
theorem gX9_reading_X5_has : GoodIn wsX9_reading (wsV RX9 176 RX5 yX5_has wsX5_has) := goodIn_app (goodIn_of _ (by decide +kernel)) ggX9_reading_X5_has
set_option maxRecDepth 20000 in
theorem ggX9_reading_X9_isMinute : GoodIn wsX9_reading wsX9_isMinute := goodIn_r _ [12] (by decide +kernel) (by decide +kernel)
set_option maxRecDepth 20000 in
theorem gX9_reading_X9_isMinute : GoodIn wsX9_reading (va_wsS RX9 144 yX9_isMinute wsX9_isMinute) := goodIn_app (goodIn_of _ (by decide +kernel)) ggX9_reading_X9_isMinute
set_option maxRecDepth 20000 in
theorem ggX9_reading_X3_note : GoodIn wsX9_reading wsX3_note := goodIn_r _ [17, 18, 19, 20, 21, 38, 39, 40, 41] (by decide +kernel) (by decide +kernel)
set_option maxRecDepth 20000 in
theorem gX9_reading_X3_note : GoodIn wsX9_reading (wsV RX9 179 RX3 yX3_note wsX3_note) := goodIn_app (goodIn_of _ (by decide +kernel)) ggX9_reading_X3_note
theorem dX9_reading_0 : decode cX9_reading 0 = .ok (.aload_n 0, 1) := by decide +kernel
theorem dX9_reading_1 : decode cX9_reading 1 = .ok (.getfield 12, 3) := by decide +kernel
theorem dX9_reading_4 : decode cX9_reading 4 = .ok (.iload_n 1, 1) := by decide +kernel
theorem dX9_reading_5 : decode cX9_reading 5 = .ok (.invokevirtual 176, 3) := by decide +kernel
theorem dX9_reading_8 : decode cX9_reading 8 = .ok (.ifCond .ne 5, 3) := by decide +kernel
theorem dX9_reading_11 : decode cX9_reading 11 = .ok (.iconst (-1), 1) := by decide +kernel
theorem dX9_reading_12 : decode cX9_reading 12 = .ok (.ireturn, 1) := by decide +kernel
theorem dX9_reading_13 : decode cX9_reading 13 = .ok (.iload_n 2, 1) := by decide +kernel
theorem dX9_reading_14 : decode cX9_reading 14 = .ok (.invokestatic 144, 3) := by decide +kernel
theorem dX9_reading_17 : decode cX9_reading 17 = .ok (.ifCond .ne 6, 3) := by decide +kernel
theorem dX9_reading_20 : decode cX9_reading 20 = .ok (.bipush (-2), 2) := by decide +kernel
theorem dX9_reading_22 : decode cX9_reading 22 = .ok (.ireturn, 1) := by decide +kernel
theorem dX9_reading_23 : decode cX9_reading 23 = .ok (.aload_n 0, 1) := by decide +kernel
theorem dX9_reading_24 : decode cX9_reading 24 = .ok (.getfield 21, 3) := by decide +kernel
theorem dX9_reading_27 : decode cX9_reading 27 = .ok (.iload_n 1, 1) := by decide +kernel
theorem dX9_reading_28 : decode cX9_reading 28 = .ok (.iload_n 2, 1) := by decide +kernel
theorem dX9_reading_29 : decode cX9_reading 29 = .ok (.iload_n 3, 1) := by decide +kernel
theorem dX9_reading_30 : decode cX9_reading 30 = .ok (.invokevirtual 179, 3) := by decide +kernel
theorem dX9_reading_33 : decode cX9_reading 33 = .ok (.ireturn, 1) := by decide +kernel
theorem dX9_back_0 : decode cX9_back 0 = .ok (.iload_n 1, 1) := by decide +kernel
theorem dX9_back_1 : decode cX9_back 1 = .ok (.ifCond .lt 14, 3) := by decide +kernel
theorem dX9_back_4 : decode cX9_back 4 = .ok (.iload_n 1, 1) := by decide +kernel
theorem dX9_back_5 : decode cX9_back 5 = .ok (.aload_n 0, 1) := by decide +kernel
theorem dX9_back_6 : decode cX9_back 6 = .ok (.getfield 21, 3) := by decide +kernel
theorem dX9_back_9 : decode cX9_back 9 = .ok (.getfield 183, 3) := by decide +kernel
theorem dX9_back_12 : decode cX9_back 12 = .ok (.if_icmp .le 6, 3) := by decide +kernel
theorem dX9_back_15 : decode cX9_back 15 = .ok (.bipush (-2), 2) := by decide +kernel
theorem dX9_back_17 : decode cX9_back 17 = .ok (.ireturn, 1) := by decide +kernel
theorem dX9_back_18 : decode cX9_back 18 = .ok (.aload_n 0, 1) := by decide +kernel
theorem dX9_back_19 : decode cX9_back 19 = .ok (.getfield 21, 3) := by decide +kernel
theorem dX9_back_22 : decode cX9_back 22 = .ok (.dup, 1) := by decide +kernel
theorem dX9_back_23 : decode cX9_back 23 = .ok (.getfield 183, 3) := by decide +kernel
theorem dX9_back_26 : decode cX9_back 26 = .ok (.iload_n 1, 1) := by decide +kernel
theorem dX9_back_27 : decode cX9_back 27 = .ok (.isub, 1) := by decide +kernel
theorem dX9_back_28 : decode cX9_back 28 = .ok (.putfield 183, 3) := by decide +kernel
theorem dX9_back_31 : decode cX9_back 31 = .ok (.aload_n 0, 1) := by decide +kernel
theorem dX9_back_32 : decode cX9_back 32 = .ok (.getfield 21, 3) := by decide +kernel
theorem dX9_back_35 : decode cX9_back 35 = .ok (.getfield 183, 3) := by decide +kernel
theorem dX9_back_38 : decode cX9_back 38 = .ok (.ireturn, 1) := by decide +kernel
set_option maxRecDepth 20000 in
theorem ggX9_fits_X5_all : GoodIn wsX9_fits wsX5_all := goodIn_r _ [9, 10, 76, 77, 78, 79, 80, 81, 82, 83] (by decide +kernel) (by decide +kernel)
set_option maxRecDepth 20000 in
theorem gX9_fits_X5_all : GoodIn wsX9_fits (wsV RX9 150 RX5 yX5_all wsX5_all) := goodIn_app (goodIn_of _ (by decide +kernel)) ggX9_fits_X5_all
set_option maxRecDepth 20000 in
theorem ggX9_fits_X2_countFitting : GoodIn wsX9_fits wsX2_countFitting := goodIn_r _ [15, 16, 17, 18, 19, 20, 14, 21, 22, 23, 24, 25, 26, 27, 28, 29, 30, 31, 32, 33, 34, 35, 36, 37, 38, 39, 40, 41, 42, 43, 44, 45, 46, 47, 48, 49, 50, 51, 52, 53, 54, 55, 56, 57, 58, 59, 60, 61, 62, 63, 84, 85, 86, 87, 88, 89, 76, 77, 78, 79, 80, 81, 82, 83, 90, 91, 92, 93] (by decide +kernel) (by decide +kernel)
set_option maxRecDepth 20000 in
theorem gX9_fits_X2_countFitting : GoodIn wsX9_fits (wsV RX9 184 RX2 yX2_countFitting wsX2_countFitting) := goodIn_app (goodIn_of _ (by decide +kernel)) ggX9_fits_X2_countFitting
set_option maxRecDepth 20000 in
theorem ggX9_fits_X2_keptAt : GoodIn wsX9_fits wsX2_keptAt := goodIn_r _ [67, 22, 55, 84, 85, 86, 87, 88, 89] (by decide +kernel) (by decide +kernel)
set_option maxRecDepth 20000 in
theorem gX9_fits_X2_keptAt : GoodIn wsX9_fits (wsV RX9 157 RX2 yX2_keptAt wsX2_keptAt) := goodIn_app (goodIn_of _ (by decide +kernel)) ggX9_fits_X2_keptAt
theorem dX9_fits_0 : decode cX9_fits 0 = .ok (.aload_n 0, 1) := by decide +kernel
theorem dX9_fits_1 : decode cX9_fits 1 = .ok (.getfield 12, 3) := by decide +kernel
theorem dX9_fits_4 : decode cX9_fits 4 = .ok (.getfield 83, 3) := by decide +kernel
theorem dX9_fits_7 : decode cX9_fits 7 = .ok (.ifCond .ne 6, 3) := by decide +kernel
theorem dX9_fits_10 : decode cX9_fits 10 = .ok (.bipush (-3), 2) := by decide +kernel
theorem dX9_fits_12 : decode cX9_fits 12 = .ok (.ireturn, 1) := by decide +kernel
theorem dX9_fits_13 : decode cX9_fits 13 = .ok (.iload_n 1, 1) := by decide +kernel
theorem dX9_fits_14 : decode cX9_fits 14 = .ok (.iconst (-1), 1) := by decide +kernel
theorem dX9_fits_15 : decode cX9_fits 15 = .ok (.if_icmp .lt 14, 3) := by decide +kernel
theorem dX9_fits_18 : decode cX9_fits 18 = .ok (.iload_n 1, 1) := by decide +kernel
theorem dX9_fits_19 : decode cX9_fits 19 = .ok (.aload_n 0, 1) := by decide +kernel
theorem dX9_fits_20 : decode cX9_fits 20 = .ok (.getfield 12, 3) := by decide +kernel
theorem dX9_fits_23 : decode cX9_fits 23 = .ok (.getfield 83, 3) := by decide +kernel
theorem dX9_fits_26 : decode cX9_fits 26 = .ok (.if_icmp .lt 5, 3) := by decide +kernel
theorem dX9_fits_29 : decode cX9_fits 29 = .ok (.iconst (-1), 1) := by decide +kernel
theorem dX9_fits_30 : decode cX9_fits 30 = .ok (.ireturn, 1) := by decide +kernel
theorem dX9_fits_31 : decode cX9_fits 31 = .ok (.aload_n 0, 1) := by decide +kernel
theorem dX9_fits_32 : decode cX9_fits 32 = .ok (.getfield 37, 3) := by decide +kernel
theorem dX9_fits_35 : decode cX9_fits 35 = .ok (.aload_n 0, 1) := by decide +kernel
theorem dX9_fits_36 : decode cX9_fits 36 = .ok (.getfield 12, 3) := by decide +kernel
theorem dX9_fits_39 : decode cX9_fits 39 = .ok (.invokevirtual 150, 3) := by decide +kernel
theorem dX9_fits_42 : decode cX9_fits 42 = .ok (.aload_n 0, 1) := by decide +kernel
theorem dX9_fits_43 : decode cX9_fits 43 = .ok (.getfield 21, 3) := by decide +kernel
theorem dX9_fits_46 : decode cX9_fits 46 = .ok (.invokevirtual 184, 3) := by decide +kernel
theorem dX9_fits_49 : decode cX9_fits 49 = .ok (.istore_n 2, 1) := by decide +kernel
theorem dX9_fits_50 : decode cX9_fits 50 = .ok (.iload_n 1, 1) := by decide +kernel
theorem dX9_fits_51 : decode cX9_fits 51 = .ok (.iconst (-1), 1) := by decide +kernel
theorem dX9_fits_52 : decode cX9_fits 52 = .ok (.if_icmp .ne 5, 3) := by decide +kernel
theorem dX9_fits_55 : decode cX9_fits 55 = .ok (.iload_n 2, 1) := by decide +kernel
theorem dX9_fits_56 : decode cX9_fits 56 = .ok (.ireturn, 1) := by decide +kernel
theorem dX9_fits_57 : decode cX9_fits 57 = .ok (.iload_n 2, 1) := by decide +kernel
theorem dX9_fits_58 : decode cX9_fits 58 = .ok (.ifCond .ne 8, 3) := by decide +kernel
theorem dX9_fits_61 : decode cX9_fits 61 = .ok (.bipush (-9), 2) := by decide +kernel
theorem dX9_fits_63 : decode cX9_fits 63 = .ok (.goto 11, 3) := by decide +kernel
theorem dX9_fits_66 : decode cX9_fits 66 = .ok (.aload_n 0, 1) := by decide +kernel
theorem dX9_fits_67 : decode cX9_fits 67 = .ok (.getfield 37, 3) := by decide +kernel
theorem dX9_fits_70 : decode cX9_fits 70 = .ok (.iload_n 1, 1) := by decide +kernel
theorem dX9_fits_71 : decode cX9_fits 71 = .ok (.invokevirtual 157, 3) := by decide +kernel
theorem dX9_fits_74 : decode cX9_fits 74 = .ok (.ireturn, 1) := by decide +kernel
set_option maxRecDepth 20000 in
theorem ggX9_sheet_X9_sheetAt : GoodIn wsX9_sheet wsX9_sheetAt := goodIn_r _ [6, 7, 30, 31, 32, 33, 34, 35, 36, 37] (by decide +kernel) (by decide +kernel)
set_option maxRecDepth 20000 in
theorem gX9_sheet_X9_sheetAt : GoodIn wsX9_sheet (wsV RX9 71 RX9 yX9_sheetAt wsX9_sheetAt) := goodIn_app (goodIn_of _ (by decide +kernel)) ggX9_sheet_X9_sheetAt
set_option maxRecDepth 20000 in
theorem ggX9_sheet_X9_isLane : GoodIn wsX9_sheet wsX9_isLane := goodIn_r _ [10] (by decide +kernel) (by decide +kernel)
set_option maxRecDepth 20000 in
theorem gX9_sheet_X9_isLane : GoodIn wsX9_sheet (va_wsS RX9 63 yX9_isLane wsX9_isLane) := goodIn_app (goodIn_of _ (by decide +kernel)) ggX9_sheet_X9_isLane
set_option maxRecDepth 20000 in
theorem ggX9_sheet_X9_failBy : GoodIn wsX9_sheet wsX9_failBy := goodIn_r _ [14, 1, 30, 31, 32, 33, 34, 35, 36, 37] (by decide +kernel) (by decide +kernel)
set_option maxRecDepth 20000 in
theorem gX9_sheet_X9_failBy : GoodIn wsX9_sheet (wsV RX9 188 RX9 yX9_failBy wsX9_failBy) := goodIn_app (goodIn_of _ (by decide +kernel)) ggX9_sheet_X9_failBy
set_option maxRecDepth 20000 in
theorem ggX9_sheet_X4_makeRow : GoodIn wsX9_sheet wsX4_makeRow := goodIn_r _ [19, 20, 21, 22, 23, 24, 25, 26, 27, 28, 29, 38, 39, 40] (by decide +kernel) (by decide +kernel)
set_option maxRecDepth 20000 in
theorem gX9_sheet_X4_makeRow : GoodIn wsX9_sheet (wsV RX9 191 RX4 yX4_makeRow wsX4_makeRow) := goodIn_app (goodIn_of _ (by decide +kernel)) ggX9_sheet_X4_makeRow
theorem dX9_sheet_0 : decode cX9_sheet 0 = .ok (.aload_n 0, 1) := by decide +kernel
theorem dX9_sheet_1 : decode cX9_sheet 1 = .ok (.iconst 0, 1) := by decide +kernel
theorem dX9_sheet_2 : decode cX9_sheet 2 = .ok (.putfield 58, 3) := by decide +kernel
theorem dX9_sheet_5 : decode cX9_sheet 5 = .ok (.aload_n 0, 1) := by decide +kernel
theorem dX9_sheet_6 : decode cX9_sheet 6 = .ok (.iload_n 1, 1) := by decide +kernel
theorem dX9_sheet_7 : decode cX9_sheet 7 = .ok (.invokevirtual 71, 3) := by decide +kernel
theorem dX9_sheet_10 : decode cX9_sheet 10 = .ok (.astore 4, 2) := by decide +kernel
theorem dX9_sheet_12 : decode cX9_sheet 12 = .ok (.aload 4, 2) := by decide +kernel
theorem dX9_sheet_14 : decode cX9_sheet 14 = .ok (.ifnonnull 5, 3) := by decide +kernel
theorem dX9_sheet_17 : decode cX9_sheet 17 = .ok (.iconst (-1), 1) := by decide +kernel
theorem dX9_sheet_18 : decode cX9_sheet 18 = .ok (.ireturn, 1) := by decide +kernel
theorem dX9_sheet_19 : decode cX9_sheet 19 = .ok (.iload_n 2, 1) := by decide +kernel
theorem dX9_sheet_20 : decode cX9_sheet 20 = .ok (.invokestatic 63, 3) := by decide +kernel
theorem dX9_sheet_23 : decode cX9_sheet 23 = .ok (.ifCond .eq 9, 3) := by decide +kernel
theorem dX9_sheet_26 : decode cX9_sheet 26 = .ok (.iload_n 3, 1) := by decide +kernel
theorem dX9_sheet_27 : decode cX9_sheet 27 = .ok (.bipush 60, 2) := by decide +kernel
theorem dX9_sheet_29 : decode cX9_sheet 29 = .ok (.if_icmp .le 6, 3) := by decide +kernel
theorem dX9_sheet_32 : decode cX9_sheet 32 = .ok (.bipush (-2), 2) := by decide +kernel
theorem dX9_sheet_34 : decode cX9_sheet 34 = .ok (.ireturn, 1) := by decide +kernel
theorem dX9_sheet_35 : decode cX9_sheet 35 = .ok (.iload_n 3, 1) := by decide +kernel
theorem dX9_sheet_36 : decode cX9_sheet 36 = .ok (.ifCond .ge 9, 3) := by decide +kernel
theorem dX9_sheet_39 : decode cX9_sheet 39 = .ok (.aload_n 0, 1) := by decide +kernel
theorem dX9_sheet_40 : decode cX9_sheet 40 = .ok (.iconst 4, 1) := by decide +kernel
theorem dX9_sheet_41 : decode cX9_sheet 41 = .ok (.invokevirtual 188, 3) := by decide +kernel
theorem dX9_sheet_44 : decode cX9_sheet 44 = .ok (.ireturn, 1) := by decide +kernel
theorem dX9_sheet_45 : decode cX9_sheet 45 = .ok (.aload 4, 2) := by decide +kernel
theorem dX9_sheet_47 : decode cX9_sheet 47 = .ok (.iload_n 2, 1) := by decide +kernel
theorem dX9_sheet_48 : decode cX9_sheet 48 = .ok (.iload_n 3, 1) := by decide +kernel
theorem dX9_sheet_49 : decode cX9_sheet 49 = .ok (.invokevirtual 191, 3) := by decide +kernel
theorem dX9_sheet_52 : decode cX9_sheet 52 = .ok (.iconst 1, 1) := by decide +kernel
theorem dX9_sheet_53 : decode cX9_sheet 53 = .ok (.ireturn, 1) := by decide +kernel
set_option maxRecDepth 20000 in
theorem ggX9_lose_X9_sheetAt : GoodIn wsX9_lose wsX9_sheetAt := goodIn_r _ [5, 6, 18, 19, 20, 21, 22, 23, 24, 25] (by decide +kernel) (by decide +kernel)
set_option maxRecDepth 20000 in
theorem gX9_lose_X9_sheetAt : GoodIn wsX9_lose (wsV RX9 71 RX9 yX9_sheetAt wsX9_sheetAt) := goodIn_app (goodIn_of _ (by decide +kernel)) ggX9_lose_X9_sheetAt
set_option maxRecDepth 20000 in
theorem ggX9_lose_X4_isNothing : GoodIn wsX9_lose wsX4_isNothing := goodIn_r _ [11, 12, 26, 27, 28] (by decide +kernel) (by decide +kernel)
set_option maxRecDepth 20000 in
theorem gX9_lose_X4_isNothing : GoodIn wsX9_lose (wsV RX9 195 RX4 yX4_isNothing wsX4_isNothing) := goodIn_app (goodIn_of _ (by decide +kernel)) ggX9_lose_X4_isNothing
set_option maxRecDepth 20000 in
theorem ggX9_lose_X4_makeNothing : GoodIn wsX9_lose wsX4_makeNothing := goodIn_r _ [16, 12, 17, 26, 27, 28] (by decide +kernel) (by decide +kernel)
set_option maxRecDepth 20000 in
theorem gX9_lose_X4_makeNothing : GoodIn wsX9_lose (wsV RX9 198 RX4 yX4_makeNothing wsX4_makeNothing) := goodIn_app (goodIn_of _ (by decide +kernel)) ggX9_lose_X4_makeNothing
theorem dX9_lose_0 : decode cX9_lose 0 = .ok (.aload_n 0, 1) := by decide +kernel
theorem dX9_lose_1 : decode cX9_lose 1 = .ok (.iload_n 1, 1) := by decide +kernel
theorem dX9_lose_2 : decode cX9_lose 2 = .ok (.invokevirtual 71, 3) := by decide +kernel
theorem dX9_lose_5 : decode cX9_lose 5 = .ok (.astore_n 2, 1) := by decide +kernel
theorem dX9_lose_6 : decode cX9_lose 6 = .ok (.aload_n 2, 1) := by decide +kernel
theorem dX9_lose_7 : decode cX9_lose 7 = .ok (.ifnonnull 5, 3) := by decide +kernel
theorem dX9_lose_10 : decode cX9_lose 10 = .ok (.iconst (-1), 1) := by decide +kernel
theorem dX9_lose_11 : decode cX9_lose 11 = .ok (.ireturn, 1) := by decide +kernel
theorem dX9_lose_12 : decode cX9_lose 12 = .ok (.aload_n 2, 1) := by decide +kernel
theorem dX9_lose_13 : decode cX9_lose 13 = .ok (.invokevirtual 195, 3) := by decide +kernel
theorem dX9_lose_16 : decode cX9_lose 16 = .ok (.ifCond .eq 5, 3) := by decide +kernel
theorem dX9_lose_19 : decode cX9_lose 19 = .ok (.iconst 0, 1) := by decide +kernel
theorem dX9_lose_20 : decode cX9_lose 20 = .ok (.ireturn, 1) := by decide +kernel
theorem dX9_lose_21 : decode cX9_lose 21 = .ok (.aload_n 2, 1) := by decide +kernel
theorem dX9_lose_22 : decode cX9_lose 22 = .ok (.invokevirtual 198, 3) := by decide +kernel
theorem dX9_lose_25 : decode cX9_lose 25 = .ok (.iconst 1, 1) := by decide +kernel
theorem dX9_lose_26 : decode cX9_lose 26 = .ok (.ireturn, 1) := by decide +kernel
set_option maxRecDepth 20000 in
theorem ggX9_put_X9_sheetAt : GoodIn wsX9_put wsX9_sheetAt := goodIn_r _ [6, 7, 29, 30, 31, 32, 33, 34, 35, 36] (by decide +kernel) (by decide +kernel)
set_option maxRecDepth 20000 in
theorem gX9_put_X9_sheetAt : GoodIn wsX9_put (wsV RX9 71 RX9 yX9_sheetAt wsX9_sheetAt) := goodIn_app (goodIn_of _ (by decide +kernel)) ggX9_put_X9_sheetAt
set_option maxRecDepth 20000 in
theorem ggX9_put_X4_isNothing : GoodIn wsX9_put wsX4_isNothing := goodIn_r _ [12, 13, 37, 38, 39] (by decide +kernel) (by decide +kernel)
set_option maxRecDepth 20000 in
theorem gX9_put_X4_isNothing : GoodIn wsX9_put (wsV RX9 195 RX4 yX4_isNothing wsX4_isNothing) := goodIn_app (goodIn_of _ (by decide +kernel)) ggX9_put_X4_isNothing
set_option maxRecDepth 20000 in
theorem ggX9_put_X9_failBy : GoodIn wsX9_put wsX9_failBy := goodIn_r _ [17, 1, 29, 30, 31, 32, 33, 34, 35, 36] (by decide +kernel) (by decide +kernel)
set_option maxRecDepth 20000 in
theorem gX9_put_X9_failBy : GoodIn wsX9_put (wsV RX9 188 RX9 yX9_failBy wsX9_failBy) := goodIn_app (goodIn_of _ (by decide +kernel)) ggX9_put_X9_failBy
set_option maxRecDepth 20000 in
theorem ggX9_put_X4_hasCell : GoodIn wsX9_put wsX4_hasCell := goodIn_r _ [21, 22, 37, 38, 39] (by decide +kernel) (by decide +kernel)
set_option maxRecDepth 20000 in
theorem gX9_put_X4_hasCell : GoodIn wsX9_put (wsV RX9 201 RX4 yX4_hasCell wsX4_hasCell) := goodIn_app (goodIn_of _ (by decide +kernel)) ggX9_put_X4_hasCell
set_option maxRecDepth 20000 in
theorem ggX9_put_X4_write : GoodIn wsX9_put wsX4_write := goodIn_r _ [26, 13, 27, 28, 19, 20, 11, 21, 22, 37, 38, 39] (by decide +kernel) (by decide +kernel)
set_option maxRecDepth 20000 in
theorem gX9_put_X4_write : GoodIn wsX9_put (wsV RX9 204 RX4 yX4_write wsX4_write) := goodIn_app (goodIn_of _ (by decide +kernel)) ggX9_put_X4_write
theorem dX9_put_0 : decode cX9_put 0 = .ok (.aload_n 0, 1) := by decide +kernel
theorem dX9_put_1 : decode cX9_put 1 = .ok (.iconst 0, 1) := by decide +kernel
theorem dX9_put_2 : decode cX9_put 2 = .ok (.putfield 58, 3) := by decide +kernel
theorem dX9_put_5 : decode cX9_put 5 = .ok (.aload_n 0, 1) := by decide +kernel
theorem dX9_put_6 : decode cX9_put 6 = .ok (.iload_n 1, 1) := by decide +kernel
theorem dX9_put_7 : decode cX9_put 7 = .ok (.invokevirtual 71, 3) := by decide +kernel
theorem dX9_put_10 : decode cX9_put 10 = .ok (.astore 4, 2) := by decide +kernel
theorem dX9_put_12 : decode cX9_put 12 = .ok (.aload 4, 2) := by decide +kernel
theorem dX9_put_14 : decode cX9_put 14 = .ok (.ifnonnull 5, 3) := by decide +kernel
theorem dX9_put_17 : decode cX9_put 17 = .ok (.iconst (-1), 1) := by decide +kernel
theorem dX9_put_18 : decode cX9_put 18 = .ok (.ireturn, 1) := by decide +kernel
theorem dX9_put_19 : decode cX9_put 19 = .ok (.aload 4, 2) := by decide +kernel
theorem dX9_put_21 : decode cX9_put 21 = .ok (.invokevirtual 195, 3) := by decide +kernel
theorem dX9_put_24 : decode cX9_put 24 = .ok (.ifCond .eq 9, 3) := by decide +kernel
theorem dX9_put_27 : decode cX9_put 27 = .ok (.aload_n 0, 1) := by decide +kernel
theorem dX9_put_28 : decode cX9_put 28 = .ok (.iconst 1, 1) := by decide +kernel
theorem dX9_put_29 : decode cX9_put 29 = .ok (.invokevirtual 188, 3) := by decide +kernel
theorem dX9_put_32 : decode cX9_put 32 = .ok (.ireturn, 1) := by decide +kernel
theorem dX9_put_33 : decode cX9_put 33 = .ok (.aload 4, 2) := by decide +kernel
theorem dX9_put_35 : decode cX9_put 35 = .ok (.iload_n 2, 1) := by decide +kernel
theorem dX9_put_36 : decode cX9_put 36 = .ok (.invokevirtual 201, 3) := by decide +kernel
theorem dX9_put_39 : decode cX9_put 39 = .ok (.ifCond .ne 9, 3) := by decide +kernel
theorem dX9_put_42 : decode cX9_put 42 = .ok (.aload_n 0, 1) := by decide +kernel
theorem dX9_put_43 : decode cX9_put 43 = .ok (.iconst 3, 1) := by decide +kernel
theorem dX9_put_44 : decode cX9_put 44 = .ok (.invokevirtual 188, 3) := by decide +kernel
theorem dX9_put_47 : decode cX9_put 47 = .ok (.ireturn, 1) := by decide +kernel
theorem dX9_put_48 : decode cX9_put 48 = .ok (.aload 4, 2) := by decide +kernel
theorem dX9_put_50 : decode cX9_put 50 = .ok (.iload_n 2, 1) := by decide +kernel
theorem dX9_put_51 : decode cX9_put 51 = .ok (.iload_n 3, 1) := by decide +kernel
theorem dX9_put_52 : decode cX9_put 52 = .ok (.invokevirtual 204, 3) := by decide +kernel
theorem dX9_put_55 : decode cX9_put 55 = .ok (.iconst 1, 1) := by decide +kernel
theorem dX9_put_56 : decode cX9_put 56 = .ok (.ireturn, 1) := by decide +kernel
set_option maxRecDepth 20000 in
theorem ggX9_cell_X9_sheetAt : GoodIn wsX9_cell wsX9_sheetAt := goodIn_r _ [7, 8, 38, 39, 40, 41, 42, 43, 44, 45] (by decide +kernel) (by decide +kernel)
set_option maxRecDepth 20000 in
theorem gX9_cell_X9_sheetAt : GoodIn wsX9_cell (wsV RX9 71 RX9 yX9_sheetAt wsX9_sheetAt) := goodIn_app (goodIn_of _ (by decide +kernel)) ggX9_cell_X9_sheetAt
set_option maxRecDepth 20000 in
theorem ggX9_cell_X9_isLane : GoodIn wsX9_cell wsX9_isLane := goodIn_r _ [11] (by decide +kernel) (by decide +kernel)
set_option maxRecDepth 20000 in
theorem gX9_cell_X9_isLane : GoodIn wsX9_cell (va_wsS RX9 63 yX9_isLane wsX9_isLane) := goodIn_app (goodIn_of _ (by decide +kernel)) ggX9_cell_X9_isLane
set_option maxRecDepth 20000 in
theorem ggX9_cell_X9_refuseLane : GoodIn wsX9_cell wsX9_refuseLane := goodIn_r _ [15, 16, 17, 18, 19, 20, 21, 22, 23, 24, 25, 6, 26, 1, 46, 47, 48, 38, 39, 40, 41, 42, 43, 44, 45] (by decide +kernel) (by decide +kernel)
set_option maxRecDepth 20000 in
theorem gX9_cell_X9_refuseLane : GoodIn wsX9_cell (wsV RX9 207 RX9 yX9_refuseLane wsX9_refuseLane) := goodIn_app (goodIn_of _ (by decide +kernel)) ggX9_cell_X9_refuseLane
set_option maxRecDepth 20000 in
theorem ggX9_cell_X4_hasCell : GoodIn wsX9_cell wsX4_hasCell := goodIn_r _ [30, 31, 46, 47, 48] (by decide +kernel) (by decide +kernel)
set_option maxRecDepth 20000 in
theorem gX9_cell_X4_hasCell : GoodIn wsX9_cell (wsV RX9 201 RX4 yX4_hasCell wsX4_hasCell) := goodIn_app (goodIn_of _ (by decide +kernel)) ggX9_cell_X4_hasCell
set_option maxRecDepth 20000 in
theorem ggX9_cell_X9_failBy : GoodIn wsX9_cell wsX9_failBy := goodIn_r _ [26, 1, 38, 39, 40, 41, 42, 43, 44, 45] (by decide +kernel) (by decide +kernel)
set_option maxRecDepth 20000 in
theorem gX9_cell_X9_failBy : GoodIn wsX9_cell (wsV RX9 188 RX9 yX9_failBy wsX9_failBy) := goodIn_app (goodIn_of _ (by decide +kernel)) ggX9_cell_X9_failBy
set_option maxRecDepth 20000 in
theorem ggX9_cell_X4_read : GoodIn wsX9_cell wsX4_read := goodIn_r _ [35, 36, 37, 28, 29, 20, 30, 31, 46, 47, 48] (by decide +kernel) (by decide +kernel)
set_option maxRecDepth 20000 in
theorem gX9_cell_X4_read : GoodIn wsX9_cell (wsV RX9 213 RX4 yX4_read wsX4_read) := goodIn_app (goodIn_of _ (by decide +kernel)) ggX9_cell_X4_read
theorem dX9_cell_0 : decode cX9_cell 0 = .ok (.aload_n 0, 1) := by decide +kernel
theorem dX9_cell_1 : decode cX9_cell 1 = .ok (.iconst 0, 1) := by decide +kernel
theorem dX9_cell_2 : decode cX9_cell 2 = .ok (.putfield 58, 3) := by decide +kernel
theorem dX9_cell_5 : decode cX9_cell 5 = .ok (.aload_n 0, 1) := by decide +kernel
theorem dX9_cell_6 : decode cX9_cell 6 = .ok (.iload_n 1, 1) := by decide +kernel
theorem dX9_cell_7 : decode cX9_cell 7 = .ok (.invokevirtual 71, 3) := by decide +kernel
theorem dX9_cell_10 : decode cX9_cell 10 = .ok (.astore 4, 2) := by decide +kernel
theorem dX9_cell_12 : decode cX9_cell 12 = .ok (.aload 4, 2) := by decide +kernel
theorem dX9_cell_14 : decode cX9_cell 14 = .ok (.ifnull 20, 3) := by decide +kernel
theorem dX9_cell_17 : decode cX9_cell 17 = .ok (.iload_n 3, 1) := by decide +kernel
theorem dX9_cell_18 : decode cX9_cell 18 = .ok (.invokestatic 63, 3) := by decide +kernel
theorem dX9_cell_21 : decode cX9_cell 21 = .ok (.ifCond .eq 13, 3) := by decide +kernel
theorem dX9_cell_24 : decode cX9_cell 24 = .ok (.aload_n 0, 1) := by decide +kernel
theorem dX9_cell_25 : decode cX9_cell 25 = .ok (.aload 4, 2) := by decide +kernel
theorem dX9_cell_27 : decode cX9_cell 27 = .ok (.iload_n 3, 1) := by decide +kernel
theorem dX9_cell_28 : decode cX9_cell 28 = .ok (.invokevirtual 207, 3) := by decide +kernel
theorem dX9_cell_31 : decode cX9_cell 31 = .ok (.ifCond .eq 7, 3) := by decide +kernel
theorem dX9_cell_34 : decode cX9_cell 34 = .ok (.ldc2_w 211, 3) := by decide +kernel
theorem dX9_cell_37 : decode cX9_cell 37 = .ok (.lreturn, 1) := by decide +kernel
theorem dX9_cell_38 : decode cX9_cell 38 = .ok (.aload 4, 2) := by decide +kernel
theorem dX9_cell_40 : decode cX9_cell 40 = .ok (.iload_n 2, 1) := by decide +kernel
theorem dX9_cell_41 : decode cX9_cell 41 = .ok (.invokevirtual 201, 3) := by decide +kernel
theorem dX9_cell_44 : decode cX9_cell 44 = .ok (.ifCond .ne 13, 3) := by decide +kernel
theorem dX9_cell_47 : decode cX9_cell 47 = .ok (.aload_n 0, 1) := by decide +kernel
theorem dX9_cell_48 : decode cX9_cell 48 = .ok (.iconst 3, 1) := by decide +kernel
theorem dX9_cell_49 : decode cX9_cell 49 = .ok (.invokevirtual 188, 3) := by decide +kernel
theorem dX9_cell_52 : decode cX9_cell 52 = .ok (.pop, 1) := by decide +kernel
theorem dX9_cell_53 : decode cX9_cell 53 = .ok (.ldc2_w 211, 3) := by decide +kernel
theorem dX9_cell_56 : decode cX9_cell 56 = .ok (.lreturn, 1) := by decide +kernel
theorem dX9_cell_57 : decode cX9_cell 57 = .ok (.aload 4, 2) := by decide +kernel
theorem dX9_cell_59 : decode cX9_cell 59 = .ok (.iload_n 2, 1) := by decide +kernel
theorem dX9_cell_60 : decode cX9_cell 60 = .ok (.invokevirtual 213, 3) := by decide +kernel
theorem dX9_cell_63 : decode cX9_cell 63 = .ok (.i2l, 1) := by decide +kernel
theorem dX9_cell_64 : decode cX9_cell 64 = .ok (.lreturn, 1) := by decide +kernel
set_option maxRecDepth 20000 in
theorem ggX9_copy_X9_sheetAt : GoodIn wsX9_copy wsX9_sheetAt := goodIn_r _ [12, 13, 29, 30, 31, 32, 33, 34, 35, 36] (by decide +kernel) (by decide +kernel)
set_option maxRecDepth 20000 in
theorem gX9_copy_X9_sheetAt : GoodIn wsX9_copy (wsV RX9 71 RX9 yX9_sheetAt wsX9_sheetAt) := goodIn_app (goodIn_of _ (by decide +kernel)) ggX9_copy_X9_sheetAt
set_option maxRecDepth 20000 in
theorem ggX9_copy_X4_isNothing : GoodIn wsX9_copy wsX4_isNothing := goodIn_r _ [18, 19, 37, 38, 39] (by decide +kernel) (by decide +kernel)
set_option maxRecDepth 20000 in
theorem gX9_copy_X4_isNothing : GoodIn wsX9_copy (wsV RX9 195 RX4 yX4_isNothing wsX4_isNothing) := goodIn_app (goodIn_of _ (by decide +kernel)) ggX9_copy_X4_isNothing
set_option maxRecDepth 20000 in
theorem ggX9_copy_X9_failBy : GoodIn wsX9_copy wsX9_failBy := goodIn_r _ [23, 1, 29, 30, 31, 32, 33, 34, 35, 36] (by decide +kernel) (by decide +kernel)
set_option maxRecDepth 20000 in
theorem gX9_copy_X9_failBy : GoodIn wsX9_copy (wsV RX9 188 RX9 yX9_failBy wsX9_failBy) := goodIn_app (goodIn_of _ (by decide +kernel)) ggX9_copy_X9_failBy
set_option maxRecDepth 20000 in
theorem ggX9_copy_X4_spans : GoodIn wsX9_copy wsX4_spans := goodIn_r _ [27, 28, 37, 38, 39] (by decide +kernel) (by decide +kernel)
set_option maxRecDepth 20000 in
theorem gX9_copy_X4_spans : GoodIn wsX9_copy (wsV RX9 219 RX4 yX4_spans wsX4_spans) := goodIn_app (goodIn_of _ (by decide +kernel)) ggX9_copy_X4_spans
theorem dX9_copy_0 : decode cX9_copy 0 = .ok (.aload_n 0, 1) := by decide +kernel
theorem dX9_copy_1 : decode cX9_copy 1 = .ok (.iconst 0, 1) := by decide +kernel
theorem dX9_copy_2 : decode cX9_copy 2 = .ok (.putfield 58, 3) := by decide +kernel
theorem dX9_copy_5 : decode cX9_copy 5 = .ok (.aload_n 0, 1) := by decide +kernel
theorem dX9_copy_6 : decode cX9_copy 6 = .ok (.iload_n 1, 1) := by decide +kernel
theorem dX9_copy_7 : decode cX9_copy 7 = .ok (.invokevirtual 71, 3) := by decide +kernel
theorem dX9_copy_10 : decode cX9_copy 10 = .ok (.astore 6, 2) := by decide +kernel
theorem dX9_copy_12 : decode cX9_copy 12 = .ok (.aload_n 0, 1) := by decide +kernel
theorem dX9_copy_13 : decode cX9_copy 13 = .ok (.iload_n 3, 1) := by decide +kernel
theorem dX9_copy_14 : decode cX9_copy 14 = .ok (.invokevirtual 71, 3) := by decide +kernel
theorem dX9_copy_17 : decode cX9_copy 17 = .ok (.astore 7, 2) := by decide +kernel
theorem dX9_copy_19 : decode cX9_copy 19 = .ok (.aload 6, 2) := by decide +kernel
theorem dX9_copy_21 : decode cX9_copy 21 = .ok (.ifnull 8, 3) := by decide +kernel
theorem dX9_copy_24 : decode cX9_copy 24 = .ok (.aload 7, 2) := by decide +kernel
theorem dX9_copy_26 : decode cX9_copy 26 = .ok (.ifnonnull 5, 3) := by decide +kernel
theorem dX9_copy_29 : decode cX9_copy 29 = .ok (.iconst (-1), 1) := by decide +kernel
theorem dX9_copy_30 : decode cX9_copy 30 = .ok (.ireturn, 1) := by decide +kernel
theorem dX9_copy_31 : decode cX9_copy 31 = .ok (.aload 6, 2) := by decide +kernel
theorem dX9_copy_33 : decode cX9_copy 33 = .ok (.invokevirtual 195, 3) := by decide +kernel
theorem dX9_copy_36 : decode cX9_copy 36 = .ok (.ifCond .ne 11, 3) := by decide +kernel
theorem dX9_copy_39 : decode cX9_copy 39 = .ok (.aload 7, 2) := by decide +kernel
theorem dX9_copy_41 : decode cX9_copy 41 = .ok (.invokevirtual 195, 3) := by decide +kernel
theorem dX9_copy_44 : decode cX9_copy 44 = .ok (.ifCond .eq 9, 3) := by decide +kernel
theorem dX9_copy_47 : decode cX9_copy 47 = .ok (.aload_n 0, 1) := by decide +kernel
theorem dX9_copy_48 : decode cX9_copy 48 = .ok (.iconst 1, 1) := by decide +kernel
theorem dX9_copy_49 : decode cX9_copy 49 = .ok (.invokevirtual 188, 3) := by decide +kernel
theorem dX9_copy_52 : decode cX9_copy 52 = .ok (.ireturn, 1) := by decide +kernel
theorem dX9_copy_53 : decode cX9_copy 53 = .ok (.aload 6, 2) := by decide +kernel
theorem dX9_copy_55 : decode cX9_copy 55 = .ok (.getfield 216, 3) := by decide +kernel
theorem dX9_copy_58 : decode cX9_copy 58 = .ok (.aload 7, 2) := by decide +kernel
theorem dX9_copy_60 : decode cX9_copy 60 = .ok (.getfield 216, 3) := by decide +kernel
theorem dX9_copy_63 : decode cX9_copy 63 = .ok (.if_icmp .eq 9, 3) := by decide +kernel
theorem dX9_copy_66 : decode cX9_copy 66 = .ok (.aload_n 0, 1) := by decide +kernel
theorem dX9_copy_67 : decode cX9_copy 67 = .ok (.iconst 2, 1) := by decide +kernel
theorem dX9_copy_68 : decode cX9_copy 68 = .ok (.invokevirtual 188, 3) := by decide +kernel
theorem dX9_copy_71 : decode cX9_copy 71 = .ok (.ireturn, 1) := by decide +kernel
theorem dX9_copy_72 : decode cX9_copy 72 = .ok (.aload 6, 2) := by decide +kernel
theorem dX9_copy_74 : decode cX9_copy 74 = .ok (.iload_n 2, 1) := by decide +kernel
theorem dX9_copy_75 : decode cX9_copy 75 = .ok (.iload 5, 2) := by decide +kernel
theorem dX9_copy_77 : decode cX9_copy 77 = .ok (.invokevirtual 219, 3) := by decide +kernel
theorem dX9_copy_80 : decode cX9_copy 80 = .ok (.ifCond .eq 15, 3) := by decide +kernel
theorem dX9_copy_83 : decode cX9_copy 83 = .ok (.aload 7, 2) := by decide +kernel
theorem dX9_copy_85 : decode cX9_copy 85 = .ok (.iload 4, 2) := by decide +kernel
theorem dX9_copy_87 : decode cX9_copy 87 = .ok (.iload 5, 2) := by decide +kernel
theorem dX9_copy_89 : decode cX9_copy 89 = .ok (.invokevirtual 219, 3) := by decide +kernel
theorem dX9_copy_92 : decode cX9_copy 92 = .ok (.ifCond .ne 9, 3) := by decide +kernel
theorem dX9_copy_95 : decode cX9_copy 95 = .ok (.aload_n 0, 1) := by decide +kernel
theorem dX9_copy_96 : decode cX9_copy 96 = .ok (.iconst 3, 1) := by decide +kernel
theorem dX9_copy_97 : decode cX9_copy 97 = .ok (.invokevirtual 188, 3) := by decide +kernel
theorem dX9_copy_100 : decode cX9_copy 100 = .ok (.ireturn, 1) := by decide +kernel
theorem dX9_copy_101 : decode cX9_copy 101 = .ok (.aload 6, 2) := by decide +kernel
theorem dX9_copy_103 : decode cX9_copy 103 = .ok (.getfield 223, 3) := by decide +kernel
theorem dX9_copy_106 : decode cX9_copy 106 = .ok (.iload_n 2, 1) := by decide +kernel
theorem dX9_copy_107 : decode cX9_copy 107 = .ok (.aload 7, 2) := by decide +kernel
theorem dX9_copy_109 : decode cX9_copy 109 = .ok (.getfield 223, 3) := by decide +kernel
theorem dX9_copy_112 : decode cX9_copy 112 = .ok (.iload 4, 2) := by decide +kernel
theorem dX9_copy_114 : decode cX9_copy 114 = .ok (.iload 5, 2) := by decide +kernel
theorem dX9_copy_116 : decode cX9_copy 116 = .ok (.invokestatic 226, 3) := by decide +kernel
theorem dX9_copy_119 : decode cX9_copy 119 = .ok (.iload 5, 2) := by decide +kernel
theorem dX9_copy_121 : decode cX9_copy 121 = .ok (.ireturn, 1) := by decide +kernel
set_option maxRecDepth 20000 in
theorem ggX9_tell_X5_thingAt : GoodIn wsX9_tell wsX5_thingAt := goodIn_r _ [7, 8, 9, 10, 11, 6, 12, 13, 63, 64, 65, 66, 67, 68, 69, 70] (by decide +kernel) (by decide +kernel)
set_option maxRecDepth 20000 in
theorem gX9_tell_X5_thingAt : GoodIn wsX9_tell (wsV RX9 86 RX5 yX5_thingAt wsX5_thingAt) := goodIn_app (goodIn_of _ (by decide +kernel)) ggX9_tell_X5_thingAt
set_option maxRecDepth 20000 in
theorem ggX9_tell_X0_telling : GoodIn wsX9_tell wsX0_telling := goodIn_r _ [20, 21, 22, 23, 24, 25, 26, 27, 28, 29, 30, 31, 32, 33, 34, 15, 35, 36, 37, 38, 39, 40, 41, 42, 43, 44, 45, 46, 47, 48, 49, 50, 51, 71, 72, 73, 74, 75, 76, 77, 78, 79, 80, 81, 82, 83, 84, 85, 86] (by decide +kernel) (by decide +kernel)
set_option maxRecDepth 20000 in
theorem gX9_tell_X0_telling_u232X0 : GoodIn wsX9_tell (va_wsO RX9 232 RX0 "OneNail$Thing" ⟨"OneNail$Thing", "telling", "(LOneNail$Trace;)I"⟩ yX0_telling wsX0_telling) := goodIn_app (goodIn_of _ (by decide +kernel)) ggX9_tell_X0_telling
set_option maxRecDepth 20000 in
theorem ggX9_tell_X1_telling : GoodIn wsX9_tell wsX1_telling := goodIn_r _ [32, 33, 22, 23, 24, 25, 26, 34, 15, 35, 36, 37, 38, 39, 40, 41, 42, 43, 44, 45, 46, 47, 48, 71, 72, 73, 74, 75, 76, 77, 78, 79, 80, 81, 82, 83, 84, 85, 86] (by decide +kernel) (by decide +kernel)
set_option maxRecDepth 20000 in
theorem gX9_tell_X1_telling_u232X1 : GoodIn wsX9_tell (va_wsO RX9 232 RX1 "OneNail$Thing" ⟨"OneNail$Thing", "telling", "(LOneNail$Trace;)I"⟩ yX1_telling wsX1_telling) := goodIn_app (goodIn_of _ (by decide +kernel)) ggX9_tell_X1_telling
set_option maxRecDepth 20000 in
theorem ggX9_tell_X6_telling : GoodIn wsX9_tell wsX6_telling := goodIn_r _ [38, 39, 40, 41, 42, 37, 43, 44, 45, 22, 23, 24, 25, 26, 46, 47, 48, 72, 73, 74, 75, 76, 77, 78, 79, 80, 81, 82, 83, 84, 85, 86, 71] (by decide +kernel) (by decide +kernel)
set_option maxRecDepth 20000 in
theorem gX9_tell_X6_telling : GoodIn wsX9_tell (wsV RX9 232 RX6 yX6_telling wsX6_telling) := goodIn_app (goodIn_of _ (by decide +kernel)) ggX9_tell_X6_telling
theorem dX9_tell_0 : decode cX9_tell 0 = .ok (.aload_n 0, 1) := by decide +kernel
theorem dX9_tell_1 : decode cX9_tell 1 = .ok (.getfield 12, 3) := by decide +kernel
theorem dX9_tell_4 : decode cX9_tell 4 = .ok (.iload_n 1, 1) := by decide +kernel
theorem dX9_tell_5 : decode cX9_tell 5 = .ok (.invokevirtual 86, 3) := by decide +kernel
theorem dX9_tell_8 : decode cX9_tell 8 = .ok (.astore_n 2, 1) := by decide +kernel
theorem dX9_tell_9 : decode cX9_tell 9 = .ok (.aload_n 2, 1) := by decide +kernel
theorem dX9_tell_10 : decode cX9_tell 10 = .ok (.ifnonnull 7, 3) := by decide +kernel
theorem dX9_tell_13 : decode cX9_tell 13 = .ok (.iconst (-1), 1) := by decide +kernel
theorem dX9_tell_14 : decode cX9_tell 14 = .ok (.goto 11, 3) := by decide +kernel
theorem dX9_tell_17 : decode cX9_tell 17 = .ok (.aload_n 2, 1) := by decide +kernel
theorem dX9_tell_18 : decode cX9_tell 18 = .ok (.aload_n 0, 1) := by decide +kernel
theorem dX9_tell_19 : decode cX9_tell 19 = .ok (.getfield 54, 3) := by decide +kernel
theorem dX9_tell_22 : decode cX9_tell 22 = .ok (.invokevirtual 232, 3) := by decide +kernel
theorem dX9_tell_25 : decode cX9_tell 25 = .ok (.ireturn, 1) := by decide +kernel
set_option maxRecDepth 20000 in
theorem ggX9_strike_X5_thingAt : GoodIn wsX9_strike wsX5_thingAt := goodIn_r _ [7, 8, 9, 10, 11, 6, 12, 13, 43, 44, 45, 46, 47, 48, 49, 50] (by decide +kernel) (by decide +kernel)
set_option maxRecDepth 20000 in
theorem gX9_strike_X5_thingAt : GoodIn wsX9_strike (wsV RX9 86 RX5 yX5_thingAt wsX5_thingAt) := goodIn_app (goodIn_of _ (by decide +kernel)) ggX9_strike_X5_thingAt
set_option maxRecDepth 20000 in
theorem ggX9_strike_X0_struck : GoodIn wsX9_strike wsX0_struck := goodIn_r _ [20, 21, 22, 23, 24, 25, 26, 51] (by decide +kernel) (by decide +kernel)
set_option maxRecDepth 20000 in
theorem gX9_strike_X0_struck_u236X0 : GoodIn wsX9_strike (va_wsO RX9 236 RX0 "OneNail$Thing" ⟨"OneNail$Thing", "struck", "(LOneNail$Trace;)I"⟩ yX0_struck wsX0_struck) := goodIn_app (goodIn_of _ (by decide +kernel)) ggX9_strike_X0_struck
set_option maxRecDepth 20000 in
theorem ggX9_strike_X6_struck : GoodIn wsX9_strike wsX6_struck := goodIn_r _ [27, 31, 32, 22, 23, 24, 25, 26, 52, 53, 54, 55, 56, 57, 58, 59, 60, 61, 62, 63, 64, 65, 66, 51] (by decide +kernel) (by decide +kernel)
set_option maxRecDepth 20000 in
theorem gX9_strike_X6_struck_u236X1 : GoodIn wsX9_strike (va_wsU RX9 236 RX1 "OneNail$Thing" ⟨"OneNail$Thing", "struck", "(LOneNail$Trace;)I"⟩ yX6_struck wsX6_struck) := goodIn_app (goodIn_of _ (by decide +kernel)) ggX9_strike_X6_struck
set_option maxRecDepth 20000 in
theorem gX9_strike_X6_struck : GoodIn wsX9_strike (wsV RX9 236 RX6 yX6_struck wsX6_struck) := goodIn_app (goodIn_of _ (by decide +kernel)) ggX9_strike_X6_struck
theorem dX9_strike_0 : decode cX9_strike 0 = .ok (.aload_n 0, 1) := by decide +kernel
theorem dX9_strike_1 : decode cX9_strike 1 = .ok (.getfield 12, 3) := by decide +kernel
theorem dX9_strike_4 : decode cX9_strike 4 = .ok (.iload_n 1, 1) := by decide +kernel
theorem dX9_strike_5 : decode cX9_strike 5 = .ok (.invokevirtual 86, 3) := by decide +kernel
theorem dX9_strike_8 : decode cX9_strike 8 = .ok (.astore_n 2, 1) := by decide +kernel
theorem dX9_strike_9 : decode cX9_strike 9 = .ok (.aload_n 2, 1) := by decide +kernel
theorem dX9_strike_10 : decode cX9_strike 10 = .ok (.ifnonnull 7, 3) := by decide +kernel
theorem dX9_strike_13 : decode cX9_strike 13 = .ok (.iconst (-1), 1) := by decide +kernel
theorem dX9_strike_14 : decode cX9_strike 14 = .ok (.goto 11, 3) := by decide +kernel
theorem dX9_strike_17 : decode cX9_strike 17 = .ok (.aload_n 2, 1) := by decide +kernel
theorem dX9_strike_18 : decode cX9_strike 18 = .ok (.aload_n 0, 1) := by decide +kernel
theorem dX9_strike_19 : decode cX9_strike 19 = .ok (.getfield 54, 3) := by decide +kernel
theorem dX9_strike_22 : decode cX9_strike 22 = .ok (.invokevirtual 236, 3) := by decide +kernel
theorem dX9_strike_25 : decode cX9_strike 25 = .ok (.ireturn, 1) := by decide +kernel
set_option maxRecDepth 20000 in
theorem ggX9_as_X5_thingAt : GoodIn wsX9_as wsX5_thingAt := goodIn_r _ [7, 8, 9, 10, 11, 6, 12, 13, 43, 44, 45, 46, 47, 48, 49, 50] (by decide +kernel) (by decide +kernel)
set_option maxRecDepth 20000 in
theorem gX9_as_X5_thingAt : GoodIn wsX9_as (wsV RX9 86 RX5 yX5_thingAt wsX5_thingAt) := goodIn_app (goodIn_of _ (by decide +kernel)) ggX9_as_X5_thingAt
set_option maxRecDepth 20000 in
theorem ggX9_as_X0_kindNumber : GoodIn wsX9_as wsX0_kindNumber := goodIn_r _ [20] (by decide +kernel) (by decide +kernel)
set_option maxRecDepth 20000 in
theorem gX9_as_X0_kindNumber_u90X0 : GoodIn wsX9_as (va_wsO RX9 90 RX0 "OneNail$Thing" ⟨"OneNail$Thing", "kindNumber", "()I"⟩ yX0_kindNumber wsX0_kindNumber) := goodIn_app (goodIn_of _ (by decide +kernel)) ggX9_as_X0_kindNumber
set_option maxRecDepth 20000 in
theorem ggX9_as_X1_kindNumber : GoodIn wsX9_as wsX1_kindNumber := goodIn_r _ [25] (by decide +kernel) (by decide +kernel)
set_option maxRecDepth 20000 in
theorem gX9_as_X1_kindNumber_u90X1 : GoodIn wsX9_as (va_wsO RX9 90 RX1 "OneNail$Thing" ⟨"OneNail$Thing", "kindNumber", "()I"⟩ yX1_kindNumber wsX1_kindNumber) := goodIn_app (goodIn_of _ (by decide +kernel)) ggX9_as_X1_kindNumber
set_option maxRecDepth 20000 in
theorem ggX9_as_X6_kindNumber : GoodIn wsX9_as wsX6_kindNumber := goodIn_r _ [21] (by decide +kernel) (by decide +kernel)
set_option maxRecDepth 20000 in
theorem gX9_as_X6_kindNumber : GoodIn wsX9_as (wsV RX9 90 RX6 yX6_kindNumber wsX6_kindNumber) := goodIn_app (goodIn_of _ (by decide +kernel)) ggX9_as_X6_kindNumber
set_option maxRecDepth 20000 in
theorem ggX9_as_X9_failBy : GoodIn wsX9_as wsX9_failBy := goodIn_r _ [34, 1, 35, 36, 37, 38, 39, 40, 41, 42] (by decide +kernel) (by decide +kernel)
set_option maxRecDepth 20000 in
theorem gX9_as_X9_failBy : GoodIn wsX9_as (wsV RX9 188 RX9 yX9_failBy wsX9_failBy) := goodIn_app (goodIn_of _ (by decide +kernel)) ggX9_as_X9_failBy
theorem dX9_as_0 : decode cX9_as 0 = .ok (.aload_n 0, 1) := by decide +kernel
theorem dX9_as_1 : decode cX9_as 1 = .ok (.iconst 0, 1) := by decide +kernel
theorem dX9_as_2 : decode cX9_as 2 = .ok (.putfield 58, 3) := by decide +kernel
theorem dX9_as_5 : decode cX9_as 5 = .ok (.aload_n 0, 1) := by decide +kernel
theorem dX9_as_6 : decode cX9_as 6 = .ok (.getfield 12, 3) := by decide +kernel
theorem dX9_as_9 : decode cX9_as 9 = .ok (.iload_n 1, 1) := by decide +kernel
theorem dX9_as_10 : decode cX9_as 10 = .ok (.invokevirtual 86, 3) := by decide +kernel
theorem dX9_as_13 : decode cX9_as 13 = .ok (.astore_n 3, 1) := by decide +kernel
theorem dX9_as_14 : decode cX9_as 14 = .ok (.aload_n 3, 1) := by decide +kernel
theorem dX9_as_15 : decode cX9_as 15 = .ok (.ifnonnull 5, 3) := by decide +kernel
theorem dX9_as_18 : decode cX9_as 18 = .ok (.iconst (-1), 1) := by decide +kernel
theorem dX9_as_19 : decode cX9_as 19 = .ok (.ireturn, 1) := by decide +kernel
theorem dX9_as_20 : decode cX9_as 20 = .ok (.iload_n 2, 1) := by decide +kernel
theorem dX9_as_21 : decode cX9_as 21 = .ok (.ifCond .lt 8, 3) := by decide +kernel
theorem dX9_as_24 : decode cX9_as 24 = .ok (.iload_n 2, 1) := by decide +kernel
theorem dX9_as_25 : decode cX9_as 25 = .ok (.iconst 3, 1) := by decide +kernel
theorem dX9_as_26 : decode cX9_as 26 = .ok (.if_icmp .lt 6, 3) := by decide +kernel
theorem dX9_as_29 : decode cX9_as 29 = .ok (.bipush (-2), 2) := by decide +kernel
theorem dX9_as_31 : decode cX9_as 31 = .ok (.ireturn, 1) := by decide +kernel
theorem dX9_as_32 : decode cX9_as 32 = .ok (.aload_n 3, 1) := by decide +kernel
theorem dX9_as_33 : decode cX9_as 33 = .ok (.invokevirtual 90, 3) := by decide +kernel
theorem dX9_as_36 : decode cX9_as 36 = .ok (.iload_n 2, 1) := by decide +kernel
theorem dX9_as_37 : decode cX9_as 37 = .ok (.if_icmp .ge 11, 3) := by decide +kernel
theorem dX9_as_40 : decode cX9_as 40 = .ok (.aload_n 0, 1) := by decide +kernel
theorem dX9_as_41 : decode cX9_as 41 = .ok (.iconst 2, 1) := by decide +kernel
theorem dX9_as_42 : decode cX9_as 42 = .ok (.invokevirtual 188, 3) := by decide +kernel
theorem dX9_as_45 : decode cX9_as 45 = .ok (.goto 4, 3) := by decide +kernel
theorem dX9_as_48 : decode cX9_as 48 = .ok (.iconst 1, 1) := by decide +kernel
theorem dX9_as_49 : decode cX9_as 49 = .ok (.ireturn, 1) := by decide +kernel
theorem dX9_trace_0 : decode cX9_trace 0 = .ok (.aload_n 0, 1) := by decide +kernel
theorem dX9_trace_1 : decode cX9_trace 1 = .ok (.getfield 54, 3) := by decide +kernel
theorem dX9_trace_4 : decode cX9_trace 4 = .ok (.getfield 239, 3) := by decide +kernel
theorem dX9_trace_7 : decode cX9_trace 7 = .ok (.ireturn, 1) := by decide +kernel
theorem dX9_fault_0 : decode cX9_fault 0 = .ok (.aload_n 0, 1) := by decide +kernel
theorem dX9_fault_1 : decode cX9_fault 1 = .ok (.getfield 58, 3) := by decide +kernel
theorem dX9_fault_4 : decode cX9_fault 4 = .ok (.ireturn, 1) := by decide +kernel
theorem dX9_many_0 : decode cX9_many 0 = .ok (.iload_n 1, 1) := by decide +kernel
theorem dX9_many_1 : decode cX9_many 1 = .ok (.tableswitch 63 0 3 #[31, 39, 47, 55], 31) := by decide +kernel
theorem dX9_many_32 : decode cX9_many 32 = .ok (.aload_n 0, 1) := by decide +kernel
theorem dX9_many_33 : decode cX9_many 33 = .ok (.getfield 12, 3) := by decide +kernel
theorem dX9_many_36 : decode cX9_many 36 = .ok (.getfield 83, 3) := by decide +kernel
theorem dX9_many_39 : decode cX9_many 39 = .ok (.ireturn, 1) := by decide +kernel
theorem dX9_many_40 : decode cX9_many 40 = .ok (.aload_n 0, 1) := by decide +kernel
theorem dX9_many_41 : decode cX9_many 41 = .ok (.getfield 12, 3) := by decide +kernel
theorem dX9_many_44 : decode cX9_many 44 = .ok (.getfield 115, 3) := by decide +kernel
theorem dX9_many_47 : decode cX9_many 47 = .ok (.ireturn, 1) := by decide +kernel
theorem dX9_many_48 : decode cX9_many 48 = .ok (.aload_n 0, 1) := by decide +kernel
theorem dX9_many_49 : decode cX9_many 49 = .ok (.getfield 12, 3) := by decide +kernel
theorem dX9_many_52 : decode cX9_many 52 = .ok (.getfield 108, 3) := by decide +kernel
theorem dX9_many_55 : decode cX9_many 55 = .ok (.ireturn, 1) := by decide +kernel
theorem dX9_many_56 : decode cX9_many 56 = .ok (.aload_n 0, 1) := by decide +kernel
theorem dX9_many_57 : decode cX9_many 57 = .ok (.getfield 21, 3) := by decide +kernel
theorem dX9_many_60 : decode cX9_many 60 = .ok (.getfield 183, 3) := by decide +kernel
theorem dX9_many_63 : decode cX9_many 63 = .ok (.ireturn, 1) := by decide +kernel
theorem dX9_many_64 : decode cX9_many 64 = .ok (.bipush (-2), 2) := by decide +kernel
theorem dX9_many_66 : decode cX9_many 66 = .ok (.ireturn, 1) := by decide +kernel
theorem dX9_isLane_0 : decode cX9_isLane 0 = .ok (.iload_n 0, 1) := by decide +kernel
theorem dX9_isLane_1 : decode cX9_isLane 1 = .ok (.ifCond .lt 12, 3) := by decide +kernel
theorem dX9_isLane_4 : decode cX9_isLane 4 = .ok (.iload_n 0, 1) := by decide +kernel
theorem dX9_isLane_5 : decode cX9_isLane 5 = .ok (.iconst 3, 1) := by decide +kernel
theorem dX9_isLane_6 : decode cX9_isLane 6 = .ok (.if_icmp .ge 7, 3) := by decide +kernel
theorem dX9_isLane_9 : decode cX9_isLane 9 = .ok (.iconst 1, 1) := by decide +kernel
theorem dX9_isLane_10 : decode cX9_isLane 10 = .ok (.goto 4, 3) := by decide +kernel
theorem dX9_isLane_13 : decode cX9_isLane 13 = .ok (.iconst 0, 1) := by decide +kernel
theorem dX9_isLane_14 : decode cX9_isLane 14 = .ok (.ireturn, 1) := by decide +kernel
theorem dX9_isSpan_0 : decode cX9_isSpan 0 = .ok (.iload_n 0, 1) := by decide +kernel
theorem dX9_isSpan_1 : decode cX9_isSpan 1 = .ok (.iconst 1, 1) := by decide +kernel
theorem dX9_isSpan_2 : decode cX9_isSpan 2 = .ok (.if_icmp .lt 14, 3) := by decide +kernel
theorem dX9_isSpan_5 : decode cX9_isSpan 5 = .ok (.iload_n 0, 1) := by decide +kernel
theorem dX9_isSpan_6 : decode cX9_isSpan 6 = .ok (.sipush 300, 3) := by decide +kernel
theorem dX9_isSpan_9 : decode cX9_isSpan 9 = .ok (.if_icmp .gt 7, 3) := by decide +kernel
theorem dX9_isSpan_12 : decode cX9_isSpan 12 = .ok (.iconst 1, 1) := by decide +kernel
theorem dX9_isSpan_13 : decode cX9_isSpan 13 = .ok (.goto 4, 3) := by decide +kernel
theorem dX9_isSpan_16 : decode cX9_isSpan 16 = .ok (.iconst 0, 1) := by decide +kernel
theorem dX9_isSpan_17 : decode cX9_isSpan 17 = .ok (.ireturn, 1) := by decide +kernel
theorem dX9_isMinute_0 : decode cX9_isMinute 0 = .ok (.iload_n 0, 1) := by decide +kernel
theorem dX9_isMinute_1 : decode cX9_isMinute 1 = .ok (.ifCond .lt 14, 3) := by decide +kernel
theorem dX9_isMinute_4 : decode cX9_isMinute 4 = .ok (.iload_n 0, 1) := by decide +kernel
theorem dX9_isMinute_5 : decode cX9_isMinute 5 = .ok (.sipush 300, 3) := by decide +kernel
theorem dX9_isMinute_8 : decode cX9_isMinute 8 = .ok (.if_icmp .ge 7, 3) := by decide +kernel
theorem dX9_isMinute_11 : decode cX9_isMinute 11 = .ok (.iconst 1, 1) := by decide +kernel
theorem dX9_isMinute_12 : decode cX9_isMinute 12 = .ok (.goto 4, 3) := by decide +kernel
theorem dX9_isMinute_15 : decode cX9_isMinute 15 = .ok (.iconst 0, 1) := by decide +kernel
theorem dX9_isMinute_16 : decode cX9_isMinute 16 = .ok (.ireturn, 1) := by decide +kernel
theorem dX9_isHalf_0 : decode cX9_isHalf 0 = .ok (.iload_n 0, 1) := by decide +kernel
theorem dX9_isHalf_1 : decode cX9_isHalf 1 = .ok (.ifCond .eq 8, 3) := by decide +kernel
theorem dX9_isHalf_4 : decode cX9_isHalf 4 = .ok (.iload_n 0, 1) := by decide +kernel
theorem dX9_isHalf_5 : decode cX9_isHalf 5 = .ok (.iconst 1, 1) := by decide +kernel
theorem dX9_isHalf_6 : decode cX9_isHalf 6 = .ok (.if_icmp .ne 7, 3) := by decide +kernel
theorem dX9_isHalf_9 : decode cX9_isHalf 9 = .ok (.iconst 1, 1) := by decide +kernel
theorem dX9_isHalf_10 : decode cX9_isHalf 10 = .ok (.goto 4, 3) := by decide +kernel
theorem dX9_isHalf_13 : decode cX9_isHalf 13 = .ok (.iconst 0, 1) := by decide +kernel
theorem dX9_isHalf_14 : decode cX9_isHalf 14 = .ok (.ireturn, 1) := by decide +kernel
theorem dX9_sheetAt_0 : decode cX9_sheetAt 0 = .ok (.iload_n 1, 1) := by decide +kernel
theorem dX9_sheetAt_1 : decode cX9_sheetAt 1 = .ok (.ifCond .lt 21, 3) := by decide +kernel
theorem dX9_sheetAt_4 : decode cX9_sheetAt 4 = .ok (.iload_n 1, 1) := by decide +kernel
theorem dX9_sheetAt_5 : decode cX9_sheetAt 5 = .ok (.aload_n 0, 1) := by decide +kernel
theorem dX9_sheetAt_6 : decode cX9_sheetAt 6 = .ok (.getfield 43, 3) := by decide +kernel
theorem dX9_sheetAt_9 : decode cX9_sheetAt 9 = .ok (.arraylength, 1) := by decide +kernel
theorem dX9_sheetAt_10 : decode cX9_sheetAt 10 = .ok (.if_icmp .ge 12, 3) := by decide +kernel
theorem dX9_sheetAt_13 : decode cX9_sheetAt 13 = .ok (.aload_n 0, 1) := by decide +kernel
theorem dX9_sheetAt_14 : decode cX9_sheetAt 14 = .ok (.getfield 43, 3) := by decide +kernel
theorem dX9_sheetAt_17 : decode cX9_sheetAt 17 = .ok (.iload_n 1, 1) := by decide +kernel
theorem dX9_sheetAt_18 : decode cX9_sheetAt 18 = .ok (.aaload, 1) := by decide +kernel
theorem dX9_sheetAt_19 : decode cX9_sheetAt 19 = .ok (.goto 4, 3) := by decide +kernel
theorem dX9_sheetAt_22 : decode cX9_sheetAt 22 = .ok (.aconst_null, 1) := by decide +kernel
theorem dX9_sheetAt_23 : decode cX9_sheetAt 23 = .ok (.areturn, 1) := by decide +kernel
theorem dX9_failBy_0 : decode cX9_failBy 0 = .ok (.aload_n 0, 1) := by decide +kernel
theorem dX9_failBy_1 : decode cX9_failBy 1 = .ok (.iload_n 1, 1) := by decide +kernel
theorem dX9_failBy_2 : decode cX9_failBy 2 = .ok (.putfield 58, 3) := by decide +kernel
theorem dX9_failBy_5 : decode cX9_failBy 5 = .ok (.bipush (-10), 2) := by decide +kernel
theorem dX9_failBy_7 : decode cX9_failBy 7 = .ok (.iload_n 1, 1) := by decide +kernel
theorem dX9_failBy_8 : decode cX9_failBy 8 = .ok (.isub, 1) := by decide +kernel
theorem dX9_failBy_9 : decode cX9_failBy 9 = .ok (.ireturn, 1) := by decide +kernel
set_option maxRecDepth 20000 in
theorem ggX9_refuseLane_X4_isNothing : GoodIn wsX9_refuseLane wsX4_isNothing := goodIn_r _ [6, 7, 14, 15, 16] (by decide +kernel) (by decide +kernel)
set_option maxRecDepth 20000 in
theorem gX9_refuseLane_X4_isNothing : GoodIn wsX9_refuseLane (wsV RX9 195 RX4 yX4_isNothing wsX4_isNothing) := goodIn_app (goodIn_of _ (by decide +kernel)) ggX9_refuseLane_X4_isNothing
set_option maxRecDepth 20000 in
theorem ggX9_refuseLane_X9_failBy : GoodIn wsX9_refuseLane wsX9_failBy := goodIn_r _ [12, 13, 17, 18, 19, 20, 21, 22, 23, 24] (by decide +kernel) (by decide +kernel)
set_option maxRecDepth 20000 in
theorem gX9_refuseLane_X9_failBy : GoodIn wsX9_refuseLane (wsV RX9 188 RX9 yX9_failBy wsX9_failBy) := goodIn_app (goodIn_of _ (by decide +kernel)) ggX9_refuseLane_X9_failBy
theorem dX9_refuseLane_0 : decode cX9_refuseLane 0 = .ok (.aload_n 1, 1) := by decide +kernel
theorem dX9_refuseLane_1 : decode cX9_refuseLane 1 = .ok (.invokevirtual 195, 3) := by decide +kernel
theorem dX9_refuseLane_4 : decode cX9_refuseLane 4 = .ok (.ifCond .eq 9, 3) := by decide +kernel
theorem dX9_refuseLane_7 : decode cX9_refuseLane 7 = .ok (.aload_n 0, 1) := by decide +kernel
theorem dX9_refuseLane_8 : decode cX9_refuseLane 8 = .ok (.iconst 1, 1) := by decide +kernel
theorem dX9_refuseLane_9 : decode cX9_refuseLane 9 = .ok (.invokevirtual 188, 3) := by decide +kernel
theorem dX9_refuseLane_12 : decode cX9_refuseLane 12 = .ok (.ireturn, 1) := by decide +kernel
theorem dX9_refuseLane_13 : decode cX9_refuseLane 13 = .ok (.aload_n 1, 1) := by decide +kernel
theorem dX9_refuseLane_14 : decode cX9_refuseLane 14 = .ok (.getfield 216, 3) := by decide +kernel
theorem dX9_refuseLane_17 : decode cX9_refuseLane 17 = .ok (.iload_n 2, 1) := by decide +kernel
theorem dX9_refuseLane_18 : decode cX9_refuseLane 18 = .ok (.if_icmp .eq 11, 3) := by decide +kernel
theorem dX9_refuseLane_21 : decode cX9_refuseLane 21 = .ok (.aload_n 0, 1) := by decide +kernel
theorem dX9_refuseLane_22 : decode cX9_refuseLane 22 = .ok (.iconst 2, 1) := by decide +kernel
theorem dX9_refuseLane_23 : decode cX9_refuseLane 23 = .ok (.invokevirtual 188, 3) := by decide +kernel
theorem dX9_refuseLane_26 : decode cX9_refuseLane 26 = .ok (.goto 4, 3) := by decide +kernel
theorem dX9_refuseLane_29 : decode cX9_refuseLane 29 = .ok (.iconst 0, 1) := by decide +kernel
theorem dX9_refuseLane_30 : decode cX9_refuseLane 30 = .ok (.ireturn, 1) := by decide +kernel
set_option maxRecDepth 20000 in
theorem ggX9_refuseCells_X9_sheetAt : GoodIn wsX9_refuseCells wsX9_sheetAt := goodIn_r _ [6, 7, 28, 29, 30, 31, 32, 33, 34, 35] (by decide +kernel) (by decide +kernel)
set_option maxRecDepth 20000 in
theorem gX9_refuseCells_X9_sheetAt : GoodIn wsX9_refuseCells (wsV RX9 71 RX9 yX9_sheetAt wsX9_sheetAt) := goodIn_app (goodIn_of _ (by decide +kernel)) ggX9_refuseCells_X9_sheetAt
set_option maxRecDepth 20000 in
theorem ggX9_refuseCells_X9_refuseLane : GoodIn wsX9_refuseCells wsX9_refuseLane := goodIn_r _ [11, 12, 13, 14, 15, 16, 17, 18, 19, 20, 21, 5, 22, 1, 36, 37, 38, 28, 29, 30, 31, 32, 33, 34, 35] (by decide +kernel) (by decide +kernel)
set_option maxRecDepth 20000 in
theorem gX9_refuseCells_X9_refuseLane : GoodIn wsX9_refuseCells (wsV RX9 207 RX9 yX9_refuseLane wsX9_refuseLane) := goodIn_app (goodIn_of _ (by decide +kernel)) ggX9_refuseCells_X9_refuseLane
set_option maxRecDepth 20000 in
theorem ggX9_refuseCells_X9_failBy : GoodIn wsX9_refuseCells wsX9_failBy := goodIn_r _ [22, 1, 28, 29, 30, 31, 32, 33, 34, 35] (by decide +kernel) (by decide +kernel)
set_option maxRecDepth 20000 in
theorem gX9_refuseCells_X9_failBy : GoodIn wsX9_refuseCells (wsV RX9 188 RX9 yX9_failBy wsX9_failBy) := goodIn_app (goodIn_of _ (by decide +kernel)) ggX9_refuseCells_X9_failBy
set_option maxRecDepth 20000 in
theorem ggX9_refuseCells_X4_spans : GoodIn wsX9_refuseCells wsX4_spans := goodIn_r _ [26, 27, 36, 37, 38] (by decide +kernel) (by decide +kernel)
set_option maxRecDepth 20000 in
theorem gX9_refuseCells_X4_spans : GoodIn wsX9_refuseCells (wsV RX9 219 RX4 yX4_spans wsX4_spans) := goodIn_app (goodIn_of _ (by decide +kernel)) ggX9_refuseCells_X4_spans
theorem dX9_refuseCells_0 : decode cX9_refuseCells 0 = .ok (.aload_n 0, 1) := by decide +kernel
theorem dX9_refuseCells_1 : decode cX9_refuseCells 1 = .ok (.iconst 0, 1) := by decide +kernel
theorem dX9_refuseCells_2 : decode cX9_refuseCells 2 = .ok (.putfield 58, 3) := by decide +kernel
theorem dX9_refuseCells_5 : decode cX9_refuseCells 5 = .ok (.aload_n 0, 1) := by decide +kernel
theorem dX9_refuseCells_6 : decode cX9_refuseCells 6 = .ok (.iload_n 1, 1) := by decide +kernel
theorem dX9_refuseCells_7 : decode cX9_refuseCells 7 = .ok (.invokevirtual 71, 3) := by decide +kernel
theorem dX9_refuseCells_10 : decode cX9_refuseCells 10 = .ok (.astore 6, 2) := by decide +kernel
theorem dX9_refuseCells_12 : decode cX9_refuseCells 12 = .ok (.aload 6, 2) := by decide +kernel
theorem dX9_refuseCells_14 : decode cX9_refuseCells 14 = .ok (.ifnonnull 5, 3) := by decide +kernel
theorem dX9_refuseCells_17 : decode cX9_refuseCells 17 = .ok (.iconst (-1), 1) := by decide +kernel
theorem dX9_refuseCells_18 : decode cX9_refuseCells 18 = .ok (.ireturn, 1) := by decide +kernel
theorem dX9_refuseCells_19 : decode cX9_refuseCells 19 = .ok (.iload_n 2, 1) := by decide +kernel
theorem dX9_refuseCells_20 : decode cX9_refuseCells 20 = .ok (.ifCond .ne 6, 3) := by decide +kernel
theorem dX9_refuseCells_23 : decode cX9_refuseCells 23 = .ok (.bipush (-2), 2) := by decide +kernel
theorem dX9_refuseCells_25 : decode cX9_refuseCells 25 = .ok (.ireturn, 1) := by decide +kernel
theorem dX9_refuseCells_26 : decode cX9_refuseCells 26 = .ok (.aload_n 0, 1) := by decide +kernel
theorem dX9_refuseCells_27 : decode cX9_refuseCells 27 = .ok (.aload 6, 2) := by decide +kernel
theorem dX9_refuseCells_29 : decode cX9_refuseCells 29 = .ok (.iload_n 3, 1) := by decide +kernel
theorem dX9_refuseCells_30 : decode cX9_refuseCells 30 = .ok (.invokevirtual 207, 3) := by decide +kernel
theorem dX9_refuseCells_33 : decode cX9_refuseCells 33 = .ok (.istore 7, 2) := by decide +kernel
theorem dX9_refuseCells_35 : decode cX9_refuseCells 35 = .ok (.iload 7, 2) := by decide +kernel
theorem dX9_refuseCells_37 : decode cX9_refuseCells 37 = .ok (.ifCond .eq 6, 3) := by decide +kernel
theorem dX9_refuseCells_40 : decode cX9_refuseCells 40 = .ok (.iload 7, 2) := by decide +kernel
theorem dX9_refuseCells_42 : decode cX9_refuseCells 42 = .ok (.ireturn, 1) := by decide +kernel
theorem dX9_refuseCells_43 : decode cX9_refuseCells 43 = .ok (.iload 5, 2) := by decide +kernel
theorem dX9_refuseCells_45 : decode cX9_refuseCells 45 = .ok (.ifCond .ge 9, 3) := by decide +kernel
theorem dX9_refuseCells_48 : decode cX9_refuseCells 48 = .ok (.aload_n 0, 1) := by decide +kernel
theorem dX9_refuseCells_49 : decode cX9_refuseCells 49 = .ok (.iconst 4, 1) := by decide +kernel
theorem dX9_refuseCells_50 : decode cX9_refuseCells 50 = .ok (.invokevirtual 188, 3) := by decide +kernel
theorem dX9_refuseCells_53 : decode cX9_refuseCells 53 = .ok (.ireturn, 1) := by decide +kernel
theorem dX9_refuseCells_54 : decode cX9_refuseCells 54 = .ok (.aload 6, 2) := by decide +kernel
theorem dX9_refuseCells_56 : decode cX9_refuseCells 56 = .ok (.iload 4, 2) := by decide +kernel
theorem dX9_refuseCells_58 : decode cX9_refuseCells 58 = .ok (.iload 5, 2) := by decide +kernel
theorem dX9_refuseCells_60 : decode cX9_refuseCells 60 = .ok (.invokevirtual 219, 3) := by decide +kernel
theorem dX9_refuseCells_63 : decode cX9_refuseCells 63 = .ok (.ifCond .eq 7, 3) := by decide +kernel
theorem dX9_refuseCells_66 : decode cX9_refuseCells 66 = .ok (.iconst 0, 1) := by decide +kernel
theorem dX9_refuseCells_67 : decode cX9_refuseCells 67 = .ok (.goto 8, 3) := by decide +kernel
theorem dX9_refuseCells_70 : decode cX9_refuseCells 70 = .ok (.aload_n 0, 1) := by decide +kernel
theorem dX9_refuseCells_71 : decode cX9_refuseCells 71 = .ok (.iconst 3, 1) := by decide +kernel
theorem dX9_refuseCells_72 : decode cX9_refuseCells 72 = .ok (.invokevirtual 188, 3) := by decide +kernel
theorem dX9_refuseCells_75 : decode cX9_refuseCells 75 = .ok (.ireturn, 1) := by decide +kernel
set_option maxRecDepth 20000 in
theorem ggX9_refuseRound_X9_refuseCells : GoodIn wsX9_refuseRound wsX9_refuseCells := goodIn_r _ [8, 9, 10, 11, 12, 7, 13, 14, 15, 16, 17, 18, 19, 20, 21, 22, 23, 24, 25, 26, 27, 28, 29, 30, 31, 32, 33, 34, 62, 63, 64, 65, 66, 67, 68, 69, 78, 79, 80] (by decide +kernel) (by decide +kernel)
set_option maxRecDepth 20000 in
theorem gX9_refuseRound_X9_refuseCells : GoodIn wsX9_refuseRound (wsV RX9 67 RX9 yX9_refuseCells wsX9_refuseCells) := goodIn_app (goodIn_of _ (by decide +kernel)) ggX9_refuseRound_X9_refuseCells
set_option maxRecDepth 20000 in
theorem ggX9_refuseRound_X9_sheetAt : GoodIn wsX9_refuseRound wsX9_sheetAt := goodIn_r _ [13, 14, 62, 63, 64, 65, 66, 67, 68, 69] (by decide +kernel) (by decide +kernel)
set_option maxRecDepth 20000 in
theorem gX9_refuseRound_X9_sheetAt : GoodIn wsX9_refuseRound (wsV RX9 71 RX9 yX9_sheetAt wsX9_sheetAt) := goodIn_app (goodIn_of _ (by decide +kernel)) ggX9_refuseRound_X9_sheetAt
set_option maxRecDepth 20000 in
theorem ggX9_refuseRound_X4_read : GoodIn wsX9_refuseRound wsX4_read := goodIn_r _ [38, 39, 40, 41, 42, 23, 43, 34, 78, 79, 80] (by decide +kernel) (by decide +kernel)
set_option maxRecDepth 20000 in
theorem gX9_refuseRound_X4_read : GoodIn wsX9_refuseRound (wsV RX9 213 RX4 yX4_read wsX4_read) := goodIn_app (goodIn_of _ (by decide +kernel)) ggX9_refuseRound_X4_read
set_option maxRecDepth 20000 in
theorem ggX9_refuseRound_X5_has : GoodIn wsX9_refuseRound wsX5_has := goodIn_r _ [48, 49, 70, 71, 72, 73, 74, 75, 76, 77] (by decide +kernel) (by decide +kernel)
set_option maxRecDepth 20000 in
theorem gX9_refuseRound_X5_has : GoodIn wsX9_refuseRound (wsV RX9 176 RX5 yX5_has wsX5_has) := goodIn_app (goodIn_of _ (by decide +kernel)) ggX9_refuseRound_X5_has
set_option maxRecDepth 20000 in
theorem ggX9_refuseRound_X8_layRound : GoodIn wsX9_refuseRound wsX8_layRound := goodIn_r _ [54, 55, 56, 57, 58, 59, 60, 61, 36, 37, 23, 38, 39, 40, 41, 42, 43, 34, 81, 82, 83, 84, 85, 86, 87, 88, 89, 90, 78, 79, 80] (by decide +kernel) (by decide +kernel)
set_option maxRecDepth 20000 in
theorem gX9_refuseRound_X8_layRound : GoodIn wsX9_refuseRound (wsV RX9 242 RX8 yX8_layRound wsX8_layRound) := goodIn_app (goodIn_of _ (by decide +kernel)) ggX9_refuseRound_X8_layRound
theorem dX9_refuseRound_0 : decode cX9_refuseRound 0 = .ok (.aload_n 0, 1) := by decide +kernel
theorem dX9_refuseRound_1 : decode cX9_refuseRound 1 = .ok (.iload_n 1, 1) := by decide +kernel
theorem dX9_refuseRound_2 : decode cX9_refuseRound 2 = .ok (.iload_n 2, 1) := by decide +kernel
theorem dX9_refuseRound_3 : decode cX9_refuseRound 3 = .ok (.iload_n 3, 1) := by decide +kernel
theorem dX9_refuseRound_4 : decode cX9_refuseRound 4 = .ok (.iload 4, 2) := by decide +kernel
theorem dX9_refuseRound_6 : decode cX9_refuseRound 6 = .ok (.iload 5, 2) := by decide +kernel
theorem dX9_refuseRound_8 : decode cX9_refuseRound 8 = .ok (.invokevirtual 67, 3) := by decide +kernel
theorem dX9_refuseRound_11 : decode cX9_refuseRound 11 = .ok (.istore 6, 2) := by decide +kernel
theorem dX9_refuseRound_13 : decode cX9_refuseRound 13 = .ok (.aload_n 0, 1) := by decide +kernel
theorem dX9_refuseRound_14 : decode cX9_refuseRound 14 = .ok (.iload_n 1, 1) := by decide +kernel
theorem dX9_refuseRound_15 : decode cX9_refuseRound 15 = .ok (.invokevirtual 71, 3) := by decide +kernel
theorem dX9_refuseRound_18 : decode cX9_refuseRound 18 = .ok (.astore 7, 2) := by decide +kernel
theorem dX9_refuseRound_20 : decode cX9_refuseRound 20 = .ok (.iload 6, 2) := by decide +kernel
theorem dX9_refuseRound_22 : decode cX9_refuseRound 22 = .ok (.ifCond .ne 8, 3) := by decide +kernel
theorem dX9_refuseRound_25 : decode cX9_refuseRound 25 = .ok (.aload 7, 2) := by decide +kernel
theorem dX9_refuseRound_27 : decode cX9_refuseRound 27 = .ok (.ifnonnull 6, 3) := by decide +kernel
theorem dX9_refuseRound_30 : decode cX9_refuseRound 30 = .ok (.iload 6, 2) := by decide +kernel
theorem dX9_refuseRound_32 : decode cX9_refuseRound 32 = .ok (.ireturn, 1) := by decide +kernel
theorem dX9_refuseRound_33 : decode cX9_refuseRound 33 = .ok (.aload_n 0, 1) := by decide +kernel
theorem dX9_refuseRound_34 : decode cX9_refuseRound 34 = .ok (.getfield 12, 3) := by decide +kernel
theorem dX9_refuseRound_37 : decode cX9_refuseRound 37 = .ok (.getfield 83, 3) := by decide +kernel
theorem dX9_refuseRound_40 : decode cX9_refuseRound 40 = .ok (.ifCond .ne 6, 3) := by decide +kernel
theorem dX9_refuseRound_43 : decode cX9_refuseRound 43 = .ok (.bipush (-3), 2) := by decide +kernel
theorem dX9_refuseRound_45 : decode cX9_refuseRound 45 = .ok (.ireturn, 1) := by decide +kernel
theorem dX9_refuseRound_46 : decode cX9_refuseRound 46 = .ok (.iload 5, 2) := by decide +kernel
theorem dX9_refuseRound_48 : decode cX9_refuseRound 48 = .ok (.iconst 1, 1) := by decide +kernel
theorem dX9_refuseRound_49 : decode cX9_refuseRound 49 = .ok (.if_icmp .lt 10, 3) := by decide +kernel
theorem dX9_refuseRound_52 : decode cX9_refuseRound 52 = .ok (.iload 5, 2) := by decide +kernel
theorem dX9_refuseRound_54 : decode cX9_refuseRound 54 = .ok (.bipush 8, 2) := by decide +kernel
theorem dX9_refuseRound_56 : decode cX9_refuseRound 56 = .ok (.if_icmp .le 6, 3) := by decide +kernel
theorem dX9_refuseRound_59 : decode cX9_refuseRound 59 = .ok (.bipush (-2), 2) := by decide +kernel
theorem dX9_refuseRound_61 : decode cX9_refuseRound 61 = .ok (.ireturn, 1) := by decide +kernel
theorem dX9_refuseRound_62 : decode cX9_refuseRound 62 = .ok (.iconst 0, 1) := by decide +kernel
theorem dX9_refuseRound_63 : decode cX9_refuseRound 63 = .ok (.istore 8, 2) := by decide +kernel
theorem dX9_refuseRound_65 : decode cX9_refuseRound 65 = .ok (.iload 8, 2) := by decide +kernel
theorem dX9_refuseRound_67 : decode cX9_refuseRound 67 = .ok (.iload 5, 2) := by decide +kernel
theorem dX9_refuseRound_69 : decode cX9_refuseRound 69 = .ok (.if_icmp .ge 31, 3) := by decide +kernel
theorem dX9_refuseRound_72 : decode cX9_refuseRound 72 = .ok (.aload_n 0, 1) := by decide +kernel
theorem dX9_refuseRound_73 : decode cX9_refuseRound 73 = .ok (.getfield 12, 3) := by decide +kernel
theorem dX9_refuseRound_76 : decode cX9_refuseRound 76 = .ok (.aload 7, 2) := by decide +kernel
theorem dX9_refuseRound_78 : decode cX9_refuseRound 78 = .ok (.iload 4, 2) := by decide +kernel
theorem dX9_refuseRound_80 : decode cX9_refuseRound 80 = .ok (.iload 8, 2) := by decide +kernel
theorem dX9_refuseRound_82 : decode cX9_refuseRound 82 = .ok (.iadd, 1) := by decide +kernel
theorem dX9_refuseRound_83 : decode cX9_refuseRound 83 = .ok (.invokevirtual 213, 3) := by decide +kernel
theorem dX9_refuseRound_86 : decode cX9_refuseRound 86 = .ok (.invokevirtual 176, 3) := by decide +kernel
theorem dX9_refuseRound_89 : decode cX9_refuseRound 89 = .ok (.ifCond .ne 5, 3) := by decide +kernel
theorem dX9_refuseRound_92 : decode cX9_refuseRound 92 = .ok (.iconst (-1), 1) := by decide +kernel
theorem dX9_refuseRound_93 : decode cX9_refuseRound 93 = .ok (.ireturn, 1) := by decide +kernel
theorem dX9_refuseRound_94 : decode cX9_refuseRound 94 = .ok (.iinc 8 1, 3) := by decide +kernel
theorem dX9_refuseRound_97 : decode cX9_refuseRound 97 = .ok (.goto (-32), 3) := by decide +kernel
theorem dX9_refuseRound_100 : decode cX9_refuseRound 100 = .ok (.aload_n 0, 1) := by decide +kernel
theorem dX9_refuseRound_101 : decode cX9_refuseRound 101 = .ok (.getfield 30, 3) := by decide +kernel
theorem dX9_refuseRound_104 : decode cX9_refuseRound 104 = .ok (.aload 7, 2) := by decide +kernel
theorem dX9_refuseRound_106 : decode cX9_refuseRound 106 = .ok (.iload 4, 2) := by decide +kernel
theorem dX9_refuseRound_108 : decode cX9_refuseRound 108 = .ok (.iload 5, 2) := by decide +kernel
theorem dX9_refuseRound_110 : decode cX9_refuseRound 110 = .ok (.invokevirtual 242, 3) := by decide +kernel
theorem dX9_refuseRound_113 : decode cX9_refuseRound 113 = .ok (.iconst 0, 1) := by decide +kernel
theorem dX9_refuseRound_114 : decode cX9_refuseRound 114 = .ok (.ireturn, 1) := by decide +kernel
set_option maxRecDepth 20000 in
theorem ggX9_firstFault_X4_read : GoodIn wsX9_firstFault wsX4_read := goodIn_r _ [5, 6, 7, 8, 9, 4, 10, 11, 19, 20, 21] (by decide +kernel) (by decide +kernel)
set_option maxRecDepth 20000 in
theorem gX9_firstFault_X4_read : GoodIn wsX9_firstFault (wsV RX9 213 RX4 yX4_read wsX4_read) := goodIn_app (goodIn_of _ (by decide +kernel)) ggX9_firstFault_X4_read
set_option maxRecDepth 20000 in
theorem ggX9_firstFault_X9_goesOn : GoodIn wsX9_firstFault wsX9_goesOn := goodIn_r _ [15, 16, 17, 14, 18] (by decide +kernel) (by decide +kernel)
set_option maxRecDepth 20000 in
theorem gX9_firstFault_X9_goesOn : GoodIn wsX9_firstFault (va_wsS RX9 245 yX9_goesOn wsX9_goesOn) := goodIn_app (goodIn_of _ (by decide +kernel)) ggX9_firstFault_X9_goesOn
theorem dX9_firstFault_0 : decode cX9_firstFault 0 = .ok (.iconst 0, 1) := by decide +kernel
theorem dX9_firstFault_1 : decode cX9_firstFault 1 = .ok (.istore_n 3, 1) := by decide +kernel
theorem dX9_firstFault_2 : decode cX9_firstFault 2 = .ok (.iload_n 3, 1) := by decide +kernel
theorem dX9_firstFault_3 : decode cX9_firstFault 3 = .ok (.iload_n 2, 1) := by decide +kernel
theorem dX9_firstFault_4 : decode cX9_firstFault 4 = .ok (.if_icmp .ge 81, 3) := by decide +kernel
theorem dX9_firstFault_7 : decode cX9_firstFault 7 = .ok (.aload_n 0, 1) := by decide +kernel
theorem dX9_firstFault_8 : decode cX9_firstFault 8 = .ok (.iload_n 1, 1) := by decide +kernel
theorem dX9_firstFault_9 : decode cX9_firstFault 9 = .ok (.iload_n 3, 1) := by decide +kernel
theorem dX9_firstFault_10 : decode cX9_firstFault 10 = .ok (.iadd, 1) := by decide +kernel
theorem dX9_firstFault_11 : decode cX9_firstFault 11 = .ok (.invokevirtual 213, 3) := by decide +kernel
theorem dX9_firstFault_14 : decode cX9_firstFault 14 = .ok (.istore 4, 2) := by decide +kernel
theorem dX9_firstFault_16 : decode cX9_firstFault 16 = .ok (.iload_n 3, 1) := by decide +kernel
theorem dX9_firstFault_17 : decode cX9_firstFault 17 = .ok (.iload 4, 2) := by decide +kernel
theorem dX9_firstFault_19 : decode cX9_firstFault 19 = .ok (.invokestatic 245, 3) := by decide +kernel
theorem dX9_firstFault_22 : decode cX9_firstFault 22 = .ok (.ifCond .ne 5, 3) := by decide +kernel
theorem dX9_firstFault_25 : decode cX9_firstFault 25 = .ok (.iload_n 3, 1) := by decide +kernel
theorem dX9_firstFault_26 : decode cX9_firstFault 26 = .ok (.ireturn, 1) := by decide +kernel
theorem dX9_firstFault_27 : decode cX9_firstFault 27 = .ok (.iload_n 3, 1) := by decide +kernel
theorem dX9_firstFault_28 : decode cX9_firstFault 28 = .ok (.iconst 2, 1) := by decide +kernel
theorem dX9_firstFault_29 : decode cX9_firstFault 29 = .ok (.if_icmp .lt 17, 3) := by decide +kernel
theorem dX9_firstFault_32 : decode cX9_firstFault 32 = .ok (.iload_n 3, 1) := by decide +kernel
theorem dX9_firstFault_33 : decode cX9_firstFault 33 = .ok (.iconst 2, 1) := by decide +kernel
theorem dX9_firstFault_34 : decode cX9_firstFault 34 = .ok (.isub, 1) := by decide +kernel
theorem dX9_firstFault_35 : decode cX9_firstFault 35 = .ok (.bipush 7, 2) := by decide +kernel
theorem dX9_firstFault_37 : decode cX9_firstFault 37 = .ok (.irem, 1) := by decide +kernel
theorem dX9_firstFault_38 : decode cX9_firstFault 38 = .ok (.iconst 5, 1) := by decide +kernel
theorem dX9_firstFault_39 : decode cX9_firstFault 39 = .ok (.if_icmp .ne 7, 3) := by decide +kernel
theorem dX9_firstFault_42 : decode cX9_firstFault 42 = .ok (.iconst 1, 1) := by decide +kernel
theorem dX9_firstFault_43 : decode cX9_firstFault 43 = .ok (.goto 4, 3) := by decide +kernel
theorem dX9_firstFault_46 : decode cX9_firstFault 46 = .ok (.iconst 0, 1) := by decide +kernel
theorem dX9_firstFault_47 : decode cX9_firstFault 47 = .ok (.istore 5, 2) := by decide +kernel
theorem dX9_firstFault_49 : decode cX9_firstFault 49 = .ok (.iload 5, 2) := by decide +kernel
theorem dX9_firstFault_51 : decode cX9_firstFault 51 = .ok (.ifCond .eq 28, 3) := by decide +kernel
theorem dX9_firstFault_54 : decode cX9_firstFault 54 = .ok (.iload 4, 2) := by decide +kernel
theorem dX9_firstFault_56 : decode cX9_firstFault 56 = .ok (.bipush 48, 2) := by decide +kernel
theorem dX9_firstFault_58 : decode cX9_firstFault 58 = .ok (.if_icmp .ne 21, 3) := by decide +kernel
theorem dX9_firstFault_61 : decode cX9_firstFault 61 = .ok (.aload_n 0, 1) := by decide +kernel
theorem dX9_firstFault_62 : decode cX9_firstFault 62 = .ok (.iload_n 1, 1) := by decide +kernel
theorem dX9_firstFault_63 : decode cX9_firstFault 63 = .ok (.iload_n 3, 1) := by decide +kernel
theorem dX9_firstFault_64 : decode cX9_firstFault 64 = .ok (.iadd, 1) := by decide +kernel
theorem dX9_firstFault_65 : decode cX9_firstFault 65 = .ok (.iconst 1, 1) := by decide +kernel
theorem dX9_firstFault_66 : decode cX9_firstFault 66 = .ok (.isub, 1) := by decide +kernel
theorem dX9_firstFault_67 : decode cX9_firstFault 67 = .ok (.invokevirtual 213, 3) := by decide +kernel
theorem dX9_firstFault_70 : decode cX9_firstFault 70 = .ok (.bipush 48, 2) := by decide +kernel
theorem dX9_firstFault_72 : decode cX9_firstFault 72 = .ok (.if_icmp .ne 7, 3) := by decide +kernel
theorem dX9_firstFault_75 : decode cX9_firstFault 75 = .ok (.iload_n 3, 1) := by decide +kernel
theorem dX9_firstFault_76 : decode cX9_firstFault 76 = .ok (.iconst 1, 1) := by decide +kernel
theorem dX9_firstFault_77 : decode cX9_firstFault 77 = .ok (.isub, 1) := by decide +kernel
theorem dX9_firstFault_78 : decode cX9_firstFault 78 = .ok (.ireturn, 1) := by decide +kernel
theorem dX9_firstFault_79 : decode cX9_firstFault 79 = .ok (.iinc 3 1, 3) := by decide +kernel
theorem dX9_firstFault_82 : decode cX9_firstFault 82 = .ok (.goto (-80), 3) := by decide +kernel
theorem dX9_firstFault_85 : decode cX9_firstFault 85 = .ok (.iload_n 2, 1) := by decide +kernel
theorem dX9_firstFault_86 : decode cX9_firstFault 86 = .ok (.bipush 9, 2) := by decide +kernel
theorem dX9_firstFault_88 : decode cX9_firstFault 88 = .ok (.if_icmp .lt 16, 3) := by decide +kernel
theorem dX9_firstFault_91 : decode cX9_firstFault 91 = .ok (.iload_n 2, 1) := by decide +kernel
theorem dX9_firstFault_92 : decode cX9_firstFault 92 = .ok (.iconst 2, 1) := by decide +kernel
theorem dX9_firstFault_93 : decode cX9_firstFault 93 = .ok (.isub, 1) := by decide +kernel
theorem dX9_firstFault_94 : decode cX9_firstFault 94 = .ok (.bipush 7, 2) := by decide +kernel
theorem dX9_firstFault_96 : decode cX9_firstFault 96 = .ok (.irem, 1) := by decide +kernel
theorem dX9_firstFault_97 : decode cX9_firstFault 97 = .ok (.ifCond .ne 7, 3) := by decide +kernel
theorem dX9_firstFault_100 : decode cX9_firstFault 100 = .ok (.iconst 1, 1) := by decide +kernel
theorem dX9_firstFault_101 : decode cX9_firstFault 101 = .ok (.goto 4, 3) := by decide +kernel
theorem dX9_firstFault_104 : decode cX9_firstFault 104 = .ok (.iconst 0, 1) := by decide +kernel
theorem dX9_firstFault_105 : decode cX9_firstFault 105 = .ok (.istore_n 3, 1) := by decide +kernel
theorem dX9_firstFault_106 : decode cX9_firstFault 106 = .ok (.iload_n 3, 1) := by decide +kernel
theorem dX9_firstFault_107 : decode cX9_firstFault 107 = .ok (.ifCond .eq 7, 3) := by decide +kernel
theorem dX9_firstFault_110 : decode cX9_firstFault 110 = .ok (.iconst (-1), 1) := by decide +kernel
theorem dX9_firstFault_111 : decode cX9_firstFault 111 = .ok (.goto 4, 3) := by decide +kernel
theorem dX9_firstFault_114 : decode cX9_firstFault 114 = .ok (.iload_n 2, 1) := by decide +kernel
theorem dX9_firstFault_115 : decode cX9_firstFault 115 = .ok (.ireturn, 1) := by decide +kernel
set_option maxRecDepth 20000 in
theorem ggX9_goesOn_X9_isDigit : GoodIn wsX9_goesOn wsX9_isDigit := goodIn_r _ [4] (by decide +kernel) (by decide +kernel)
set_option maxRecDepth 20000 in
theorem gX9_goesOn_X9_isDigit : GoodIn wsX9_goesOn (va_wsS RX9 248 yX9_isDigit wsX9_isDigit) := goodIn_app (goodIn_of _ (by decide +kernel)) ggX9_goesOn_X9_isDigit
theorem dX9_goesOn_0 : decode cX9_goesOn 0 = .ok (.iload_n 0, 1) := by decide +kernel
theorem dX9_goesOn_1 : decode cX9_goesOn 1 = .ok (.iconst 2, 1) := by decide +kernel
theorem dX9_goesOn_2 : decode cX9_goesOn 2 = .ok (.if_icmp .ge 26, 3) := by decide +kernel
theorem dX9_goesOn_5 : decode cX9_goesOn 5 = .ok (.iload_n 0, 1) := by decide +kernel
theorem dX9_goesOn_6 : decode cX9_goesOn 6 = .ok (.ifCond .ne 17, 3) := by decide +kernel
theorem dX9_goesOn_9 : decode cX9_goesOn 9 = .ok (.iload_n 1, 1) := by decide +kernel
theorem dX9_goesOn_10 : decode cX9_goesOn 10 = .ok (.bipush 115, 2) := by decide +kernel
theorem dX9_goesOn_12 : decode cX9_goesOn 12 = .ok (.if_icmp .ne 7, 3) := by decide +kernel
theorem dX9_goesOn_15 : decode cX9_goesOn 15 = .ok (.iconst 1, 1) := by decide +kernel
theorem dX9_goesOn_16 : decode cX9_goesOn 16 = .ok (.goto 11, 3) := by decide +kernel
theorem dX9_goesOn_19 : decode cX9_goesOn 19 = .ok (.iconst 0, 1) := by decide +kernel
theorem dX9_goesOn_20 : decode cX9_goesOn 20 = .ok (.goto 7, 3) := by decide +kernel
theorem dX9_goesOn_23 : decode cX9_goesOn 23 = .ok (.iload_n 1, 1) := by decide +kernel
theorem dX9_goesOn_24 : decode cX9_goesOn 24 = .ok (.invokestatic 248, 3) := by decide +kernel
theorem dX9_goesOn_27 : decode cX9_goesOn 27 = .ok (.ireturn, 1) := by decide +kernel
theorem dX9_goesOn_28 : decode cX9_goesOn 28 = .ok (.iload_n 0, 1) := by decide +kernel
theorem dX9_goesOn_29 : decode cX9_goesOn 29 = .ok (.iconst 2, 1) := by decide +kernel
theorem dX9_goesOn_30 : decode cX9_goesOn 30 = .ok (.isub, 1) := by decide +kernel
theorem dX9_goesOn_31 : decode cX9_goesOn 31 = .ok (.bipush 7, 2) := by decide +kernel
theorem dX9_goesOn_33 : decode cX9_goesOn 33 = .ok (.irem, 1) := by decide +kernel
theorem dX9_goesOn_34 : decode cX9_goesOn 34 = .ok (.tableswitch 108 0 6 #[42, 65, 108, 89, 108, 108, 89], 42) := by decide +kernel
theorem dX9_goesOn_76 : decode cX9_goesOn 76 = .ok (.iload_n 1, 1) := by decide +kernel
theorem dX9_goesOn_77 : decode cX9_goesOn 77 = .ok (.bipush 59, 2) := by decide +kernel
theorem dX9_goesOn_79 : decode cX9_goesOn 79 = .ok (.if_icmp .ne 18, 3) := by decide +kernel
theorem dX9_goesOn_82 : decode cX9_goesOn 82 = .ok (.iload_n 0, 1) := by decide +kernel
theorem dX9_goesOn_83 : decode cX9_goesOn 83 = .ok (.iconst 2, 1) := by decide +kernel
theorem dX9_goesOn_84 : decode cX9_goesOn 84 = .ok (.isub, 1) := by decide +kernel
theorem dX9_goesOn_85 : decode cX9_goesOn 85 = .ok (.bipush 7, 2) := by decide +kernel
theorem dX9_goesOn_87 : decode cX9_goesOn 87 = .ok (.idiv, 1) := by decide +kernel
theorem dX9_goesOn_88 : decode cX9_goesOn 88 = .ok (.bipush 6, 2) := by decide +kernel
theorem dX9_goesOn_90 : decode cX9_goesOn 90 = .ok (.if_icmp .ge 7, 3) := by decide +kernel
theorem dX9_goesOn_93 : decode cX9_goesOn 93 = .ok (.iconst 1, 1) := by decide +kernel
theorem dX9_goesOn_94 : decode cX9_goesOn 94 = .ok (.goto 4, 3) := by decide +kernel
theorem dX9_goesOn_97 : decode cX9_goesOn 97 = .ok (.iconst 0, 1) := by decide +kernel
theorem dX9_goesOn_98 : decode cX9_goesOn 98 = .ok (.ireturn, 1) := by decide +kernel
theorem dX9_goesOn_99 : decode cX9_goesOn 99 = .ok (.iload_n 1, 1) := by decide +kernel
theorem dX9_goesOn_100 : decode cX9_goesOn 100 = .ok (.bipush 116, 2) := by decide +kernel
theorem dX9_goesOn_102 : decode cX9_goesOn 102 = .ok (.if_icmp .eq 15, 3) := by decide +kernel
theorem dX9_goesOn_105 : decode cX9_goesOn 105 = .ok (.iload_n 1, 1) := by decide +kernel
theorem dX9_goesOn_106 : decode cX9_goesOn 106 = .ok (.bipush 100, 2) := by decide +kernel
theorem dX9_goesOn_108 : decode cX9_goesOn 108 = .ok (.if_icmp .eq 9, 3) := by decide +kernel
theorem dX9_goesOn_111 : decode cX9_goesOn 111 = .ok (.iload_n 1, 1) := by decide +kernel
theorem dX9_goesOn_112 : decode cX9_goesOn 112 = .ok (.bipush 99, 2) := by decide +kernel
theorem dX9_goesOn_114 : decode cX9_goesOn 114 = .ok (.if_icmp .ne 7, 3) := by decide +kernel
theorem dX9_goesOn_117 : decode cX9_goesOn 117 = .ok (.iconst 1, 1) := by decide +kernel
theorem dX9_goesOn_118 : decode cX9_goesOn 118 = .ok (.goto 4, 3) := by decide +kernel
theorem dX9_goesOn_121 : decode cX9_goesOn 121 = .ok (.iconst 0, 1) := by decide +kernel
theorem dX9_goesOn_122 : decode cX9_goesOn 122 = .ok (.ireturn, 1) := by decide +kernel
theorem dX9_goesOn_123 : decode cX9_goesOn 123 = .ok (.iload_n 1, 1) := by decide +kernel
theorem dX9_goesOn_124 : decode cX9_goesOn 124 = .ok (.invokestatic 248, 3) := by decide +kernel
theorem dX9_goesOn_127 : decode cX9_goesOn 127 = .ok (.ifCond .eq 13, 3) := by decide +kernel
theorem dX9_goesOn_130 : decode cX9_goesOn 130 = .ok (.iload_n 1, 1) := by decide +kernel
theorem dX9_goesOn_131 : decode cX9_goesOn 131 = .ok (.bipush 48, 2) := by decide +kernel
theorem dX9_goesOn_133 : decode cX9_goesOn 133 = .ok (.if_icmp .eq 7, 3) := by decide +kernel
theorem dX9_goesOn_136 : decode cX9_goesOn 136 = .ok (.iconst 1, 1) := by decide +kernel
theorem dX9_goesOn_137 : decode cX9_goesOn 137 = .ok (.goto 4, 3) := by decide +kernel
theorem dX9_goesOn_140 : decode cX9_goesOn 140 = .ok (.iconst 0, 1) := by decide +kernel
theorem dX9_goesOn_141 : decode cX9_goesOn 141 = .ok (.ireturn, 1) := by decide +kernel
theorem dX9_goesOn_142 : decode cX9_goesOn 142 = .ok (.iload_n 1, 1) := by decide +kernel
theorem dX9_goesOn_143 : decode cX9_goesOn 143 = .ok (.invokestatic 248, 3) := by decide +kernel
theorem dX9_goesOn_146 : decode cX9_goesOn 146 = .ok (.ireturn, 1) := by decide +kernel
theorem dX9_isDigit_0 : decode cX9_isDigit 0 = .ok (.iload_n 0, 1) := by decide +kernel
theorem dX9_isDigit_1 : decode cX9_isDigit 1 = .ok (.bipush 48, 2) := by decide +kernel
theorem dX9_isDigit_3 : decode cX9_isDigit 3 = .ok (.if_icmp .lt 13, 3) := by decide +kernel
theorem dX9_isDigit_6 : decode cX9_isDigit 6 = .ok (.iload_n 0, 1) := by decide +kernel
theorem dX9_isDigit_7 : decode cX9_isDigit 7 = .ok (.bipush 57, 2) := by decide +kernel
theorem dX9_isDigit_9 : decode cX9_isDigit 9 = .ok (.if_icmp .gt 7, 3) := by decide +kernel
theorem dX9_isDigit_12 : decode cX9_isDigit 12 = .ok (.iconst 1, 1) := by decide +kernel
theorem dX9_isDigit_13 : decode cX9_isDigit 13 = .ok (.goto 4, 3) := by decide +kernel
theorem dX9_isDigit_16 : decode cX9_isDigit 16 = .ok (.iconst 0, 1) := by decide +kernel
theorem dX9_isDigit_17 : decode cX9_isDigit 17 = .ok (.ireturn, 1) := by decide +kernel
set_option maxRecDepth 20000 in
theorem ggX9_takeText_X4_read : GoodIn wsX9_takeText wsX4_read := goodIn_r _ [8, 9, 10, 11, 12, 7, 13, 14, 105, 106, 107] (by decide +kernel) (by decide +kernel)
set_option maxRecDepth 20000 in
theorem gX9_takeText_X4_read : GoodIn wsX9_takeText (wsV RX9 213 RX4 yX4_read wsX4_read) := goodIn_app (goodIn_of _ (by decide +kernel)) ggX9_takeText_X4_read
set_option maxRecDepth 20000 in
theorem ggX9_takeText_X5_empty : GoodIn wsX9_takeText wsX5_empty := goodIn_r _ [19, 20, 21, 108, 109, 110, 111, 112, 113, 114, 115] (by decide +kernel) (by decide +kernel)
set_option maxRecDepth 20000 in
theorem gX9_takeText_X5_empty : GoodIn wsX9_takeText (wsV RX9 251 RX5 yX5_empty wsX5_empty) := goodIn_app (goodIn_of _ (by decide +kernel)) ggX9_takeText_X5_empty
set_option maxRecDepth 20000 in
theorem ggX9_takeText_X9_readThing : GoodIn wsX9_takeText wsX9_readThing := goodIn_r _ [25, 26, 27, 28, 29, 30, 31, 32, 33, 34, 4, 5, 6, 7, 8, 9, 10, 11, 12, 13, 14, 35, 36, 37, 38, 39, 40, 41, 42, 43, 44, 45, 46, 47, 48, 49, 50, 51, 52, 53, 116, 117, 118, 119, 120, 121, 122, 123, 124, 125, 126, 127, 128, 129, 130, 105, 106, 107] (by decide +kernel) (by decide +kernel)
set_option maxRecDepth 20000 in
theorem gX9_takeText_X9_readThing : GoodIn wsX9_takeText (va_wsS RX9 254 yX9_readThing wsX9_readThing) := goodIn_app (goodIn_of _ (by decide +kernel)) ggX9_takeText_X9_readThing
set_option maxRecDepth 20000 in
theorem ggX9_takeText_X5_addThing : GoodIn wsX9_takeText wsX5_addThing := goodIn_r _ [57, 20, 58, 59, 60, 61, 62, 63, 64, 108, 109, 110, 111, 112, 113, 114, 115, 116, 117, 118, 119, 120, 121, 122, 123, 124, 125, 126, 127, 128, 129, 130] (by decide +kernel) (by decide +kernel)
set_option maxRecDepth 20000 in
theorem gX9_takeText_X5_addThing : GoodIn wsX9_takeText (wsV RX9 258 RX5 yX5_addThing wsX5_addThing) := goodIn_app (goodIn_of _ (by decide +kernel)) ggX9_takeText_X5_addThing
set_option maxRecDepth 20000 in
theorem ggX9_takeText_X5_becomeRusty : GoodIn wsX9_takeText wsX5_becomeRusty := goodIn_r _ [68, 69, 20, 58, 70, 71, 72, 73, 74, 75, 28, 76, 77, 78, 79, 80, 31, 81, 82, 83, 84, 34, 85, 50, 86, 87, 88, 89, 90, 91, 92, 108, 109, 110, 111, 112, 113, 114, 115, 116, 117, 118, 119, 120, 121, 122, 123, 124, 125, 126, 127, 128, 129, 130] (by decide +kernel) (by decide +kernel)
set_option maxRecDepth 20000 in
theorem gX9_takeText_X5_becomeRusty : GoodIn wsX9_takeText (wsV RX9 118 RX5 yX5_becomeRusty wsX5_becomeRusty) := goodIn_app (goodIn_of _ (by decide +kernel)) ggX9_takeText_X5_becomeRusty
theorem dX9_takeText_0 : decode cX9_takeText 0 = .ok (.aload_n 0, 1) := by decide +kernel
theorem dX9_takeText_1 : decode cX9_takeText 1 = .ok (.getfield 12, 3) := by decide +kernel
theorem dX9_takeText_4 : decode cX9_takeText 4 = .ok (.aload_n 1, 1) := by decide +kernel
theorem dX9_takeText_5 : decode cX9_takeText 5 = .ok (.iload_n 2, 1) := by decide +kernel
theorem dX9_takeText_6 : decode cX9_takeText 6 = .ok (.iconst 1, 1) := by decide +kernel
theorem dX9_takeText_7 : decode cX9_takeText 7 = .ok (.iadd, 1) := by decide +kernel
theorem dX9_takeText_8 : decode cX9_takeText 8 = .ok (.invokevirtual 213, 3) := by decide +kernel
theorem dX9_takeText_11 : decode cX9_takeText 11 = .ok (.bipush 48, 2) := by decide +kernel
theorem dX9_takeText_13 : decode cX9_takeText 13 = .ok (.isub, 1) := by decide +kernel
theorem dX9_takeText_14 : decode cX9_takeText 14 = .ok (.invokevirtual 251, 3) := by decide +kernel
theorem dX9_takeText_17 : decode cX9_takeText 17 = .ok (.iload_n 3, 1) := by decide +kernel
theorem dX9_takeText_18 : decode cX9_takeText 18 = .ok (.iconst 2, 1) := by decide +kernel
theorem dX9_takeText_19 : decode cX9_takeText 19 = .ok (.isub, 1) := by decide +kernel
theorem dX9_takeText_20 : decode cX9_takeText 20 = .ok (.bipush 7, 2) := by decide +kernel
theorem dX9_takeText_22 : decode cX9_takeText 22 = .ok (.idiv, 1) := by decide +kernel
theorem dX9_takeText_23 : decode cX9_takeText 23 = .ok (.istore 4, 2) := by decide +kernel
theorem dX9_takeText_25 : decode cX9_takeText 25 = .ok (.iconst 0, 1) := by decide +kernel
theorem dX9_takeText_26 : decode cX9_takeText 26 = .ok (.istore 5, 2) := by decide +kernel
theorem dX9_takeText_28 : decode cX9_takeText 28 = .ok (.iload 5, 2) := by decide +kernel
theorem dX9_takeText_30 : decode cX9_takeText 30 = .ok (.iload 4, 2) := by decide +kernel
theorem dX9_takeText_32 : decode cX9_takeText 32 = .ok (.if_icmp .ge 31, 3) := by decide +kernel
theorem dX9_takeText_35 : decode cX9_takeText 35 = .ok (.aload_n 0, 1) := by decide +kernel
theorem dX9_takeText_36 : decode cX9_takeText 36 = .ok (.getfield 12, 3) := by decide +kernel
theorem dX9_takeText_39 : decode cX9_takeText 39 = .ok (.aload_n 1, 1) := by decide +kernel
theorem dX9_takeText_40 : decode cX9_takeText 40 = .ok (.iload_n 2, 1) := by decide +kernel
theorem dX9_takeText_41 : decode cX9_takeText 41 = .ok (.iconst 2, 1) := by decide +kernel
theorem dX9_takeText_42 : decode cX9_takeText 42 = .ok (.iadd, 1) := by decide +kernel
theorem dX9_takeText_43 : decode cX9_takeText 43 = .ok (.iload 5, 2) := by decide +kernel
theorem dX9_takeText_45 : decode cX9_takeText 45 = .ok (.bipush 7, 2) := by decide +kernel
theorem dX9_takeText_47 : decode cX9_takeText 47 = .ok (.imul, 1) := by decide +kernel
theorem dX9_takeText_48 : decode cX9_takeText 48 = .ok (.iadd, 1) := by decide +kernel
theorem dX9_takeText_49 : decode cX9_takeText 49 = .ok (.iload 5, 2) := by decide +kernel
theorem dX9_takeText_51 : decode cX9_takeText 51 = .ok (.invokestatic 254, 3) := by decide +kernel
theorem dX9_takeText_54 : decode cX9_takeText 54 = .ok (.invokevirtual 258, 3) := by decide +kernel
theorem dX9_takeText_57 : decode cX9_takeText 57 = .ok (.iinc 5 1, 3) := by decide +kernel
theorem dX9_takeText_60 : decode cX9_takeText 60 = .ok (.goto (-32), 3) := by decide +kernel
theorem dX9_takeText_63 : decode cX9_takeText 63 = .ok (.aload_n 0, 1) := by decide +kernel
theorem dX9_takeText_64 : decode cX9_takeText 64 = .ok (.getfield 12, 3) := by decide +kernel
theorem dX9_takeText_67 : decode cX9_takeText 67 = .ok (.iconst 0, 1) := by decide +kernel
theorem dX9_takeText_68 : decode cX9_takeText 68 = .ok (.invokevirtual 118, 3) := by decide +kernel
theorem dX9_takeText_71 : decode cX9_takeText 71 = .ok (.aload_n 0, 1) := by decide +kernel
theorem dX9_takeText_72 : decode cX9_takeText 72 = .ok (.getfield 21, 3) := by decide +kernel
theorem dX9_takeText_75 : decode cX9_takeText 75 = .ok (.iconst 0, 1) := by decide +kernel
theorem dX9_takeText_76 : decode cX9_takeText 76 = .ok (.putfield 183, 3) := by decide +kernel
theorem dX9_takeText_79 : decode cX9_takeText 79 = .ok (.return_, 1) := by decide +kernel
set_option maxRecDepth 20000 in
theorem ggX9_readThing_X4_read : GoodIn wsX9_readThing wsX4_read := goodIn_r _ [14, 15, 16, 17, 18, 13, 19, 20, 55, 56, 57] (by decide +kernel) (by decide +kernel)
set_option maxRecDepth 20000 in
theorem gX9_readThing_X4_read : GoodIn wsX9_readThing (wsV RX9 213 RX4 yX4_read wsX4_read) := goodIn_app (goodIn_of _ (by decide +kernel)) ggX9_readThing_X4_read
set_option maxRecDepth 20000 in
theorem ggX9_readThing_X0_init : GoodIn wsX9_readThing wsX0_init := goodIn_r _ [23, 24, 25, 6, 26, 27, 28, 9, 29, 30, 31, 32, 33, 34, 35, 36, 37, 40, 41, 42, 43, 44, 45, 46, 47, 48, 49, 50, 51, 52, 53, 54] (by decide +kernel) (by decide +kernel)
set_option maxRecDepth 20000 in
theorem gX9_readThing_X0_init : GoodIn wsX9_readThing (wsX0_init) := ggX9_readThing_X0_init
set_option maxRecDepth 20000 in
theorem ggX9_readThing_X1_init : GoodIn wsX9_readThing wsX1_init := goodIn_r _ [26, 27, 28, 9, 29, 30, 31, 32, 33, 34, 35, 36, 37, 40, 41, 42, 43, 44, 45, 46, 47, 48, 49, 50, 51, 52, 53, 54] (by decide +kernel) (by decide +kernel)
set_option maxRecDepth 20000 in
theorem gX9_readThing_X1_init : GoodIn wsX9_readThing (wsX1_init) := ggX9_readThing_X1_init
set_option maxRecDepth 20000 in
theorem ggX9_readThing_X6_init : GoodIn wsX9_readThing wsX6_init := goodIn_r _ [29, 30, 31, 32, 33, 34, 35, 36, 37, 40, 41, 42, 43, 44, 45, 46, 47, 48, 49, 50, 51, 52, 53, 54] (by decide +kernel) (by decide +kernel)
set_option maxRecDepth 20000 in
theorem gX9_readThing_X6_init : GoodIn wsX9_readThing (wsX6_init) := ggX9_readThing_X6_init
theorem dX9_readThing_0 : decode cX9_readThing 0 = .ok (.aload_n 0, 1) := by decide +kernel
theorem dX9_readThing_1 : decode cX9_readThing 1 = .ok (.iload_n 1, 1) := by decide +kernel
theorem dX9_readThing_2 : decode cX9_readThing 2 = .ok (.iconst 1, 1) := by decide +kernel
theorem dX9_readThing_3 : decode cX9_readThing 3 = .ok (.iadd, 1) := by decide +kernel
theorem dX9_readThing_4 : decode cX9_readThing 4 = .ok (.invokevirtual 213, 3) := by decide +kernel
theorem dX9_readThing_7 : decode cX9_readThing 7 = .ok (.istore_n 3, 1) := by decide +kernel
theorem dX9_readThing_8 : decode cX9_readThing 8 = .ok (.aload_n 0, 1) := by decide +kernel
theorem dX9_readThing_9 : decode cX9_readThing 9 = .ok (.iload_n 1, 1) := by decide +kernel
theorem dX9_readThing_10 : decode cX9_readThing 10 = .ok (.iconst 2, 1) := by decide +kernel
theorem dX9_readThing_11 : decode cX9_readThing 11 = .ok (.iadd, 1) := by decide +kernel
theorem dX9_readThing_12 : decode cX9_readThing 12 = .ok (.invokevirtual 213, 3) := by decide +kernel
theorem dX9_readThing_15 : decode cX9_readThing 15 = .ok (.bipush 48, 2) := by decide +kernel
theorem dX9_readThing_17 : decode cX9_readThing 17 = .ok (.isub, 1) := by decide +kernel
theorem dX9_readThing_18 : decode cX9_readThing 18 = .ok (.istore 4, 2) := by decide +kernel
theorem dX9_readThing_20 : decode cX9_readThing 20 = .ok (.aload_n 0, 1) := by decide +kernel
theorem dX9_readThing_21 : decode cX9_readThing 21 = .ok (.iload_n 1, 1) := by decide +kernel
theorem dX9_readThing_22 : decode cX9_readThing 22 = .ok (.iconst 3, 1) := by decide +kernel
theorem dX9_readThing_23 : decode cX9_readThing 23 = .ok (.iadd, 1) := by decide +kernel
theorem dX9_readThing_24 : decode cX9_readThing 24 = .ok (.invokevirtual 213, 3) := by decide +kernel
theorem dX9_readThing_27 : decode cX9_readThing 27 = .ok (.bipush 48, 2) := by decide +kernel
theorem dX9_readThing_29 : decode cX9_readThing 29 = .ok (.isub, 1) := by decide +kernel
theorem dX9_readThing_30 : decode cX9_readThing 30 = .ok (.istore 5, 2) := by decide +kernel
theorem dX9_readThing_32 : decode cX9_readThing 32 = .ok (.bipush 10, 2) := by decide +kernel
theorem dX9_readThing_34 : decode cX9_readThing 34 = .ok (.aload_n 0, 1) := by decide +kernel
theorem dX9_readThing_35 : decode cX9_readThing 35 = .ok (.iload_n 1, 1) := by decide +kernel
theorem dX9_readThing_36 : decode cX9_readThing 36 = .ok (.iconst 4, 1) := by decide +kernel
theorem dX9_readThing_37 : decode cX9_readThing 37 = .ok (.iadd, 1) := by decide +kernel
theorem dX9_readThing_38 : decode cX9_readThing 38 = .ok (.invokevirtual 213, 3) := by decide +kernel
theorem dX9_readThing_41 : decode cX9_readThing 41 = .ok (.bipush 48, 2) := by decide +kernel
theorem dX9_readThing_43 : decode cX9_readThing 43 = .ok (.isub, 1) := by decide +kernel
theorem dX9_readThing_44 : decode cX9_readThing 44 = .ok (.imul, 1) := by decide +kernel
theorem dX9_readThing_45 : decode cX9_readThing 45 = .ok (.aload_n 0, 1) := by decide +kernel
theorem dX9_readThing_46 : decode cX9_readThing 46 = .ok (.iload_n 1, 1) := by decide +kernel
theorem dX9_readThing_47 : decode cX9_readThing 47 = .ok (.iconst 5, 1) := by decide +kernel
theorem dX9_readThing_48 : decode cX9_readThing 48 = .ok (.iadd, 1) := by decide +kernel
theorem dX9_readThing_49 : decode cX9_readThing 49 = .ok (.invokevirtual 213, 3) := by decide +kernel
theorem dX9_readThing_52 : decode cX9_readThing 52 = .ok (.iadd, 1) := by decide +kernel
theorem dX9_readThing_53 : decode cX9_readThing 53 = .ok (.bipush 48, 2) := by decide +kernel
theorem dX9_readThing_55 : decode cX9_readThing 55 = .ok (.isub, 1) := by decide +kernel
theorem dX9_readThing_56 : decode cX9_readThing 56 = .ok (.istore 6, 2) := by decide +kernel
theorem dX9_readThing_58 : decode cX9_readThing 58 = .ok (.aload_n 0, 1) := by decide +kernel
theorem dX9_readThing_59 : decode cX9_readThing 59 = .ok (.iload_n 1, 1) := by decide +kernel
theorem dX9_readThing_60 : decode cX9_readThing 60 = .ok (.bipush 6, 2) := by decide +kernel
theorem dX9_readThing_62 : decode cX9_readThing 62 = .ok (.iadd, 1) := by decide +kernel
theorem dX9_readThing_63 : decode cX9_readThing 63 = .ok (.invokevirtual 213, 3) := by decide +kernel
theorem dX9_readThing_66 : decode cX9_readThing 66 = .ok (.bipush 48, 2) := by decide +kernel
theorem dX9_readThing_68 : decode cX9_readThing 68 = .ok (.isub, 1) := by decide +kernel
theorem dX9_readThing_69 : decode cX9_readThing 69 = .ok (.istore 7, 2) := by decide +kernel
theorem dX9_readThing_71 : decode cX9_readThing 71 = .ok (.iload_n 3, 1) := by decide +kernel
theorem dX9_readThing_72 : decode cX9_readThing 72 = .ok (.bipush 99, 2) := by decide +kernel
theorem dX9_readThing_74 : decode cX9_readThing 74 = .ok (.if_icmp .ne 20, 3) := by decide +kernel
theorem dX9_readThing_77 : decode cX9_readThing 77 = .ok (.new 262, 3) := by decide +kernel
theorem dX9_readThing_80 : decode cX9_readThing 80 = .ok (.dup, 1) := by decide +kernel
theorem dX9_readThing_81 : decode cX9_readThing 81 = .ok (.iload_n 2, 1) := by decide +kernel
theorem dX9_readThing_82 : decode cX9_readThing 82 = .ok (.iload 4, 2) := by decide +kernel
theorem dX9_readThing_84 : decode cX9_readThing 84 = .ok (.iload 5, 2) := by decide +kernel
theorem dX9_readThing_86 : decode cX9_readThing 86 = .ok (.iload 6, 2) := by decide +kernel
theorem dX9_readThing_88 : decode cX9_readThing 88 = .ok (.iload 7, 2) := by decide +kernel
theorem dX9_readThing_90 : decode cX9_readThing 90 = .ok (.invokespecial 264, 3) := by decide +kernel
theorem dX9_readThing_93 : decode cX9_readThing 93 = .ok (.areturn, 1) := by decide +kernel
theorem dX9_readThing_94 : decode cX9_readThing 94 = .ok (.iload_n 3, 1) := by decide +kernel
theorem dX9_readThing_95 : decode cX9_readThing 95 = .ok (.bipush 100, 2) := by decide +kernel
theorem dX9_readThing_97 : decode cX9_readThing 97 = .ok (.if_icmp .ne 20, 3) := by decide +kernel
theorem dX9_readThing_100 : decode cX9_readThing 100 = .ok (.new 267, 3) := by decide +kernel
theorem dX9_readThing_103 : decode cX9_readThing 103 = .ok (.dup, 1) := by decide +kernel
theorem dX9_readThing_104 : decode cX9_readThing 104 = .ok (.iload_n 2, 1) := by decide +kernel
theorem dX9_readThing_105 : decode cX9_readThing 105 = .ok (.iload 4, 2) := by decide +kernel
theorem dX9_readThing_107 : decode cX9_readThing 107 = .ok (.iload 5, 2) := by decide +kernel
theorem dX9_readThing_109 : decode cX9_readThing 109 = .ok (.iload 6, 2) := by decide +kernel
theorem dX9_readThing_111 : decode cX9_readThing 111 = .ok (.iload 7, 2) := by decide +kernel
theorem dX9_readThing_113 : decode cX9_readThing 113 = .ok (.invokespecial 269, 3) := by decide +kernel
theorem dX9_readThing_116 : decode cX9_readThing 116 = .ok (.areturn, 1) := by decide +kernel
theorem dX9_readThing_117 : decode cX9_readThing 117 = .ok (.new 91, 3) := by decide +kernel
theorem dX9_readThing_120 : decode cX9_readThing 120 = .ok (.dup, 1) := by decide +kernel
theorem dX9_readThing_121 : decode cX9_readThing 121 = .ok (.iload_n 2, 1) := by decide +kernel
theorem dX9_readThing_122 : decode cX9_readThing 122 = .ok (.iload 4, 2) := by decide +kernel
theorem dX9_readThing_124 : decode cX9_readThing 124 = .ok (.iload 5, 2) := by decide +kernel
theorem dX9_readThing_126 : decode cX9_readThing 126 = .ok (.iload 6, 2) := by decide +kernel
theorem dX9_readThing_128 : decode cX9_readThing 128 = .ok (.iload 7, 2) := by decide +kernel
theorem dX9_readThing_130 : decode cX9_readThing 130 = .ok (.invokespecial 270, 3) := by decide +kernel
theorem dX9_readThing_133 : decode cX9_readThing 133 = .ok (.areturn, 1) := by decide +kernel
set_option maxRecDepth 20000 in
theorem ggX9_harmOfBoth_X5_all : GoodIn wsX9_harmOfBoth wsX5_all := goodIn_r _ [7, 8, 17, 18, 19, 20, 21, 22, 23, 24] (by decide +kernel) (by decide +kernel)
set_option maxRecDepth 20000 in
theorem gX9_harmOfBoth_X5_all : GoodIn wsX9_harmOfBoth (wsV RX9 150 RX5 yX5_all wsX5_all) := goodIn_app (goodIn_of _ (by decide +kernel)) ggX9_harmOfBoth_X5_all
theorem dX9_harmOfBoth_0 : decode cX9_harmOfBoth 0 = .ok (.aload_n 0, 1) := by decide +kernel
theorem dX9_harmOfBoth_1 : decode cX9_harmOfBoth 1 = .ok (.getfield 12, 3) := by decide +kernel
theorem dX9_harmOfBoth_4 : decode cX9_harmOfBoth 4 = .ok (.invokevirtual 150, 3) := by decide +kernel
theorem dX9_harmOfBoth_7 : decode cX9_harmOfBoth 7 = .ok (.iload_n 1, 1) := by decide +kernel
theorem dX9_harmOfBoth_8 : decode cX9_harmOfBoth 8 = .ok (.iconst (-1), 1) := by decide +kernel
theorem dX9_harmOfBoth_9 : decode cX9_harmOfBoth 9 = .ok (.ixor, 1) := by decide +kernel
theorem dX9_harmOfBoth_10 : decode cX9_harmOfBoth 10 = .ok (.iand, 1) := by decide +kernel
theorem dX9_harmOfBoth_11 : decode cX9_harmOfBoth 11 = .ok (.istore_n 2, 1) := by decide +kernel
theorem dX9_harmOfBoth_12 : decode cX9_harmOfBoth 12 = .ok (.iload_n 1, 1) := by decide +kernel
theorem dX9_harmOfBoth_13 : decode cX9_harmOfBoth 13 = .ok (.ifCond .lt 21, 3) := by decide +kernel
theorem dX9_harmOfBoth_16 : decode cX9_harmOfBoth 16 = .ok (.iload_n 1, 1) := by decide +kernel
theorem dX9_harmOfBoth_17 : decode cX9_harmOfBoth 17 = .ok (.aload_n 0, 1) := by decide +kernel
theorem dX9_harmOfBoth_18 : decode cX9_harmOfBoth 18 = .ok (.getfield 47, 3) := by decide +kernel
theorem dX9_harmOfBoth_21 : decode cX9_harmOfBoth 21 = .ok (.arraylength, 1) := by decide +kernel
theorem dX9_harmOfBoth_22 : decode cX9_harmOfBoth 22 = .ok (.if_icmp .ge 12, 3) := by decide +kernel
theorem dX9_harmOfBoth_25 : decode cX9_harmOfBoth 25 = .ok (.iload_n 2, 1) := by decide +kernel
theorem dX9_harmOfBoth_26 : decode cX9_harmOfBoth 26 = .ok (.aload_n 0, 1) := by decide +kernel
theorem dX9_harmOfBoth_27 : decode cX9_harmOfBoth 27 = .ok (.getfield 47, 3) := by decide +kernel
theorem dX9_harmOfBoth_30 : decode cX9_harmOfBoth 30 = .ok (.arraylength, 1) := by decide +kernel
theorem dX9_harmOfBoth_31 : decode cX9_harmOfBoth 31 = .ok (.if_icmp .lt 5, 3) := by decide +kernel
theorem dX9_harmOfBoth_34 : decode cX9_harmOfBoth 34 = .ok (.iconst 0, 1) := by decide +kernel
theorem dX9_harmOfBoth_35 : decode cX9_harmOfBoth 35 = .ok (.ireturn, 1) := by decide +kernel
theorem dX9_harmOfBoth_36 : decode cX9_harmOfBoth 36 = .ok (.aload_n 0, 1) := by decide +kernel
theorem dX9_harmOfBoth_37 : decode cX9_harmOfBoth 37 = .ok (.getfield 47, 3) := by decide +kernel
theorem dX9_harmOfBoth_40 : decode cX9_harmOfBoth 40 = .ok (.iload_n 1, 1) := by decide +kernel
theorem dX9_harmOfBoth_41 : decode cX9_harmOfBoth 41 = .ok (.iaload, 1) := by decide +kernel
theorem dX9_harmOfBoth_42 : decode cX9_harmOfBoth 42 = .ok (.aload_n 0, 1) := by decide +kernel
theorem dX9_harmOfBoth_43 : decode cX9_harmOfBoth 43 = .ok (.getfield 47, 3) := by decide +kernel
theorem dX9_harmOfBoth_46 : decode cX9_harmOfBoth 46 = .ok (.iload_n 2, 1) := by decide +kernel
theorem dX9_harmOfBoth_47 : decode cX9_harmOfBoth 47 = .ok (.iaload, 1) := by decide +kernel
theorem dX9_harmOfBoth_48 : decode cX9_harmOfBoth 48 = .ok (.iadd, 1) := by decide +kernel
theorem dX9_harmOfBoth_49 : decode cX9_harmOfBoth 49 = .ok (.ireturn, 1) := by decide +kernel
theorem dJ6_bitCount_0f7a4_0 : decode cJ6_bitCount_0f7a4 0 = .ok (.iload_n 0, 1) := by decide +kernel
theorem dJ6_bitCount_0f7a4_1 : decode cJ6_bitCount_0f7a4 1 = .ok (.iload_n 0, 1) := by decide +kernel
theorem dJ6_bitCount_0f7a4_2 : decode cJ6_bitCount_0f7a4 2 = .ok (.iconst 1, 1) := by decide +kernel
theorem dJ6_bitCount_0f7a4_3 : decode cJ6_bitCount_0f7a4 3 = .ok (.iushr, 1) := by decide +kernel
theorem dJ6_bitCount_0f7a4_4 : decode cJ6_bitCount_0f7a4 4 = .ok (.ldc_w 265, 3) := by decide +kernel
theorem dJ6_bitCount_0f7a4_7 : decode cJ6_bitCount_0f7a4 7 = .ok (.iand, 1) := by decide +kernel
theorem dJ6_bitCount_0f7a4_8 : decode cJ6_bitCount_0f7a4 8 = .ok (.isub, 1) := by decide +kernel
theorem dJ6_bitCount_0f7a4_9 : decode cJ6_bitCount_0f7a4 9 = .ok (.istore_n 0, 1) := by decide +kernel
theorem dJ6_bitCount_0f7a4_10 : decode cJ6_bitCount_0f7a4 10 = .ok (.iload_n 0, 1) := by decide +kernel
theorem dJ6_bitCount_0f7a4_11 : decode cJ6_bitCount_0f7a4 11 = .ok (.ldc_w 266, 3) := by decide +kernel
theorem dJ6_bitCount_0f7a4_14 : decode cJ6_bitCount_0f7a4 14 = .ok (.iand, 1) := by decide +kernel
theorem dJ6_bitCount_0f7a4_15 : decode cJ6_bitCount_0f7a4 15 = .ok (.iload_n 0, 1) := by decide +kernel
theorem dJ6_bitCount_0f7a4_16 : decode cJ6_bitCount_0f7a4 16 = .ok (.iconst 2, 1) := by decide +kernel
theorem dJ6_bitCount_0f7a4_17 : decode cJ6_bitCount_0f7a4 17 = .ok (.iushr, 1) := by decide +kernel
theorem dJ6_bitCount_0f7a4_18 : decode cJ6_bitCount_0f7a4 18 = .ok (.ldc_w 266, 3) := by decide +kernel
theorem dJ6_bitCount_0f7a4_21 : decode cJ6_bitCount_0f7a4 21 = .ok (.iand, 1) := by decide +kernel
theorem dJ6_bitCount_0f7a4_22 : decode cJ6_bitCount_0f7a4 22 = .ok (.iadd, 1) := by decide +kernel
theorem dJ6_bitCount_0f7a4_23 : decode cJ6_bitCount_0f7a4 23 = .ok (.istore_n 0, 1) := by decide +kernel
theorem dJ6_bitCount_0f7a4_24 : decode cJ6_bitCount_0f7a4 24 = .ok (.iload_n 0, 1) := by decide +kernel
theorem dJ6_bitCount_0f7a4_25 : decode cJ6_bitCount_0f7a4 25 = .ok (.iload_n 0, 1) := by decide +kernel
theorem dJ6_bitCount_0f7a4_26 : decode cJ6_bitCount_0f7a4 26 = .ok (.iconst 4, 1) := by decide +kernel
theorem dJ6_bitCount_0f7a4_27 : decode cJ6_bitCount_0f7a4 27 = .ok (.iushr, 1) := by decide +kernel
theorem dJ6_bitCount_0f7a4_28 : decode cJ6_bitCount_0f7a4 28 = .ok (.iadd, 1) := by decide +kernel
theorem dJ6_bitCount_0f7a4_29 : decode cJ6_bitCount_0f7a4 29 = .ok (.ldc_w 267, 3) := by decide +kernel
theorem dJ6_bitCount_0f7a4_32 : decode cJ6_bitCount_0f7a4 32 = .ok (.iand, 1) := by decide +kernel
theorem dJ6_bitCount_0f7a4_33 : decode cJ6_bitCount_0f7a4 33 = .ok (.istore_n 0, 1) := by decide +kernel
theorem dJ6_bitCount_0f7a4_34 : decode cJ6_bitCount_0f7a4 34 = .ok (.iload_n 0, 1) := by decide +kernel
theorem dJ6_bitCount_0f7a4_35 : decode cJ6_bitCount_0f7a4 35 = .ok (.iload_n 0, 1) := by decide +kernel
theorem dJ6_bitCount_0f7a4_36 : decode cJ6_bitCount_0f7a4 36 = .ok (.bipush 8, 2) := by decide +kernel
theorem dJ6_bitCount_0f7a4_38 : decode cJ6_bitCount_0f7a4 38 = .ok (.iushr, 1) := by decide +kernel
theorem dJ6_bitCount_0f7a4_39 : decode cJ6_bitCount_0f7a4 39 = .ok (.iadd, 1) := by decide +kernel
theorem dJ6_bitCount_0f7a4_40 : decode cJ6_bitCount_0f7a4 40 = .ok (.istore_n 0, 1) := by decide +kernel
theorem dJ6_bitCount_0f7a4_41 : decode cJ6_bitCount_0f7a4 41 = .ok (.iload_n 0, 1) := by decide +kernel
theorem dJ6_bitCount_0f7a4_42 : decode cJ6_bitCount_0f7a4 42 = .ok (.iload_n 0, 1) := by decide +kernel
theorem dJ6_bitCount_0f7a4_43 : decode cJ6_bitCount_0f7a4 43 = .ok (.bipush 16, 2) := by decide +kernel
theorem dJ6_bitCount_0f7a4_45 : decode cJ6_bitCount_0f7a4 45 = .ok (.iushr, 1) := by decide +kernel
theorem dJ6_bitCount_0f7a4_46 : decode cJ6_bitCount_0f7a4 46 = .ok (.iadd, 1) := by decide +kernel
theorem dJ6_bitCount_0f7a4_47 : decode cJ6_bitCount_0f7a4 47 = .ok (.istore_n 0, 1) := by decide +kernel
theorem dJ6_bitCount_0f7a4_48 : decode cJ6_bitCount_0f7a4 48 = .ok (.iload_n 0, 1) := by decide +kernel
theorem dJ6_bitCount_0f7a4_49 : decode cJ6_bitCount_0f7a4 49 = .ok (.bipush 63, 2) := by decide +kernel
theorem dJ6_bitCount_0f7a4_51 : decode cJ6_bitCount_0f7a4 51 = .ok (.iand, 1) := by decide +kernel
theorem dJ6_bitCount_0f7a4_52 : decode cJ6_bitCount_0f7a4 52 = .ok (.ireturn, 1) := by decide +kernel
theorem dJ9_abs_0f7a4_0 : decode cJ9_abs_0f7a4 0 = .ok (.iload_n 0, 1) := by decide +kernel
theorem dJ9_abs_0f7a4_1 : decode cJ9_abs_0f7a4 1 = .ok (.ifCond .ge 8, 3) := by decide +kernel
theorem dJ9_abs_0f7a4_4 : decode cJ9_abs_0f7a4 4 = .ok (.iload_n 0, 1) := by decide +kernel
theorem dJ9_abs_0f7a4_5 : decode cJ9_abs_0f7a4 5 = .ok (.ineg, 1) := by decide +kernel
theorem dJ9_abs_0f7a4_6 : decode cJ9_abs_0f7a4 6 = .ok (.goto 4, 3) := by decide +kernel
theorem dJ9_abs_0f7a4_9 : decode cJ9_abs_0f7a4 9 = .ok (.iload_n 0, 1) := by decide +kernel
theorem dJ9_abs_0f7a4_10 : decode cJ9_abs_0f7a4 10 = .ok (.ireturn, 1) := by decide +kernel
theorem dJ9_max_7cf53_0 : decode cJ9_max_7cf53 0 = .ok (.iload_n 0, 1) := by decide +kernel
theorem dJ9_max_7cf53_1 : decode cJ9_max_7cf53 1 = .ok (.iload_n 1, 1) := by decide +kernel
theorem dJ9_max_7cf53_2 : decode cJ9_max_7cf53 2 = .ok (.if_icmp .lt 7, 3) := by decide +kernel
theorem dJ9_max_7cf53_5 : decode cJ9_max_7cf53 5 = .ok (.iload_n 0, 1) := by decide +kernel
theorem dJ9_max_7cf53_6 : decode cJ9_max_7cf53 6 = .ok (.goto 4, 3) := by decide +kernel
theorem dJ9_max_7cf53_9 : decode cJ9_max_7cf53 9 = .ok (.iload_n 1, 1) := by decide +kernel
theorem dJ9_max_7cf53_10 : decode cJ9_max_7cf53 10 = .ok (.ireturn, 1) := by decide +kernel
theorem dJ9_min_7cf53_0 : decode cJ9_min_7cf53 0 = .ok (.iload_n 0, 1) := by decide +kernel
theorem dJ9_min_7cf53_1 : decode cJ9_min_7cf53 1 = .ok (.iload_n 1, 1) := by decide +kernel
theorem dJ9_min_7cf53_2 : decode cJ9_min_7cf53 2 = .ok (.if_icmp .gt 7, 3) := by decide +kernel
theorem dJ9_min_7cf53_5 : decode cJ9_min_7cf53 5 = .ok (.iload_n 0, 1) := by decide +kernel
theorem dJ9_min_7cf53_6 : decode cJ9_min_7cf53 6 = .ok (.goto 4, 3) := by decide +kernel
theorem dJ9_min_7cf53_9 : decode cJ9_min_7cf53 9 = .ok (.iload_n 1, 1) := by decide +kernel
theorem dJ9_min_7cf53_10 : decode cJ9_min_7cf53 10 = .ok (.ireturn, 1) := by decide +kernel
end
section
theorem dX10_init_0 : decode cX10_init 0 = .ok (.aload_n 0, 1) := by decide +kernel
theorem dX10_init_1 : decode cX10_init 1 = .ok (.invokespecial 1, 3) := by decide +kernel
theorem dX10_init_4 : decode cX10_init 4 = .ok (.aload_n 0, 1) := by decide +kernel
theorem dX10_init_5 : decode cX10_init 5 = .ok (.iconst 4, 1) := by decide +kernel
theorem dX10_init_6 : decode cX10_init 6 = .ok (.newarray .int, 2) := by decide +kernel
theorem dX10_init_8 : decode cX10_init 8 = .ok (.dup, 1) := by decide +kernel
theorem dX10_init_9 : decode cX10_init 9 = .ok (.iconst 0, 1) := by decide +kernel
theorem dX10_init_10 : decode cX10_init 10 = .ok (.bipush (-9), 2) := by decide +kernel
theorem dX10_init_12 : decode cX10_init 12 = .ok (.iastore, 1) := by decide +kernel
theorem dX10_init_13 : decode cX10_init 13 = .ok (.dup, 1) := by decide +kernel
theorem dX10_init_14 : decode cX10_init 14 = .ok (.iconst 1, 1) := by decide +kernel
theorem dX10_init_15 : decode cX10_init 15 = .ok (.bipush (-9), 2) := by decide +kernel
theorem dX10_init_17 : decode cX10_init 17 = .ok (.iastore, 1) := by decide +kernel
theorem dX10_init_18 : decode cX10_init 18 = .ok (.dup, 1) := by decide +kernel
theorem dX10_init_19 : decode cX10_init 19 = .ok (.iconst 2, 1) := by decide +kernel
theorem dX10_init_20 : decode cX10_init 20 = .ok (.bipush (-9), 2) := by decide +kernel
theorem dX10_init_22 : decode cX10_init 22 = .ok (.iastore, 1) := by decide +kernel
theorem dX10_init_23 : decode cX10_init 23 = .ok (.dup, 1) := by decide +kernel
theorem dX10_init_24 : decode cX10_init 24 = .ok (.iconst 3, 1) := by decide +kernel
theorem dX10_init_25 : decode cX10_init 25 = .ok (.bipush (-9), 2) := by decide +kernel
theorem dX10_init_27 : decode cX10_init 27 = .ok (.iastore, 1) := by decide +kernel
theorem dX10_init_28 : decode cX10_init 28 = .ok (.putfield 9, 3) := by decide +kernel
theorem dX10_init_31 : decode cX10_init 31 = .ok (.aload_n 0, 1) := by decide +kernel
theorem dX10_init_32 : decode cX10_init 32 = .ok (.iconst 4, 1) := by decide +kernel
theorem dX10_init_33 : decode cX10_init 33 = .ok (.newarray .int, 2) := by decide +kernel
theorem dX10_init_35 : decode cX10_init 35 = .ok (.putfield 13, 3) := by decide +kernel
theorem dX10_init_38 : decode cX10_init 38 = .ok (.aload_n 0, 1) := by decide +kernel
theorem dX10_init_39 : decode cX10_init 39 = .ok (.sipush 240, 3) := by decide +kernel
theorem dX10_init_42 : decode cX10_init 42 = .ok (.newarray .int, 2) := by decide +kernel
theorem dX10_init_44 : decode cX10_init 44 = .ok (.putfield 16, 3) := by decide +kernel
theorem dX10_init_47 : decode cX10_init 47 = .ok (.aload_n 0, 1) := by decide +kernel
theorem dX10_init_48 : decode cX10_init 48 = .ok (.bipush 6, 2) := by decide +kernel
theorem dX10_init_50 : decode cX10_init 50 = .ok (.newarray .int, 2) := by decide +kernel
theorem dX10_init_52 : decode cX10_init 52 = .ok (.putfield 19, 3) := by decide +kernel
theorem dX10_init_55 : decode cX10_init 55 = .ok (.aload_n 0, 1) := by decide +kernel
theorem dX10_init_56 : decode cX10_init 56 = .ok (.bipush 6, 2) := by decide +kernel
theorem dX10_init_58 : decode cX10_init 58 = .ok (.newarray .int, 2) := by decide +kernel
theorem dX10_init_60 : decode cX10_init 60 = .ok (.putfield 22, 3) := by decide +kernel
theorem dX10_init_63 : decode cX10_init 63 = .ok (.aload_n 0, 1) := by decide +kernel
theorem dX10_init_64 : decode cX10_init 64 = .ok (.bipush 6, 2) := by decide +kernel
theorem dX10_init_66 : decode cX10_init 66 = .ok (.newarray .int, 2) := by decide +kernel
theorem dX10_init_68 : decode cX10_init 68 = .ok (.putfield 25, 3) := by decide +kernel
theorem dX10_init_71 : decode cX10_init 71 = .ok (.aload_n 0, 1) := by decide +kernel
theorem dX10_init_72 : decode cX10_init 72 = .ok (.bipush 6, 2) := by decide +kernel
theorem dX10_init_74 : decode cX10_init 74 = .ok (.newarray .int, 2) := by decide +kernel
theorem dX10_init_76 : decode cX10_init 76 = .ok (.putfield 28, 3) := by decide +kernel
theorem dX10_init_79 : decode cX10_init 79 = .ok (.aload_n 0, 1) := by decide +kernel
theorem dX10_init_80 : decode cX10_init 80 = .ok (.bipush 6, 2) := by decide +kernel
theorem dX10_init_82 : decode cX10_init 82 = .ok (.newarray .int, 2) := by decide +kernel
theorem dX10_init_84 : decode cX10_init 84 = .ok (.putfield 31, 3) := by decide +kernel
theorem dX10_init_87 : decode cX10_init 87 = .ok (.aload_n 0, 1) := by decide +kernel
theorem dX10_init_88 : decode cX10_init 88 = .ok (.bipush 6, 2) := by decide +kernel
theorem dX10_init_90 : decode cX10_init 90 = .ok (.newarray .int, 2) := by decide +kernel
theorem dX10_init_92 : decode cX10_init 92 = .ok (.putfield 34, 3) := by decide +kernel
theorem dX10_init_95 : decode cX10_init 95 = .ok (.aload_n 0, 1) := by decide +kernel
theorem dX10_init_96 : decode cX10_init 96 = .ok (.bipush 6, 2) := by decide +kernel
theorem dX10_init_98 : decode cX10_init 98 = .ok (.newarray .int, 2) := by decide +kernel
theorem dX10_init_100 : decode cX10_init 100 = .ok (.putfield 37, 3) := by decide +kernel
theorem dX10_init_103 : decode cX10_init 103 = .ok (.aload_n 0, 1) := by decide +kernel
theorem dX10_init_104 : decode cX10_init 104 = .ok (.bipush 6, 2) := by decide +kernel
theorem dX10_init_106 : decode cX10_init 106 = .ok (.newarray .int, 2) := by decide +kernel
theorem dX10_init_108 : decode cX10_init 108 = .ok (.putfield 40, 3) := by decide +kernel
theorem dX10_init_111 : decode cX10_init 111 = .ok (.aload_n 0, 1) := by decide +kernel
theorem dX10_init_112 : decode cX10_init 112 = .ok (.bipush 6, 2) := by decide +kernel
theorem dX10_init_114 : decode cX10_init 114 = .ok (.newarray .int, 2) := by decide +kernel
theorem dX10_init_116 : decode cX10_init 116 = .ok (.putfield 43, 3) := by decide +kernel
theorem dX10_init_119 : decode cX10_init 119 = .ok (.aload_n 0, 1) := by decide +kernel
theorem dX10_init_120 : decode cX10_init 120 = .ok (.bipush 6, 2) := by decide +kernel
theorem dX10_init_122 : decode cX10_init 122 = .ok (.newarray .int, 2) := by decide +kernel
theorem dX10_init_124 : decode cX10_init 124 = .ok (.putfield 46, 3) := by decide +kernel
theorem dX10_init_127 : decode cX10_init 127 = .ok (.aload_n 0, 1) := by decide +kernel
theorem dX10_init_128 : decode cX10_init 128 = .ok (.bipush 8, 2) := by decide +kernel
theorem dX10_init_130 : decode cX10_init 130 = .ok (.newarray .int, 2) := by decide +kernel
theorem dX10_init_132 : decode cX10_init 132 = .ok (.putfield 49, 3) := by decide +kernel
theorem dX10_init_135 : decode cX10_init 135 = .ok (.aload_n 0, 1) := by decide +kernel
theorem dX10_init_136 : decode cX10_init 136 = .ok (.sipush 400, 3) := by decide +kernel
theorem dX10_init_139 : decode cX10_init 139 = .ok (.newarray .int, 2) := by decide +kernel
theorem dX10_init_141 : decode cX10_init 141 = .ok (.putfield 52, 3) := by decide +kernel
theorem dX10_init_144 : decode cX10_init 144 = .ok (.aload_n 0, 1) := by decide +kernel
theorem dX10_init_145 : decode cX10_init 145 = .ok (.sipush 400, 3) := by decide +kernel
theorem dX10_init_148 : decode cX10_init 148 = .ok (.newarray .int, 2) := by decide +kernel
theorem dX10_init_150 : decode cX10_init 150 = .ok (.putfield 55, 3) := by decide +kernel
theorem dX10_init_153 : decode cX10_init 153 = .ok (.aload_n 0, 1) := by decide +kernel
theorem dX10_init_154 : decode cX10_init 154 = .ok (.sipush 400, 3) := by decide +kernel
theorem dX10_init_157 : decode cX10_init 157 = .ok (.newarray .int, 2) := by decide +kernel
theorem dX10_init_159 : decode cX10_init 159 = .ok (.putfield 58, 3) := by decide +kernel
theorem dX10_init_162 : decode cX10_init 162 = .ok (.aload_n 0, 1) := by decide +kernel
theorem dX10_init_163 : decode cX10_init 163 = .ok (.sipush 1800, 3) := by decide +kernel
theorem dX10_init_166 : decode cX10_init 166 = .ok (.newarray .boolean, 2) := by decide +kernel
theorem dX10_init_168 : decode cX10_init 168 = .ok (.putfield 61, 3) := by decide +kernel
theorem dX10_init_171 : decode cX10_init 171 = .ok (.aload_n 0, 1) := by decide +kernel
theorem dX10_init_172 : decode cX10_init 172 = .ok (.bipush 6, 2) := by decide +kernel
theorem dX10_init_174 : decode cX10_init 174 = .ok (.newarray .int, 2) := by decide +kernel
theorem dX10_init_176 : decode cX10_init 176 = .ok (.putfield 65, 3) := by decide +kernel
theorem dX10_init_179 : decode cX10_init 179 = .ok (.aload_n 0, 1) := by decide +kernel
theorem dX10_init_180 : decode cX10_init 180 = .ok (.bipush 64, 2) := by decide +kernel
theorem dX10_init_182 : decode cX10_init 182 = .ok (.newarray .int, 2) := by decide +kernel
theorem dX10_init_184 : decode cX10_init 184 = .ok (.putfield 68, 3) := by decide +kernel
theorem dX10_init_187 : decode cX10_init 187 = .ok (.aload_n 0, 1) := by decide +kernel
theorem dX10_init_188 : decode cX10_init 188 = .ok (.bipush 8, 2) := by decide +kernel
theorem dX10_init_190 : decode cX10_init 190 = .ok (.newarray .int, 2) := by decide +kernel
theorem dX10_init_192 : decode cX10_init 192 = .ok (.putfield 71, 3) := by decide +kernel
theorem dX10_init_195 : decode cX10_init 195 = .ok (.aload_n 0, 1) := by decide +kernel
theorem dX10_init_196 : decode cX10_init 196 = .ok (.bipush 8, 2) := by decide +kernel
theorem dX10_init_198 : decode cX10_init 198 = .ok (.newarray .int, 2) := by decide +kernel
theorem dX10_init_200 : decode cX10_init 200 = .ok (.putfield 74, 3) := by decide +kernel
theorem dX10_init_203 : decode cX10_init 203 = .ok (.aload_n 0, 1) := by decide +kernel
theorem dX10_init_204 : decode cX10_init 204 = .ok (.bipush 8, 2) := by decide +kernel
theorem dX10_init_206 : decode cX10_init 206 = .ok (.newarray .boolean, 2) := by decide +kernel
theorem dX10_init_208 : decode cX10_init 208 = .ok (.putfield 77, 3) := by decide +kernel
theorem dX10_init_211 : decode cX10_init 211 = .ok (.return_, 1) := by decide +kernel
theorem dX10_fails_0 : decode cX10_fails 0 = .ok (.aload_n 0, 1) := by decide +kernel
theorem dX10_fails_1 : decode cX10_fails 1 = .ok (.iload_n 1, 1) := by decide +kernel
theorem dX10_fails_2 : decode cX10_fails 2 = .ok (.putfield 80, 3) := by decide +kernel
theorem dX10_fails_5 : decode cX10_fails 5 = .ok (.bipush (-10), 2) := by decide +kernel
theorem dX10_fails_7 : decode cX10_fails 7 = .ok (.iload_n 1, 1) := by decide +kernel
theorem dX10_fails_8 : decode cX10_fails 8 = .ok (.isub, 1) := by decide +kernel
theorem dX10_fails_9 : decode cX10_fails 9 = .ok (.ireturn, 1) := by decide +kernel
theorem dX10_lost_0 : decode cX10_lost 0 = .ok (.aload_n 0, 1) := by decide +kernel
theorem dX10_lost_1 : decode cX10_lost 1 = .ok (.iload_n 1, 1) := by decide +kernel
theorem dX10_lost_2 : decode cX10_lost 2 = .ok (.putfield 80, 3) := by decide +kernel
theorem dX10_lost_5 : decode cX10_lost 5 = .ok (.ldc2_w 84, 3) := by decide +kernel
theorem dX10_lost_8 : decode cX10_lost 8 = .ok (.lreturn, 1) := by decide +kernel
theorem dX10_within_0 : decode cX10_within 0 = .ok (.iload_n 0, 1) := by decide +kernel
theorem dX10_within_1 : decode cX10_within 1 = .ok (.iload_n 1, 1) := by decide +kernel
theorem dX10_within_2 : decode cX10_within 2 = .ok (.if_icmp .lt 12, 3) := by decide +kernel
theorem dX10_within_5 : decode cX10_within 5 = .ok (.iload_n 0, 1) := by decide +kernel
theorem dX10_within_6 : decode cX10_within 6 = .ok (.iload_n 2, 1) := by decide +kernel
theorem dX10_within_7 : decode cX10_within 7 = .ok (.if_icmp .gt 7, 3) := by decide +kernel
theorem dX10_within_10 : decode cX10_within 10 = .ok (.iconst 1, 1) := by decide +kernel
theorem dX10_within_11 : decode cX10_within 11 = .ok (.goto 4, 3) := by decide +kernel
theorem dX10_within_14 : decode cX10_within 14 = .ok (.iconst 0, 1) := by decide +kernel
theorem dX10_within_15 : decode cX10_within 15 = .ok (.ireturn, 1) := by decide +kernel
set_option maxRecDepth 20000 in
theorem ggX10_isSheet_X10_within : GoodIn wsX10_isSheet wsX10_within := goodIn_r _ [4] (by decide +kernel) (by decide +kernel)
set_option maxRecDepth 20000 in
theorem gX10_isSheet_X10_within : GoodIn wsX10_isSheet (va_wsS RX10 86 yX10_within wsX10_within) := goodIn_app (goodIn_of _ (by decide +kernel)) ggX10_isSheet_X10_within
theorem dX10_isSheet_0 : decode cX10_isSheet 0 = .ok (.iload_n 0, 1) := by decide +kernel
theorem dX10_isSheet_1 : decode cX10_isSheet 1 = .ok (.iconst 0, 1) := by decide +kernel
theorem dX10_isSheet_2 : decode cX10_isSheet 2 = .ok (.iconst 3, 1) := by decide +kernel
theorem dX10_isSheet_3 : decode cX10_isSheet 3 = .ok (.invokestatic 86, 3) := by decide +kernel
theorem dX10_isSheet_6 : decode cX10_isSheet 6 = .ok (.ireturn, 1) := by decide +kernel
set_option maxRecDepth 20000 in
theorem ggX10_isSort_X10_within : GoodIn wsX10_isSort wsX10_within := goodIn_r _ [4] (by decide +kernel) (by decide +kernel)
set_option maxRecDepth 20000 in
theorem gX10_isSort_X10_within : GoodIn wsX10_isSort (va_wsS RX10 86 yX10_within wsX10_within) := goodIn_app (goodIn_of _ (by decide +kernel)) ggX10_isSort_X10_within
theorem dX10_isSort_0 : decode cX10_isSort 0 = .ok (.iload_n 0, 1) := by decide +kernel
theorem dX10_isSort_1 : decode cX10_isSort 1 = .ok (.iconst 0, 1) := by decide +kernel
theorem dX10_isSort_2 : decode cX10_isSort 2 = .ok (.iconst 2, 1) := by decide +kernel
theorem dX10_isSort_3 : decode cX10_isSort 3 = .ok (.invokestatic 86, 3) := by decide +kernel
theorem dX10_isSort_6 : decode cX10_isSort 6 = .ok (.ireturn, 1) := by decide +kernel
theorem dX10_against_0 : decode cX10_against 0 = .ok (.aload_n 0, 1) := by decide +kernel
theorem dX10_against_1 : decode cX10_against 1 = .ok (.getfield 9, 3) := by decide +kernel
theorem dX10_against_4 : decode cX10_against 4 = .ok (.iload_n 1, 1) := by decide +kernel
theorem dX10_against_5 : decode cX10_against 5 = .ok (.iaload, 1) := by decide +kernel
theorem dX10_against_6 : decode cX10_against 6 = .ok (.bipush (-9), 2) := by decide +kernel
theorem dX10_against_8 : decode cX10_against 8 = .ok (.if_icmp .eq 15, 3) := by decide +kernel
theorem dX10_against_11 : decode cX10_against 11 = .ok (.aload_n 0, 1) := by decide +kernel
theorem dX10_against_12 : decode cX10_against 12 = .ok (.getfield 9, 3) := by decide +kernel
theorem dX10_against_15 : decode cX10_against 15 = .ok (.iload_n 1, 1) := by decide +kernel
theorem dX10_against_16 : decode cX10_against 16 = .ok (.iaload, 1) := by decide +kernel
theorem dX10_against_17 : decode cX10_against 17 = .ok (.iload_n 2, 1) := by decide +kernel
theorem dX10_against_18 : decode cX10_against 18 = .ok (.if_icmp .eq 5, 3) := by decide +kernel
theorem dX10_against_21 : decode cX10_against 21 = .ok (.iconst 2, 1) := by decide +kernel
theorem dX10_against_22 : decode cX10_against 22 = .ok (.ireturn, 1) := by decide +kernel
theorem dX10_against_23 : decode cX10_against 23 = .ok (.aload_n 0, 1) := by decide +kernel
theorem dX10_against_24 : decode cX10_against 24 = .ok (.getfield 9, 3) := by decide +kernel
theorem dX10_against_27 : decode cX10_against 27 = .ok (.iload_n 1, 1) := by decide +kernel
theorem dX10_against_28 : decode cX10_against 28 = .ok (.iaload, 1) := by decide +kernel
theorem dX10_against_29 : decode cX10_against 29 = .ok (.bipush (-9), 2) := by decide +kernel
theorem dX10_against_31 : decode cX10_against 31 = .ok (.if_icmp .ne 5, 3) := by decide +kernel
theorem dX10_against_34 : decode cX10_against 34 = .ok (.iconst 1, 1) := by decide +kernel
theorem dX10_against_35 : decode cX10_against 35 = .ok (.ireturn, 1) := by decide +kernel
theorem dX10_against_36 : decode cX10_against 36 = .ok (.iload 4, 2) := by decide +kernel
theorem dX10_against_38 : decode cX10_against 38 = .ok (.ifCond .ge 5, 3) := by decide +kernel
theorem dX10_against_41 : decode cX10_against 41 = .ok (.iconst 4, 1) := by decide +kernel
theorem dX10_against_42 : decode cX10_against 42 = .ok (.ireturn, 1) := by decide +kernel
theorem dX10_against_43 : decode cX10_against 43 = .ok (.iload_n 3, 1) := by decide +kernel
theorem dX10_against_44 : decode cX10_against 44 = .ok (.ifCond .lt 26, 3) := by decide +kernel
theorem dX10_against_47 : decode cX10_against 47 = .ok (.iload_n 3, 1) := by decide +kernel
theorem dX10_against_48 : decode cX10_against 48 = .ok (.aload_n 0, 1) := by decide +kernel
theorem dX10_against_49 : decode cX10_against 49 = .ok (.getfield 13, 3) := by decide +kernel
theorem dX10_against_52 : decode cX10_against 52 = .ok (.iload_n 1, 1) := by decide +kernel
theorem dX10_against_53 : decode cX10_against 53 = .ok (.iaload, 1) := by decide +kernel
theorem dX10_against_54 : decode cX10_against 54 = .ok (.if_icmp .gt 16, 3) := by decide +kernel
theorem dX10_against_57 : decode cX10_against 57 = .ok (.iload 4, 2) := by decide +kernel
theorem dX10_against_59 : decode cX10_against 59 = .ok (.aload_n 0, 1) := by decide +kernel
theorem dX10_against_60 : decode cX10_against 60 = .ok (.getfield 13, 3) := by decide +kernel
theorem dX10_against_63 : decode cX10_against 63 = .ok (.iload_n 1, 1) := by decide +kernel
theorem dX10_against_64 : decode cX10_against 64 = .ok (.iaload, 1) := by decide +kernel
theorem dX10_against_65 : decode cX10_against 65 = .ok (.iload_n 3, 1) := by decide +kernel
theorem dX10_against_66 : decode cX10_against 66 = .ok (.isub, 1) := by decide +kernel
theorem dX10_against_67 : decode cX10_against 67 = .ok (.if_icmp .le 7, 3) := by decide +kernel
theorem dX10_against_70 : decode cX10_against 70 = .ok (.iconst 3, 1) := by decide +kernel
theorem dX10_against_71 : decode cX10_against 71 = .ok (.goto 4, 3) := by decide +kernel
theorem dX10_against_74 : decode cX10_against 74 = .ok (.iconst 0, 1) := by decide +kernel
theorem dX10_against_75 : decode cX10_against 75 = .ok (.ireturn, 1) := by decide +kernel
theorem dX10_isThing_0 : decode cX10_isThing 0 = .ok (.iload_n 1, 1) := by decide +kernel
theorem dX10_isThing_1 : decode cX10_isThing 1 = .ok (.ifCond .lt 15, 3) := by decide +kernel
theorem dX10_isThing_4 : decode cX10_isThing 4 = .ok (.iload_n 1, 1) := by decide +kernel
theorem dX10_isThing_5 : decode cX10_isThing 5 = .ok (.aload_n 0, 1) := by decide +kernel
theorem dX10_isThing_6 : decode cX10_isThing 6 = .ok (.getfield 90, 3) := by decide +kernel
theorem dX10_isThing_9 : decode cX10_isThing 9 = .ok (.if_icmp .ge 7, 3) := by decide +kernel
theorem dX10_isThing_12 : decode cX10_isThing 12 = .ok (.iconst 1, 1) := by decide +kernel
theorem dX10_isThing_13 : decode cX10_isThing 13 = .ok (.goto 4, 3) := by decide +kernel
theorem dX10_isThing_16 : decode cX10_isThing 16 = .ok (.iconst 0, 1) := by decide +kernel
theorem dX10_isThing_17 : decode cX10_isThing 17 = .ok (.ireturn, 1) := by decide +kernel
set_option maxRecDepth 20000 in
theorem ggX10_digit_X10_within : GoodIn wsX10_digit wsX10_within := goodIn_r _ [6] (by decide +kernel) (by decide +kernel)
set_option maxRecDepth 20000 in
theorem gX10_digit_X10_within : GoodIn wsX10_digit (va_wsS RX10 86 yX10_within wsX10_within) := goodIn_app (goodIn_of _ (by decide +kernel)) ggX10_digit_X10_within
theorem dX10_digit_0 : decode cX10_digit 0 = .ok (.aload_n 0, 1) := by decide +kernel
theorem dX10_digit_1 : decode cX10_digit 1 = .ok (.getfield 93, 3) := by decide +kernel
theorem dX10_digit_4 : decode cX10_digit 4 = .ok (.iload_n 1, 1) := by decide +kernel
theorem dX10_digit_5 : decode cX10_digit 5 = .ok (.if_icmp .ge 24, 3) := by decide +kernel
theorem dX10_digit_8 : decode cX10_digit 8 = .ok (.aload_n 0, 1) := by decide +kernel
theorem dX10_digit_9 : decode cX10_digit 9 = .ok (.getfield 16, 3) := by decide +kernel
theorem dX10_digit_12 : decode cX10_digit 12 = .ok (.aload_n 0, 1) := by decide +kernel
theorem dX10_digit_13 : decode cX10_digit 13 = .ok (.getfield 93, 3) := by decide +kernel
theorem dX10_digit_16 : decode cX10_digit 16 = .ok (.iaload, 1) := by decide +kernel
theorem dX10_digit_17 : decode cX10_digit 17 = .ok (.bipush 48, 2) := by decide +kernel
theorem dX10_digit_19 : decode cX10_digit 19 = .ok (.iload_n 2, 1) := by decide +kernel
theorem dX10_digit_20 : decode cX10_digit 20 = .ok (.iadd, 1) := by decide +kernel
theorem dX10_digit_21 : decode cX10_digit 21 = .ok (.bipush 57, 2) := by decide +kernel
theorem dX10_digit_23 : decode cX10_digit 23 = .ok (.invokestatic 86, 3) := by decide +kernel
theorem dX10_digit_26 : decode cX10_digit 26 = .ok (.ifCond .ne 6, 3) := by decide +kernel
theorem dX10_digit_29 : decode cX10_digit 29 = .ok (.bipush (-9), 2) := by decide +kernel
theorem dX10_digit_31 : decode cX10_digit 31 = .ok (.ireturn, 1) := by decide +kernel
theorem dX10_digit_32 : decode cX10_digit 32 = .ok (.aload_n 0, 1) := by decide +kernel
theorem dX10_digit_33 : decode cX10_digit 33 = .ok (.dup, 1) := by decide +kernel
theorem dX10_digit_34 : decode cX10_digit 34 = .ok (.getfield 93, 3) := by decide +kernel
theorem dX10_digit_37 : decode cX10_digit 37 = .ok (.iconst 1, 1) := by decide +kernel
theorem dX10_digit_38 : decode cX10_digit 38 = .ok (.iadd, 1) := by decide +kernel
theorem dX10_digit_39 : decode cX10_digit 39 = .ok (.putfield 93, 3) := by decide +kernel
theorem dX10_digit_42 : decode cX10_digit 42 = .ok (.aload_n 0, 1) := by decide +kernel
theorem dX10_digit_43 : decode cX10_digit 43 = .ok (.getfield 16, 3) := by decide +kernel
theorem dX10_digit_46 : decode cX10_digit 46 = .ok (.aload_n 0, 1) := by decide +kernel
theorem dX10_digit_47 : decode cX10_digit 47 = .ok (.getfield 93, 3) := by decide +kernel
theorem dX10_digit_50 : decode cX10_digit 50 = .ok (.iconst 1, 1) := by decide +kernel
theorem dX10_digit_51 : decode cX10_digit 51 = .ok (.isub, 1) := by decide +kernel
theorem dX10_digit_52 : decode cX10_digit 52 = .ok (.iaload, 1) := by decide +kernel
theorem dX10_digit_53 : decode cX10_digit 53 = .ok (.bipush 48, 2) := by decide +kernel
theorem dX10_digit_55 : decode cX10_digit 55 = .ok (.isub, 1) := by decide +kernel
theorem dX10_digit_56 : decode cX10_digit 56 = .ok (.ireturn, 1) := by decide +kernel
set_option maxRecDepth 20000 in
theorem ggX10_street_X10_isSheet : GoodIn wsX10_street wsX10_isSheet := goodIn_r _ [22, 23, 24, 21, 25] (by decide +kernel) (by decide +kernel)
set_option maxRecDepth 20000 in
theorem gX10_street_X10_isSheet : GoodIn wsX10_street (va_wsS RX10 96 yX10_isSheet wsX10_isSheet) := goodIn_app (goodIn_of _ (by decide +kernel)) ggX10_street_X10_isSheet
set_option maxRecDepth 20000 in
theorem ggX10_street_X10_isSort : GoodIn wsX10_street wsX10_isSort := goodIn_r _ [28, 23, 24, 21, 25] (by decide +kernel) (by decide +kernel)
set_option maxRecDepth 20000 in
theorem gX10_street_X10_isSort : GoodIn wsX10_street (va_wsS RX10 100 yX10_isSort wsX10_isSort) := goodIn_app (goodIn_of _ (by decide +kernel)) ggX10_street_X10_isSort
set_option maxRecDepth 20000 in
theorem ggX10_street_X10_against : GoodIn wsX10_street wsX10_against := goodIn_r _ [32, 33, 34, 52, 53, 54, 55, 56, 57, 58, 59, 60, 61, 62, 63, 64, 65, 66, 67, 68, 69, 70, 71, 72, 73, 74, 75, 76, 77, 78, 79, 80, 81, 82, 83, 84, 85] (by decide +kernel) (by decide +kernel)
set_option maxRecDepth 20000 in
theorem gX10_street_X10_against : GoodIn wsX10_street (wsV RX10 103 RX10 yX10_against wsX10_against) := goodIn_app (goodIn_of _ (by decide +kernel)) ggX10_street_X10_against
set_option maxRecDepth 20000 in
theorem ggX10_street_X10_fails : GoodIn wsX10_street wsX10_fails := goodIn_r _ [38, 1, 52, 53, 54, 55, 56, 57, 58, 59, 60, 61, 62, 63, 64, 65, 66, 67, 68, 69, 70, 71, 72, 73, 74, 75, 76, 77, 78, 79, 80, 81, 82, 83, 84, 85] (by decide +kernel) (by decide +kernel)
set_option maxRecDepth 20000 in
theorem gX10_street_X10_fails : GoodIn wsX10_street (wsV RX10 107 RX10 yX10_fails wsX10_fails) := goodIn_app (goodIn_of _ (by decide +kernel)) ggX10_street_X10_fails
set_option maxRecDepth 20000 in
theorem ggX10_street_X10_readStreet : GoodIn wsX10_street wsX10_readStreet := goodIn_r _ [42, 2, 43, 3, 5, 44, 45, 46, 21, 47, 23, 24, 25, 48, 49, 50, 51, 8, 10, 12, 14, 16, 52, 53, 54, 55, 56, 57, 58, 59, 60, 61, 62, 63, 64, 65, 66, 67, 68, 69, 70, 71, 72, 73, 74, 75, 76, 77, 78, 79, 80, 81, 82, 83, 84, 85] (by decide +kernel) (by decide +kernel)
set_option maxRecDepth 20000 in
theorem gX10_street_X10_readStreet : GoodIn wsX10_street (wsV RX10 111 RX10 yX10_readStreet wsX10_readStreet) := goodIn_app (goodIn_of _ (by decide +kernel)) ggX10_street_X10_readStreet
theorem dX10_street_0 : decode cX10_street 0 = .ok (.aload_n 0, 1) := by decide +kernel
theorem dX10_street_1 : decode cX10_street 1 = .ok (.iconst 0, 1) := by decide +kernel
theorem dX10_street_2 : decode cX10_street 2 = .ok (.putfield 80, 3) := by decide +kernel
theorem dX10_street_5 : decode cX10_street 5 = .ok (.iload_n 1, 1) := by decide +kernel
theorem dX10_street_6 : decode cX10_street 6 = .ok (.invokestatic 96, 3) := by decide +kernel
theorem dX10_street_9 : decode cX10_street 9 = .ok (.ifCond .ne 5, 3) := by decide +kernel
theorem dX10_street_12 : decode cX10_street 12 = .ok (.iconst (-1), 1) := by decide +kernel
theorem dX10_street_13 : decode cX10_street 13 = .ok (.ireturn, 1) := by decide +kernel
theorem dX10_street_14 : decode cX10_street 14 = .ok (.iload_n 2, 1) := by decide +kernel
theorem dX10_street_15 : decode cX10_street 15 = .ok (.invokestatic 100, 3) := by decide +kernel
theorem dX10_street_18 : decode cX10_street 18 = .ok (.ifCond .ne 6, 3) := by decide +kernel
theorem dX10_street_21 : decode cX10_street 21 = .ok (.bipush (-2), 2) := by decide +kernel
theorem dX10_street_23 : decode cX10_street 23 = .ok (.ireturn, 1) := by decide +kernel
theorem dX10_street_24 : decode cX10_street 24 = .ok (.aload_n 0, 1) := by decide +kernel
theorem dX10_street_25 : decode cX10_street 25 = .ok (.iload_n 1, 1) := by decide +kernel
theorem dX10_street_26 : decode cX10_street 26 = .ok (.iload_n 2, 1) := by decide +kernel
theorem dX10_street_27 : decode cX10_street 27 = .ok (.iload_n 3, 1) := by decide +kernel
theorem dX10_street_28 : decode cX10_street 28 = .ok (.iload 4, 2) := by decide +kernel
theorem dX10_street_30 : decode cX10_street 30 = .ok (.invokevirtual 103, 3) := by decide +kernel
theorem dX10_street_33 : decode cX10_street 33 = .ok (.istore 5, 2) := by decide +kernel
theorem dX10_street_35 : decode cX10_street 35 = .ok (.iload 5, 2) := by decide +kernel
theorem dX10_street_37 : decode cX10_street 37 = .ok (.ifCond .eq 10, 3) := by decide +kernel
theorem dX10_street_40 : decode cX10_street 40 = .ok (.aload_n 0, 1) := by decide +kernel
theorem dX10_street_41 : decode cX10_street 41 = .ok (.iload 5, 2) := by decide +kernel
theorem dX10_street_43 : decode cX10_street 43 = .ok (.invokevirtual 107, 3) := by decide +kernel
theorem dX10_street_46 : decode cX10_street 46 = .ok (.ireturn, 1) := by decide +kernel
theorem dX10_street_47 : decode cX10_street 47 = .ok (.bipush 60, 2) := by decide +kernel
theorem dX10_street_49 : decode cX10_street 49 = .ok (.iload_n 1, 1) := by decide +kernel
theorem dX10_street_50 : decode cX10_street 50 = .ok (.imul, 1) := by decide +kernel
theorem dX10_street_51 : decode cX10_street 51 = .ok (.iload_n 3, 1) := by decide +kernel
theorem dX10_street_52 : decode cX10_street 52 = .ok (.iadd, 1) := by decide +kernel
theorem dX10_street_53 : decode cX10_street 53 = .ok (.istore 6, 2) := by decide +kernel
theorem dX10_street_55 : decode cX10_street 55 = .ok (.aload_n 0, 1) := by decide +kernel
theorem dX10_street_56 : decode cX10_street 56 = .ok (.iload 6, 2) := by decide +kernel
theorem dX10_street_58 : decode cX10_street 58 = .ok (.putfield 93, 3) := by decide +kernel
theorem dX10_street_61 : decode cX10_street 61 = .ok (.aload_n 0, 1) := by decide +kernel
theorem dX10_street_62 : decode cX10_street 62 = .ok (.iload 6, 2) := by decide +kernel
theorem dX10_street_64 : decode cX10_street 64 = .ok (.iload 4, 2) := by decide +kernel
theorem dX10_street_66 : decode cX10_street 66 = .ok (.iadd, 1) := by decide +kernel
theorem dX10_street_67 : decode cX10_street 67 = .ok (.invokevirtual 111, 3) := by decide +kernel
theorem dX10_street_70 : decode cX10_street 70 = .ok (.ifCond .ne 14, 3) := by decide +kernel
theorem dX10_street_73 : decode cX10_street 73 = .ok (.bipush (-100), 2) := by decide +kernel
theorem dX10_street_75 : decode cX10_street 75 = .ok (.aload_n 0, 1) := by decide +kernel
theorem dX10_street_76 : decode cX10_street 76 = .ok (.getfield 93, 3) := by decide +kernel
theorem dX10_street_79 : decode cX10_street 79 = .ok (.iload 6, 2) := by decide +kernel
theorem dX10_street_81 : decode cX10_street 81 = .ok (.isub, 1) := by decide +kernel
theorem dX10_street_82 : decode cX10_street 82 = .ok (.isub, 1) := by decide +kernel
theorem dX10_street_83 : decode cX10_street 83 = .ok (.ireturn, 1) := by decide +kernel
theorem dX10_street_84 : decode cX10_street 84 = .ok (.aload_n 0, 1) := by decide +kernel
theorem dX10_street_85 : decode cX10_street 85 = .ok (.aload_n 0, 1) := by decide +kernel
theorem dX10_street_86 : decode cX10_street 86 = .ok (.getfield 114, 3) := by decide +kernel
theorem dX10_street_89 : decode cX10_street 89 = .ok (.putfield 117, 3) := by decide +kernel
theorem dX10_street_92 : decode cX10_street 92 = .ok (.aload_n 0, 1) := by decide +kernel
theorem dX10_street_93 : decode cX10_street 93 = .ok (.aload_n 0, 1) := by decide +kernel
theorem dX10_street_94 : decode cX10_street 94 = .ok (.getfield 120, 3) := by decide +kernel
theorem dX10_street_97 : decode cX10_street 97 = .ok (.putfield 90, 3) := by decide +kernel
theorem dX10_street_100 : decode cX10_street 100 = .ok (.iconst 0, 1) := by decide +kernel
theorem dX10_street_101 : decode cX10_street 101 = .ok (.istore 7, 2) := by decide +kernel
theorem dX10_street_103 : decode cX10_street 103 = .ok (.iload 7, 2) := by decide +kernel
theorem dX10_street_105 : decode cX10_street 105 = .ok (.aload_n 0, 1) := by decide +kernel
theorem dX10_street_106 : decode cX10_street 106 = .ok (.getfield 90, 3) := by decide +kernel
theorem dX10_street_109 : decode cX10_street 109 = .ok (.if_icmp .ge 79, 3) := by decide +kernel
theorem dX10_street_112 : decode cX10_street 112 = .ok (.aload_n 0, 1) := by decide +kernel
theorem dX10_street_113 : decode cX10_street 113 = .ok (.getfield 19, 3) := by decide +kernel
theorem dX10_street_116 : decode cX10_street 116 = .ok (.iload 7, 2) := by decide +kernel
theorem dX10_street_118 : decode cX10_street 118 = .ok (.aload_n 0, 1) := by decide +kernel
theorem dX10_street_119 : decode cX10_street 119 = .ok (.getfield 34, 3) := by decide +kernel
theorem dX10_street_122 : decode cX10_street 122 = .ok (.iload 7, 2) := by decide +kernel
theorem dX10_street_124 : decode cX10_street 124 = .ok (.iaload, 1) := by decide +kernel
theorem dX10_street_125 : decode cX10_street 125 = .ok (.iastore, 1) := by decide +kernel
theorem dX10_street_126 : decode cX10_street 126 = .ok (.aload_n 0, 1) := by decide +kernel
theorem dX10_street_127 : decode cX10_street 127 = .ok (.getfield 22, 3) := by decide +kernel
theorem dX10_street_130 : decode cX10_street 130 = .ok (.iload 7, 2) := by decide +kernel
theorem dX10_street_132 : decode cX10_street 132 = .ok (.aload_n 0, 1) := by decide +kernel
theorem dX10_street_133 : decode cX10_street 133 = .ok (.getfield 37, 3) := by decide +kernel
theorem dX10_street_136 : decode cX10_street 136 = .ok (.iload 7, 2) := by decide +kernel
theorem dX10_street_138 : decode cX10_street 138 = .ok (.iaload, 1) := by decide +kernel
theorem dX10_street_139 : decode cX10_street 139 = .ok (.iastore, 1) := by decide +kernel
theorem dX10_street_140 : decode cX10_street 140 = .ok (.aload_n 0, 1) := by decide +kernel
theorem dX10_street_141 : decode cX10_street 141 = .ok (.getfield 25, 3) := by decide +kernel
theorem dX10_street_144 : decode cX10_street 144 = .ok (.iload 7, 2) := by decide +kernel
theorem dX10_street_146 : decode cX10_street 146 = .ok (.aload_n 0, 1) := by decide +kernel
theorem dX10_street_147 : decode cX10_street 147 = .ok (.getfield 40, 3) := by decide +kernel
theorem dX10_street_150 : decode cX10_street 150 = .ok (.iload 7, 2) := by decide +kernel
theorem dX10_street_152 : decode cX10_street 152 = .ok (.iaload, 1) := by decide +kernel
theorem dX10_street_153 : decode cX10_street 153 = .ok (.iastore, 1) := by decide +kernel
theorem dX10_street_154 : decode cX10_street 154 = .ok (.aload_n 0, 1) := by decide +kernel
theorem dX10_street_155 : decode cX10_street 155 = .ok (.getfield 28, 3) := by decide +kernel
theorem dX10_street_158 : decode cX10_street 158 = .ok (.iload 7, 2) := by decide +kernel
theorem dX10_street_160 : decode cX10_street 160 = .ok (.aload_n 0, 1) := by decide +kernel
theorem dX10_street_161 : decode cX10_street 161 = .ok (.getfield 43, 3) := by decide +kernel
theorem dX10_street_164 : decode cX10_street 164 = .ok (.iload 7, 2) := by decide +kernel
theorem dX10_street_166 : decode cX10_street 166 = .ok (.iaload, 1) := by decide +kernel
theorem dX10_street_167 : decode cX10_street 167 = .ok (.iastore, 1) := by decide +kernel
theorem dX10_street_168 : decode cX10_street 168 = .ok (.aload_n 0, 1) := by decide +kernel
theorem dX10_street_169 : decode cX10_street 169 = .ok (.getfield 31, 3) := by decide +kernel
theorem dX10_street_172 : decode cX10_street 172 = .ok (.iload 7, 2) := by decide +kernel
theorem dX10_street_174 : decode cX10_street 174 = .ok (.aload_n 0, 1) := by decide +kernel
theorem dX10_street_175 : decode cX10_street 175 = .ok (.getfield 46, 3) := by decide +kernel
theorem dX10_street_178 : decode cX10_street 178 = .ok (.iload 7, 2) := by decide +kernel
theorem dX10_street_180 : decode cX10_street 180 = .ok (.iaload, 1) := by decide +kernel
theorem dX10_street_181 : decode cX10_street 181 = .ok (.iastore, 1) := by decide +kernel
theorem dX10_street_182 : decode cX10_street 182 = .ok (.iinc 7 1, 3) := by decide +kernel
theorem dX10_street_185 : decode cX10_street 185 = .ok (.goto (-82), 3) := by decide +kernel
theorem dX10_street_188 : decode cX10_street 188 = .ok (.aload_n 0, 1) := by decide +kernel
theorem dX10_street_189 : decode cX10_street 189 = .ok (.iconst 0, 1) := by decide +kernel
theorem dX10_street_190 : decode cX10_street 190 = .ok (.putfield 123, 3) := by decide +kernel
theorem dX10_street_193 : decode cX10_street 193 = .ok (.aload_n 0, 1) := by decide +kernel
theorem dX10_street_194 : decode cX10_street 194 = .ok (.iconst 0, 1) := by decide +kernel
theorem dX10_street_195 : decode cX10_street 195 = .ok (.putfield 126, 3) := by decide +kernel
theorem dX10_street_198 : decode cX10_street 198 = .ok (.aload_n 0, 1) := by decide +kernel
theorem dX10_street_199 : decode cX10_street 199 = .ok (.getfield 90, 3) := by decide +kernel
theorem dX10_street_202 : decode cX10_street 202 = .ok (.ireturn, 1) := by decide +kernel
set_option maxRecDepth 20000 in
theorem ggX10_readStreet_X10_digit : GoodIn wsX10_readStreet wsX10_digit := goodIn_r _ [9, 1, 2, 10, 11, 8, 12, 22, 23, 24, 25, 26, 27, 28, 29, 30, 31, 32, 33, 34, 35, 36, 37, 38, 39, 40, 41, 42, 43, 44, 45, 46, 47, 48, 49, 50, 51, 52, 53, 54, 55] (by decide +kernel) (by decide +kernel)
set_option maxRecDepth 20000 in
theorem gX10_readStreet_X10_digit : GoodIn wsX10_readStreet (wsV RX10 129 RX10 yX10_digit wsX10_digit) := goodIn_app (goodIn_of _ (by decide +kernel)) ggX10_readStreet_X10_digit
set_option maxRecDepth 20000 in
theorem ggX10_readStreet_X10_readThing : GoodIn wsX10_readStreet wsX10_readThing := goodIn_r _ [16, 1, 2, 17, 18, 19, 20, 21, 5, 6, 7, 8, 9, 10, 11, 12, 22, 23, 24, 25, 26, 27, 28, 29, 30, 31, 32, 33, 34, 35, 36, 37, 38, 39, 40, 41, 42, 43, 44, 45, 46, 47, 48, 49, 50, 51, 52, 53, 54, 55] (by decide +kernel) (by decide +kernel)
set_option maxRecDepth 20000 in
theorem gX10_readStreet_X10_readThing : GoodIn wsX10_readStreet (wsV RX10 133 RX10 yX10_readThing wsX10_readThing) := goodIn_app (goodIn_of _ (by decide +kernel)) ggX10_readStreet_X10_readThing
theorem dX10_readStreet_0 : decode cX10_readStreet 0 = .ok (.aload_n 0, 1) := by decide +kernel
theorem dX10_readStreet_1 : decode cX10_readStreet 1 = .ok (.getfield 93, 3) := by decide +kernel
theorem dX10_readStreet_4 : decode cX10_readStreet 4 = .ok (.iload_n 1, 1) := by decide +kernel
theorem dX10_readStreet_5 : decode cX10_readStreet 5 = .ok (.if_icmp .ge 17, 3) := by decide +kernel
theorem dX10_readStreet_8 : decode cX10_readStreet 8 = .ok (.aload_n 0, 1) := by decide +kernel
theorem dX10_readStreet_9 : decode cX10_readStreet 9 = .ok (.getfield 16, 3) := by decide +kernel
theorem dX10_readStreet_12 : decode cX10_readStreet 12 = .ok (.aload_n 0, 1) := by decide +kernel
theorem dX10_readStreet_13 : decode cX10_readStreet 13 = .ok (.getfield 93, 3) := by decide +kernel
theorem dX10_readStreet_16 : decode cX10_readStreet 16 = .ok (.iaload, 1) := by decide +kernel
theorem dX10_readStreet_17 : decode cX10_readStreet 17 = .ok (.bipush 115, 2) := by decide +kernel
theorem dX10_readStreet_19 : decode cX10_readStreet 19 = .ok (.if_icmp .eq 5, 3) := by decide +kernel
theorem dX10_readStreet_22 : decode cX10_readStreet 22 = .ok (.iconst 0, 1) := by decide +kernel
theorem dX10_readStreet_23 : decode cX10_readStreet 23 = .ok (.ireturn, 1) := by decide +kernel
theorem dX10_readStreet_24 : decode cX10_readStreet 24 = .ok (.aload_n 0, 1) := by decide +kernel
theorem dX10_readStreet_25 : decode cX10_readStreet 25 = .ok (.dup, 1) := by decide +kernel
theorem dX10_readStreet_26 : decode cX10_readStreet 26 = .ok (.getfield 93, 3) := by decide +kernel
theorem dX10_readStreet_29 : decode cX10_readStreet 29 = .ok (.iconst 1, 1) := by decide +kernel
theorem dX10_readStreet_30 : decode cX10_readStreet 30 = .ok (.iadd, 1) := by decide +kernel
theorem dX10_readStreet_31 : decode cX10_readStreet 31 = .ok (.putfield 93, 3) := by decide +kernel
theorem dX10_readStreet_34 : decode cX10_readStreet 34 = .ok (.aload_n 0, 1) := by decide +kernel
theorem dX10_readStreet_35 : decode cX10_readStreet 35 = .ok (.aload_n 0, 1) := by decide +kernel
theorem dX10_readStreet_36 : decode cX10_readStreet 36 = .ok (.iload_n 1, 1) := by decide +kernel
theorem dX10_readStreet_37 : decode cX10_readStreet 37 = .ok (.iconst 0, 1) := by decide +kernel
theorem dX10_readStreet_38 : decode cX10_readStreet 38 = .ok (.invokevirtual 129, 3) := by decide +kernel
theorem dX10_readStreet_41 : decode cX10_readStreet 41 = .ok (.putfield 114, 3) := by decide +kernel
theorem dX10_readStreet_44 : decode cX10_readStreet 44 = .ok (.aload_n 0, 1) := by decide +kernel
theorem dX10_readStreet_45 : decode cX10_readStreet 45 = .ok (.getfield 114, 3) := by decide +kernel
theorem dX10_readStreet_48 : decode cX10_readStreet 48 = .ok (.bipush (-9), 2) := by decide +kernel
theorem dX10_readStreet_50 : decode cX10_readStreet 50 = .ok (.if_icmp .ne 5, 3) := by decide +kernel
theorem dX10_readStreet_53 : decode cX10_readStreet 53 = .ok (.iconst 0, 1) := by decide +kernel
theorem dX10_readStreet_54 : decode cX10_readStreet 54 = .ok (.ireturn, 1) := by decide +kernel
theorem dX10_readStreet_55 : decode cX10_readStreet 55 = .ok (.aload_n 0, 1) := by decide +kernel
theorem dX10_readStreet_56 : decode cX10_readStreet 56 = .ok (.iconst 0, 1) := by decide +kernel
theorem dX10_readStreet_57 : decode cX10_readStreet 57 = .ok (.putfield 120, 3) := by decide +kernel
theorem dX10_readStreet_60 : decode cX10_readStreet 60 = .ok (.aload_n 0, 1) := by decide +kernel
theorem dX10_readStreet_61 : decode cX10_readStreet 61 = .ok (.getfield 120, 3) := by decide +kernel
theorem dX10_readStreet_64 : decode cX10_readStreet 64 = .ok (.ifCond .eq 11, 3) := by decide +kernel
theorem dX10_readStreet_67 : decode cX10_readStreet 67 = .ok (.aload_n 0, 1) := by decide +kernel
theorem dX10_readStreet_68 : decode cX10_readStreet 68 = .ok (.getfield 93, 3) := by decide +kernel
theorem dX10_readStreet_71 : decode cX10_readStreet 71 = .ok (.iload_n 1, 1) := by decide +kernel
theorem dX10_readStreet_72 : decode cX10_readStreet 72 = .ok (.if_icmp .ge 73, 3) := by decide +kernel
theorem dX10_readStreet_75 : decode cX10_readStreet 75 = .ok (.aload_n 0, 1) := by decide +kernel
theorem dX10_readStreet_76 : decode cX10_readStreet 76 = .ok (.getfield 120, 3) := by decide +kernel
theorem dX10_readStreet_79 : decode cX10_readStreet 79 = .ok (.bipush 6, 2) := by decide +kernel
theorem dX10_readStreet_81 : decode cX10_readStreet 81 = .ok (.if_icmp .eq 25, 3) := by decide +kernel
theorem dX10_readStreet_84 : decode cX10_readStreet 84 = .ok (.aload_n 0, 1) := by decide +kernel
theorem dX10_readStreet_85 : decode cX10_readStreet 85 = .ok (.getfield 93, 3) := by decide +kernel
theorem dX10_readStreet_88 : decode cX10_readStreet 88 = .ok (.iload_n 1, 1) := by decide +kernel
theorem dX10_readStreet_89 : decode cX10_readStreet 89 = .ok (.if_icmp .ge 17, 3) := by decide +kernel
theorem dX10_readStreet_92 : decode cX10_readStreet 92 = .ok (.aload_n 0, 1) := by decide +kernel
theorem dX10_readStreet_93 : decode cX10_readStreet 93 = .ok (.getfield 16, 3) := by decide +kernel
theorem dX10_readStreet_96 : decode cX10_readStreet 96 = .ok (.aload_n 0, 1) := by decide +kernel
theorem dX10_readStreet_97 : decode cX10_readStreet 97 = .ok (.getfield 93, 3) := by decide +kernel
theorem dX10_readStreet_100 : decode cX10_readStreet 100 = .ok (.iaload, 1) := by decide +kernel
theorem dX10_readStreet_101 : decode cX10_readStreet 101 = .ok (.bipush 59, 2) := by decide +kernel
theorem dX10_readStreet_103 : decode cX10_readStreet 103 = .ok (.if_icmp .eq 5, 3) := by decide +kernel
theorem dX10_readStreet_106 : decode cX10_readStreet 106 = .ok (.iconst 0, 1) := by decide +kernel
theorem dX10_readStreet_107 : decode cX10_readStreet 107 = .ok (.ireturn, 1) := by decide +kernel
theorem dX10_readStreet_108 : decode cX10_readStreet 108 = .ok (.aload_n 0, 1) := by decide +kernel
theorem dX10_readStreet_109 : decode cX10_readStreet 109 = .ok (.dup, 1) := by decide +kernel
theorem dX10_readStreet_110 : decode cX10_readStreet 110 = .ok (.getfield 93, 3) := by decide +kernel
theorem dX10_readStreet_113 : decode cX10_readStreet 113 = .ok (.iconst 1, 1) := by decide +kernel
theorem dX10_readStreet_114 : decode cX10_readStreet 114 = .ok (.iadd, 1) := by decide +kernel
theorem dX10_readStreet_115 : decode cX10_readStreet 115 = .ok (.putfield 93, 3) := by decide +kernel
theorem dX10_readStreet_118 : decode cX10_readStreet 118 = .ok (.aload_n 0, 1) := by decide +kernel
theorem dX10_readStreet_119 : decode cX10_readStreet 119 = .ok (.iload_n 1, 1) := by decide +kernel
theorem dX10_readStreet_120 : decode cX10_readStreet 120 = .ok (.aload_n 0, 1) := by decide +kernel
theorem dX10_readStreet_121 : decode cX10_readStreet 121 = .ok (.getfield 120, 3) := by decide +kernel
theorem dX10_readStreet_124 : decode cX10_readStreet 124 = .ok (.invokevirtual 133, 3) := by decide +kernel
theorem dX10_readStreet_127 : decode cX10_readStreet 127 = .ok (.ifCond .ne 5, 3) := by decide +kernel
theorem dX10_readStreet_130 : decode cX10_readStreet 130 = .ok (.iconst 0, 1) := by decide +kernel
theorem dX10_readStreet_131 : decode cX10_readStreet 131 = .ok (.ireturn, 1) := by decide +kernel
theorem dX10_readStreet_132 : decode cX10_readStreet 132 = .ok (.aload_n 0, 1) := by decide +kernel
theorem dX10_readStreet_133 : decode cX10_readStreet 133 = .ok (.dup, 1) := by decide +kernel
theorem dX10_readStreet_134 : decode cX10_readStreet 134 = .ok (.getfield 120, 3) := by decide +kernel
theorem dX10_readStreet_137 : decode cX10_readStreet 137 = .ok (.iconst 1, 1) := by decide +kernel
theorem dX10_readStreet_138 : decode cX10_readStreet 138 = .ok (.iadd, 1) := by decide +kernel
theorem dX10_readStreet_139 : decode cX10_readStreet 139 = .ok (.putfield 120, 3) := by decide +kernel
theorem dX10_readStreet_142 : decode cX10_readStreet 142 = .ok (.goto (-82), 3) := by decide +kernel
theorem dX10_readStreet_145 : decode cX10_readStreet 145 = .ok (.iconst 1, 1) := by decide +kernel
theorem dX10_readStreet_146 : decode cX10_readStreet 146 = .ok (.ireturn, 1) := by decide +kernel
set_option maxRecDepth 20000 in
theorem ggX10_readThing_X10_digit : GoodIn wsX10_readThing wsX10_digit := goodIn_r _ [12, 1, 2, 13, 14, 11, 15, 16, 17, 18, 19, 20, 21, 22, 23, 24, 25, 26, 27, 28, 29, 30, 31, 32, 33, 34, 35, 36, 37, 38, 39, 40, 41, 42, 43, 44, 45, 46, 47, 48, 49] (by decide +kernel) (by decide +kernel)
set_option maxRecDepth 20000 in
theorem gX10_readThing_X10_digit : GoodIn wsX10_readThing (wsV RX10 129 RX10 yX10_digit wsX10_digit) := goodIn_app (goodIn_of _ (by decide +kernel)) ggX10_readThing_X10_digit
theorem dX10_readThing_0 : decode cX10_readThing 0 = .ok (.aload_n 0, 1) := by decide +kernel
theorem dX10_readThing_1 : decode cX10_readThing 1 = .ok (.getfield 93, 3) := by decide +kernel
theorem dX10_readThing_4 : decode cX10_readThing 4 = .ok (.iload_n 1, 1) := by decide +kernel
theorem dX10_readThing_5 : decode cX10_readThing 5 = .ok (.if_icmp .ge 15, 3) := by decide +kernel
theorem dX10_readThing_8 : decode cX10_readThing 8 = .ok (.aload_n 0, 1) := by decide +kernel
theorem dX10_readThing_9 : decode cX10_readThing 9 = .ok (.getfield 16, 3) := by decide +kernel
theorem dX10_readThing_12 : decode cX10_readThing 12 = .ok (.aload_n 0, 1) := by decide +kernel
theorem dX10_readThing_13 : decode cX10_readThing 13 = .ok (.getfield 93, 3) := by decide +kernel
theorem dX10_readThing_16 : decode cX10_readThing 16 = .ok (.iaload, 1) := by decide +kernel
theorem dX10_readThing_17 : decode cX10_readThing 17 = .ok (.goto 4, 3) := by decide +kernel
theorem dX10_readThing_20 : decode cX10_readThing 20 = .ok (.iconst 0, 1) := by decide +kernel
theorem dX10_readThing_21 : decode cX10_readThing 21 = .ok (.istore_n 3, 1) := by decide +kernel
theorem dX10_readThing_22 : decode cX10_readThing 22 = .ok (.aload_n 0, 1) := by decide +kernel
theorem dX10_readThing_23 : decode cX10_readThing 23 = .ok (.getfield 34, 3) := by decide +kernel
theorem dX10_readThing_26 : decode cX10_readThing 26 = .ok (.iload_n 2, 1) := by decide +kernel
theorem dX10_readThing_27 : decode cX10_readThing 27 = .ok (.iload_n 3, 1) := by decide +kernel
theorem dX10_readThing_28 : decode cX10_readThing 28 = .ok (.bipush 116, 2) := by decide +kernel
theorem dX10_readThing_30 : decode cX10_readThing 30 = .ok (.if_icmp .ne 7, 3) := by decide +kernel
theorem dX10_readThing_33 : decode cX10_readThing 33 = .ok (.iconst 0, 1) := by decide +kernel
theorem dX10_readThing_34 : decode cX10_readThing 34 = .ok (.goto 25, 3) := by decide +kernel
theorem dX10_readThing_37 : decode cX10_readThing 37 = .ok (.iload_n 3, 1) := by decide +kernel
theorem dX10_readThing_38 : decode cX10_readThing 38 = .ok (.bipush 100, 2) := by decide +kernel
theorem dX10_readThing_40 : decode cX10_readThing 40 = .ok (.if_icmp .ne 7, 3) := by decide +kernel
theorem dX10_readThing_43 : decode cX10_readThing 43 = .ok (.iconst 1, 1) := by decide +kernel
theorem dX10_readThing_44 : decode cX10_readThing 44 = .ok (.goto 15, 3) := by decide +kernel
theorem dX10_readThing_47 : decode cX10_readThing 47 = .ok (.iload_n 3, 1) := by decide +kernel
theorem dX10_readThing_48 : decode cX10_readThing 48 = .ok (.bipush 99, 2) := by decide +kernel
theorem dX10_readThing_50 : decode cX10_readThing 50 = .ok (.if_icmp .ne 7, 3) := by decide +kernel
theorem dX10_readThing_53 : decode cX10_readThing 53 = .ok (.iconst 2, 1) := by decide +kernel
theorem dX10_readThing_54 : decode cX10_readThing 54 = .ok (.goto 5, 3) := by decide +kernel
theorem dX10_readThing_57 : decode cX10_readThing 57 = .ok (.bipush (-9), 2) := by decide +kernel
theorem dX10_readThing_59 : decode cX10_readThing 59 = .ok (.iastore, 1) := by decide +kernel
theorem dX10_readThing_60 : decode cX10_readThing 60 = .ok (.aload_n 0, 1) := by decide +kernel
theorem dX10_readThing_61 : decode cX10_readThing 61 = .ok (.getfield 34, 3) := by decide +kernel
theorem dX10_readThing_64 : decode cX10_readThing 64 = .ok (.iload_n 2, 1) := by decide +kernel
theorem dX10_readThing_65 : decode cX10_readThing 65 = .ok (.iaload, 1) := by decide +kernel
theorem dX10_readThing_66 : decode cX10_readThing 66 = .ok (.bipush (-9), 2) := by decide +kernel
theorem dX10_readThing_68 : decode cX10_readThing 68 = .ok (.if_icmp .ne 5, 3) := by decide +kernel
theorem dX10_readThing_71 : decode cX10_readThing 71 = .ok (.iconst 0, 1) := by decide +kernel
theorem dX10_readThing_72 : decode cX10_readThing 72 = .ok (.ireturn, 1) := by decide +kernel
theorem dX10_readThing_73 : decode cX10_readThing 73 = .ok (.aload_n 0, 1) := by decide +kernel
theorem dX10_readThing_74 : decode cX10_readThing 74 = .ok (.dup, 1) := by decide +kernel
theorem dX10_readThing_75 : decode cX10_readThing 75 = .ok (.getfield 93, 3) := by decide +kernel
theorem dX10_readThing_78 : decode cX10_readThing 78 = .ok (.iconst 1, 1) := by decide +kernel
theorem dX10_readThing_79 : decode cX10_readThing 79 = .ok (.iadd, 1) := by decide +kernel
theorem dX10_readThing_80 : decode cX10_readThing 80 = .ok (.putfield 93, 3) := by decide +kernel
theorem dX10_readThing_83 : decode cX10_readThing 83 = .ok (.aload_n 0, 1) := by decide +kernel
theorem dX10_readThing_84 : decode cX10_readThing 84 = .ok (.getfield 37, 3) := by decide +kernel
theorem dX10_readThing_87 : decode cX10_readThing 87 = .ok (.iload_n 2, 1) := by decide +kernel
theorem dX10_readThing_88 : decode cX10_readThing 88 = .ok (.aload_n 0, 1) := by decide +kernel
theorem dX10_readThing_89 : decode cX10_readThing 89 = .ok (.iload_n 1, 1) := by decide +kernel
theorem dX10_readThing_90 : decode cX10_readThing 90 = .ok (.iconst 0, 1) := by decide +kernel
theorem dX10_readThing_91 : decode cX10_readThing 91 = .ok (.invokevirtual 129, 3) := by decide +kernel
theorem dX10_readThing_94 : decode cX10_readThing 94 = .ok (.iastore, 1) := by decide +kernel
theorem dX10_readThing_95 : decode cX10_readThing 95 = .ok (.aload_n 0, 1) := by decide +kernel
theorem dX10_readThing_96 : decode cX10_readThing 96 = .ok (.getfield 37, 3) := by decide +kernel
theorem dX10_readThing_99 : decode cX10_readThing 99 = .ok (.iload_n 2, 1) := by decide +kernel
theorem dX10_readThing_100 : decode cX10_readThing 100 = .ok (.iaload, 1) := by decide +kernel
theorem dX10_readThing_101 : decode cX10_readThing 101 = .ok (.bipush (-9), 2) := by decide +kernel
theorem dX10_readThing_103 : decode cX10_readThing 103 = .ok (.if_icmp .ne 5, 3) := by decide +kernel
theorem dX10_readThing_106 : decode cX10_readThing 106 = .ok (.iconst 0, 1) := by decide +kernel
theorem dX10_readThing_107 : decode cX10_readThing 107 = .ok (.ireturn, 1) := by decide +kernel
theorem dX10_readThing_108 : decode cX10_readThing 108 = .ok (.aload_n 0, 1) := by decide +kernel
theorem dX10_readThing_109 : decode cX10_readThing 109 = .ok (.getfield 40, 3) := by decide +kernel
theorem dX10_readThing_112 : decode cX10_readThing 112 = .ok (.iload_n 2, 1) := by decide +kernel
theorem dX10_readThing_113 : decode cX10_readThing 113 = .ok (.aload_n 0, 1) := by decide +kernel
theorem dX10_readThing_114 : decode cX10_readThing 114 = .ok (.iload_n 1, 1) := by decide +kernel
theorem dX10_readThing_115 : decode cX10_readThing 115 = .ok (.iconst 1, 1) := by decide +kernel
theorem dX10_readThing_116 : decode cX10_readThing 116 = .ok (.invokevirtual 129, 3) := by decide +kernel
theorem dX10_readThing_119 : decode cX10_readThing 119 = .ok (.iastore, 1) := by decide +kernel
theorem dX10_readThing_120 : decode cX10_readThing 120 = .ok (.aload_n 0, 1) := by decide +kernel
theorem dX10_readThing_121 : decode cX10_readThing 121 = .ok (.getfield 40, 3) := by decide +kernel
theorem dX10_readThing_124 : decode cX10_readThing 124 = .ok (.iload_n 2, 1) := by decide +kernel
theorem dX10_readThing_125 : decode cX10_readThing 125 = .ok (.iaload, 1) := by decide +kernel
theorem dX10_readThing_126 : decode cX10_readThing 126 = .ok (.bipush (-9), 2) := by decide +kernel
theorem dX10_readThing_128 : decode cX10_readThing 128 = .ok (.if_icmp .ne 5, 3) := by decide +kernel
theorem dX10_readThing_131 : decode cX10_readThing 131 = .ok (.iconst 0, 1) := by decide +kernel
theorem dX10_readThing_132 : decode cX10_readThing 132 = .ok (.ireturn, 1) := by decide +kernel
theorem dX10_readThing_133 : decode cX10_readThing 133 = .ok (.aload_n 0, 1) := by decide +kernel
theorem dX10_readThing_134 : decode cX10_readThing 134 = .ok (.iload_n 1, 1) := by decide +kernel
theorem dX10_readThing_135 : decode cX10_readThing 135 = .ok (.iconst 0, 1) := by decide +kernel
theorem dX10_readThing_136 : decode cX10_readThing 136 = .ok (.invokevirtual 129, 3) := by decide +kernel
theorem dX10_readThing_139 : decode cX10_readThing 139 = .ok (.istore 4, 2) := by decide +kernel
theorem dX10_readThing_141 : decode cX10_readThing 141 = .ok (.iload 4, 2) := by decide +kernel
theorem dX10_readThing_143 : decode cX10_readThing 143 = .ok (.bipush (-9), 2) := by decide +kernel
theorem dX10_readThing_145 : decode cX10_readThing 145 = .ok (.if_icmp .ne 5, 3) := by decide +kernel
theorem dX10_readThing_148 : decode cX10_readThing 148 = .ok (.iconst 0, 1) := by decide +kernel
theorem dX10_readThing_149 : decode cX10_readThing 149 = .ok (.ireturn, 1) := by decide +kernel
theorem dX10_readThing_150 : decode cX10_readThing 150 = .ok (.aload_n 0, 1) := by decide +kernel
theorem dX10_readThing_151 : decode cX10_readThing 151 = .ok (.iload_n 1, 1) := by decide +kernel
theorem dX10_readThing_152 : decode cX10_readThing 152 = .ok (.iconst 0, 1) := by decide +kernel
theorem dX10_readThing_153 : decode cX10_readThing 153 = .ok (.invokevirtual 129, 3) := by decide +kernel
theorem dX10_readThing_156 : decode cX10_readThing 156 = .ok (.istore 5, 2) := by decide +kernel
theorem dX10_readThing_158 : decode cX10_readThing 158 = .ok (.iload 5, 2) := by decide +kernel
theorem dX10_readThing_160 : decode cX10_readThing 160 = .ok (.bipush (-9), 2) := by decide +kernel
theorem dX10_readThing_162 : decode cX10_readThing 162 = .ok (.if_icmp .ne 5, 3) := by decide +kernel
theorem dX10_readThing_165 : decode cX10_readThing 165 = .ok (.iconst 0, 1) := by decide +kernel
theorem dX10_readThing_166 : decode cX10_readThing 166 = .ok (.ireturn, 1) := by decide +kernel
theorem dX10_readThing_167 : decode cX10_readThing 167 = .ok (.aload_n 0, 1) := by decide +kernel
theorem dX10_readThing_168 : decode cX10_readThing 168 = .ok (.getfield 43, 3) := by decide +kernel
theorem dX10_readThing_171 : decode cX10_readThing 171 = .ok (.iload_n 2, 1) := by decide +kernel
theorem dX10_readThing_172 : decode cX10_readThing 172 = .ok (.bipush 10, 2) := by decide +kernel
theorem dX10_readThing_174 : decode cX10_readThing 174 = .ok (.iload 4, 2) := by decide +kernel
theorem dX10_readThing_176 : decode cX10_readThing 176 = .ok (.imul, 1) := by decide +kernel
theorem dX10_readThing_177 : decode cX10_readThing 177 = .ok (.iload 5, 2) := by decide +kernel
theorem dX10_readThing_179 : decode cX10_readThing 179 = .ok (.iadd, 1) := by decide +kernel
theorem dX10_readThing_180 : decode cX10_readThing 180 = .ok (.iastore, 1) := by decide +kernel
theorem dX10_readThing_181 : decode cX10_readThing 181 = .ok (.aload_n 0, 1) := by decide +kernel
theorem dX10_readThing_182 : decode cX10_readThing 182 = .ok (.getfield 43, 3) := by decide +kernel
theorem dX10_readThing_185 : decode cX10_readThing 185 = .ok (.iload_n 2, 1) := by decide +kernel
theorem dX10_readThing_186 : decode cX10_readThing 186 = .ok (.iaload, 1) := by decide +kernel
theorem dX10_readThing_187 : decode cX10_readThing 187 = .ok (.ifCond .ne 15, 3) := by decide +kernel
theorem dX10_readThing_190 : decode cX10_readThing 190 = .ok (.aload_n 0, 1) := by decide +kernel
theorem dX10_readThing_191 : decode cX10_readThing 191 = .ok (.dup, 1) := by decide +kernel
theorem dX10_readThing_192 : decode cX10_readThing 192 = .ok (.getfield 93, 3) := by decide +kernel
theorem dX10_readThing_195 : decode cX10_readThing 195 = .ok (.iconst 2, 1) := by decide +kernel
theorem dX10_readThing_196 : decode cX10_readThing 196 = .ok (.isub, 1) := by decide +kernel
theorem dX10_readThing_197 : decode cX10_readThing 197 = .ok (.putfield 93, 3) := by decide +kernel
theorem dX10_readThing_200 : decode cX10_readThing 200 = .ok (.iconst 0, 1) := by decide +kernel
theorem dX10_readThing_201 : decode cX10_readThing 201 = .ok (.ireturn, 1) := by decide +kernel
theorem dX10_readThing_202 : decode cX10_readThing 202 = .ok (.aload_n 0, 1) := by decide +kernel
theorem dX10_readThing_203 : decode cX10_readThing 203 = .ok (.getfield 46, 3) := by decide +kernel
theorem dX10_readThing_206 : decode cX10_readThing 206 = .ok (.iload_n 2, 1) := by decide +kernel
theorem dX10_readThing_207 : decode cX10_readThing 207 = .ok (.aload_n 0, 1) := by decide +kernel
theorem dX10_readThing_208 : decode cX10_readThing 208 = .ok (.iload_n 1, 1) := by decide +kernel
theorem dX10_readThing_209 : decode cX10_readThing 209 = .ok (.iconst 1, 1) := by decide +kernel
theorem dX10_readThing_210 : decode cX10_readThing 210 = .ok (.invokevirtual 129, 3) := by decide +kernel
theorem dX10_readThing_213 : decode cX10_readThing 213 = .ok (.iastore, 1) := by decide +kernel
theorem dX10_readThing_214 : decode cX10_readThing 214 = .ok (.aload_n 0, 1) := by decide +kernel
theorem dX10_readThing_215 : decode cX10_readThing 215 = .ok (.getfield 46, 3) := by decide +kernel
theorem dX10_readThing_218 : decode cX10_readThing 218 = .ok (.iload_n 2, 1) := by decide +kernel
theorem dX10_readThing_219 : decode cX10_readThing 219 = .ok (.iaload, 1) := by decide +kernel
theorem dX10_readThing_220 : decode cX10_readThing 220 = .ok (.bipush (-9), 2) := by decide +kernel
theorem dX10_readThing_222 : decode cX10_readThing 222 = .ok (.if_icmp .eq 7, 3) := by decide +kernel
theorem dX10_readThing_225 : decode cX10_readThing 225 = .ok (.iconst 1, 1) := by decide +kernel
theorem dX10_readThing_226 : decode cX10_readThing 226 = .ok (.goto 4, 3) := by decide +kernel
theorem dX10_readThing_229 : decode cX10_readThing 229 = .ok (.iconst 0, 1) := by decide +kernel
theorem dX10_readThing_230 : decode cX10_readThing 230 = .ok (.ireturn, 1) := by decide +kernel
theorem dX10_holds_0 : decode cX10_holds 0 = .ok (.aload_n 0, 1) := by decide +kernel
theorem dX10_holds_1 : decode cX10_holds 1 = .ok (.getfield 28, 3) := by decide +kernel
theorem dX10_holds_4 : decode cX10_holds 4 = .ok (.iload_n 1, 1) := by decide +kernel
theorem dX10_holds_5 : decode cX10_holds 5 = .ok (.iaload, 1) := by decide +kernel
theorem dX10_holds_6 : decode cX10_holds 6 = .ok (.aload_n 0, 1) := by decide +kernel
theorem dX10_holds_7 : decode cX10_holds 7 = .ok (.getfield 123, 3) := by decide +kernel
theorem dX10_holds_10 : decode cX10_holds 10 = .ok (.if_icmp .le 17, 3) := by decide +kernel
theorem dX10_holds_13 : decode cX10_holds 13 = .ok (.aload_n 0, 1) := by decide +kernel
theorem dX10_holds_14 : decode cX10_holds 14 = .ok (.getfield 28, 3) := by decide +kernel
theorem dX10_holds_17 : decode cX10_holds 17 = .ok (.iload_n 1, 1) := by decide +kernel
theorem dX10_holds_18 : decode cX10_holds 18 = .ok (.iaload, 1) := by decide +kernel
theorem dX10_holds_19 : decode cX10_holds 19 = .ok (.aload_n 0, 1) := by decide +kernel
theorem dX10_holds_20 : decode cX10_holds 20 = .ok (.getfield 123, 3) := by decide +kernel
theorem dX10_holds_23 : decode cX10_holds 23 = .ok (.isub, 1) := by decide +kernel
theorem dX10_holds_24 : decode cX10_holds 24 = .ok (.goto 4, 3) := by decide +kernel
theorem dX10_holds_27 : decode cX10_holds 27 = .ok (.iconst 1, 1) := by decide +kernel
theorem dX10_holds_28 : decode cX10_holds 28 = .ok (.istore_n 2, 1) := by decide +kernel
theorem dX10_holds_29 : decode cX10_holds 29 = .ok (.aload_n 0, 1) := by decide +kernel
theorem dX10_holds_30 : decode cX10_holds 30 = .ok (.getfield 19, 3) := by decide +kernel
theorem dX10_holds_33 : decode cX10_holds 33 = .ok (.iload_n 1, 1) := by decide +kernel
theorem dX10_holds_34 : decode cX10_holds 34 = .ok (.iaload, 1) := by decide +kernel
theorem dX10_holds_35 : decode cX10_holds 35 = .ok (.ifCond .le 9, 3) := by decide +kernel
theorem dX10_holds_38 : decode cX10_holds 38 = .ok (.iload_n 2, 1) := by decide +kernel
theorem dX10_holds_39 : decode cX10_holds 39 = .ok (.iload_n 2, 1) := by decide +kernel
theorem dX10_holds_40 : decode cX10_holds 40 = .ok (.iconst 2, 1) := by decide +kernel
theorem dX10_holds_41 : decode cX10_holds 41 = .ok (.idiv, 1) := by decide +kernel
theorem dX10_holds_42 : decode cX10_holds 42 = .ok (.iadd, 1) := by decide +kernel
theorem dX10_holds_43 : decode cX10_holds 43 = .ok (.istore_n 2, 1) := by decide +kernel
theorem dX10_holds_44 : decode cX10_holds 44 = .ok (.aload_n 0, 1) := by decide +kernel
theorem dX10_holds_45 : decode cX10_holds 45 = .ok (.getfield 19, 3) := by decide +kernel
theorem dX10_holds_48 : decode cX10_holds 48 = .ok (.iload_n 1, 1) := by decide +kernel
theorem dX10_holds_49 : decode cX10_holds 49 = .ok (.iaload, 1) := by decide +kernel
theorem dX10_holds_50 : decode cX10_holds 50 = .ok (.iconst 2, 1) := by decide +kernel
theorem dX10_holds_51 : decode cX10_holds 51 = .ok (.if_icmp .ne 10, 3) := by decide +kernel
theorem dX10_holds_54 : decode cX10_holds 54 = .ok (.iload_n 2, 1) := by decide +kernel
theorem dX10_holds_55 : decode cX10_holds 55 = .ok (.bipush 10, 2) := by decide +kernel
theorem dX10_holds_57 : decode cX10_holds 57 = .ok (.iadd, 1) := by decide +kernel
theorem dX10_holds_58 : decode cX10_holds 58 = .ok (.goto 4, 3) := by decide +kernel
theorem dX10_holds_61 : decode cX10_holds 61 = .ok (.iload_n 2, 1) := by decide +kernel
theorem dX10_holds_62 : decode cX10_holds 62 = .ok (.ireturn, 1) := by decide +kernel
set_option maxRecDepth 20000 in
theorem ggX10_ofThing_X10_isThing : GoodIn wsX10_ofThing wsX10_isThing := goodIn_r _ [10, 11, 17, 18, 19, 20, 21, 22, 23, 24, 25, 26, 27, 28, 29, 30, 31, 32, 33, 34, 35, 36, 37, 38, 39, 40, 41, 42, 43, 44, 45, 46, 47, 48, 49, 50] (by decide +kernel) (by decide +kernel)
set_option maxRecDepth 20000 in
theorem gX10_ofThing_X10_isThing : GoodIn wsX10_ofThing (wsV RX10 136 RX10 yX10_isThing wsX10_isThing) := goodIn_app (goodIn_of _ (by decide +kernel)) ggX10_ofThing_X10_isThing
set_option maxRecDepth 20000 in
theorem ggX10_ofThing_X10_holds : GoodIn wsX10_ofThing wsX10_holds := goodIn_r _ [15, 4, 16, 1, 17, 18, 19, 20, 21, 22, 23, 24, 25, 26, 27, 28, 29, 30, 31, 32, 33, 34, 35, 36, 37, 38, 39, 40, 41, 42, 43, 44, 45, 46, 47, 48, 49, 50] (by decide +kernel) (by decide +kernel)
set_option maxRecDepth 20000 in
theorem gX10_ofThing_X10_holds : GoodIn wsX10_ofThing (wsV RX10 139 RX10 yX10_holds wsX10_holds) := goodIn_app (goodIn_of _ (by decide +kernel)) ggX10_ofThing_X10_holds
theorem dX10_ofThing_0 : decode cX10_ofThing 0 = .ok (.aload_n 0, 1) := by decide +kernel
theorem dX10_ofThing_1 : decode cX10_ofThing 1 = .ok (.iload_n 1, 1) := by decide +kernel
theorem dX10_ofThing_2 : decode cX10_ofThing 2 = .ok (.invokevirtual 136, 3) := by decide +kernel
theorem dX10_ofThing_5 : decode cX10_ofThing 5 = .ok (.ifCond .ne 5, 3) := by decide +kernel
theorem dX10_ofThing_8 : decode cX10_ofThing 8 = .ok (.iconst (-1), 1) := by decide +kernel
theorem dX10_ofThing_9 : decode cX10_ofThing 9 = .ok (.ireturn, 1) := by decide +kernel
theorem dX10_ofThing_10 : decode cX10_ofThing 10 = .ok (.iload_n 2, 1) := by decide +kernel
theorem dX10_ofThing_11 : decode cX10_ofThing 11 = .ok (.tableswitch 78 0 5 #[37, 44, 51, 58, 65, 72], 37) := by decide +kernel
theorem dX10_ofThing_48 : decode cX10_ofThing 48 = .ok (.aload_n 0, 1) := by decide +kernel
theorem dX10_ofThing_49 : decode cX10_ofThing 49 = .ok (.getfield 19, 3) := by decide +kernel
theorem dX10_ofThing_52 : decode cX10_ofThing 52 = .ok (.iload_n 1, 1) := by decide +kernel
theorem dX10_ofThing_53 : decode cX10_ofThing 53 = .ok (.iaload, 1) := by decide +kernel
theorem dX10_ofThing_54 : decode cX10_ofThing 54 = .ok (.ireturn, 1) := by decide +kernel
theorem dX10_ofThing_55 : decode cX10_ofThing 55 = .ok (.aload_n 0, 1) := by decide +kernel
theorem dX10_ofThing_56 : decode cX10_ofThing 56 = .ok (.getfield 22, 3) := by decide +kernel
theorem dX10_ofThing_59 : decode cX10_ofThing 59 = .ok (.iload_n 1, 1) := by decide +kernel
theorem dX10_ofThing_60 : decode cX10_ofThing 60 = .ok (.iaload, 1) := by decide +kernel
theorem dX10_ofThing_61 : decode cX10_ofThing 61 = .ok (.ireturn, 1) := by decide +kernel
theorem dX10_ofThing_62 : decode cX10_ofThing 62 = .ok (.aload_n 0, 1) := by decide +kernel
theorem dX10_ofThing_63 : decode cX10_ofThing 63 = .ok (.getfield 25, 3) := by decide +kernel
theorem dX10_ofThing_66 : decode cX10_ofThing 66 = .ok (.iload_n 1, 1) := by decide +kernel
theorem dX10_ofThing_67 : decode cX10_ofThing 67 = .ok (.iaload, 1) := by decide +kernel
theorem dX10_ofThing_68 : decode cX10_ofThing 68 = .ok (.ireturn, 1) := by decide +kernel
theorem dX10_ofThing_69 : decode cX10_ofThing 69 = .ok (.aload_n 0, 1) := by decide +kernel
theorem dX10_ofThing_70 : decode cX10_ofThing 70 = .ok (.getfield 28, 3) := by decide +kernel
theorem dX10_ofThing_73 : decode cX10_ofThing 73 = .ok (.iload_n 1, 1) := by decide +kernel
theorem dX10_ofThing_74 : decode cX10_ofThing 74 = .ok (.iaload, 1) := by decide +kernel
theorem dX10_ofThing_75 : decode cX10_ofThing 75 = .ok (.ireturn, 1) := by decide +kernel
theorem dX10_ofThing_76 : decode cX10_ofThing 76 = .ok (.aload_n 0, 1) := by decide +kernel
theorem dX10_ofThing_77 : decode cX10_ofThing 77 = .ok (.getfield 31, 3) := by decide +kernel
theorem dX10_ofThing_80 : decode cX10_ofThing 80 = .ok (.iload_n 1, 1) := by decide +kernel
theorem dX10_ofThing_81 : decode cX10_ofThing 81 = .ok (.iaload, 1) := by decide +kernel
theorem dX10_ofThing_82 : decode cX10_ofThing 82 = .ok (.ireturn, 1) := by decide +kernel
theorem dX10_ofThing_83 : decode cX10_ofThing 83 = .ok (.aload_n 0, 1) := by decide +kernel
theorem dX10_ofThing_84 : decode cX10_ofThing 84 = .ok (.iload_n 1, 1) := by decide +kernel
theorem dX10_ofThing_85 : decode cX10_ofThing 85 = .ok (.invokevirtual 139, 3) := by decide +kernel
theorem dX10_ofThing_88 : decode cX10_ofThing 88 = .ok (.ireturn, 1) := by decide +kernel
theorem dX10_ofThing_89 : decode cX10_ofThing 89 = .ok (.bipush (-2), 2) := by decide +kernel
theorem dX10_ofThing_91 : decode cX10_ofThing 91 = .ok (.ireturn, 1) := by decide +kernel
set_option maxRecDepth 20000 in
theorem ggX10_smithy_X10_within : GoodIn wsX10_smithy wsX10_within := goodIn_r _ [6] (by decide +kernel) (by decide +kernel)
set_option maxRecDepth 20000 in
theorem gX10_smithy_X10_within : GoodIn wsX10_smithy (va_wsS RX10 86 yX10_within wsX10_within) := goodIn_app (goodIn_of _ (by decide +kernel)) ggX10_smithy_X10_within
theorem dX10_smithy_0 : decode cX10_smithy 0 = .ok (.iload_n 1, 1) := by decide +kernel
theorem dX10_smithy_1 : decode cX10_smithy 1 = .ok (.iconst 0, 1) := by decide +kernel
theorem dX10_smithy_2 : decode cX10_smithy 2 = .ok (.bipush 9, 2) := by decide +kernel
theorem dX10_smithy_4 : decode cX10_smithy 4 = .ok (.invokestatic 86, 3) := by decide +kernel
theorem dX10_smithy_7 : decode cX10_smithy 7 = .ok (.ifCond .ne 6, 3) := by decide +kernel
theorem dX10_smithy_10 : decode cX10_smithy 10 = .ok (.bipush (-2), 2) := by decide +kernel
theorem dX10_smithy_12 : decode cX10_smithy 12 = .ok (.ireturn, 1) := by decide +kernel
theorem dX10_smithy_13 : decode cX10_smithy 13 = .ok (.aload_n 0, 1) := by decide +kernel
theorem dX10_smithy_14 : decode cX10_smithy 14 = .ok (.getfield 90, 3) := by decide +kernel
theorem dX10_smithy_17 : decode cX10_smithy 17 = .ok (.ifCond .ne 6, 3) := by decide +kernel
theorem dX10_smithy_20 : decode cX10_smithy 20 = .ok (.bipush (-3), 2) := by decide +kernel
theorem dX10_smithy_22 : decode cX10_smithy 22 = .ok (.ireturn, 1) := by decide +kernel
theorem dX10_smithy_23 : decode cX10_smithy 23 = .ok (.aload_n 0, 1) := by decide +kernel
theorem dX10_smithy_24 : decode cX10_smithy 24 = .ok (.getfield 117, 3) := by decide +kernel
theorem dX10_smithy_27 : decode cX10_smithy 27 = .ok (.istore_n 2, 1) := by decide +kernel
theorem dX10_smithy_28 : decode cX10_smithy 28 = .ok (.aload_n 0, 1) := by decide +kernel
theorem dX10_smithy_29 : decode cX10_smithy 29 = .ok (.iload_n 1, 1) := by decide +kernel
theorem dX10_smithy_30 : decode cX10_smithy 30 = .ok (.putfield 117, 3) := by decide +kernel
theorem dX10_smithy_33 : decode cX10_smithy 33 = .ok (.iload_n 2, 1) := by decide +kernel
theorem dX10_smithy_34 : decode cX10_smithy 34 = .ok (.ireturn, 1) := by decide +kernel
set_option maxRecDepth 20000 in
theorem ggX10_rust_X10_within : GoodIn wsX10_rust wsX10_within := goodIn_r _ [6] (by decide +kernel) (by decide +kernel)
set_option maxRecDepth 20000 in
theorem gX10_rust_X10_within : GoodIn wsX10_rust (va_wsS RX10 86 yX10_within wsX10_within) := goodIn_app (goodIn_of _ (by decide +kernel)) ggX10_rust_X10_within
theorem dX10_rust_0 : decode cX10_rust 0 = .ok (.iload_n 1, 1) := by decide +kernel
theorem dX10_rust_1 : decode cX10_rust 1 = .ok (.iconst 0, 1) := by decide +kernel
theorem dX10_rust_2 : decode cX10_rust 2 = .ok (.bipush 50, 2) := by decide +kernel
theorem dX10_rust_4 : decode cX10_rust 4 = .ok (.invokestatic 86, 3) := by decide +kernel
theorem dX10_rust_7 : decode cX10_rust 7 = .ok (.ifCond .ne 6, 3) := by decide +kernel
theorem dX10_rust_10 : decode cX10_rust 10 = .ok (.bipush (-2), 2) := by decide +kernel
theorem dX10_rust_12 : decode cX10_rust 12 = .ok (.ireturn, 1) := by decide +kernel
theorem dX10_rust_13 : decode cX10_rust 13 = .ok (.aload_n 0, 1) := by decide +kernel
theorem dX10_rust_14 : decode cX10_rust 14 = .ok (.getfield 90, 3) := by decide +kernel
theorem dX10_rust_17 : decode cX10_rust 17 = .ok (.ifCond .ne 6, 3) := by decide +kernel
theorem dX10_rust_20 : decode cX10_rust 20 = .ok (.bipush (-3), 2) := by decide +kernel
theorem dX10_rust_22 : decode cX10_rust 22 = .ok (.ireturn, 1) := by decide +kernel
theorem dX10_rust_23 : decode cX10_rust 23 = .ok (.aload_n 0, 1) := by decide +kernel
theorem dX10_rust_24 : decode cX10_rust 24 = .ok (.getfield 123, 3) := by decide +kernel
theorem dX10_rust_27 : decode cX10_rust 27 = .ok (.istore_n 2, 1) := by decide +kernel
theorem dX10_rust_28 : decode cX10_rust 28 = .ok (.aload_n 0, 1) := by decide +kernel
theorem dX10_rust_29 : decode cX10_rust 29 = .ok (.iload_n 1, 1) := by decide +kernel
theorem dX10_rust_30 : decode cX10_rust 30 = .ok (.putfield 123, 3) := by decide +kernel
theorem dX10_rust_33 : decode cX10_rust 33 = .ok (.iload_n 2, 1) := by decide +kernel
theorem dX10_rust_34 : decode cX10_rust 34 = .ok (.ireturn, 1) := by decide +kernel
theorem dX10_between_0 : decode cX10_between 0 = .ok (.iload_n 0, 1) := by decide +kernel
theorem dX10_between_1 : decode cX10_between 1 = .ok (.iload_n 1, 1) := by decide +kernel
theorem dX10_between_2 : decode cX10_between 2 = .ok (.if_icmp .ge 9, 3) := by decide +kernel
theorem dX10_between_5 : decode cX10_between 5 = .ok (.iload_n 1, 1) := by decide +kernel
theorem dX10_between_6 : decode cX10_between 6 = .ok (.iload_n 0, 1) := by decide +kernel
theorem dX10_between_7 : decode cX10_between 7 = .ok (.isub, 1) := by decide +kernel
theorem dX10_between_8 : decode cX10_between 8 = .ok (.goto 6, 3) := by decide +kernel
theorem dX10_between_11 : decode cX10_between 11 = .ok (.iload_n 0, 1) := by decide +kernel
theorem dX10_between_12 : decode cX10_between 12 = .ok (.iload_n 1, 1) := by decide +kernel
theorem dX10_between_13 : decode cX10_between 13 = .ok (.isub, 1) := by decide +kernel
theorem dX10_between_14 : decode cX10_between 14 = .ok (.ireturn, 1) := by decide +kernel
set_option maxRecDepth 20000 in
theorem ggX10_layComings_X10_between : GoodIn wsX10_layComings wsX10_between := goodIn_r _ [12] (by decide +kernel) (by decide +kernel)
set_option maxRecDepth 20000 in
theorem gX10_layComings_X10_between : GoodIn wsX10_layComings (va_wsS RX10 148 yX10_between wsX10_between) := goodIn_app (goodIn_of _ (by decide +kernel)) ggX10_layComings_X10_between
theorem dX10_layComings_0 : decode cX10_layComings 0 = .ok (.aload_n 0, 1) := by decide +kernel
theorem dX10_layComings_1 : decode cX10_layComings 1 = .ok (.iconst 0, 1) := by decide +kernel
theorem dX10_layComings_2 : decode cX10_layComings 2 = .ok (.putfield 142, 3) := by decide +kernel
theorem dX10_layComings_5 : decode cX10_layComings 5 = .ok (.aload_n 0, 1) := by decide +kernel
theorem dX10_layComings_6 : decode cX10_layComings 6 = .ok (.getfield 145, 3) := by decide +kernel
theorem dX10_layComings_9 : decode cX10_layComings 9 = .ok (.ifCond .ne 4, 3) := by decide +kernel
theorem dX10_layComings_12 : decode cX10_layComings 12 = .ok (.return_, 1) := by decide +kernel
theorem dX10_layComings_13 : decode cX10_layComings 13 = .ok (.aload_n 0, 1) := by decide +kernel
theorem dX10_layComings_14 : decode cX10_layComings 14 = .ok (.getfield 117, 3) := by decide +kernel
theorem dX10_layComings_17 : decode cX10_layComings 17 = .ok (.aload_n 0, 1) := by decide +kernel
theorem dX10_layComings_18 : decode cX10_layComings 18 = .ok (.getfield 22, 3) := by decide +kernel
theorem dX10_layComings_21 : decode cX10_layComings 21 = .ok (.aload_n 0, 1) := by decide +kernel
theorem dX10_layComings_22 : decode cX10_layComings 22 = .ok (.getfield 49, 3) := by decide +kernel
theorem dX10_layComings_25 : decode cX10_layComings 25 = .ok (.iconst 0, 1) := by decide +kernel
theorem dX10_layComings_26 : decode cX10_layComings 26 = .ok (.iaload, 1) := by decide +kernel
theorem dX10_layComings_27 : decode cX10_layComings 27 = .ok (.iaload, 1) := by decide +kernel
theorem dX10_layComings_28 : decode cX10_layComings 28 = .ok (.invokestatic 148, 3) := by decide +kernel
theorem dX10_layComings_31 : decode cX10_layComings 31 = .ok (.istore_n 3, 1) := by decide +kernel
theorem dX10_layComings_32 : decode cX10_layComings 32 = .ok (.iconst 0, 1) := by decide +kernel
theorem dX10_layComings_33 : decode cX10_layComings 33 = .ok (.istore 4, 2) := by decide +kernel
theorem dX10_layComings_35 : decode cX10_layComings 35 = .ok (.iload_n 3, 1) := by decide +kernel
theorem dX10_layComings_36 : decode cX10_layComings 36 = .ok (.iload_n 1, 1) := by decide +kernel
theorem dX10_layComings_37 : decode cX10_layComings 37 = .ok (.if_icmp .ge 108, 3) := by decide +kernel
theorem dX10_layComings_40 : decode cX10_layComings 40 = .ok (.aload_n 0, 1) := by decide +kernel
theorem dX10_layComings_41 : decode cX10_layComings 41 = .ok (.getfield 142, 3) := by decide +kernel
theorem dX10_layComings_44 : decode cX10_layComings 44 = .ok (.iload_n 2, 1) := by decide +kernel
theorem dX10_layComings_45 : decode cX10_layComings 45 = .ok (.if_icmp .ge 100, 3) := by decide +kernel
theorem dX10_layComings_48 : decode cX10_layComings 48 = .ok (.aload_n 0, 1) := by decide +kernel
theorem dX10_layComings_49 : decode cX10_layComings 49 = .ok (.getfield 49, 3) := by decide +kernel
theorem dX10_layComings_52 : decode cX10_layComings 52 = .ok (.iload 4, 2) := by decide +kernel
theorem dX10_layComings_54 : decode cX10_layComings 54 = .ok (.iaload, 1) := by decide +kernel
theorem dX10_layComings_55 : decode cX10_layComings 55 = .ok (.istore 5, 2) := by decide +kernel
theorem dX10_layComings_57 : decode cX10_layComings 57 = .ok (.aload_n 0, 1) := by decide +kernel
theorem dX10_layComings_58 : decode cX10_layComings 58 = .ok (.getfield 52, 3) := by decide +kernel
theorem dX10_layComings_61 : decode cX10_layComings 61 = .ok (.aload_n 0, 1) := by decide +kernel
theorem dX10_layComings_62 : decode cX10_layComings 62 = .ok (.getfield 142, 3) := by decide +kernel
theorem dX10_layComings_65 : decode cX10_layComings 65 = .ok (.iload_n 3, 1) := by decide +kernel
theorem dX10_layComings_66 : decode cX10_layComings 66 = .ok (.iastore, 1) := by decide +kernel
theorem dX10_layComings_67 : decode cX10_layComings 67 = .ok (.aload_n 0, 1) := by decide +kernel
theorem dX10_layComings_68 : decode cX10_layComings 68 = .ok (.getfield 55, 3) := by decide +kernel
theorem dX10_layComings_71 : decode cX10_layComings 71 = .ok (.aload_n 0, 1) := by decide +kernel
theorem dX10_layComings_72 : decode cX10_layComings 72 = .ok (.getfield 142, 3) := by decide +kernel
theorem dX10_layComings_75 : decode cX10_layComings 75 = .ok (.iload 5, 2) := by decide +kernel
theorem dX10_layComings_77 : decode cX10_layComings 77 = .ok (.iastore, 1) := by decide +kernel
theorem dX10_layComings_78 : decode cX10_layComings 78 = .ok (.aload_n 0, 1) := by decide +kernel
theorem dX10_layComings_79 : decode cX10_layComings 79 = .ok (.dup, 1) := by decide +kernel
theorem dX10_layComings_80 : decode cX10_layComings 80 = .ok (.getfield 142, 3) := by decide +kernel
theorem dX10_layComings_83 : decode cX10_layComings 83 = .ok (.iconst 1, 1) := by decide +kernel
theorem dX10_layComings_84 : decode cX10_layComings 84 = .ok (.iadd, 1) := by decide +kernel
theorem dX10_layComings_85 : decode cX10_layComings 85 = .ok (.putfield 142, 3) := by decide +kernel
theorem dX10_layComings_88 : decode cX10_layComings 88 = .ok (.iload 4, 2) := by decide +kernel
theorem dX10_layComings_90 : decode cX10_layComings 90 = .ok (.iconst 1, 1) := by decide +kernel
theorem dX10_layComings_91 : decode cX10_layComings 91 = .ok (.iadd, 1) := by decide +kernel
theorem dX10_layComings_92 : decode cX10_layComings 92 = .ok (.aload_n 0, 1) := by decide +kernel
theorem dX10_layComings_93 : decode cX10_layComings 93 = .ok (.getfield 145, 3) := by decide +kernel
theorem dX10_layComings_96 : decode cX10_layComings 96 = .ok (.if_icmp .ne 7, 3) := by decide +kernel
theorem dX10_layComings_99 : decode cX10_layComings 99 = .ok (.iconst 0, 1) := by decide +kernel
theorem dX10_layComings_100 : decode cX10_layComings 100 = .ok (.goto 7, 3) := by decide +kernel
theorem dX10_layComings_103 : decode cX10_layComings 103 = .ok (.iload 4, 2) := by decide +kernel
theorem dX10_layComings_105 : decode cX10_layComings 105 = .ok (.iconst 1, 1) := by decide +kernel
theorem dX10_layComings_106 : decode cX10_layComings 106 = .ok (.iadd, 1) := by decide +kernel
theorem dX10_layComings_107 : decode cX10_layComings 107 = .ok (.istore 4, 2) := by decide +kernel
theorem dX10_layComings_109 : decode cX10_layComings 109 = .ok (.iload_n 3, 1) := by decide +kernel
theorem dX10_layComings_110 : decode cX10_layComings 110 = .ok (.aload_n 0, 1) := by decide +kernel
theorem dX10_layComings_111 : decode cX10_layComings 111 = .ok (.getfield 25, 3) := by decide +kernel
theorem dX10_layComings_114 : decode cX10_layComings 114 = .ok (.iload 5, 2) := by decide +kernel
theorem dX10_layComings_116 : decode cX10_layComings 116 = .ok (.iaload, 1) := by decide +kernel
theorem dX10_layComings_117 : decode cX10_layComings 117 = .ok (.aload_n 0, 1) := by decide +kernel
theorem dX10_layComings_118 : decode cX10_layComings 118 = .ok (.getfield 22, 3) := by decide +kernel
theorem dX10_layComings_121 : decode cX10_layComings 121 = .ok (.iload 5, 2) := by decide +kernel
theorem dX10_layComings_123 : decode cX10_layComings 123 = .ok (.iaload, 1) := by decide +kernel
theorem dX10_layComings_124 : decode cX10_layComings 124 = .ok (.aload_n 0, 1) := by decide +kernel
theorem dX10_layComings_125 : decode cX10_layComings 125 = .ok (.getfield 22, 3) := by decide +kernel
theorem dX10_layComings_128 : decode cX10_layComings 128 = .ok (.aload_n 0, 1) := by decide +kernel
theorem dX10_layComings_129 : decode cX10_layComings 129 = .ok (.getfield 49, 3) := by decide +kernel
theorem dX10_layComings_132 : decode cX10_layComings 132 = .ok (.iload 4, 2) := by decide +kernel
theorem dX10_layComings_134 : decode cX10_layComings 134 = .ok (.iaload, 1) := by decide +kernel
theorem dX10_layComings_135 : decode cX10_layComings 135 = .ok (.iaload, 1) := by decide +kernel
theorem dX10_layComings_136 : decode cX10_layComings 136 = .ok (.invokestatic 148, 3) := by decide +kernel
theorem dX10_layComings_139 : decode cX10_layComings 139 = .ok (.iadd, 1) := by decide +kernel
theorem dX10_layComings_140 : decode cX10_layComings 140 = .ok (.iadd, 1) := by decide +kernel
theorem dX10_layComings_141 : decode cX10_layComings 141 = .ok (.istore_n 3, 1) := by decide +kernel
theorem dX10_layComings_142 : decode cX10_layComings 142 = .ok (.goto (-107), 3) := by decide +kernel
theorem dX10_layComings_145 : decode cX10_layComings 145 = .ok (.return_, 1) := by decide +kernel
set_option maxRecDepth 20000 in
theorem ggX10_fallsOf_X10_holds : GoodIn wsX10_fallsOf wsX10_holds := goodIn_r _ [10, 11, 12, 13, 14, 15, 16, 17, 18, 19, 20, 21, 22, 23, 24, 25, 26, 27, 28, 29, 30, 31, 32, 33, 34, 35, 36, 37, 38, 39, 40, 41, 42, 43, 44, 45, 46, 47] (by decide +kernel) (by decide +kernel)
set_option maxRecDepth 20000 in
theorem gX10_fallsOf_X10_holds : GoodIn wsX10_fallsOf (wsV RX10 139 RX10 yX10_holds wsX10_holds) := goodIn_app (goodIn_of _ (by decide +kernel)) ggX10_fallsOf_X10_holds
theorem dX10_fallsOf_0 : decode cX10_fallsOf 0 = .ok (.iconst 0, 1) := by decide +kernel
theorem dX10_fallsOf_1 : decode cX10_fallsOf 1 = .ok (.istore_n 3, 1) := by decide +kernel
theorem dX10_fallsOf_2 : decode cX10_fallsOf 2 = .ok (.aload_n 0, 1) := by decide +kernel
theorem dX10_fallsOf_3 : decode cX10_fallsOf 3 = .ok (.iload_n 1, 1) := by decide +kernel
theorem dX10_fallsOf_4 : decode cX10_fallsOf 4 = .ok (.invokevirtual 139, 3) := by decide +kernel
theorem dX10_fallsOf_7 : decode cX10_fallsOf 7 = .ok (.istore 4, 2) := by decide +kernel
theorem dX10_fallsOf_9 : decode cX10_fallsOf 9 = .ok (.iconst 0, 1) := by decide +kernel
theorem dX10_fallsOf_10 : decode cX10_fallsOf 10 = .ok (.istore 5, 2) := by decide +kernel
theorem dX10_fallsOf_12 : decode cX10_fallsOf 12 = .ok (.iload 5, 2) := by decide +kernel
theorem dX10_fallsOf_14 : decode cX10_fallsOf 14 = .ok (.aload_n 0, 1) := by decide +kernel
theorem dX10_fallsOf_15 : decode cX10_fallsOf 15 = .ok (.getfield 142, 3) := by decide +kernel
theorem dX10_fallsOf_18 : decode cX10_fallsOf 18 = .ok (.if_icmp .ge 71, 3) := by decide +kernel
theorem dX10_fallsOf_21 : decode cX10_fallsOf 21 = .ok (.aload_n 0, 1) := by decide +kernel
theorem dX10_fallsOf_22 : decode cX10_fallsOf 22 = .ok (.getfield 55, 3) := by decide +kernel
theorem dX10_fallsOf_25 : decode cX10_fallsOf 25 = .ok (.iload 5, 2) := by decide +kernel
theorem dX10_fallsOf_27 : decode cX10_fallsOf 27 = .ok (.iaload, 1) := by decide +kernel
theorem dX10_fallsOf_28 : decode cX10_fallsOf 28 = .ok (.iload_n 1, 1) := by decide +kernel
theorem dX10_fallsOf_29 : decode cX10_fallsOf 29 = .ok (.if_icmp .ne 54, 3) := by decide +kernel
theorem dX10_fallsOf_32 : decode cX10_fallsOf 32 = .ok (.iload 4, 2) := by decide +kernel
theorem dX10_fallsOf_34 : decode cX10_fallsOf 34 = .ok (.aload_n 0, 1) := by decide +kernel
theorem dX10_fallsOf_35 : decode cX10_fallsOf 35 = .ok (.getfield 52, 3) := by decide +kernel
theorem dX10_fallsOf_38 : decode cX10_fallsOf 38 = .ok (.iload 5, 2) := by decide +kernel
theorem dX10_fallsOf_40 : decode cX10_fallsOf 40 = .ok (.iaload, 1) := by decide +kernel
theorem dX10_fallsOf_41 : decode cX10_fallsOf 41 = .ok (.if_icmp .ge 20, 3) := by decide +kernel
theorem dX10_fallsOf_44 : decode cX10_fallsOf 44 = .ok (.iload 4, 2) := by decide +kernel
theorem dX10_fallsOf_46 : decode cX10_fallsOf 46 = .ok (.iload_n 2, 1) := by decide +kernel
theorem dX10_fallsOf_47 : decode cX10_fallsOf 47 = .ok (.if_icmp .ge 14, 3) := by decide +kernel
theorem dX10_fallsOf_50 : decode cX10_fallsOf 50 = .ok (.aload_n 0, 1) := by decide +kernel
theorem dX10_fallsOf_51 : decode cX10_fallsOf 51 = .ok (.getfield 58, 3) := by decide +kernel
theorem dX10_fallsOf_54 : decode cX10_fallsOf 54 = .ok (.iload_n 3, 1) := by decide +kernel
theorem dX10_fallsOf_55 : decode cX10_fallsOf 55 = .ok (.iload 4, 2) := by decide +kernel
theorem dX10_fallsOf_57 : decode cX10_fallsOf 57 = .ok (.iastore, 1) := by decide +kernel
theorem dX10_fallsOf_58 : decode cX10_fallsOf 58 = .ok (.iinc 3 1, 3) := by decide +kernel
theorem dX10_fallsOf_61 : decode cX10_fallsOf 61 = .ok (.aload_n 0, 1) := by decide +kernel
theorem dX10_fallsOf_62 : decode cX10_fallsOf 62 = .ok (.getfield 52, 3) := by decide +kernel
theorem dX10_fallsOf_65 : decode cX10_fallsOf 65 = .ok (.iload 5, 2) := by decide +kernel
theorem dX10_fallsOf_67 : decode cX10_fallsOf 67 = .ok (.iaload, 1) := by decide +kernel
theorem dX10_fallsOf_68 : decode cX10_fallsOf 68 = .ok (.aload_n 0, 1) := by decide +kernel
theorem dX10_fallsOf_69 : decode cX10_fallsOf 69 = .ok (.getfield 25, 3) := by decide +kernel
theorem dX10_fallsOf_72 : decode cX10_fallsOf 72 = .ok (.iload_n 1, 1) := by decide +kernel
theorem dX10_fallsOf_73 : decode cX10_fallsOf 73 = .ok (.iaload, 1) := by decide +kernel
theorem dX10_fallsOf_74 : decode cX10_fallsOf 74 = .ok (.iadd, 1) := by decide +kernel
theorem dX10_fallsOf_75 : decode cX10_fallsOf 75 = .ok (.aload_n 0, 1) := by decide +kernel
theorem dX10_fallsOf_76 : decode cX10_fallsOf 76 = .ok (.iload_n 1, 1) := by decide +kernel
theorem dX10_fallsOf_77 : decode cX10_fallsOf 77 = .ok (.invokevirtual 139, 3) := by decide +kernel
theorem dX10_fallsOf_80 : decode cX10_fallsOf 80 = .ok (.iadd, 1) := by decide +kernel
theorem dX10_fallsOf_81 : decode cX10_fallsOf 81 = .ok (.istore 4, 2) := by decide +kernel
theorem dX10_fallsOf_83 : decode cX10_fallsOf 83 = .ok (.iinc 5 1, 3) := by decide +kernel
theorem dX10_fallsOf_86 : decode cX10_fallsOf 86 = .ok (.goto (-74), 3) := by decide +kernel
theorem dX10_fallsOf_89 : decode cX10_fallsOf 89 = .ok (.iload 4, 2) := by decide +kernel
theorem dX10_fallsOf_91 : decode cX10_fallsOf 91 = .ok (.iload_n 2, 1) := by decide +kernel
theorem dX10_fallsOf_92 : decode cX10_fallsOf 92 = .ok (.if_icmp .ge 14, 3) := by decide +kernel
theorem dX10_fallsOf_95 : decode cX10_fallsOf 95 = .ok (.aload_n 0, 1) := by decide +kernel
theorem dX10_fallsOf_96 : decode cX10_fallsOf 96 = .ok (.getfield 58, 3) := by decide +kernel
theorem dX10_fallsOf_99 : decode cX10_fallsOf 99 = .ok (.iload_n 3, 1) := by decide +kernel
theorem dX10_fallsOf_100 : decode cX10_fallsOf 100 = .ok (.iload 4, 2) := by decide +kernel
theorem dX10_fallsOf_102 : decode cX10_fallsOf 102 = .ok (.iastore, 1) := by decide +kernel
theorem dX10_fallsOf_103 : decode cX10_fallsOf 103 = .ok (.iinc 3 1, 3) := by decide +kernel
theorem dX10_fallsOf_106 : decode cX10_fallsOf 106 = .ok (.iload_n 3, 1) := by decide +kernel
theorem dX10_fallsOf_107 : decode cX10_fallsOf 107 = .ok (.ireturn, 1) := by decide +kernel
set_option maxRecDepth 20000 in
theorem ggX10_harmOf_X10_layComings : GoodIn wsX10_harmOf wsX10_layComings := goodIn_r _ [7, 8, 9, 10, 11, 12, 13, 14, 15, 16, 17, 6, 18, 31, 32, 33, 34, 35, 36, 37, 38, 39, 40, 41, 42, 43, 44, 45, 46, 47, 48, 49, 50, 51, 52, 53, 54, 55, 56, 57, 58, 59, 60, 61, 62, 63, 64] (by decide +kernel) (by decide +kernel)
set_option maxRecDepth 20000 in
theorem gX10_harmOf_X10_layComings : GoodIn wsX10_harmOf (wsV RX10 151 RX10 yX10_layComings wsX10_layComings) := goodIn_app (goodIn_of _ (by decide +kernel)) ggX10_harmOf_X10_layComings
set_option maxRecDepth 20000 in
theorem ggX10_harmOf_X10_fallsOf : GoodIn wsX10_harmOf wsX10_fallsOf := goodIn_r _ [22, 8, 14, 13, 23, 15, 24, 25, 26, 6, 27, 28, 29, 30, 31, 32, 33, 34, 35, 36, 37, 38, 39, 40, 41, 42, 43, 44, 45, 46, 47, 48, 49, 50, 51, 52, 53, 54, 55, 56, 57, 58, 59, 60, 61, 62, 63, 64] (by decide +kernel) (by decide +kernel)
set_option maxRecDepth 20000 in
theorem gX10_harmOf_X10_fallsOf : GoodIn wsX10_harmOf (wsV RX10 155 RX10 yX10_fallsOf wsX10_fallsOf) := goodIn_app (goodIn_of _ (by decide +kernel)) ggX10_harmOf_X10_fallsOf
theorem dX10_harmOf_0 : decode cX10_harmOf 0 = .ok (.aload_n 0, 1) := by decide +kernel
theorem dX10_harmOf_1 : decode cX10_harmOf 1 = .ok (.sipush 300, 3) := by decide +kernel
theorem dX10_harmOf_4 : decode cX10_harmOf 4 = .ok (.sipush 400, 3) := by decide +kernel
theorem dX10_harmOf_7 : decode cX10_harmOf 7 = .ok (.invokevirtual 151, 3) := by decide +kernel
theorem dX10_harmOf_10 : decode cX10_harmOf 10 = .ok (.iconst 0, 1) := by decide +kernel
theorem dX10_harmOf_11 : decode cX10_harmOf 11 = .ok (.istore_n 3, 1) := by decide +kernel
theorem dX10_harmOf_12 : decode cX10_harmOf 12 = .ok (.iconst 0, 1) := by decide +kernel
theorem dX10_harmOf_13 : decode cX10_harmOf 13 = .ok (.istore 4, 2) := by decide +kernel
theorem dX10_harmOf_15 : decode cX10_harmOf 15 = .ok (.iload 4, 2) := by decide +kernel
theorem dX10_harmOf_17 : decode cX10_harmOf 17 = .ok (.aload_n 0, 1) := by decide +kernel
theorem dX10_harmOf_18 : decode cX10_harmOf 18 = .ok (.getfield 90, 3) := by decide +kernel
theorem dX10_harmOf_21 : decode cX10_harmOf 21 = .ok (.if_icmp .ge 41, 3) := by decide +kernel
theorem dX10_harmOf_24 : decode cX10_harmOf 24 = .ok (.iload_n 3, 1) := by decide +kernel
theorem dX10_harmOf_25 : decode cX10_harmOf 25 = .ok (.iload_n 1, 1) := by decide +kernel
theorem dX10_harmOf_26 : decode cX10_harmOf 26 = .ok (.iload 4, 2) := by decide +kernel
theorem dX10_harmOf_28 : decode cX10_harmOf 28 = .ok (.ishr, 1) := by decide +kernel
theorem dX10_harmOf_29 : decode cX10_harmOf 29 = .ok (.iconst 1, 1) := by decide +kernel
theorem dX10_harmOf_30 : decode cX10_harmOf 30 = .ok (.iand, 1) := by decide +kernel
theorem dX10_harmOf_31 : decode cX10_harmOf 31 = .ok (.iconst 1, 1) := by decide +kernel
theorem dX10_harmOf_32 : decode cX10_harmOf 32 = .ok (.if_icmp .ne 21, 3) := by decide +kernel
theorem dX10_harmOf_35 : decode cX10_harmOf 35 = .ok (.aload_n 0, 1) := by decide +kernel
theorem dX10_harmOf_36 : decode cX10_harmOf 36 = .ok (.getfield 31, 3) := by decide +kernel
theorem dX10_harmOf_39 : decode cX10_harmOf 39 = .ok (.iload 4, 2) := by decide +kernel
theorem dX10_harmOf_41 : decode cX10_harmOf 41 = .ok (.iaload, 1) := by decide +kernel
theorem dX10_harmOf_42 : decode cX10_harmOf 42 = .ok (.aload_n 0, 1) := by decide +kernel
theorem dX10_harmOf_43 : decode cX10_harmOf 43 = .ok (.iload 4, 2) := by decide +kernel
theorem dX10_harmOf_45 : decode cX10_harmOf 45 = .ok (.iload_n 2, 1) := by decide +kernel
theorem dX10_harmOf_46 : decode cX10_harmOf 46 = .ok (.invokevirtual 155, 3) := by decide +kernel
theorem dX10_harmOf_49 : decode cX10_harmOf 49 = .ok (.imul, 1) := by decide +kernel
theorem dX10_harmOf_50 : decode cX10_harmOf 50 = .ok (.goto 4, 3) := by decide +kernel
theorem dX10_harmOf_53 : decode cX10_harmOf 53 = .ok (.iconst 0, 1) := by decide +kernel
theorem dX10_harmOf_54 : decode cX10_harmOf 54 = .ok (.iadd, 1) := by decide +kernel
theorem dX10_harmOf_55 : decode cX10_harmOf 55 = .ok (.istore_n 3, 1) := by decide +kernel
theorem dX10_harmOf_56 : decode cX10_harmOf 56 = .ok (.iinc 4 1, 3) := by decide +kernel
theorem dX10_harmOf_59 : decode cX10_harmOf 59 = .ok (.goto (-44), 3) := by decide +kernel
theorem dX10_harmOf_62 : decode cX10_harmOf 62 = .ok (.iload_n 3, 1) := by decide +kernel
theorem dX10_harmOf_63 : decode cX10_harmOf 63 = .ok (.ireturn, 1) := by decide +kernel
theorem dX10_all_0 : decode cX10_all 0 = .ok (.iconst 1, 1) := by decide +kernel
theorem dX10_all_1 : decode cX10_all 1 = .ok (.aload_n 0, 1) := by decide +kernel
theorem dX10_all_2 : decode cX10_all 2 = .ok (.getfield 90, 3) := by decide +kernel
theorem dX10_all_5 : decode cX10_all 5 = .ok (.ishl, 1) := by decide +kernel
theorem dX10_all_6 : decode cX10_all 6 = .ok (.iconst 1, 1) := by decide +kernel
theorem dX10_all_7 : decode cX10_all 7 = .ok (.isub, 1) := by decide +kernel
theorem dX10_all_8 : decode cX10_all 8 = .ok (.ireturn, 1) := by decide +kernel
set_option maxRecDepth 20000 in
theorem ggX10_isSafe_X10_layComings : GoodIn wsX10_isSafe wsX10_layComings := goodIn_r _ [12, 4, 2, 13, 14, 15, 6, 5, 7, 16, 17, 11, 18, 26, 27, 28, 29, 30, 31, 32, 33, 34, 35, 36, 37, 38, 39, 40, 41, 42, 43, 44, 45, 46, 47, 48, 49, 50, 51, 52, 53, 54, 55, 56, 57, 58, 59] (by decide +kernel) (by decide +kernel)
set_option maxRecDepth 20000 in
theorem gX10_isSafe_X10_layComings : GoodIn wsX10_isSafe (wsV RX10 151 RX10 yX10_layComings wsX10_layComings) := goodIn_app (goodIn_of _ (by decide +kernel)) ggX10_isSafe_X10_layComings
set_option maxRecDepth 20000 in
theorem ggX10_isSafe_X10_holds : GoodIn wsX10_isSafe wsX10_holds := goodIn_r _ [22, 23, 24, 25, 26, 27, 28, 29, 30, 31, 32, 33, 34, 35, 36, 37, 38, 39, 40, 41, 42, 43, 44, 45, 46, 47, 48, 49, 50, 51, 52, 53, 54, 55, 56, 57, 58, 59] (by decide +kernel) (by decide +kernel)
set_option maxRecDepth 20000 in
theorem gX10_isSafe_X10_holds : GoodIn wsX10_isSafe (wsV RX10 139 RX10 yX10_holds wsX10_holds) := goodIn_app (goodIn_of _ (by decide +kernel)) ggX10_isSafe_X10_holds
theorem dX10_isSafe_0 : decode cX10_isSafe 0 = .ok (.aload_n 0, 1) := by decide +kernel
theorem dX10_isSafe_1 : decode cX10_isSafe 1 = .ok (.ldc 158, 2) := by decide +kernel
theorem dX10_isSafe_3 : decode cX10_isSafe 3 = .ok (.iconst 3, 1) := by decide +kernel
theorem dX10_isSafe_4 : decode cX10_isSafe 4 = .ok (.aload_n 0, 1) := by decide +kernel
theorem dX10_isSafe_5 : decode cX10_isSafe 5 = .ok (.getfield 145, 3) := by decide +kernel
theorem dX10_isSafe_8 : decode cX10_isSafe 8 = .ok (.imul, 1) := by decide +kernel
theorem dX10_isSafe_9 : decode cX10_isSafe 9 = .ok (.invokevirtual 151, 3) := by decide +kernel
theorem dX10_isSafe_12 : decode cX10_isSafe 12 = .ok (.iconst 0, 1) := by decide +kernel
theorem dX10_isSafe_13 : decode cX10_isSafe 13 = .ok (.istore_n 2, 1) := by decide +kernel
theorem dX10_isSafe_14 : decode cX10_isSafe 14 = .ok (.iload_n 2, 1) := by decide +kernel
theorem dX10_isSafe_15 : decode cX10_isSafe 15 = .ok (.aload_n 0, 1) := by decide +kernel
theorem dX10_isSafe_16 : decode cX10_isSafe 16 = .ok (.getfield 90, 3) := by decide +kernel
theorem dX10_isSafe_19 : decode cX10_isSafe 19 = .ok (.if_icmp .ge 109, 3) := by decide +kernel
theorem dX10_isSafe_22 : decode cX10_isSafe 22 = .ok (.iconst 0, 1) := by decide +kernel
theorem dX10_isSafe_23 : decode cX10_isSafe 23 = .ok (.istore_n 3, 1) := by decide +kernel
theorem dX10_isSafe_24 : decode cX10_isSafe 24 = .ok (.aload_n 0, 1) := by decide +kernel
theorem dX10_isSafe_25 : decode cX10_isSafe 25 = .ok (.iload_n 2, 1) := by decide +kernel
theorem dX10_isSafe_26 : decode cX10_isSafe 26 = .ok (.invokevirtual 139, 3) := by decide +kernel
theorem dX10_isSafe_29 : decode cX10_isSafe 29 = .ok (.istore 4, 2) := by decide +kernel
theorem dX10_isSafe_31 : decode cX10_isSafe 31 = .ok (.iconst 0, 1) := by decide +kernel
theorem dX10_isSafe_32 : decode cX10_isSafe 32 = .ok (.istore 5, 2) := by decide +kernel
theorem dX10_isSafe_34 : decode cX10_isSafe 34 = .ok (.iload 5, 2) := by decide +kernel
theorem dX10_isSafe_36 : decode cX10_isSafe 36 = .ok (.aload_n 0, 1) := by decide +kernel
theorem dX10_isSafe_37 : decode cX10_isSafe 37 = .ok (.getfield 142, 3) := by decide +kernel
theorem dX10_isSafe_40 : decode cX10_isSafe 40 = .ok (.if_icmp .ge 67, 3) := by decide +kernel
theorem dX10_isSafe_43 : decode cX10_isSafe 43 = .ok (.aload_n 0, 1) := by decide +kernel
theorem dX10_isSafe_44 : decode cX10_isSafe 44 = .ok (.getfield 55, 3) := by decide +kernel
theorem dX10_isSafe_47 : decode cX10_isSafe 47 = .ok (.iload 5, 2) := by decide +kernel
theorem dX10_isSafe_49 : decode cX10_isSafe 49 = .ok (.iaload, 1) := by decide +kernel
theorem dX10_isSafe_50 : decode cX10_isSafe 50 = .ok (.iload_n 2, 1) := by decide +kernel
theorem dX10_isSafe_51 : decode cX10_isSafe 51 = .ok (.if_icmp .ne 50, 3) := by decide +kernel
theorem dX10_isSafe_54 : decode cX10_isSafe 54 = .ok (.iload_n 1, 1) := by decide +kernel
theorem dX10_isSafe_55 : decode cX10_isSafe 55 = .ok (.iload_n 2, 1) := by decide +kernel
theorem dX10_isSafe_56 : decode cX10_isSafe 56 = .ok (.ishr, 1) := by decide +kernel
theorem dX10_isSafe_57 : decode cX10_isSafe 57 = .ok (.iconst 1, 1) := by decide +kernel
theorem dX10_isSafe_58 : decode cX10_isSafe 58 = .ok (.iand, 1) := by decide +kernel
theorem dX10_isSafe_59 : decode cX10_isSafe 59 = .ok (.iconst 1, 1) := by decide +kernel
theorem dX10_isSafe_60 : decode cX10_isSafe 60 = .ok (.if_icmp .ne 17, 3) := by decide +kernel
theorem dX10_isSafe_63 : decode cX10_isSafe 63 = .ok (.iload 4, 2) := by decide +kernel
theorem dX10_isSafe_65 : decode cX10_isSafe 65 = .ok (.aload_n 0, 1) := by decide +kernel
theorem dX10_isSafe_66 : decode cX10_isSafe 66 = .ok (.getfield 52, 3) := by decide +kernel
theorem dX10_isSafe_69 : decode cX10_isSafe 69 = .ok (.iload 5, 2) := by decide +kernel
theorem dX10_isSafe_71 : decode cX10_isSafe 71 = .ok (.iaload, 1) := by decide +kernel
theorem dX10_isSafe_72 : decode cX10_isSafe 72 = .ok (.if_icmp .ge 5, 3) := by decide +kernel
theorem dX10_isSafe_75 : decode cX10_isSafe 75 = .ok (.iconst 0, 1) := by decide +kernel
theorem dX10_isSafe_76 : decode cX10_isSafe 76 = .ok (.ireturn, 1) := by decide +kernel
theorem dX10_isSafe_77 : decode cX10_isSafe 77 = .ok (.iconst 1, 1) := by decide +kernel
theorem dX10_isSafe_78 : decode cX10_isSafe 78 = .ok (.istore_n 3, 1) := by decide +kernel
theorem dX10_isSafe_79 : decode cX10_isSafe 79 = .ok (.aload_n 0, 1) := by decide +kernel
theorem dX10_isSafe_80 : decode cX10_isSafe 80 = .ok (.getfield 52, 3) := by decide +kernel
theorem dX10_isSafe_83 : decode cX10_isSafe 83 = .ok (.iload 5, 2) := by decide +kernel
theorem dX10_isSafe_85 : decode cX10_isSafe 85 = .ok (.iaload, 1) := by decide +kernel
theorem dX10_isSafe_86 : decode cX10_isSafe 86 = .ok (.aload_n 0, 1) := by decide +kernel
theorem dX10_isSafe_87 : decode cX10_isSafe 87 = .ok (.getfield 25, 3) := by decide +kernel
theorem dX10_isSafe_90 : decode cX10_isSafe 90 = .ok (.iload_n 2, 1) := by decide +kernel
theorem dX10_isSafe_91 : decode cX10_isSafe 91 = .ok (.iaload, 1) := by decide +kernel
theorem dX10_isSafe_92 : decode cX10_isSafe 92 = .ok (.iadd, 1) := by decide +kernel
theorem dX10_isSafe_93 : decode cX10_isSafe 93 = .ok (.aload_n 0, 1) := by decide +kernel
theorem dX10_isSafe_94 : decode cX10_isSafe 94 = .ok (.iload_n 2, 1) := by decide +kernel
theorem dX10_isSafe_95 : decode cX10_isSafe 95 = .ok (.invokevirtual 139, 3) := by decide +kernel
theorem dX10_isSafe_98 : decode cX10_isSafe 98 = .ok (.iadd, 1) := by decide +kernel
theorem dX10_isSafe_99 : decode cX10_isSafe 99 = .ok (.istore 4, 2) := by decide +kernel
theorem dX10_isSafe_101 : decode cX10_isSafe 101 = .ok (.iinc 5 1, 3) := by decide +kernel
theorem dX10_isSafe_104 : decode cX10_isSafe 104 = .ok (.goto (-70), 3) := by decide +kernel
theorem dX10_isSafe_107 : decode cX10_isSafe 107 = .ok (.iload_n 1, 1) := by decide +kernel
theorem dX10_isSafe_108 : decode cX10_isSafe 108 = .ok (.iload_n 2, 1) := by decide +kernel
theorem dX10_isSafe_109 : decode cX10_isSafe 109 = .ok (.ishr, 1) := by decide +kernel
theorem dX10_isSafe_110 : decode cX10_isSafe 110 = .ok (.iconst 1, 1) := by decide +kernel
theorem dX10_isSafe_111 : decode cX10_isSafe 111 = .ok (.iand, 1) := by decide +kernel
theorem dX10_isSafe_112 : decode cX10_isSafe 112 = .ok (.iconst 1, 1) := by decide +kernel
theorem dX10_isSafe_113 : decode cX10_isSafe 113 = .ok (.if_icmp .ne 9, 3) := by decide +kernel
theorem dX10_isSafe_116 : decode cX10_isSafe 116 = .ok (.iload_n 3, 1) := by decide +kernel
theorem dX10_isSafe_117 : decode cX10_isSafe 117 = .ok (.ifCond .ne 5, 3) := by decide +kernel
theorem dX10_isSafe_120 : decode cX10_isSafe 120 = .ok (.iconst 0, 1) := by decide +kernel
theorem dX10_isSafe_121 : decode cX10_isSafe 121 = .ok (.ireturn, 1) := by decide +kernel
theorem dX10_isSafe_122 : decode cX10_isSafe 122 = .ok (.iinc 2 1, 3) := by decide +kernel
theorem dX10_isSafe_125 : decode cX10_isSafe 125 = .ok (.goto (-111), 3) := by decide +kernel
theorem dX10_isSafe_128 : decode cX10_isSafe 128 = .ok (.iconst 1, 1) := by decide +kernel
theorem dX10_isSafe_129 : decode cX10_isSafe 129 = .ok (.ireturn, 1) := by decide +kernel
set_option maxRecDepth 20000 in
theorem ggX10_layRow_X10_against : GoodIn wsX10_layRow wsX10_against := goodIn_r _ [9, 10, 11, 24, 25, 26, 27, 28, 29, 30, 31, 32, 33, 34, 35, 36, 37, 38, 39, 40, 41, 42, 43, 44, 45, 46, 47, 48, 49, 50, 51, 52, 53, 54, 55, 56, 57] (by decide +kernel) (by decide +kernel)
set_option maxRecDepth 20000 in
theorem gX10_layRow_X10_against : GoodIn wsX10_layRow (wsV RX10 103 RX10 yX10_against wsX10_against) := goodIn_app (goodIn_of _ (by decide +kernel)) ggX10_layRow_X10_against
set_option maxRecDepth 20000 in
theorem ggX10_layRow_X10_fails : GoodIn wsX10_layRow wsX10_fails := goodIn_r _ [15, 16, 24, 25, 26, 27, 28, 29, 30, 31, 32, 33, 34, 35, 36, 37, 38, 39, 40, 41, 42, 43, 44, 45, 46, 47, 48, 49, 50, 51, 52, 53, 54, 55, 56, 57] (by decide +kernel) (by decide +kernel)
set_option maxRecDepth 20000 in
theorem gX10_layRow_X10_fails : GoodIn wsX10_layRow (wsV RX10 107 RX10 yX10_fails wsX10_fails) := goodIn_app (goodIn_of _ (by decide +kernel)) ggX10_layRow_X10_fails
set_option maxRecDepth 20000 in
theorem ggX10_layRow_X10_within : GoodIn wsX10_layRow wsX10_within := goodIn_r _ [19] (by decide +kernel) (by decide +kernel)
set_option maxRecDepth 20000 in
theorem gX10_layRow_X10_within : GoodIn wsX10_layRow (va_wsS RX10 86 yX10_within wsX10_within) := goodIn_app (goodIn_of _ (by decide +kernel)) ggX10_layRow_X10_within
set_option maxRecDepth 20000 in
theorem ggX10_layRow_X10_isThing : GoodIn wsX10_layRow wsX10_isThing := goodIn_r _ [23, 1, 24, 25, 26, 27, 28, 29, 30, 31, 32, 33, 34, 35, 36, 37, 38, 39, 40, 41, 42, 43, 44, 45, 46, 47, 48, 49, 50, 51, 52, 53, 54, 55, 56, 57] (by decide +kernel) (by decide +kernel)
set_option maxRecDepth 20000 in
theorem gX10_layRow_X10_isThing : GoodIn wsX10_layRow (wsV RX10 136 RX10 yX10_isThing wsX10_isThing) := goodIn_app (goodIn_of _ (by decide +kernel)) ggX10_layRow_X10_isThing
theorem dX10_layRow_0 : decode cX10_layRow 0 = .ok (.aload_n 0, 1) := by decide +kernel
theorem dX10_layRow_1 : decode cX10_layRow 1 = .ok (.iload_n 1, 1) := by decide +kernel
theorem dX10_layRow_2 : decode cX10_layRow 2 = .ok (.iload_n 2, 1) := by decide +kernel
theorem dX10_layRow_3 : decode cX10_layRow 3 = .ok (.iload_n 3, 1) := by decide +kernel
theorem dX10_layRow_4 : decode cX10_layRow 4 = .ok (.iload 4, 2) := by decide +kernel
theorem dX10_layRow_6 : decode cX10_layRow 6 = .ok (.invokevirtual 103, 3) := by decide +kernel
theorem dX10_layRow_9 : decode cX10_layRow 9 = .ok (.istore 5, 2) := by decide +kernel
theorem dX10_layRow_11 : decode cX10_layRow 11 = .ok (.iload 5, 2) := by decide +kernel
theorem dX10_layRow_13 : decode cX10_layRow 13 = .ok (.ifCond .eq 10, 3) := by decide +kernel
theorem dX10_layRow_16 : decode cX10_layRow 16 = .ok (.aload_n 0, 1) := by decide +kernel
theorem dX10_layRow_17 : decode cX10_layRow 17 = .ok (.iload 5, 2) := by decide +kernel
theorem dX10_layRow_19 : decode cX10_layRow 19 = .ok (.invokevirtual 107, 3) := by decide +kernel
theorem dX10_layRow_22 : decode cX10_layRow 22 = .ok (.ireturn, 1) := by decide +kernel
theorem dX10_layRow_23 : decode cX10_layRow 23 = .ok (.aload_n 0, 1) := by decide +kernel
theorem dX10_layRow_24 : decode cX10_layRow 24 = .ok (.getfield 90, 3) := by decide +kernel
theorem dX10_layRow_27 : decode cX10_layRow 27 = .ok (.ifCond .ne 6, 3) := by decide +kernel
theorem dX10_layRow_30 : decode cX10_layRow 30 = .ok (.bipush (-3), 2) := by decide +kernel
theorem dX10_layRow_32 : decode cX10_layRow 32 = .ok (.ireturn, 1) := by decide +kernel
theorem dX10_layRow_33 : decode cX10_layRow 33 = .ok (.iload 4, 2) := by decide +kernel
theorem dX10_layRow_35 : decode cX10_layRow 35 = .ok (.iconst 1, 1) := by decide +kernel
theorem dX10_layRow_36 : decode cX10_layRow 36 = .ok (.bipush 8, 2) := by decide +kernel
theorem dX10_layRow_38 : decode cX10_layRow 38 = .ok (.invokestatic 86, 3) := by decide +kernel
theorem dX10_layRow_41 : decode cX10_layRow 41 = .ok (.ifCond .ne 6, 3) := by decide +kernel
theorem dX10_layRow_44 : decode cX10_layRow 44 = .ok (.bipush (-2), 2) := by decide +kernel
theorem dX10_layRow_46 : decode cX10_layRow 46 = .ok (.ireturn, 1) := by decide +kernel
theorem dX10_layRow_47 : decode cX10_layRow 47 = .ok (.iconst 0, 1) := by decide +kernel
theorem dX10_layRow_48 : decode cX10_layRow 48 = .ok (.istore 6, 2) := by decide +kernel
theorem dX10_layRow_50 : decode cX10_layRow 50 = .ok (.iload 6, 2) := by decide +kernel
theorem dX10_layRow_52 : decode cX10_layRow 52 = .ok (.iload 4, 2) := by decide +kernel
theorem dX10_layRow_54 : decode cX10_layRow 54 = .ok (.if_icmp .ge 46, 3) := by decide +kernel
theorem dX10_layRow_57 : decode cX10_layRow 57 = .ok (.aload_n 0, 1) := by decide +kernel
theorem dX10_layRow_58 : decode cX10_layRow 58 = .ok (.getfield 49, 3) := by decide +kernel
theorem dX10_layRow_61 : decode cX10_layRow 61 = .ok (.iload 6, 2) := by decide +kernel
theorem dX10_layRow_63 : decode cX10_layRow 63 = .ok (.aload_n 0, 1) := by decide +kernel
theorem dX10_layRow_64 : decode cX10_layRow 64 = .ok (.getfield 16, 3) := by decide +kernel
theorem dX10_layRow_67 : decode cX10_layRow 67 = .ok (.bipush 60, 2) := by decide +kernel
theorem dX10_layRow_69 : decode cX10_layRow 69 = .ok (.iload_n 1, 1) := by decide +kernel
theorem dX10_layRow_70 : decode cX10_layRow 70 = .ok (.imul, 1) := by decide +kernel
theorem dX10_layRow_71 : decode cX10_layRow 71 = .ok (.iload_n 3, 1) := by decide +kernel
theorem dX10_layRow_72 : decode cX10_layRow 72 = .ok (.iadd, 1) := by decide +kernel
theorem dX10_layRow_73 : decode cX10_layRow 73 = .ok (.iload 6, 2) := by decide +kernel
theorem dX10_layRow_75 : decode cX10_layRow 75 = .ok (.iadd, 1) := by decide +kernel
theorem dX10_layRow_76 : decode cX10_layRow 76 = .ok (.iaload, 1) := by decide +kernel
theorem dX10_layRow_77 : decode cX10_layRow 77 = .ok (.iastore, 1) := by decide +kernel
theorem dX10_layRow_78 : decode cX10_layRow 78 = .ok (.aload_n 0, 1) := by decide +kernel
theorem dX10_layRow_79 : decode cX10_layRow 79 = .ok (.aload_n 0, 1) := by decide +kernel
theorem dX10_layRow_80 : decode cX10_layRow 80 = .ok (.getfield 49, 3) := by decide +kernel
theorem dX10_layRow_83 : decode cX10_layRow 83 = .ok (.iload 6, 2) := by decide +kernel
theorem dX10_layRow_85 : decode cX10_layRow 85 = .ok (.iaload, 1) := by decide +kernel
theorem dX10_layRow_86 : decode cX10_layRow 86 = .ok (.invokevirtual 136, 3) := by decide +kernel
theorem dX10_layRow_89 : decode cX10_layRow 89 = .ok (.ifCond .ne 5, 3) := by decide +kernel
theorem dX10_layRow_92 : decode cX10_layRow 92 = .ok (.iconst (-1), 1) := by decide +kernel
theorem dX10_layRow_93 : decode cX10_layRow 93 = .ok (.ireturn, 1) := by decide +kernel
theorem dX10_layRow_94 : decode cX10_layRow 94 = .ok (.iinc 6 1, 3) := by decide +kernel
theorem dX10_layRow_97 : decode cX10_layRow 97 = .ok (.goto (-47), 3) := by decide +kernel
theorem dX10_layRow_100 : decode cX10_layRow 100 = .ok (.aload_n 0, 1) := by decide +kernel
theorem dX10_layRow_101 : decode cX10_layRow 101 = .ok (.iload 4, 2) := by decide +kernel
theorem dX10_layRow_103 : decode cX10_layRow 103 = .ok (.putfield 145, 3) := by decide +kernel
theorem dX10_layRow_106 : decode cX10_layRow 106 = .ok (.iconst 0, 1) := by decide +kernel
theorem dX10_layRow_107 : decode cX10_layRow 107 = .ok (.ireturn, 1) := by decide +kernel
set_option maxRecDepth 20000 in
theorem ggX10_harm_X10_isSheet : GoodIn wsX10_harm wsX10_isSheet := goodIn_r _ [5, 6, 7, 4, 8] (by decide +kernel) (by decide +kernel)
set_option maxRecDepth 20000 in
theorem gX10_harm_X10_isSheet : GoodIn wsX10_harm (va_wsS RX10 96 yX10_isSheet wsX10_isSheet) := goodIn_app (goodIn_of _ (by decide +kernel)) ggX10_harm_X10_isSheet
set_option maxRecDepth 20000 in
theorem ggX10_harm_X10_isSort : GoodIn wsX10_harm wsX10_isSort := goodIn_r _ [11, 6, 7, 4, 8] (by decide +kernel) (by decide +kernel)
set_option maxRecDepth 20000 in
theorem gX10_harm_X10_isSort : GoodIn wsX10_harm (va_wsS RX10 100 yX10_isSort wsX10_isSort) := goodIn_app (goodIn_of _ (by decide +kernel)) ggX10_harm_X10_isSort
set_option maxRecDepth 20000 in
theorem ggX10_harm_X10_within : GoodIn wsX10_harm wsX10_within := goodIn_r _ [8] (by decide +kernel) (by decide +kernel)
set_option maxRecDepth 20000 in
theorem gX10_harm_X10_within : GoodIn wsX10_harm (va_wsS RX10 86 yX10_within wsX10_within) := goodIn_app (goodIn_of _ (by decide +kernel)) ggX10_harm_X10_within
set_option maxRecDepth 20000 in
theorem ggX10_harm_X10_layRow : GoodIn wsX10_harm wsX10_layRow := goodIn_r _ [15, 16, 17, 18, 19, 20, 21, 22, 4, 23, 24, 25, 26, 27, 28, 29, 1, 6, 7, 8, 30, 31, 32, 33, 68, 69, 70, 71, 72, 73, 74, 75, 76, 77, 78, 79, 80, 81, 82, 83, 84, 85, 86, 87, 88, 89, 90, 91, 92, 93, 94, 95, 96, 97, 98, 99, 100, 101] (by decide +kernel) (by decide +kernel)
set_option maxRecDepth 20000 in
theorem gX10_harm_X10_layRow : GoodIn wsX10_harm (wsV RX10 159 RX10 yX10_layRow wsX10_layRow) := goodIn_app (goodIn_of _ (by decide +kernel)) ggX10_harm_X10_layRow
set_option maxRecDepth 20000 in
theorem ggX10_harm_X10_all : GoodIn wsX10_harm wsX10_all := goodIn_r _ [37, 16, 68, 69, 70, 71, 72, 73, 74, 75, 76, 77, 78, 79, 80, 81, 82, 83, 84, 85, 86, 87, 88, 89, 90, 91, 92, 93, 94, 95, 96, 97, 98, 99, 100, 101] (by decide +kernel) (by decide +kernel)
set_option maxRecDepth 20000 in
theorem gX10_harm_X10_all : GoodIn wsX10_harm (wsV RX10 162 RX10 yX10_all wsX10_all) := goodIn_app (goodIn_of _ (by decide +kernel)) ggX10_harm_X10_all
set_option maxRecDepth 20000 in
theorem ggX10_harm_X10_harmOf : GoodIn wsX10_harm wsX10_harmOf := goodIn_r _ [41, 16, 42, 43, 44, 45, 4, 46, 47, 19, 48, 49, 17, 50, 51, 52, 53, 54, 55, 56, 57, 58, 59, 60, 61, 62, 63, 64, 65, 66, 67, 68, 69, 70, 71, 72, 73, 74, 75, 76, 77, 78, 79, 80, 81, 82, 83, 84, 85, 86, 87, 88, 89, 90, 91, 92, 93, 94, 95, 96, 97, 98, 99, 100, 101] (by decide +kernel) (by decide +kernel)
set_option maxRecDepth 20000 in
theorem gX10_harm_X10_harmOf : GoodIn wsX10_harm (wsV RX10 166 RX10 yX10_harmOf wsX10_harmOf) := goodIn_app (goodIn_of _ (by decide +kernel)) ggX10_harm_X10_harmOf
theorem dX10_harm_0 : decode cX10_harm 0 = .ok (.aload_n 0, 1) := by decide +kernel
theorem dX10_harm_1 : decode cX10_harm 1 = .ok (.iconst 0, 1) := by decide +kernel
theorem dX10_harm_2 : decode cX10_harm 2 = .ok (.putfield 80, 3) := by decide +kernel
theorem dX10_harm_5 : decode cX10_harm 5 = .ok (.iload_n 1, 1) := by decide +kernel
theorem dX10_harm_6 : decode cX10_harm 6 = .ok (.invokestatic 96, 3) := by decide +kernel
theorem dX10_harm_9 : decode cX10_harm 9 = .ok (.ifCond .ne 5, 3) := by decide +kernel
theorem dX10_harm_12 : decode cX10_harm 12 = .ok (.iconst (-1), 1) := by decide +kernel
theorem dX10_harm_13 : decode cX10_harm 13 = .ok (.ireturn, 1) := by decide +kernel
theorem dX10_harm_14 : decode cX10_harm 14 = .ok (.iload_n 2, 1) := by decide +kernel
theorem dX10_harm_15 : decode cX10_harm 15 = .ok (.invokestatic 100, 3) := by decide +kernel
theorem dX10_harm_18 : decode cX10_harm 18 = .ok (.ifCond .eq 15, 3) := by decide +kernel
theorem dX10_harm_21 : decode cX10_harm 21 = .ok (.iload 5, 2) := by decide +kernel
theorem dX10_harm_23 : decode cX10_harm 23 = .ok (.iconst 1, 1) := by decide +kernel
theorem dX10_harm_24 : decode cX10_harm 24 = .ok (.sipush 300, 3) := by decide +kernel
theorem dX10_harm_27 : decode cX10_harm 27 = .ok (.invokestatic 86, 3) := by decide +kernel
theorem dX10_harm_30 : decode cX10_harm 30 = .ok (.ifCond .ne 6, 3) := by decide +kernel
theorem dX10_harm_33 : decode cX10_harm 33 = .ok (.bipush (-2), 2) := by decide +kernel
theorem dX10_harm_35 : decode cX10_harm 35 = .ok (.ireturn, 1) := by decide +kernel
theorem dX10_harm_36 : decode cX10_harm 36 = .ok (.aload_n 0, 1) := by decide +kernel
theorem dX10_harm_37 : decode cX10_harm 37 = .ok (.iload_n 1, 1) := by decide +kernel
theorem dX10_harm_38 : decode cX10_harm 38 = .ok (.iload_n 2, 1) := by decide +kernel
theorem dX10_harm_39 : decode cX10_harm 39 = .ok (.iload_n 3, 1) := by decide +kernel
theorem dX10_harm_40 : decode cX10_harm 40 = .ok (.iload 4, 2) := by decide +kernel
theorem dX10_harm_42 : decode cX10_harm 42 = .ok (.invokevirtual 159, 3) := by decide +kernel
theorem dX10_harm_45 : decode cX10_harm 45 = .ok (.istore 6, 2) := by decide +kernel
theorem dX10_harm_47 : decode cX10_harm 47 = .ok (.iload 6, 2) := by decide +kernel
theorem dX10_harm_49 : decode cX10_harm 49 = .ok (.ifCond .eq 8, 3) := by decide +kernel
theorem dX10_harm_52 : decode cX10_harm 52 = .ok (.iload 6, 2) := by decide +kernel
theorem dX10_harm_54 : decode cX10_harm 54 = .ok (.goto 13, 3) := by decide +kernel
theorem dX10_harm_57 : decode cX10_harm 57 = .ok (.aload_n 0, 1) := by decide +kernel
theorem dX10_harm_58 : decode cX10_harm 58 = .ok (.aload_n 0, 1) := by decide +kernel
theorem dX10_harm_59 : decode cX10_harm 59 = .ok (.invokevirtual 162, 3) := by decide +kernel
theorem dX10_harm_62 : decode cX10_harm 62 = .ok (.iload 5, 2) := by decide +kernel
theorem dX10_harm_64 : decode cX10_harm 64 = .ok (.invokevirtual 166, 3) := by decide +kernel
theorem dX10_harm_67 : decode cX10_harm 67 = .ok (.ireturn, 1) := by decide +kernel
set_option maxRecDepth 20000 in
theorem ggX10_never_X10_isSheet : GoodIn wsX10_never wsX10_isSheet := goodIn_r _ [5, 6, 7, 4, 8] (by decide +kernel) (by decide +kernel)
set_option maxRecDepth 20000 in
theorem gX10_never_X10_isSheet : GoodIn wsX10_never (va_wsS RX10 96 yX10_isSheet wsX10_isSheet) := goodIn_app (goodIn_of _ (by decide +kernel)) ggX10_never_X10_isSheet
set_option maxRecDepth 20000 in
theorem ggX10_never_X10_isSort : GoodIn wsX10_never wsX10_isSort := goodIn_r _ [11, 6, 7, 4, 8] (by decide +kernel) (by decide +kernel)
set_option maxRecDepth 20000 in
theorem gX10_never_X10_isSort : GoodIn wsX10_never (va_wsS RX10 100 yX10_isSort wsX10_isSort) := goodIn_app (goodIn_of _ (by decide +kernel)) ggX10_never_X10_isSort
set_option maxRecDepth 20000 in
theorem ggX10_never_X10_layRow : GoodIn wsX10_never wsX10_layRow := goodIn_r _ [15, 16, 17, 18, 19, 20, 21, 22, 4, 23, 24, 25, 26, 27, 28, 29, 1, 6, 7, 8, 30, 31, 32, 33, 63, 64, 65, 66, 67, 68, 69, 70, 71, 72, 73, 74, 75, 76, 77, 78, 79, 80, 81, 82, 83, 84, 85, 86, 87, 88, 89, 90, 91, 92, 93, 94, 95, 96] (by decide +kernel) (by decide +kernel)
set_option maxRecDepth 20000 in
theorem gX10_never_X10_layRow : GoodIn wsX10_never (wsV RX10 159 RX10 yX10_layRow wsX10_layRow) := goodIn_app (goodIn_of _ (by decide +kernel)) ggX10_never_X10_layRow
set_option maxRecDepth 20000 in
theorem ggX10_never_X10_all : GoodIn wsX10_never wsX10_all := goodIn_r _ [37, 16, 63, 64, 65, 66, 67, 68, 69, 70, 71, 72, 73, 74, 75, 76, 77, 78, 79, 80, 81, 82, 83, 84, 85, 86, 87, 88, 89, 90, 91, 92, 93, 94, 95, 96] (by decide +kernel) (by decide +kernel)
set_option maxRecDepth 20000 in
theorem gX10_never_X10_all : GoodIn wsX10_never (wsV RX10 162 RX10 yX10_all wsX10_all) := goodIn_app (goodIn_of _ (by decide +kernel)) ggX10_never_X10_all
set_option maxRecDepth 20000 in
theorem ggX10_never_X10_isSafe : GoodIn wsX10_never wsX10_isSafe := goodIn_r _ [41, 42, 19, 16, 43, 44, 45, 46, 47, 48, 49, 4, 50, 51, 52, 17, 53, 54, 55, 56, 57, 58, 59, 60, 61, 62, 63, 64, 65, 66, 67, 68, 69, 70, 71, 72, 73, 74, 75, 76, 77, 78, 79, 80, 81, 82, 83, 84, 85, 86, 87, 88, 89, 90, 91, 92, 93, 94, 95, 96] (by decide +kernel) (by decide +kernel)
set_option maxRecDepth 20000 in
theorem gX10_never_X10_isSafe : GoodIn wsX10_never (wsV RX10 169 RX10 yX10_isSafe wsX10_isSafe) := goodIn_app (goodIn_of _ (by decide +kernel)) ggX10_never_X10_isSafe
theorem dX10_never_0 : decode cX10_never 0 = .ok (.aload_n 0, 1) := by decide +kernel
theorem dX10_never_1 : decode cX10_never 1 = .ok (.iconst 0, 1) := by decide +kernel
theorem dX10_never_2 : decode cX10_never 2 = .ok (.putfield 80, 3) := by decide +kernel
theorem dX10_never_5 : decode cX10_never 5 = .ok (.iload_n 1, 1) := by decide +kernel
theorem dX10_never_6 : decode cX10_never 6 = .ok (.invokestatic 96, 3) := by decide +kernel
theorem dX10_never_9 : decode cX10_never 9 = .ok (.ifCond .ne 5, 3) := by decide +kernel
theorem dX10_never_12 : decode cX10_never 12 = .ok (.iconst (-1), 1) := by decide +kernel
theorem dX10_never_13 : decode cX10_never 13 = .ok (.ireturn, 1) := by decide +kernel
theorem dX10_never_14 : decode cX10_never 14 = .ok (.iload_n 2, 1) := by decide +kernel
theorem dX10_never_15 : decode cX10_never 15 = .ok (.invokestatic 100, 3) := by decide +kernel
theorem dX10_never_18 : decode cX10_never 18 = .ok (.ifCond .ne 6, 3) := by decide +kernel
theorem dX10_never_21 : decode cX10_never 21 = .ok (.bipush (-2), 2) := by decide +kernel
theorem dX10_never_23 : decode cX10_never 23 = .ok (.ireturn, 1) := by decide +kernel
theorem dX10_never_24 : decode cX10_never 24 = .ok (.aload_n 0, 1) := by decide +kernel
theorem dX10_never_25 : decode cX10_never 25 = .ok (.iload_n 1, 1) := by decide +kernel
theorem dX10_never_26 : decode cX10_never 26 = .ok (.iload_n 2, 1) := by decide +kernel
theorem dX10_never_27 : decode cX10_never 27 = .ok (.iload_n 3, 1) := by decide +kernel
theorem dX10_never_28 : decode cX10_never 28 = .ok (.iload 4, 2) := by decide +kernel
theorem dX10_never_30 : decode cX10_never 30 = .ok (.invokevirtual 159, 3) := by decide +kernel
theorem dX10_never_33 : decode cX10_never 33 = .ok (.istore 5, 2) := by decide +kernel
theorem dX10_never_35 : decode cX10_never 35 = .ok (.iload 5, 2) := by decide +kernel
theorem dX10_never_37 : decode cX10_never 37 = .ok (.ifCond .eq 6, 3) := by decide +kernel
theorem dX10_never_40 : decode cX10_never 40 = .ok (.iload 5, 2) := by decide +kernel
theorem dX10_never_42 : decode cX10_never 42 = .ok (.ireturn, 1) := by decide +kernel
theorem dX10_never_43 : decode cX10_never 43 = .ok (.aload_n 0, 1) := by decide +kernel
theorem dX10_never_44 : decode cX10_never 44 = .ok (.aload_n 0, 1) := by decide +kernel
theorem dX10_never_45 : decode cX10_never 45 = .ok (.invokevirtual 162, 3) := by decide +kernel
theorem dX10_never_48 : decode cX10_never 48 = .ok (.invokevirtual 169, 3) := by decide +kernel
theorem dX10_never_51 : decode cX10_never 51 = .ok (.ifCond .eq 7, 3) := by decide +kernel
theorem dX10_never_54 : decode cX10_never 54 = .ok (.iconst 1, 1) := by decide +kernel
theorem dX10_never_55 : decode cX10_never 55 = .ok (.goto 4, 3) := by decide +kernel
theorem dX10_never_58 : decode cX10_never 58 = .ok (.iconst 0, 1) := by decide +kernel
theorem dX10_never_59 : decode cX10_never 59 = .ok (.ireturn, 1) := by decide +kernel
set_option maxRecDepth 20000 in
theorem ggX10_layFalls_X10_layComings : GoodIn wsX10_layFalls wsX10_layComings := goodIn_r _ [8, 9, 10, 11, 12, 13, 14, 15, 16, 17, 18, 7, 19, 31, 32, 33, 34, 35, 36, 37, 38, 39, 40, 41, 42, 43, 44, 45, 46, 47, 48, 49, 50, 51, 52, 53, 54, 55, 56, 57, 58, 59, 60, 61, 62, 63, 64] (by decide +kernel) (by decide +kernel)
set_option maxRecDepth 20000 in
theorem gX10_layFalls_X10_layComings : GoodIn wsX10_layFalls (wsV RX10 151 RX10 yX10_layComings wsX10_layComings) := goodIn_app (goodIn_of _ (by decide +kernel)) ggX10_layFalls_X10_layComings
set_option maxRecDepth 20000 in
theorem ggX10_layFalls_X10_fallsOf : GoodIn wsX10_layFalls wsX10_fallsOf := goodIn_r _ [23, 9, 15, 14, 3, 16, 24, 25, 26, 7, 27, 28, 29, 30, 31, 32, 33, 34, 35, 36, 37, 38, 39, 40, 41, 42, 43, 44, 45, 46, 47, 48, 49, 50, 51, 52, 53, 54, 55, 56, 57, 58, 59, 60, 61, 62, 63, 64] (by decide +kernel) (by decide +kernel)
set_option maxRecDepth 20000 in
theorem gX10_layFalls_X10_fallsOf : GoodIn wsX10_layFalls (wsV RX10 155 RX10 yX10_fallsOf wsX10_fallsOf) := goodIn_app (goodIn_of _ (by decide +kernel)) ggX10_layFalls_X10_fallsOf
theorem dX10_layFalls_0 : decode cX10_layFalls 0 = .ok (.aload_n 0, 1) := by decide +kernel
theorem dX10_layFalls_1 : decode cX10_layFalls 1 = .ok (.sipush 300, 3) := by decide +kernel
theorem dX10_layFalls_4 : decode cX10_layFalls 4 = .ok (.sipush 400, 3) := by decide +kernel
theorem dX10_layFalls_7 : decode cX10_layFalls 7 = .ok (.invokevirtual 151, 3) := by decide +kernel
theorem dX10_layFalls_10 : decode cX10_layFalls 10 = .ok (.iconst 0, 1) := by decide +kernel
theorem dX10_layFalls_11 : decode cX10_layFalls 11 = .ok (.istore_n 1, 1) := by decide +kernel
theorem dX10_layFalls_12 : decode cX10_layFalls 12 = .ok (.iload_n 1, 1) := by decide +kernel
theorem dX10_layFalls_13 : decode cX10_layFalls 13 = .ok (.sipush 1800, 3) := by decide +kernel
theorem dX10_layFalls_16 : decode cX10_layFalls 16 = .ok (.if_icmp .ge 16, 3) := by decide +kernel
theorem dX10_layFalls_19 : decode cX10_layFalls 19 = .ok (.aload_n 0, 1) := by decide +kernel
theorem dX10_layFalls_20 : decode cX10_layFalls 20 = .ok (.getfield 61, 3) := by decide +kernel
theorem dX10_layFalls_23 : decode cX10_layFalls 23 = .ok (.iload_n 1, 1) := by decide +kernel
theorem dX10_layFalls_24 : decode cX10_layFalls 24 = .ok (.iconst 0, 1) := by decide +kernel
theorem dX10_layFalls_25 : decode cX10_layFalls 25 = .ok (.bastore, 1) := by decide +kernel
theorem dX10_layFalls_26 : decode cX10_layFalls 26 = .ok (.iinc 1 1, 3) := by decide +kernel
theorem dX10_layFalls_29 : decode cX10_layFalls 29 = .ok (.goto (-17), 3) := by decide +kernel
theorem dX10_layFalls_32 : decode cX10_layFalls 32 = .ok (.iconst 0, 1) := by decide +kernel
theorem dX10_layFalls_33 : decode cX10_layFalls 33 = .ok (.istore_n 1, 1) := by decide +kernel
theorem dX10_layFalls_34 : decode cX10_layFalls 34 = .ok (.iconst 0, 1) := by decide +kernel
theorem dX10_layFalls_35 : decode cX10_layFalls 35 = .ok (.istore_n 2, 1) := by decide +kernel
theorem dX10_layFalls_36 : decode cX10_layFalls 36 = .ok (.iload_n 2, 1) := by decide +kernel
theorem dX10_layFalls_37 : decode cX10_layFalls 37 = .ok (.aload_n 0, 1) := by decide +kernel
theorem dX10_layFalls_38 : decode cX10_layFalls 38 = .ok (.getfield 90, 3) := by decide +kernel
theorem dX10_layFalls_41 : decode cX10_layFalls 41 = .ok (.if_icmp .ge 55, 3) := by decide +kernel
theorem dX10_layFalls_44 : decode cX10_layFalls 44 = .ok (.aload_n 0, 1) := by decide +kernel
theorem dX10_layFalls_45 : decode cX10_layFalls 45 = .ok (.iload_n 2, 1) := by decide +kernel
theorem dX10_layFalls_46 : decode cX10_layFalls 46 = .ok (.sipush 300, 3) := by decide +kernel
theorem dX10_layFalls_49 : decode cX10_layFalls 49 = .ok (.invokevirtual 155, 3) := by decide +kernel
theorem dX10_layFalls_52 : decode cX10_layFalls 52 = .ok (.istore_n 3, 1) := by decide +kernel
theorem dX10_layFalls_53 : decode cX10_layFalls 53 = .ok (.iconst 0, 1) := by decide +kernel
theorem dX10_layFalls_54 : decode cX10_layFalls 54 = .ok (.istore 4, 2) := by decide +kernel
theorem dX10_layFalls_56 : decode cX10_layFalls 56 = .ok (.iload 4, 2) := by decide +kernel
theorem dX10_layFalls_58 : decode cX10_layFalls 58 = .ok (.iload_n 3, 1) := by decide +kernel
theorem dX10_layFalls_59 : decode cX10_layFalls 59 = .ok (.if_icmp .ge 27, 3) := by decide +kernel
theorem dX10_layFalls_62 : decode cX10_layFalls 62 = .ok (.aload_n 0, 1) := by decide +kernel
theorem dX10_layFalls_63 : decode cX10_layFalls 63 = .ok (.getfield 61, 3) := by decide +kernel
theorem dX10_layFalls_66 : decode cX10_layFalls 66 = .ok (.bipush 6, 2) := by decide +kernel
theorem dX10_layFalls_68 : decode cX10_layFalls 68 = .ok (.aload_n 0, 1) := by decide +kernel
theorem dX10_layFalls_69 : decode cX10_layFalls 69 = .ok (.getfield 58, 3) := by decide +kernel
theorem dX10_layFalls_72 : decode cX10_layFalls 72 = .ok (.iload 4, 2) := by decide +kernel
theorem dX10_layFalls_74 : decode cX10_layFalls 74 = .ok (.iaload, 1) := by decide +kernel
theorem dX10_layFalls_75 : decode cX10_layFalls 75 = .ok (.imul, 1) := by decide +kernel
theorem dX10_layFalls_76 : decode cX10_layFalls 76 = .ok (.iload_n 2, 1) := by decide +kernel
theorem dX10_layFalls_77 : decode cX10_layFalls 77 = .ok (.iadd, 1) := by decide +kernel
theorem dX10_layFalls_78 : decode cX10_layFalls 78 = .ok (.iconst 1, 1) := by decide +kernel
theorem dX10_layFalls_79 : decode cX10_layFalls 79 = .ok (.bastore, 1) := by decide +kernel
theorem dX10_layFalls_80 : decode cX10_layFalls 80 = .ok (.iinc 4 1, 3) := by decide +kernel
theorem dX10_layFalls_83 : decode cX10_layFalls 83 = .ok (.goto (-27), 3) := by decide +kernel
theorem dX10_layFalls_86 : decode cX10_layFalls 86 = .ok (.iload_n 1, 1) := by decide +kernel
theorem dX10_layFalls_87 : decode cX10_layFalls 87 = .ok (.iload_n 3, 1) := by decide +kernel
theorem dX10_layFalls_88 : decode cX10_layFalls 88 = .ok (.iadd, 1) := by decide +kernel
theorem dX10_layFalls_89 : decode cX10_layFalls 89 = .ok (.istore_n 1, 1) := by decide +kernel
theorem dX10_layFalls_90 : decode cX10_layFalls 90 = .ok (.iinc 2 1, 3) := by decide +kernel
theorem dX10_layFalls_93 : decode cX10_layFalls 93 = .ok (.goto (-57), 3) := by decide +kernel
theorem dX10_layFalls_96 : decode cX10_layFalls 96 = .ok (.iload_n 1, 1) := by decide +kernel
theorem dX10_layFalls_97 : decode cX10_layFalls 97 = .ok (.ireturn, 1) := by decide +kernel
set_option maxRecDepth 20000 in
theorem ggX10_fall_X10_isSheet : GoodIn wsX10_fall wsX10_isSheet := goodIn_r _ [6, 7, 8, 5, 9] (by decide +kernel) (by decide +kernel)
set_option maxRecDepth 20000 in
theorem gX10_fall_X10_isSheet : GoodIn wsX10_fall (va_wsS RX10 96 yX10_isSheet wsX10_isSheet) := goodIn_app (goodIn_of _ (by decide +kernel)) ggX10_fall_X10_isSheet
set_option maxRecDepth 20000 in
theorem ggX10_fall_X10_isSort : GoodIn wsX10_fall wsX10_isSort := goodIn_r _ [12, 7, 8, 5, 9] (by decide +kernel) (by decide +kernel)
set_option maxRecDepth 20000 in
theorem gX10_fall_X10_isSort : GoodIn wsX10_fall (va_wsS RX10 100 yX10_isSort wsX10_isSort) := goodIn_app (goodIn_of _ (by decide +kernel)) ggX10_fall_X10_isSort
set_option maxRecDepth 20000 in
theorem ggX10_fall_X10_layRow : GoodIn wsX10_fall wsX10_layRow := goodIn_r _ [16, 17, 18, 19, 20, 21, 22, 23, 5, 24, 25, 26, 27, 28, 29, 30, 1, 7, 8, 9, 31, 32, 33, 34, 64, 65, 66, 67, 68, 69, 70, 71, 72, 73, 74, 75, 76, 77, 78, 79, 80, 81, 82, 83, 84, 85, 86, 87, 88, 89, 90, 91, 92, 93, 94, 95, 96, 97] (by decide +kernel) (by decide +kernel)
set_option maxRecDepth 20000 in
theorem gX10_fall_X10_layRow : GoodIn wsX10_fall (wsV RX10 159 RX10 yX10_layRow wsX10_layRow) := goodIn_app (goodIn_of _ (by decide +kernel)) ggX10_fall_X10_layRow
set_option maxRecDepth 20000 in
theorem ggX10_fall_X10_layFalls : GoodIn wsX10_fall wsX10_layFalls := goodIn_r _ [38, 2, 17, 39, 40, 41, 42, 5, 43, 44, 20, 45, 46, 18, 47, 48, 49, 50, 51, 52, 53, 54, 55, 56, 57, 58, 59, 60, 61, 62, 63, 64, 65, 66, 67, 68, 69, 70, 71, 72, 73, 74, 75, 76, 77, 78, 79, 80, 81, 82, 83, 84, 85, 86, 87, 88, 89, 90, 91, 92, 93, 94, 95, 96, 97] (by decide +kernel) (by decide +kernel)
set_option maxRecDepth 20000 in
theorem gX10_fall_X10_layFalls : GoodIn wsX10_fall (wsV RX10 172 RX10 yX10_layFalls wsX10_layFalls) := goodIn_app (goodIn_of _ (by decide +kernel)) ggX10_fall_X10_layFalls
theorem dX10_fall_0 : decode cX10_fall 0 = .ok (.aload_n 0, 1) := by decide +kernel
theorem dX10_fall_1 : decode cX10_fall 1 = .ok (.iconst 0, 1) := by decide +kernel
theorem dX10_fall_2 : decode cX10_fall 2 = .ok (.putfield 80, 3) := by decide +kernel
theorem dX10_fall_5 : decode cX10_fall 5 = .ok (.iload_n 1, 1) := by decide +kernel
theorem dX10_fall_6 : decode cX10_fall 6 = .ok (.invokestatic 96, 3) := by decide +kernel
theorem dX10_fall_9 : decode cX10_fall 9 = .ok (.ifCond .eq 9, 3) := by decide +kernel
theorem dX10_fall_12 : decode cX10_fall 12 = .ok (.iload 5, 2) := by decide +kernel
theorem dX10_fall_14 : decode cX10_fall 14 = .ok (.iconst (-1), 1) := by decide +kernel
theorem dX10_fall_15 : decode cX10_fall 15 = .ok (.if_icmp .ge 5, 3) := by decide +kernel
theorem dX10_fall_18 : decode cX10_fall 18 = .ok (.iconst (-1), 1) := by decide +kernel
theorem dX10_fall_19 : decode cX10_fall 19 = .ok (.ireturn, 1) := by decide +kernel
theorem dX10_fall_20 : decode cX10_fall 20 = .ok (.iload_n 2, 1) := by decide +kernel
theorem dX10_fall_21 : decode cX10_fall 21 = .ok (.invokestatic 100, 3) := by decide +kernel
theorem dX10_fall_24 : decode cX10_fall 24 = .ok (.ifCond .ne 6, 3) := by decide +kernel
theorem dX10_fall_27 : decode cX10_fall 27 = .ok (.bipush (-2), 2) := by decide +kernel
theorem dX10_fall_29 : decode cX10_fall 29 = .ok (.ireturn, 1) := by decide +kernel
theorem dX10_fall_30 : decode cX10_fall 30 = .ok (.aload_n 0, 1) := by decide +kernel
theorem dX10_fall_31 : decode cX10_fall 31 = .ok (.iload_n 1, 1) := by decide +kernel
theorem dX10_fall_32 : decode cX10_fall 32 = .ok (.iload_n 2, 1) := by decide +kernel
theorem dX10_fall_33 : decode cX10_fall 33 = .ok (.iload_n 3, 1) := by decide +kernel
theorem dX10_fall_34 : decode cX10_fall 34 = .ok (.iload 4, 2) := by decide +kernel
theorem dX10_fall_36 : decode cX10_fall 36 = .ok (.invokevirtual 159, 3) := by decide +kernel
theorem dX10_fall_39 : decode cX10_fall 39 = .ok (.istore 6, 2) := by decide +kernel
theorem dX10_fall_41 : decode cX10_fall 41 = .ok (.iload 6, 2) := by decide +kernel
theorem dX10_fall_43 : decode cX10_fall 43 = .ok (.ifCond .eq 6, 3) := by decide +kernel
theorem dX10_fall_46 : decode cX10_fall 46 = .ok (.iload 6, 2) := by decide +kernel
theorem dX10_fall_48 : decode cX10_fall 48 = .ok (.ireturn, 1) := by decide +kernel
theorem dX10_fall_49 : decode cX10_fall 49 = .ok (.aload_n 0, 1) := by decide +kernel
theorem dX10_fall_50 : decode cX10_fall 50 = .ok (.invokevirtual 172, 3) := by decide +kernel
theorem dX10_fall_53 : decode cX10_fall 53 = .ok (.istore 7, 2) := by decide +kernel
theorem dX10_fall_55 : decode cX10_fall 55 = .ok (.iload 5, 2) := by decide +kernel
theorem dX10_fall_57 : decode cX10_fall 57 = .ok (.iconst (-1), 1) := by decide +kernel
theorem dX10_fall_58 : decode cX10_fall 58 = .ok (.if_icmp .ne 6, 3) := by decide +kernel
theorem dX10_fall_61 : decode cX10_fall 61 = .ok (.iload 7, 2) := by decide +kernel
theorem dX10_fall_63 : decode cX10_fall 63 = .ok (.ireturn, 1) := by decide +kernel
theorem dX10_fall_64 : decode cX10_fall 64 = .ok (.iload 5, 2) := by decide +kernel
theorem dX10_fall_66 : decode cX10_fall 66 = .ok (.istore 8, 2) := by decide +kernel
theorem dX10_fall_68 : decode cX10_fall 68 = .ok (.iconst 0, 1) := by decide +kernel
theorem dX10_fall_69 : decode cX10_fall 69 = .ok (.istore 9, 2) := by decide +kernel
theorem dX10_fall_71 : decode cX10_fall 71 = .ok (.iload 9, 2) := by decide +kernel
theorem dX10_fall_73 : decode cX10_fall 73 = .ok (.sipush 1800, 3) := by decide +kernel
theorem dX10_fall_76 : decode cX10_fall 76 = .ok (.if_icmp .ge 42, 3) := by decide +kernel
theorem dX10_fall_79 : decode cX10_fall 79 = .ok (.aload_n 0, 1) := by decide +kernel
theorem dX10_fall_80 : decode cX10_fall 80 = .ok (.getfield 61, 3) := by decide +kernel
theorem dX10_fall_83 : decode cX10_fall 83 = .ok (.iload 9, 2) := by decide +kernel
theorem dX10_fall_85 : decode cX10_fall 85 = .ok (.baload, 1) := by decide +kernel
theorem dX10_fall_86 : decode cX10_fall 86 = .ok (.ifCond .eq 26, 3) := by decide +kernel
theorem dX10_fall_89 : decode cX10_fall 89 = .ok (.iload 8, 2) := by decide +kernel
theorem dX10_fall_91 : decode cX10_fall 91 = .ok (.ifCond .ne 18, 3) := by decide +kernel
theorem dX10_fall_94 : decode cX10_fall 94 = .ok (.bipush 10, 2) := by decide +kernel
theorem dX10_fall_96 : decode cX10_fall 96 = .ok (.iload 9, 2) := by decide +kernel
theorem dX10_fall_98 : decode cX10_fall 98 = .ok (.bipush 6, 2) := by decide +kernel
theorem dX10_fall_100 : decode cX10_fall 100 = .ok (.idiv, 1) := by decide +kernel
theorem dX10_fall_101 : decode cX10_fall 101 = .ok (.imul, 1) := by decide +kernel
theorem dX10_fall_102 : decode cX10_fall 102 = .ok (.iload 9, 2) := by decide +kernel
theorem dX10_fall_104 : decode cX10_fall 104 = .ok (.bipush 6, 2) := by decide +kernel
theorem dX10_fall_106 : decode cX10_fall 106 = .ok (.irem, 1) := by decide +kernel
theorem dX10_fall_107 : decode cX10_fall 107 = .ok (.iadd, 1) := by decide +kernel
theorem dX10_fall_108 : decode cX10_fall 108 = .ok (.ireturn, 1) := by decide +kernel
theorem dX10_fall_109 : decode cX10_fall 109 = .ok (.iinc 8 (-1), 3) := by decide +kernel
theorem dX10_fall_112 : decode cX10_fall 112 = .ok (.iinc 9 1, 3) := by decide +kernel
theorem dX10_fall_115 : decode cX10_fall 115 = .ok (.goto (-44), 3) := by decide +kernel
theorem dX10_fall_118 : decode cX10_fall 118 = .ok (.bipush (-9), 2) := by decide +kernel
theorem dX10_fall_120 : decode cX10_fall 120 = .ok (.ireturn, 1) := by decide +kernel
set_option maxRecDepth 20000 in
theorem ggX10_nail_X10_isSheet : GoodIn wsX10_nail wsX10_isSheet := goodIn_r _ [9, 10, 11, 8, 12] (by decide +kernel) (by decide +kernel)
set_option maxRecDepth 20000 in
theorem gX10_nail_X10_isSheet : GoodIn wsX10_nail (va_wsS RX10 96 yX10_isSheet wsX10_isSheet) := goodIn_app (goodIn_of _ (by decide +kernel)) ggX10_nail_X10_isSheet
set_option maxRecDepth 20000 in
theorem ggX10_nail_X10_isSort : GoodIn wsX10_nail wsX10_isSort := goodIn_r _ [15, 10, 11, 8, 12] (by decide +kernel) (by decide +kernel)
set_option maxRecDepth 20000 in
theorem gX10_nail_X10_isSort : GoodIn wsX10_nail (va_wsS RX10 100 yX10_isSort wsX10_isSort) := goodIn_app (goodIn_of _ (by decide +kernel)) ggX10_nail_X10_isSort
set_option maxRecDepth 20000 in
theorem ggX10_nail_X10_within : GoodIn wsX10_nail wsX10_within := goodIn_r _ [12] (by decide +kernel) (by decide +kernel)
set_option maxRecDepth 20000 in
theorem gX10_nail_X10_within : GoodIn wsX10_nail (va_wsS RX10 86 yX10_within wsX10_within) := goodIn_app (goodIn_of _ (by decide +kernel)) ggX10_nail_X10_within
end
section
set_option maxRecDepth 20000 in
theorem ggX10_nail_X10_layRow : GoodIn wsX10_nail wsX10_layRow := goodIn_r _ [19, 20, 21, 22, 23, 24, 25, 26, 8, 27, 28, 29, 30, 31, 32, 33, 1, 10, 11, 12, 34, 35, 36, 37, 47, 48, 49, 50, 51, 52, 53, 54, 55, 56, 57, 58, 59, 60, 61, 62, 63, 64, 65, 66, 67, 68, 69, 70, 71, 72, 73, 74, 75, 76, 77, 78, 79, 80] (by decide +kernel) (by decide +kernel)
set_option maxRecDepth 20000 in
theorem gX10_nail_X10_layRow : GoodIn wsX10_nail (wsV RX10 159 RX10 yX10_layRow wsX10_layRow) := goodIn_app (goodIn_of _ (by decide +kernel)) ggX10_nail_X10_layRow
set_option maxRecDepth 20000 in
theorem ggX10_nail_X10_layComings : GoodIn wsX10_nail wsX10_layComings := goodIn_r _ [41, 2, 23, 42, 43, 21, 4, 3, 5, 44, 45, 8, 46, 47, 48, 49, 50, 51, 52, 53, 54, 55, 56, 57, 58, 59, 60, 61, 62, 63, 64, 65, 66, 67, 68, 69, 70, 71, 72, 73, 74, 75, 76, 77, 78, 79, 80] (by decide +kernel) (by decide +kernel)
set_option maxRecDepth 20000 in
theorem gX10_nail_X10_layComings : GoodIn wsX10_nail (wsV RX10 151 RX10 yX10_layComings wsX10_layComings) := goodIn_app (goodIn_of _ (by decide +kernel)) ggX10_nail_X10_layComings
theorem dX10_nail_0 : decode cX10_nail 0 = .ok (.aload_n 0, 1) := by decide +kernel
theorem dX10_nail_1 : decode cX10_nail 1 = .ok (.iconst 0, 1) := by decide +kernel
theorem dX10_nail_2 : decode cX10_nail 2 = .ok (.putfield 80, 3) := by decide +kernel
theorem dX10_nail_5 : decode cX10_nail 5 = .ok (.iload_n 1, 1) := by decide +kernel
theorem dX10_nail_6 : decode cX10_nail 6 = .ok (.invokestatic 96, 3) := by decide +kernel
theorem dX10_nail_9 : decode cX10_nail 9 = .ok (.ifCond .ne 5, 3) := by decide +kernel
theorem dX10_nail_12 : decode cX10_nail 12 = .ok (.iconst (-1), 1) := by decide +kernel
theorem dX10_nail_13 : decode cX10_nail 13 = .ok (.ireturn, 1) := by decide +kernel
theorem dX10_nail_14 : decode cX10_nail 14 = .ok (.iload_n 2, 1) := by decide +kernel
theorem dX10_nail_15 : decode cX10_nail 15 = .ok (.invokestatic 100, 3) := by decide +kernel
theorem dX10_nail_18 : decode cX10_nail 18 = .ok (.ifCond .eq 15, 3) := by decide +kernel
theorem dX10_nail_21 : decode cX10_nail 21 = .ok (.iload 5, 2) := by decide +kernel
theorem dX10_nail_23 : decode cX10_nail 23 = .ok (.iconst 0, 1) := by decide +kernel
theorem dX10_nail_24 : decode cX10_nail 24 = .ok (.sipush 299, 3) := by decide +kernel
theorem dX10_nail_27 : decode cX10_nail 27 = .ok (.invokestatic 86, 3) := by decide +kernel
theorem dX10_nail_30 : decode cX10_nail 30 = .ok (.ifCond .ne 6, 3) := by decide +kernel
theorem dX10_nail_33 : decode cX10_nail 33 = .ok (.bipush (-2), 2) := by decide +kernel
theorem dX10_nail_35 : decode cX10_nail 35 = .ok (.ireturn, 1) := by decide +kernel
theorem dX10_nail_36 : decode cX10_nail 36 = .ok (.aload_n 0, 1) := by decide +kernel
theorem dX10_nail_37 : decode cX10_nail 37 = .ok (.iload_n 1, 1) := by decide +kernel
theorem dX10_nail_38 : decode cX10_nail 38 = .ok (.iload_n 2, 1) := by decide +kernel
theorem dX10_nail_39 : decode cX10_nail 39 = .ok (.iload_n 3, 1) := by decide +kernel
theorem dX10_nail_40 : decode cX10_nail 40 = .ok (.iload 4, 2) := by decide +kernel
theorem dX10_nail_42 : decode cX10_nail 42 = .ok (.invokevirtual 159, 3) := by decide +kernel
theorem dX10_nail_45 : decode cX10_nail 45 = .ok (.istore 6, 2) := by decide +kernel
theorem dX10_nail_47 : decode cX10_nail 47 = .ok (.iload 6, 2) := by decide +kernel
theorem dX10_nail_49 : decode cX10_nail 49 = .ok (.ifCond .eq 6, 3) := by decide +kernel
theorem dX10_nail_52 : decode cX10_nail 52 = .ok (.iload 6, 2) := by decide +kernel
theorem dX10_nail_54 : decode cX10_nail 54 = .ok (.ireturn, 1) := by decide +kernel
theorem dX10_nail_55 : decode cX10_nail 55 = .ok (.aload_n 0, 1) := by decide +kernel
theorem dX10_nail_56 : decode cX10_nail 56 = .ok (.sipush 300, 3) := by decide +kernel
theorem dX10_nail_59 : decode cX10_nail 59 = .ok (.sipush 400, 3) := by decide +kernel
theorem dX10_nail_62 : decode cX10_nail 62 = .ok (.invokevirtual 151, 3) := by decide +kernel
theorem dX10_nail_65 : decode cX10_nail 65 = .ok (.bipush (-9), 2) := by decide +kernel
theorem dX10_nail_67 : decode cX10_nail 67 = .ok (.istore 7, 2) := by decide +kernel
theorem dX10_nail_69 : decode cX10_nail 69 = .ok (.iconst 0, 1) := by decide +kernel
theorem dX10_nail_70 : decode cX10_nail 70 = .ok (.istore 8, 2) := by decide +kernel
theorem dX10_nail_72 : decode cX10_nail 72 = .ok (.iload 8, 2) := by decide +kernel
theorem dX10_nail_74 : decode cX10_nail 74 = .ok (.aload_n 0, 1) := by decide +kernel
theorem dX10_nail_75 : decode cX10_nail 75 = .ok (.getfield 142, 3) := by decide +kernel
theorem dX10_nail_78 : decode cX10_nail 78 = .ok (.if_icmp .ge 59, 3) := by decide +kernel
theorem dX10_nail_81 : decode cX10_nail 81 = .ok (.aload_n 0, 1) := by decide +kernel
theorem dX10_nail_82 : decode cX10_nail 82 = .ok (.getfield 55, 3) := by decide +kernel
theorem dX10_nail_85 : decode cX10_nail 85 = .ok (.iload 8, 2) := by decide +kernel
theorem dX10_nail_87 : decode cX10_nail 87 = .ok (.iaload, 1) := by decide +kernel
theorem dX10_nail_88 : decode cX10_nail 88 = .ok (.istore 9, 2) := by decide +kernel
theorem dX10_nail_90 : decode cX10_nail 90 = .ok (.aload_n 0, 1) := by decide +kernel
theorem dX10_nail_91 : decode cX10_nail 91 = .ok (.getfield 52, 3) := by decide +kernel
theorem dX10_nail_94 : decode cX10_nail 94 = .ok (.iload 8, 2) := by decide +kernel
theorem dX10_nail_96 : decode cX10_nail 96 = .ok (.iaload, 1) := by decide +kernel
theorem dX10_nail_97 : decode cX10_nail 97 = .ok (.iload 5, 2) := by decide +kernel
theorem dX10_nail_99 : decode cX10_nail 99 = .ok (.if_icmp .gt 28, 3) := by decide +kernel
theorem dX10_nail_102 : decode cX10_nail 102 = .ok (.iload 5, 2) := by decide +kernel
theorem dX10_nail_104 : decode cX10_nail 104 = .ok (.aload_n 0, 1) := by decide +kernel
theorem dX10_nail_105 : decode cX10_nail 105 = .ok (.getfield 52, 3) := by decide +kernel
theorem dX10_nail_108 : decode cX10_nail 108 = .ok (.iload 8, 2) := by decide +kernel
theorem dX10_nail_110 : decode cX10_nail 110 = .ok (.iaload, 1) := by decide +kernel
theorem dX10_nail_111 : decode cX10_nail 111 = .ok (.aload_n 0, 1) := by decide +kernel
theorem dX10_nail_112 : decode cX10_nail 112 = .ok (.getfield 25, 3) := by decide +kernel
theorem dX10_nail_115 : decode cX10_nail 115 = .ok (.iload 9, 2) := by decide +kernel
theorem dX10_nail_117 : decode cX10_nail 117 = .ok (.iaload, 1) := by decide +kernel
theorem dX10_nail_118 : decode cX10_nail 118 = .ok (.iadd, 1) := by decide +kernel
theorem dX10_nail_119 : decode cX10_nail 119 = .ok (.if_icmp .ge 8, 3) := by decide +kernel
theorem dX10_nail_122 : decode cX10_nail 122 = .ok (.iload 9, 2) := by decide +kernel
theorem dX10_nail_124 : decode cX10_nail 124 = .ok (.goto 5, 3) := by decide +kernel
theorem dX10_nail_127 : decode cX10_nail 127 = .ok (.iload 7, 2) := by decide +kernel
theorem dX10_nail_129 : decode cX10_nail 129 = .ok (.istore 7, 2) := by decide +kernel
theorem dX10_nail_131 : decode cX10_nail 131 = .ok (.iinc 8 1, 3) := by decide +kernel
theorem dX10_nail_134 : decode cX10_nail 134 = .ok (.goto (-62), 3) := by decide +kernel
theorem dX10_nail_137 : decode cX10_nail 137 = .ok (.iload 7, 2) := by decide +kernel
theorem dX10_nail_139 : decode cX10_nail 139 = .ok (.ireturn, 1) := by decide +kernel
theorem dX10_firstOrder_0 : decode cX10_firstOrder 0 = .ok (.aload_n 0, 1) := by decide +kernel
theorem dX10_firstOrder_1 : decode cX10_firstOrder 1 = .ok (.iconst 0, 1) := by decide +kernel
theorem dX10_firstOrder_2 : decode cX10_firstOrder 2 = .ok (.putfield 145, 3) := by decide +kernel
theorem dX10_firstOrder_5 : decode cX10_firstOrder 5 = .ok (.iconst 0, 1) := by decide +kernel
theorem dX10_firstOrder_6 : decode cX10_firstOrder 6 = .ok (.istore_n 2, 1) := by decide +kernel
theorem dX10_firstOrder_7 : decode cX10_firstOrder 7 = .ok (.iload_n 2, 1) := by decide +kernel
theorem dX10_firstOrder_8 : decode cX10_firstOrder 8 = .ok (.aload_n 0, 1) := by decide +kernel
theorem dX10_firstOrder_9 : decode cX10_firstOrder 9 = .ok (.getfield 90, 3) := by decide +kernel
theorem dX10_firstOrder_12 : decode cX10_firstOrder 12 = .ok (.if_icmp .ge 38, 3) := by decide +kernel
theorem dX10_firstOrder_15 : decode cX10_firstOrder 15 = .ok (.iload_n 1, 1) := by decide +kernel
theorem dX10_firstOrder_16 : decode cX10_firstOrder 16 = .ok (.iload_n 2, 1) := by decide +kernel
theorem dX10_firstOrder_17 : decode cX10_firstOrder 17 = .ok (.ishr, 1) := by decide +kernel
theorem dX10_firstOrder_18 : decode cX10_firstOrder 18 = .ok (.iconst 1, 1) := by decide +kernel
theorem dX10_firstOrder_19 : decode cX10_firstOrder 19 = .ok (.iand, 1) := by decide +kernel
theorem dX10_firstOrder_20 : decode cX10_firstOrder 20 = .ok (.iconst 1, 1) := by decide +kernel
theorem dX10_firstOrder_21 : decode cX10_firstOrder 21 = .ok (.if_icmp .ne 23, 3) := by decide +kernel
theorem dX10_firstOrder_24 : decode cX10_firstOrder 24 = .ok (.aload_n 0, 1) := by decide +kernel
theorem dX10_firstOrder_25 : decode cX10_firstOrder 25 = .ok (.getfield 49, 3) := by decide +kernel
theorem dX10_firstOrder_28 : decode cX10_firstOrder 28 = .ok (.aload_n 0, 1) := by decide +kernel
theorem dX10_firstOrder_29 : decode cX10_firstOrder 29 = .ok (.getfield 145, 3) := by decide +kernel
theorem dX10_firstOrder_32 : decode cX10_firstOrder 32 = .ok (.iload_n 2, 1) := by decide +kernel
theorem dX10_firstOrder_33 : decode cX10_firstOrder 33 = .ok (.iastore, 1) := by decide +kernel
theorem dX10_firstOrder_34 : decode cX10_firstOrder 34 = .ok (.aload_n 0, 1) := by decide +kernel
theorem dX10_firstOrder_35 : decode cX10_firstOrder 35 = .ok (.dup, 1) := by decide +kernel
theorem dX10_firstOrder_36 : decode cX10_firstOrder 36 = .ok (.getfield 145, 3) := by decide +kernel
theorem dX10_firstOrder_39 : decode cX10_firstOrder 39 = .ok (.iconst 1, 1) := by decide +kernel
theorem dX10_firstOrder_40 : decode cX10_firstOrder 40 = .ok (.iadd, 1) := by decide +kernel
theorem dX10_firstOrder_41 : decode cX10_firstOrder 41 = .ok (.putfield 145, 3) := by decide +kernel
theorem dX10_firstOrder_44 : decode cX10_firstOrder 44 = .ok (.iinc 2 1, 3) := by decide +kernel
theorem dX10_firstOrder_47 : decode cX10_firstOrder 47 = .ok (.goto (-40), 3) := by decide +kernel
theorem dX10_firstOrder_50 : decode cX10_firstOrder 50 = .ok (.return_, 1) := by decide +kernel
theorem dX10_change_0 : decode cX10_change 0 = .ok (.aload_n 0, 1) := by decide +kernel
theorem dX10_change_1 : decode cX10_change 1 = .ok (.getfield 49, 3) := by decide +kernel
theorem dX10_change_4 : decode cX10_change 4 = .ok (.iload_n 1, 1) := by decide +kernel
theorem dX10_change_5 : decode cX10_change 5 = .ok (.iaload, 1) := by decide +kernel
theorem dX10_change_6 : decode cX10_change 6 = .ok (.istore_n 3, 1) := by decide +kernel
theorem dX10_change_7 : decode cX10_change 7 = .ok (.aload_n 0, 1) := by decide +kernel
theorem dX10_change_8 : decode cX10_change 8 = .ok (.getfield 49, 3) := by decide +kernel
theorem dX10_change_11 : decode cX10_change 11 = .ok (.iload_n 1, 1) := by decide +kernel
theorem dX10_change_12 : decode cX10_change 12 = .ok (.aload_n 0, 1) := by decide +kernel
theorem dX10_change_13 : decode cX10_change 13 = .ok (.getfield 49, 3) := by decide +kernel
theorem dX10_change_16 : decode cX10_change 16 = .ok (.iload_n 2, 1) := by decide +kernel
theorem dX10_change_17 : decode cX10_change 17 = .ok (.iaload, 1) := by decide +kernel
theorem dX10_change_18 : decode cX10_change 18 = .ok (.iastore, 1) := by decide +kernel
theorem dX10_change_19 : decode cX10_change 19 = .ok (.aload_n 0, 1) := by decide +kernel
theorem dX10_change_20 : decode cX10_change 20 = .ok (.getfield 49, 3) := by decide +kernel
theorem dX10_change_23 : decode cX10_change 23 = .ok (.iload_n 2, 1) := by decide +kernel
theorem dX10_change_24 : decode cX10_change 24 = .ok (.iload_n 3, 1) := by decide +kernel
theorem dX10_change_25 : decode cX10_change 25 = .ok (.iastore, 1) := by decide +kernel
theorem dX10_change_26 : decode cX10_change 26 = .ok (.return_, 1) := by decide +kernel
set_option maxRecDepth 20000 in
theorem ggX10_nextOrder_X10_change : GoodIn wsX10_nextOrder wsX10_change := goodIn_r _ [7, 2, 8, 9, 10, 11, 12, 13, 14, 15, 16, 17, 18, 19, 20, 21, 22, 23, 24, 25, 26, 27, 28, 29, 30, 31, 32, 33, 34, 35, 36, 37, 38, 39, 40, 41] (by decide +kernel) (by decide +kernel)
set_option maxRecDepth 20000 in
theorem gX10_nextOrder_X10_change : GoodIn wsX10_nextOrder (wsV RX10 175 RX10 yX10_change wsX10_change) := goodIn_app (goodIn_of _ (by decide +kernel)) ggX10_nextOrder_X10_change
theorem dX10_nextOrder_0 : decode cX10_nextOrder 0 = .ok (.aload_n 0, 1) := by decide +kernel
theorem dX10_nextOrder_1 : decode cX10_nextOrder 1 = .ok (.getfield 145, 3) := by decide +kernel
theorem dX10_nextOrder_4 : decode cX10_nextOrder 4 = .ok (.iconst 2, 1) := by decide +kernel
theorem dX10_nextOrder_5 : decode cX10_nextOrder 5 = .ok (.isub, 1) := by decide +kernel
theorem dX10_nextOrder_6 : decode cX10_nextOrder 6 = .ok (.istore_n 1, 1) := by decide +kernel
theorem dX10_nextOrder_7 : decode cX10_nextOrder 7 = .ok (.iload_n 1, 1) := by decide +kernel
theorem dX10_nextOrder_8 : decode cX10_nextOrder 8 = .ok (.ifCond .lt 26, 3) := by decide +kernel
theorem dX10_nextOrder_11 : decode cX10_nextOrder 11 = .ok (.aload_n 0, 1) := by decide +kernel
theorem dX10_nextOrder_12 : decode cX10_nextOrder 12 = .ok (.getfield 49, 3) := by decide +kernel
theorem dX10_nextOrder_15 : decode cX10_nextOrder 15 = .ok (.iload_n 1, 1) := by decide +kernel
theorem dX10_nextOrder_16 : decode cX10_nextOrder 16 = .ok (.iaload, 1) := by decide +kernel
theorem dX10_nextOrder_17 : decode cX10_nextOrder 17 = .ok (.aload_n 0, 1) := by decide +kernel
theorem dX10_nextOrder_18 : decode cX10_nextOrder 18 = .ok (.getfield 49, 3) := by decide +kernel
theorem dX10_nextOrder_21 : decode cX10_nextOrder 21 = .ok (.iload_n 1, 1) := by decide +kernel
theorem dX10_nextOrder_22 : decode cX10_nextOrder 22 = .ok (.iconst 1, 1) := by decide +kernel
theorem dX10_nextOrder_23 : decode cX10_nextOrder 23 = .ok (.iadd, 1) := by decide +kernel
theorem dX10_nextOrder_24 : decode cX10_nextOrder 24 = .ok (.iaload, 1) := by decide +kernel
theorem dX10_nextOrder_25 : decode cX10_nextOrder 25 = .ok (.if_icmp .le 9, 3) := by decide +kernel
theorem dX10_nextOrder_28 : decode cX10_nextOrder 28 = .ok (.iinc 1 (-1), 3) := by decide +kernel
theorem dX10_nextOrder_31 : decode cX10_nextOrder 31 = .ok (.goto (-24), 3) := by decide +kernel
theorem dX10_nextOrder_34 : decode cX10_nextOrder 34 = .ok (.iload_n 1, 1) := by decide +kernel
theorem dX10_nextOrder_35 : decode cX10_nextOrder 35 = .ok (.ifCond .ge 5, 3) := by decide +kernel
theorem dX10_nextOrder_38 : decode cX10_nextOrder 38 = .ok (.iconst 0, 1) := by decide +kernel
theorem dX10_nextOrder_39 : decode cX10_nextOrder 39 = .ok (.ireturn, 1) := by decide +kernel
theorem dX10_nextOrder_40 : decode cX10_nextOrder 40 = .ok (.aload_n 0, 1) := by decide +kernel
theorem dX10_nextOrder_41 : decode cX10_nextOrder 41 = .ok (.getfield 145, 3) := by decide +kernel
theorem dX10_nextOrder_44 : decode cX10_nextOrder 44 = .ok (.iconst 1, 1) := by decide +kernel
theorem dX10_nextOrder_45 : decode cX10_nextOrder 45 = .ok (.isub, 1) := by decide +kernel
theorem dX10_nextOrder_46 : decode cX10_nextOrder 46 = .ok (.istore_n 2, 1) := by decide +kernel
theorem dX10_nextOrder_47 : decode cX10_nextOrder 47 = .ok (.aload_n 0, 1) := by decide +kernel
theorem dX10_nextOrder_48 : decode cX10_nextOrder 48 = .ok (.getfield 49, 3) := by decide +kernel
theorem dX10_nextOrder_51 : decode cX10_nextOrder 51 = .ok (.iload_n 2, 1) := by decide +kernel
theorem dX10_nextOrder_52 : decode cX10_nextOrder 52 = .ok (.iaload, 1) := by decide +kernel
theorem dX10_nextOrder_53 : decode cX10_nextOrder 53 = .ok (.aload_n 0, 1) := by decide +kernel
theorem dX10_nextOrder_54 : decode cX10_nextOrder 54 = .ok (.getfield 49, 3) := by decide +kernel
theorem dX10_nextOrder_57 : decode cX10_nextOrder 57 = .ok (.iload_n 1, 1) := by decide +kernel
theorem dX10_nextOrder_58 : decode cX10_nextOrder 58 = .ok (.iaload, 1) := by decide +kernel
theorem dX10_nextOrder_59 : decode cX10_nextOrder 59 = .ok (.if_icmp .ge 9, 3) := by decide +kernel
theorem dX10_nextOrder_62 : decode cX10_nextOrder 62 = .ok (.iinc 2 (-1), 3) := by decide +kernel
theorem dX10_nextOrder_65 : decode cX10_nextOrder 65 = .ok (.goto (-18), 3) := by decide +kernel
theorem dX10_nextOrder_68 : decode cX10_nextOrder 68 = .ok (.aload_n 0, 1) := by decide +kernel
theorem dX10_nextOrder_69 : decode cX10_nextOrder 69 = .ok (.iload_n 1, 1) := by decide +kernel
theorem dX10_nextOrder_70 : decode cX10_nextOrder 70 = .ok (.iload_n 2, 1) := by decide +kernel
theorem dX10_nextOrder_71 : decode cX10_nextOrder 71 = .ok (.invokevirtual 175, 3) := by decide +kernel
theorem dX10_nextOrder_74 : decode cX10_nextOrder 74 = .ok (.iload_n 1, 1) := by decide +kernel
theorem dX10_nextOrder_75 : decode cX10_nextOrder 75 = .ok (.iconst 1, 1) := by decide +kernel
theorem dX10_nextOrder_76 : decode cX10_nextOrder 76 = .ok (.iadd, 1) := by decide +kernel
theorem dX10_nextOrder_77 : decode cX10_nextOrder 77 = .ok (.istore_n 3, 1) := by decide +kernel
theorem dX10_nextOrder_78 : decode cX10_nextOrder 78 = .ok (.aload_n 0, 1) := by decide +kernel
theorem dX10_nextOrder_79 : decode cX10_nextOrder 79 = .ok (.getfield 145, 3) := by decide +kernel
theorem dX10_nextOrder_82 : decode cX10_nextOrder 82 = .ok (.iconst 1, 1) := by decide +kernel
theorem dX10_nextOrder_83 : decode cX10_nextOrder 83 = .ok (.isub, 1) := by decide +kernel
theorem dX10_nextOrder_84 : decode cX10_nextOrder 84 = .ok (.istore 4, 2) := by decide +kernel
theorem dX10_nextOrder_86 : decode cX10_nextOrder 86 = .ok (.iload_n 3, 1) := by decide +kernel
theorem dX10_nextOrder_87 : decode cX10_nextOrder 87 = .ok (.iload 4, 2) := by decide +kernel
theorem dX10_nextOrder_89 : decode cX10_nextOrder 89 = .ok (.if_icmp .ge 19, 3) := by decide +kernel
theorem dX10_nextOrder_92 : decode cX10_nextOrder 92 = .ok (.aload_n 0, 1) := by decide +kernel
theorem dX10_nextOrder_93 : decode cX10_nextOrder 93 = .ok (.iload_n 3, 1) := by decide +kernel
theorem dX10_nextOrder_94 : decode cX10_nextOrder 94 = .ok (.iload 4, 2) := by decide +kernel
theorem dX10_nextOrder_96 : decode cX10_nextOrder 96 = .ok (.invokevirtual 175, 3) := by decide +kernel
theorem dX10_nextOrder_99 : decode cX10_nextOrder 99 = .ok (.iinc 3 1, 3) := by decide +kernel
theorem dX10_nextOrder_102 : decode cX10_nextOrder 102 = .ok (.iinc 4 (-1), 3) := by decide +kernel
theorem dX10_nextOrder_105 : decode cX10_nextOrder 105 = .ok (.goto (-19), 3) := by decide +kernel
theorem dX10_nextOrder_108 : decode cX10_nextOrder 108 = .ok (.iconst 1, 1) := by decide +kernel
theorem dX10_nextOrder_109 : decode cX10_nextOrder 109 = .ok (.ireturn, 1) := by decide +kernel
set_option maxRecDepth 20000 in
theorem ggX10_leastHarm_X10_firstOrder : GoodIn wsX10_leastHarm wsX10_firstOrder := goodIn_r _ [8, 1, 9, 3, 48, 49, 50, 51, 52, 53, 54, 55, 56, 57, 58, 59, 60, 61, 62, 63, 64, 65, 66, 67, 68, 69, 70, 71, 72, 73, 74, 75, 76, 77, 78, 79, 80, 81] (by decide +kernel) (by decide +kernel)
set_option maxRecDepth 20000 in
theorem gX10_leastHarm_X10_firstOrder : GoodIn wsX10_leastHarm (wsV RX10 178 RX10 yX10_firstOrder wsX10_firstOrder) := goodIn_app (goodIn_of _ (by decide +kernel)) ggX10_leastHarm_X10_firstOrder
set_option maxRecDepth 20000 in
theorem ggX10_leastHarm_X10_harmOf : GoodIn wsX10_leastHarm wsX10_harmOf := goodIn_r _ [13, 9, 14, 15, 16, 17, 7, 18, 19, 1, 20, 21, 3, 22, 23, 24, 25, 26, 27, 28, 29, 30, 31, 32, 33, 34, 35, 36, 37, 38, 39, 48, 49, 50, 51, 52, 53, 54, 55, 56, 57, 58, 59, 60, 61, 62, 63, 64, 65, 66, 67, 68, 69, 70, 71, 72, 73, 74, 75, 76, 77, 78, 79, 80, 81] (by decide +kernel) (by decide +kernel)
set_option maxRecDepth 20000 in
theorem gX10_leastHarm_X10_harmOf : GoodIn wsX10_leastHarm (wsV RX10 166 RX10 yX10_harmOf wsX10_harmOf) := goodIn_app (goodIn_of _ (by decide +kernel)) ggX10_leastHarm_X10_harmOf
set_option maxRecDepth 20000 in
theorem ggX10_leastHarm_X10_nextOrder : GoodIn wsX10_leastHarm wsX10_nextOrder := goodIn_r _ [43, 1, 3, 44, 45, 46, 7, 47, 48, 49, 50, 51, 52, 53, 54, 55, 56, 57, 58, 59, 60, 61, 62, 63, 64, 65, 66, 67, 68, 69, 70, 71, 72, 73, 74, 75, 76, 77, 78, 79, 80, 81] (by decide +kernel) (by decide +kernel)
set_option maxRecDepth 20000 in
theorem gX10_leastHarm_X10_nextOrder : GoodIn wsX10_leastHarm (wsV RX10 182 RX10 yX10_nextOrder wsX10_nextOrder) := goodIn_app (goodIn_of _ (by decide +kernel)) ggX10_leastHarm_X10_nextOrder
theorem dX10_leastHarm_0 : decode cX10_leastHarm 0 = .ok (.aload_n 0, 1) := by decide +kernel
theorem dX10_leastHarm_1 : decode cX10_leastHarm 1 = .ok (.iload_n 1, 1) := by decide +kernel
theorem dX10_leastHarm_2 : decode cX10_leastHarm 2 = .ok (.invokevirtual 178, 3) := by decide +kernel
theorem dX10_leastHarm_5 : decode cX10_leastHarm 5 = .ok (.bipush (-9), 2) := by decide +kernel
theorem dX10_leastHarm_7 : decode cX10_leastHarm 7 = .ok (.istore_n 3, 1) := by decide +kernel
theorem dX10_leastHarm_8 : decode cX10_leastHarm 8 = .ok (.iconst 1, 1) := by decide +kernel
theorem dX10_leastHarm_9 : decode cX10_leastHarm 9 = .ok (.istore 4, 2) := by decide +kernel
theorem dX10_leastHarm_11 : decode cX10_leastHarm 11 = .ok (.iload 4, 2) := by decide +kernel
theorem dX10_leastHarm_13 : decode cX10_leastHarm 13 = .ok (.ifCond .eq 67, 3) := by decide +kernel
theorem dX10_leastHarm_16 : decode cX10_leastHarm 16 = .ok (.aload_n 0, 1) := by decide +kernel
theorem dX10_leastHarm_17 : decode cX10_leastHarm 17 = .ok (.iload_n 1, 1) := by decide +kernel
theorem dX10_leastHarm_18 : decode cX10_leastHarm 18 = .ok (.iload_n 2, 1) := by decide +kernel
theorem dX10_leastHarm_19 : decode cX10_leastHarm 19 = .ok (.invokevirtual 166, 3) := by decide +kernel
theorem dX10_leastHarm_22 : decode cX10_leastHarm 22 = .ok (.istore 5, 2) := by decide +kernel
theorem dX10_leastHarm_24 : decode cX10_leastHarm 24 = .ok (.iload_n 3, 1) := by decide +kernel
theorem dX10_leastHarm_25 : decode cX10_leastHarm 25 = .ok (.bipush (-9), 2) := by decide +kernel
theorem dX10_leastHarm_27 : decode cX10_leastHarm 27 = .ok (.if_icmp .eq 9, 3) := by decide +kernel
theorem dX10_leastHarm_30 : decode cX10_leastHarm 30 = .ok (.iload 5, 2) := by decide +kernel
theorem dX10_leastHarm_32 : decode cX10_leastHarm 32 = .ok (.iload_n 3, 1) := by decide +kernel
theorem dX10_leastHarm_33 : decode cX10_leastHarm 33 = .ok (.if_icmp .ge 38, 3) := by decide +kernel
theorem dX10_leastHarm_36 : decode cX10_leastHarm 36 = .ok (.iload 5, 2) := by decide +kernel
theorem dX10_leastHarm_38 : decode cX10_leastHarm 38 = .ok (.istore_n 3, 1) := by decide +kernel
theorem dX10_leastHarm_39 : decode cX10_leastHarm 39 = .ok (.iconst 0, 1) := by decide +kernel
theorem dX10_leastHarm_40 : decode cX10_leastHarm 40 = .ok (.istore 6, 2) := by decide +kernel
theorem dX10_leastHarm_42 : decode cX10_leastHarm 42 = .ok (.iload 6, 2) := by decide +kernel
theorem dX10_leastHarm_44 : decode cX10_leastHarm 44 = .ok (.aload_n 0, 1) := by decide +kernel
theorem dX10_leastHarm_45 : decode cX10_leastHarm 45 = .ok (.getfield 145, 3) := by decide +kernel
theorem dX10_leastHarm_48 : decode cX10_leastHarm 48 = .ok (.if_icmp .ge 23, 3) := by decide +kernel
theorem dX10_leastHarm_51 : decode cX10_leastHarm 51 = .ok (.aload_n 0, 1) := by decide +kernel
theorem dX10_leastHarm_52 : decode cX10_leastHarm 52 = .ok (.getfield 65, 3) := by decide +kernel
theorem dX10_leastHarm_55 : decode cX10_leastHarm 55 = .ok (.iload 6, 2) := by decide +kernel
theorem dX10_leastHarm_57 : decode cX10_leastHarm 57 = .ok (.aload_n 0, 1) := by decide +kernel
theorem dX10_leastHarm_58 : decode cX10_leastHarm 58 = .ok (.getfield 49, 3) := by decide +kernel
theorem dX10_leastHarm_61 : decode cX10_leastHarm 61 = .ok (.iload 6, 2) := by decide +kernel
theorem dX10_leastHarm_63 : decode cX10_leastHarm 63 = .ok (.iaload, 1) := by decide +kernel
theorem dX10_leastHarm_64 : decode cX10_leastHarm 64 = .ok (.iastore, 1) := by decide +kernel
theorem dX10_leastHarm_65 : decode cX10_leastHarm 65 = .ok (.iinc 6 1, 3) := by decide +kernel
theorem dX10_leastHarm_68 : decode cX10_leastHarm 68 = .ok (.goto (-26), 3) := by decide +kernel
theorem dX10_leastHarm_71 : decode cX10_leastHarm 71 = .ok (.aload_n 0, 1) := by decide +kernel
theorem dX10_leastHarm_72 : decode cX10_leastHarm 72 = .ok (.invokevirtual 182, 3) := by decide +kernel
theorem dX10_leastHarm_75 : decode cX10_leastHarm 75 = .ok (.istore 4, 2) := by decide +kernel
theorem dX10_leastHarm_77 : decode cX10_leastHarm 77 = .ok (.goto (-66), 3) := by decide +kernel
theorem dX10_leastHarm_80 : decode cX10_leastHarm 80 = .ok (.iload_n 3, 1) := by decide +kernel
theorem dX10_leastHarm_81 : decode cX10_leastHarm 81 = .ok (.ireturn, 1) := by decide +kernel
set_option maxRecDepth 20000 in
theorem ggX10_best_X10_within : GoodIn wsX10_best wsX10_within := goodIn_r _ [6] (by decide +kernel) (by decide +kernel)
set_option maxRecDepth 20000 in
theorem gX10_best_X10_within : GoodIn wsX10_best (va_wsS RX10 86 yX10_within wsX10_within) := goodIn_app (goodIn_of _ (by decide +kernel)) ggX10_best_X10_within
set_option maxRecDepth 20000 in
theorem ggX10_best_X10_all : GoodIn wsX10_best wsX10_all := goodIn_r _ [10, 1, 59, 60, 61, 62, 63, 64, 65, 66, 67, 68, 69, 70, 71, 72, 73, 74, 75, 76, 77, 78, 79, 80, 81, 82, 83, 84, 85, 86, 87, 88, 89, 90, 91, 92] (by decide +kernel) (by decide +kernel)
set_option maxRecDepth 20000 in
theorem gX10_best_X10_all : GoodIn wsX10_best (wsV RX10 162 RX10 yX10_all wsX10_all) := goodIn_app (goodIn_of _ (by decide +kernel)) ggX10_best_X10_all
set_option maxRecDepth 20000 in
theorem ggX10_best_X10_leastHarm : GoodIn wsX10_best wsX10_leastHarm := goodIn_r _ [14, 15, 2, 16, 17, 18, 19, 5, 20, 1, 21, 22, 23, 24, 25, 26, 27, 28, 29, 30, 31, 32, 33, 34, 35, 36, 37, 38, 39, 40, 41, 42, 43, 44, 45, 46, 47, 48, 49, 50, 51, 52, 53, 54, 55, 56, 57, 58, 59, 60, 61, 62, 63, 64, 65, 66, 67, 68, 69, 70, 71, 72, 73, 74, 75, 76, 77, 78, 79, 80, 81, 82, 83, 84, 85, 86, 87, 88, 89, 90, 91, 92] (by decide +kernel) (by decide +kernel)
set_option maxRecDepth 20000 in
theorem gX10_best_X10_leastHarm : GoodIn wsX10_best (wsV RX10 186 RX10 yX10_leastHarm wsX10_leastHarm) := goodIn_app (goodIn_of _ (by decide +kernel)) ggX10_best_X10_leastHarm
theorem dX10_best_0 : decode cX10_best 0 = .ok (.aload_n 0, 1) := by decide +kernel
theorem dX10_best_1 : decode cX10_best 1 = .ok (.getfield 90, 3) := by decide +kernel
theorem dX10_best_4 : decode cX10_best 4 = .ok (.ifCond .ne 6, 3) := by decide +kernel
theorem dX10_best_7 : decode cX10_best 7 = .ok (.bipush (-3), 2) := by decide +kernel
theorem dX10_best_9 : decode cX10_best 9 = .ok (.ireturn, 1) := by decide +kernel
theorem dX10_best_10 : decode cX10_best 10 = .ok (.iload_n 1, 1) := by decide +kernel
theorem dX10_best_11 : decode cX10_best 11 = .ok (.iconst 1, 1) := by decide +kernel
theorem dX10_best_12 : decode cX10_best 12 = .ok (.sipush 300, 3) := by decide +kernel
theorem dX10_best_15 : decode cX10_best 15 = .ok (.invokestatic 86, 3) := by decide +kernel
theorem dX10_best_18 : decode cX10_best 18 = .ok (.ifCond .ne 6, 3) := by decide +kernel
theorem dX10_best_21 : decode cX10_best 21 = .ok (.bipush (-2), 2) := by decide +kernel
theorem dX10_best_23 : decode cX10_best 23 = .ok (.ireturn, 1) := by decide +kernel
theorem dX10_best_24 : decode cX10_best 24 = .ok (.iload_n 2, 1) := by decide +kernel
theorem dX10_best_25 : decode cX10_best 25 = .ok (.iconst (-1), 1) := by decide +kernel
theorem dX10_best_26 : decode cX10_best 26 = .ok (.aload_n 0, 1) := by decide +kernel
theorem dX10_best_27 : decode cX10_best 27 = .ok (.getfield 90, 3) := by decide +kernel
theorem dX10_best_30 : decode cX10_best 30 = .ok (.iconst 1, 1) := by decide +kernel
theorem dX10_best_31 : decode cX10_best 31 = .ok (.isub, 1) := by decide +kernel
theorem dX10_best_32 : decode cX10_best 32 = .ok (.invokestatic 86, 3) := by decide +kernel
theorem dX10_best_35 : decode cX10_best 35 = .ok (.ifCond .ne 5, 3) := by decide +kernel
theorem dX10_best_38 : decode cX10_best 38 = .ok (.iconst (-1), 1) := by decide +kernel
theorem dX10_best_39 : decode cX10_best 39 = .ok (.ireturn, 1) := by decide +kernel
theorem dX10_best_40 : decode cX10_best 40 = .ok (.aload_n 0, 1) := by decide +kernel
theorem dX10_best_41 : decode cX10_best 41 = .ok (.aload_n 0, 1) := by decide +kernel
theorem dX10_best_42 : decode cX10_best 42 = .ok (.invokevirtual 162, 3) := by decide +kernel
theorem dX10_best_45 : decode cX10_best 45 = .ok (.iload_n 1, 1) := by decide +kernel
theorem dX10_best_46 : decode cX10_best 46 = .ok (.invokevirtual 186, 3) := by decide +kernel
theorem dX10_best_49 : decode cX10_best 49 = .ok (.istore_n 3, 1) := by decide +kernel
theorem dX10_best_50 : decode cX10_best 50 = .ok (.iload_n 2, 1) := by decide +kernel
theorem dX10_best_51 : decode cX10_best 51 = .ok (.iconst (-1), 1) := by decide +kernel
theorem dX10_best_52 : decode cX10_best 52 = .ok (.if_icmp .ne 7, 3) := by decide +kernel
theorem dX10_best_55 : decode cX10_best 55 = .ok (.iload_n 3, 1) := by decide +kernel
theorem dX10_best_56 : decode cX10_best 56 = .ok (.goto 9, 3) := by decide +kernel
theorem dX10_best_59 : decode cX10_best 59 = .ok (.aload_n 0, 1) := by decide +kernel
theorem dX10_best_60 : decode cX10_best 60 = .ok (.getfield 65, 3) := by decide +kernel
theorem dX10_best_63 : decode cX10_best 63 = .ok (.iload_n 2, 1) := by decide +kernel
theorem dX10_best_64 : decode cX10_best 64 = .ok (.iaload, 1) := by decide +kernel
theorem dX10_best_65 : decode cX10_best 65 = .ok (.ireturn, 1) := by decide +kernel
set_option maxRecDepth 20000 in
theorem ggX10_safe_X10_all : GoodIn wsX10_safe wsX10_all := goodIn_r _ [6, 1, 46, 47, 48, 49, 50, 51, 52, 53, 54, 55, 56, 57, 58, 59, 60, 61, 62, 63, 64, 65, 66, 67, 68, 69, 70, 71, 72, 73, 74, 75, 76, 77, 78, 79] (by decide +kernel) (by decide +kernel)
set_option maxRecDepth 20000 in
theorem gX10_safe_X10_all : GoodIn wsX10_safe (wsV RX10 162 RX10 yX10_all wsX10_all) := goodIn_app (goodIn_of _ (by decide +kernel)) ggX10_safe_X10_all
set_option maxRecDepth 20000 in
theorem ggX10_safe_X10_firstOrder : GoodIn wsX10_safe wsX10_firstOrder := goodIn_r _ [10, 11, 1, 12, 46, 47, 48, 49, 50, 51, 52, 53, 54, 55, 56, 57, 58, 59, 60, 61, 62, 63, 64, 65, 66, 67, 68, 69, 70, 71, 72, 73, 74, 75, 76, 77, 78, 79] (by decide +kernel) (by decide +kernel)
set_option maxRecDepth 20000 in
theorem gX10_safe_X10_firstOrder : GoodIn wsX10_safe (wsV RX10 178 RX10 yX10_firstOrder wsX10_firstOrder) := goodIn_app (goodIn_of _ (by decide +kernel)) ggX10_safe_X10_firstOrder
set_option maxRecDepth 20000 in
theorem ggX10_safe_X10_isSafe : GoodIn wsX10_safe wsX10_isSafe := goodIn_r _ [16, 17, 11, 1, 18, 19, 20, 21, 22, 23, 24, 5, 25, 26, 27, 12, 28, 29, 30, 31, 32, 33, 34, 35, 36, 37, 46, 47, 48, 49, 50, 51, 52, 53, 54, 55, 56, 57, 58, 59, 60, 61, 62, 63, 64, 65, 66, 67, 68, 69, 70, 71, 72, 73, 74, 75, 76, 77, 78, 79] (by decide +kernel) (by decide +kernel)
set_option maxRecDepth 20000 in
theorem gX10_safe_X10_isSafe : GoodIn wsX10_safe (wsV RX10 169 RX10 yX10_isSafe wsX10_isSafe) := goodIn_app (goodIn_of _ (by decide +kernel)) ggX10_safe_X10_isSafe
set_option maxRecDepth 20000 in
theorem ggX10_safe_X10_nextOrder : GoodIn wsX10_safe wsX10_nextOrder := goodIn_r _ [41, 11, 12, 42, 43, 44, 5, 45, 46, 47, 48, 49, 50, 51, 52, 53, 54, 55, 56, 57, 58, 59, 60, 61, 62, 63, 64, 65, 66, 67, 68, 69, 70, 71, 72, 73, 74, 75, 76, 77, 78, 79] (by decide +kernel) (by decide +kernel)
set_option maxRecDepth 20000 in
theorem gX10_safe_X10_nextOrder : GoodIn wsX10_safe (wsV RX10 182 RX10 yX10_nextOrder wsX10_nextOrder) := goodIn_app (goodIn_of _ (by decide +kernel)) ggX10_safe_X10_nextOrder
theorem dX10_safe_0 : decode cX10_safe 0 = .ok (.aload_n 0, 1) := by decide +kernel
theorem dX10_safe_1 : decode cX10_safe 1 = .ok (.getfield 90, 3) := by decide +kernel
theorem dX10_safe_4 : decode cX10_safe 4 = .ok (.ifCond .ne 6, 3) := by decide +kernel
theorem dX10_safe_7 : decode cX10_safe 7 = .ok (.bipush (-3), 2) := by decide +kernel
theorem dX10_safe_9 : decode cX10_safe 9 = .ok (.ireturn, 1) := by decide +kernel
theorem dX10_safe_10 : decode cX10_safe 10 = .ok (.aload_n 0, 1) := by decide +kernel
theorem dX10_safe_11 : decode cX10_safe 11 = .ok (.aload_n 0, 1) := by decide +kernel
theorem dX10_safe_12 : decode cX10_safe 12 = .ok (.invokevirtual 162, 3) := by decide +kernel
theorem dX10_safe_15 : decode cX10_safe 15 = .ok (.invokevirtual 178, 3) := by decide +kernel
theorem dX10_safe_18 : decode cX10_safe 18 = .ok (.iconst 0, 1) := by decide +kernel
theorem dX10_safe_19 : decode cX10_safe 19 = .ok (.istore_n 1, 1) := by decide +kernel
theorem dX10_safe_20 : decode cX10_safe 20 = .ok (.iconst 1, 1) := by decide +kernel
theorem dX10_safe_21 : decode cX10_safe 21 = .ok (.istore_n 2, 1) := by decide +kernel
theorem dX10_safe_22 : decode cX10_safe 22 = .ok (.iload_n 2, 1) := by decide +kernel
theorem dX10_safe_23 : decode cX10_safe 23 = .ok (.ifCond .eq 30, 3) := by decide +kernel
theorem dX10_safe_26 : decode cX10_safe 26 = .ok (.iload_n 1, 1) := by decide +kernel
theorem dX10_safe_27 : decode cX10_safe 27 = .ok (.aload_n 0, 1) := by decide +kernel
theorem dX10_safe_28 : decode cX10_safe 28 = .ok (.aload_n 0, 1) := by decide +kernel
theorem dX10_safe_29 : decode cX10_safe 29 = .ok (.invokevirtual 162, 3) := by decide +kernel
theorem dX10_safe_32 : decode cX10_safe 32 = .ok (.invokevirtual 169, 3) := by decide +kernel
theorem dX10_safe_35 : decode cX10_safe 35 = .ok (.ifCond .eq 7, 3) := by decide +kernel
theorem dX10_safe_38 : decode cX10_safe 38 = .ok (.iconst 1, 1) := by decide +kernel
theorem dX10_safe_39 : decode cX10_safe 39 = .ok (.goto 4, 3) := by decide +kernel
theorem dX10_safe_42 : decode cX10_safe 42 = .ok (.iconst 0, 1) := by decide +kernel
theorem dX10_safe_43 : decode cX10_safe 43 = .ok (.iadd, 1) := by decide +kernel
theorem dX10_safe_44 : decode cX10_safe 44 = .ok (.istore_n 1, 1) := by decide +kernel
theorem dX10_safe_45 : decode cX10_safe 45 = .ok (.aload_n 0, 1) := by decide +kernel
theorem dX10_safe_46 : decode cX10_safe 46 = .ok (.invokevirtual 182, 3) := by decide +kernel
theorem dX10_safe_49 : decode cX10_safe 49 = .ok (.istore_n 2, 1) := by decide +kernel
theorem dX10_safe_50 : decode cX10_safe 50 = .ok (.goto (-28), 3) := by decide +kernel
theorem dX10_safe_53 : decode cX10_safe 53 = .ok (.iload_n 1, 1) := by decide +kernel
theorem dX10_safe_54 : decode cX10_safe 54 = .ok (.ireturn, 1) := by decide +kernel
set_option maxRecDepth 20000 in
theorem ggX10_canBeSafe_X10_firstOrder : GoodIn wsX10_canBeSafe wsX10_firstOrder := goodIn_r _ [5, 6, 7, 8, 42, 43, 44, 45, 46, 47, 48, 49, 50, 51, 52, 53, 54, 55, 56, 57, 58, 59, 60, 61, 62, 63, 64, 65, 66, 67, 68, 69, 70, 71, 72, 73, 74, 75] (by decide +kernel) (by decide +kernel)
set_option maxRecDepth 20000 in
theorem gX10_canBeSafe_X10_firstOrder : GoodIn wsX10_canBeSafe (wsV RX10 178 RX10 yX10_firstOrder wsX10_firstOrder) := goodIn_app (goodIn_of _ (by decide +kernel)) ggX10_canBeSafe_X10_firstOrder
set_option maxRecDepth 20000 in
theorem ggX10_canBeSafe_X10_isSafe : GoodIn wsX10_canBeSafe wsX10_isSafe := goodIn_r _ [12, 13, 6, 7, 14, 15, 16, 17, 18, 19, 20, 4, 21, 22, 23, 8, 24, 25, 26, 27, 28, 29, 30, 31, 32, 33, 42, 43, 44, 45, 46, 47, 48, 49, 50, 51, 52, 53, 54, 55, 56, 57, 58, 59, 60, 61, 62, 63, 64, 65, 66, 67, 68, 69, 70, 71, 72, 73, 74, 75] (by decide +kernel) (by decide +kernel)
set_option maxRecDepth 20000 in
theorem gX10_canBeSafe_X10_isSafe : GoodIn wsX10_canBeSafe (wsV RX10 169 RX10 yX10_isSafe wsX10_isSafe) := goodIn_app (goodIn_of _ (by decide +kernel)) ggX10_canBeSafe_X10_isSafe
set_option maxRecDepth 20000 in
theorem ggX10_canBeSafe_X10_nextOrder : GoodIn wsX10_canBeSafe wsX10_nextOrder := goodIn_r _ [37, 6, 8, 38, 39, 40, 4, 41, 42, 43, 44, 45, 46, 47, 48, 49, 50, 51, 52, 53, 54, 55, 56, 57, 58, 59, 60, 61, 62, 63, 64, 65, 66, 67, 68, 69, 70, 71, 72, 73, 74, 75] (by decide +kernel) (by decide +kernel)
set_option maxRecDepth 20000 in
theorem gX10_canBeSafe_X10_nextOrder : GoodIn wsX10_canBeSafe (wsV RX10 182 RX10 yX10_nextOrder wsX10_nextOrder) := goodIn_app (goodIn_of _ (by decide +kernel)) ggX10_canBeSafe_X10_nextOrder
theorem dX10_canBeSafe_0 : decode cX10_canBeSafe 0 = .ok (.aload_n 0, 1) := by decide +kernel
theorem dX10_canBeSafe_1 : decode cX10_canBeSafe 1 = .ok (.iload_n 1, 1) := by decide +kernel
theorem dX10_canBeSafe_2 : decode cX10_canBeSafe 2 = .ok (.invokevirtual 178, 3) := by decide +kernel
theorem dX10_canBeSafe_5 : decode cX10_canBeSafe 5 = .ok (.iconst 1, 1) := by decide +kernel
theorem dX10_canBeSafe_6 : decode cX10_canBeSafe 6 = .ok (.istore_n 2, 1) := by decide +kernel
theorem dX10_canBeSafe_7 : decode cX10_canBeSafe 7 = .ok (.iload_n 2, 1) := by decide +kernel
theorem dX10_canBeSafe_8 : decode cX10_canBeSafe 8 = .ok (.ifCond .eq 21, 3) := by decide +kernel
theorem dX10_canBeSafe_11 : decode cX10_canBeSafe 11 = .ok (.aload_n 0, 1) := by decide +kernel
theorem dX10_canBeSafe_12 : decode cX10_canBeSafe 12 = .ok (.iload_n 1, 1) := by decide +kernel
theorem dX10_canBeSafe_13 : decode cX10_canBeSafe 13 = .ok (.invokevirtual 169, 3) := by decide +kernel
theorem dX10_canBeSafe_16 : decode cX10_canBeSafe 16 = .ok (.ifCond .eq 5, 3) := by decide +kernel
theorem dX10_canBeSafe_19 : decode cX10_canBeSafe 19 = .ok (.iconst 1, 1) := by decide +kernel
theorem dX10_canBeSafe_20 : decode cX10_canBeSafe 20 = .ok (.ireturn, 1) := by decide +kernel
theorem dX10_canBeSafe_21 : decode cX10_canBeSafe 21 = .ok (.aload_n 0, 1) := by decide +kernel
theorem dX10_canBeSafe_22 : decode cX10_canBeSafe 22 = .ok (.invokevirtual 182, 3) := by decide +kernel
theorem dX10_canBeSafe_25 : decode cX10_canBeSafe 25 = .ok (.istore_n 2, 1) := by decide +kernel
theorem dX10_canBeSafe_26 : decode cX10_canBeSafe 26 = .ok (.goto (-19), 3) := by decide +kernel
theorem dX10_canBeSafe_29 : decode cX10_canBeSafe 29 = .ok (.iconst 0, 1) := by decide +kernel
theorem dX10_canBeSafe_30 : decode cX10_canBeSafe 30 = .ok (.ireturn, 1) := by decide +kernel
theorem dX10_size_0 : decode cX10_size 0 = .ok (.iconst 0, 1) := by decide +kernel
theorem dX10_size_1 : decode cX10_size 1 = .ok (.istore_n 1, 1) := by decide +kernel
theorem dX10_size_2 : decode cX10_size 2 = .ok (.iload_n 0, 1) := by decide +kernel
theorem dX10_size_3 : decode cX10_size 3 = .ok (.istore_n 2, 1) := by decide +kernel
theorem dX10_size_4 : decode cX10_size 4 = .ok (.iload_n 2, 1) := by decide +kernel
theorem dX10_size_5 : decode cX10_size 5 = .ok (.ifCond .le 16, 3) := by decide +kernel
theorem dX10_size_8 : decode cX10_size 8 = .ok (.iload_n 1, 1) := by decide +kernel
theorem dX10_size_9 : decode cX10_size 9 = .ok (.iload_n 2, 1) := by decide +kernel
theorem dX10_size_10 : decode cX10_size 10 = .ok (.iconst 1, 1) := by decide +kernel
theorem dX10_size_11 : decode cX10_size 11 = .ok (.iand, 1) := by decide +kernel
theorem dX10_size_12 : decode cX10_size 12 = .ok (.iadd, 1) := by decide +kernel
theorem dX10_size_13 : decode cX10_size 13 = .ok (.istore_n 1, 1) := by decide +kernel
theorem dX10_size_14 : decode cX10_size 14 = .ok (.iload_n 2, 1) := by decide +kernel
theorem dX10_size_15 : decode cX10_size 15 = .ok (.iconst 1, 1) := by decide +kernel
theorem dX10_size_16 : decode cX10_size 16 = .ok (.ishr, 1) := by decide +kernel
theorem dX10_size_17 : decode cX10_size 17 = .ok (.istore_n 2, 1) := by decide +kernel
theorem dX10_size_18 : decode cX10_size 18 = .ok (.goto (-14), 3) := by decide +kernel
theorem dX10_size_21 : decode cX10_size 21 = .ok (.iload_n 1, 1) := by decide +kernel
theorem dX10_size_22 : decode cX10_size 22 = .ok (.ireturn, 1) := by decide +kernel
set_option maxRecDepth 20000 in
theorem ggX10_letGo_X10_all : GoodIn wsX10_letGo wsX10_all := goodIn_r _ [6, 1, 53, 54, 55, 56, 57, 58, 59, 60, 61, 62, 63, 64, 65, 66, 67, 68, 69, 70, 71, 72, 73, 74, 75, 76, 77, 78, 79, 80, 81, 82, 83, 84, 85, 86] (by decide +kernel) (by decide +kernel)
set_option maxRecDepth 20000 in
theorem gX10_letGo_X10_all : GoodIn wsX10_letGo (wsV RX10 162 RX10 yX10_all wsX10_all) := goodIn_app (goodIn_of _ (by decide +kernel)) ggX10_letGo_X10_all
set_option maxRecDepth 20000 in
theorem ggX10_letGo_X10_size : GoodIn wsX10_letGo wsX10_size := goodIn_r _ [9] (by decide +kernel) (by decide +kernel)
set_option maxRecDepth 20000 in
theorem gX10_letGo_X10_size : GoodIn wsX10_letGo (va_wsS RX10 189 yX10_size wsX10_size) := goodIn_app (goodIn_of _ (by decide +kernel)) ggX10_letGo_X10_size
set_option maxRecDepth 20000 in
theorem ggX10_letGo_X10_canBeSafe : GoodIn wsX10_letGo wsX10_canBeSafe := goodIn_r _ [13, 14, 15, 16, 5, 17, 18, 1, 19, 20, 21, 22, 23, 24, 25, 26, 27, 28, 29, 30, 31, 32, 33, 34, 35, 36, 37, 38, 39, 40, 41, 42, 43, 44, 45, 46, 47, 48, 49, 50, 51, 52, 53, 54, 55, 56, 57, 58, 59, 60, 61, 62, 63, 64, 65, 66, 67, 68, 69, 70, 71, 72, 73, 74, 75, 76, 77, 78, 79, 80, 81, 82, 83, 84, 85, 86] (by decide +kernel) (by decide +kernel)
set_option maxRecDepth 20000 in
theorem gX10_letGo_X10_canBeSafe : GoodIn wsX10_letGo (wsV RX10 192 RX10 yX10_canBeSafe wsX10_canBeSafe) := goodIn_app (goodIn_of _ (by decide +kernel)) ggX10_letGo_X10_canBeSafe
theorem dX10_letGo_0 : decode cX10_letGo 0 = .ok (.aload_n 0, 1) := by decide +kernel
theorem dX10_letGo_1 : decode cX10_letGo 1 = .ok (.getfield 90, 3) := by decide +kernel
theorem dX10_letGo_4 : decode cX10_letGo 4 = .ok (.ifCond .ne 6, 3) := by decide +kernel
theorem dX10_letGo_7 : decode cX10_letGo 7 = .ok (.bipush (-3), 2) := by decide +kernel
theorem dX10_letGo_9 : decode cX10_letGo 9 = .ok (.ireturn, 1) := by decide +kernel
theorem dX10_letGo_10 : decode cX10_letGo 10 = .ok (.aload_n 0, 1) := by decide +kernel
theorem dX10_letGo_11 : decode cX10_letGo 11 = .ok (.invokevirtual 162, 3) := by decide +kernel
theorem dX10_letGo_14 : decode cX10_letGo 14 = .ok (.istore_n 1, 1) := by decide +kernel
theorem dX10_letGo_15 : decode cX10_letGo 15 = .ok (.aload_n 0, 1) := by decide +kernel
theorem dX10_letGo_16 : decode cX10_letGo 16 = .ok (.invokevirtual 162, 3) := by decide +kernel
theorem dX10_letGo_19 : decode cX10_letGo 19 = .ok (.istore_n 2, 1) := by decide +kernel
theorem dX10_letGo_20 : decode cX10_letGo 20 = .ok (.iload_n 2, 1) := by decide +kernel
theorem dX10_letGo_21 : decode cX10_letGo 21 = .ok (.ifCond .lt 39, 3) := by decide +kernel
theorem dX10_letGo_24 : decode cX10_letGo 24 = .ok (.iload_n 2, 1) := by decide +kernel
theorem dX10_letGo_25 : decode cX10_letGo 25 = .ok (.invokestatic 189, 3) := by decide +kernel
theorem dX10_letGo_28 : decode cX10_letGo 28 = .ok (.iload_n 1, 1) := by decide +kernel
theorem dX10_letGo_29 : decode cX10_letGo 29 = .ok (.invokestatic 189, 3) := by decide +kernel
theorem dX10_letGo_32 : decode cX10_letGo 32 = .ok (.if_icmp .gt 20, 3) := by decide +kernel
theorem dX10_letGo_35 : decode cX10_letGo 35 = .ok (.aload_n 0, 1) := by decide +kernel
theorem dX10_letGo_36 : decode cX10_letGo 36 = .ok (.aload_n 0, 1) := by decide +kernel
theorem dX10_letGo_37 : decode cX10_letGo 37 = .ok (.invokevirtual 162, 3) := by decide +kernel
theorem dX10_letGo_40 : decode cX10_letGo 40 = .ok (.iload_n 2, 1) := by decide +kernel
theorem dX10_letGo_41 : decode cX10_letGo 41 = .ok (.isub, 1) := by decide +kernel
theorem dX10_letGo_42 : decode cX10_letGo 42 = .ok (.invokevirtual 192, 3) := by decide +kernel
theorem dX10_letGo_45 : decode cX10_letGo 45 = .ok (.ifCond .eq 7, 3) := by decide +kernel
theorem dX10_letGo_48 : decode cX10_letGo 48 = .ok (.iload_n 2, 1) := by decide +kernel
theorem dX10_letGo_49 : decode cX10_letGo 49 = .ok (.goto 4, 3) := by decide +kernel
theorem dX10_letGo_52 : decode cX10_letGo 52 = .ok (.iload_n 1, 1) := by decide +kernel
theorem dX10_letGo_53 : decode cX10_letGo 53 = .ok (.istore_n 1, 1) := by decide +kernel
theorem dX10_letGo_54 : decode cX10_letGo 54 = .ok (.iinc 2 (-1), 3) := by decide +kernel
theorem dX10_letGo_57 : decode cX10_letGo 57 = .ok (.goto (-37), 3) := by decide +kernel
theorem dX10_letGo_60 : decode cX10_letGo 60 = .ok (.iload_n 1, 1) := by decide +kernel
theorem dX10_letGo_61 : decode cX10_letGo 61 = .ok (.ireturn, 1) := by decide +kernel
set_option maxRecDepth 20000 in
theorem ggX10_two_X10_within : GoodIn wsX10_two wsX10_within := goodIn_r _ [6] (by decide +kernel) (by decide +kernel)
set_option maxRecDepth 20000 in
theorem gX10_two_X10_within : GoodIn wsX10_two (va_wsS RX10 86 yX10_within wsX10_within) := goodIn_app (goodIn_of _ (by decide +kernel)) ggX10_two_X10_within
set_option maxRecDepth 20000 in
theorem ggX10_two_X10_all : GoodIn wsX10_two wsX10_all := goodIn_r _ [10, 1, 60, 61, 62, 63, 64, 65, 66, 67, 68, 69, 70, 71, 72, 73, 74, 75, 76, 77, 78, 79, 80, 81, 82, 83, 84, 85, 86, 87, 88, 89, 90, 91, 92, 93] (by decide +kernel) (by decide +kernel)
set_option maxRecDepth 20000 in
theorem gX10_two_X10_all : GoodIn wsX10_two (wsV RX10 162 RX10 yX10_all wsX10_all) := goodIn_app (goodIn_of _ (by decide +kernel)) ggX10_two_X10_all
set_option maxRecDepth 20000 in
theorem ggX10_two_X10_leastHarm : GoodIn wsX10_two wsX10_leastHarm := goodIn_r _ [14, 15, 16, 17, 18, 19, 20, 5, 21, 1, 22, 23, 24, 25, 26, 27, 28, 29, 30, 31, 32, 33, 34, 35, 36, 37, 38, 39, 40, 41, 42, 43, 44, 45, 46, 47, 48, 49, 50, 51, 52, 53, 54, 55, 56, 57, 58, 59, 60, 61, 62, 63, 64, 65, 66, 67, 68, 69, 70, 71, 72, 73, 74, 75, 76, 77, 78, 79, 80, 81, 82, 83, 84, 85, 86, 87, 88, 89, 90, 91, 92, 93] (by decide +kernel) (by decide +kernel)
set_option maxRecDepth 20000 in
theorem gX10_two_X10_leastHarm : GoodIn wsX10_two (wsV RX10 186 RX10 yX10_leastHarm wsX10_leastHarm) := goodIn_app (goodIn_of _ (by decide +kernel)) ggX10_two_X10_leastHarm
theorem dX10_two_0 : decode cX10_two 0 = .ok (.aload_n 0, 1) := by decide +kernel
theorem dX10_two_1 : decode cX10_two 1 = .ok (.getfield 90, 3) := by decide +kernel
theorem dX10_two_4 : decode cX10_two 4 = .ok (.ifCond .ne 6, 3) := by decide +kernel
theorem dX10_two_7 : decode cX10_two 7 = .ok (.bipush (-3), 2) := by decide +kernel
theorem dX10_two_9 : decode cX10_two 9 = .ok (.ireturn, 1) := by decide +kernel
theorem dX10_two_10 : decode cX10_two 10 = .ok (.iload_n 1, 1) := by decide +kernel
theorem dX10_two_11 : decode cX10_two 11 = .ok (.iconst 1, 1) := by decide +kernel
theorem dX10_two_12 : decode cX10_two 12 = .ok (.sipush 300, 3) := by decide +kernel
theorem dX10_two_15 : decode cX10_two 15 = .ok (.invokestatic 86, 3) := by decide +kernel
theorem dX10_two_18 : decode cX10_two 18 = .ok (.ifCond .eq 12, 3) := by decide +kernel
theorem dX10_two_21 : decode cX10_two 21 = .ok (.iload_n 2, 1) := by decide +kernel
theorem dX10_two_22 : decode cX10_two 22 = .ok (.iconst 0, 1) := by decide +kernel
theorem dX10_two_23 : decode cX10_two 23 = .ok (.iconst 1, 1) := by decide +kernel
theorem dX10_two_24 : decode cX10_two 24 = .ok (.invokestatic 86, 3) := by decide +kernel
theorem dX10_two_27 : decode cX10_two 27 = .ok (.ifCond .ne 6, 3) := by decide +kernel
theorem dX10_two_30 : decode cX10_two 30 = .ok (.bipush (-2), 2) := by decide +kernel
theorem dX10_two_32 : decode cX10_two 32 = .ok (.ireturn, 1) := by decide +kernel
theorem dX10_two_33 : decode cX10_two 33 = .ok (.iconst 0, 1) := by decide +kernel
theorem dX10_two_34 : decode cX10_two 34 = .ok (.istore_n 3, 1) := by decide +kernel
theorem dX10_two_35 : decode cX10_two 35 = .ok (.iload_n 3, 1) := by decide +kernel
theorem dX10_two_36 : decode cX10_two 36 = .ok (.aload_n 0, 1) := by decide +kernel
theorem dX10_two_37 : decode cX10_two 37 = .ok (.invokevirtual 162, 3) := by decide +kernel
theorem dX10_two_40 : decode cX10_two 40 = .ok (.if_icmp .gt 21, 3) := by decide +kernel
theorem dX10_two_43 : decode cX10_two 43 = .ok (.aload_n 0, 1) := by decide +kernel
theorem dX10_two_44 : decode cX10_two 44 = .ok (.getfield 68, 3) := by decide +kernel
theorem dX10_two_47 : decode cX10_two 47 = .ok (.iload_n 3, 1) := by decide +kernel
theorem dX10_two_48 : decode cX10_two 48 = .ok (.aload_n 0, 1) := by decide +kernel
theorem dX10_two_49 : decode cX10_two 49 = .ok (.iload_n 3, 1) := by decide +kernel
theorem dX10_two_50 : decode cX10_two 50 = .ok (.iload_n 1, 1) := by decide +kernel
theorem dX10_two_51 : decode cX10_two 51 = .ok (.invokevirtual 186, 3) := by decide +kernel
theorem dX10_two_54 : decode cX10_two 54 = .ok (.iastore, 1) := by decide +kernel
theorem dX10_two_55 : decode cX10_two 55 = .ok (.iinc 3 1, 3) := by decide +kernel
theorem dX10_two_58 : decode cX10_two 58 = .ok (.goto (-23), 3) := by decide +kernel
theorem dX10_two_61 : decode cX10_two 61 = .ok (.iconst 0, 1) := by decide +kernel
theorem dX10_two_62 : decode cX10_two 62 = .ok (.istore_n 3, 1) := by decide +kernel
theorem dX10_two_63 : decode cX10_two 63 = .ok (.iconst 1, 1) := by decide +kernel
theorem dX10_two_64 : decode cX10_two 64 = .ok (.istore 4, 2) := by decide +kernel
theorem dX10_two_66 : decode cX10_two 66 = .ok (.iload 4, 2) := by decide +kernel
theorem dX10_two_68 : decode cX10_two 68 = .ok (.aload_n 0, 1) := by decide +kernel
theorem dX10_two_69 : decode cX10_two 69 = .ok (.invokevirtual 162, 3) := by decide +kernel
theorem dX10_two_72 : decode cX10_two 72 = .ok (.if_icmp .gt 57, 3) := by decide +kernel
theorem dX10_two_75 : decode cX10_two 75 = .ok (.aload_n 0, 1) := by decide +kernel
theorem dX10_two_76 : decode cX10_two 76 = .ok (.getfield 68, 3) := by decide +kernel
theorem dX10_two_79 : decode cX10_two 79 = .ok (.iload 4, 2) := by decide +kernel
theorem dX10_two_81 : decode cX10_two 81 = .ok (.iaload, 1) := by decide +kernel
theorem dX10_two_82 : decode cX10_two 82 = .ok (.aload_n 0, 1) := by decide +kernel
theorem dX10_two_83 : decode cX10_two 83 = .ok (.getfield 68, 3) := by decide +kernel
theorem dX10_two_86 : decode cX10_two 86 = .ok (.aload_n 0, 1) := by decide +kernel
theorem dX10_two_87 : decode cX10_two 87 = .ok (.invokevirtual 162, 3) := by decide +kernel
theorem dX10_two_90 : decode cX10_two 90 = .ok (.iload 4, 2) := by decide +kernel
theorem dX10_two_92 : decode cX10_two 92 = .ok (.isub, 1) := by decide +kernel
theorem dX10_two_93 : decode cX10_two 93 = .ok (.iaload, 1) := by decide +kernel
theorem dX10_two_94 : decode cX10_two 94 = .ok (.iadd, 1) := by decide +kernel
theorem dX10_two_95 : decode cX10_two 95 = .ok (.aload_n 0, 1) := by decide +kernel
theorem dX10_two_96 : decode cX10_two 96 = .ok (.getfield 68, 3) := by decide +kernel
theorem dX10_two_99 : decode cX10_two 99 = .ok (.iload_n 3, 1) := by decide +kernel
theorem dX10_two_100 : decode cX10_two 100 = .ok (.iaload, 1) := by decide +kernel
theorem dX10_two_101 : decode cX10_two 101 = .ok (.aload_n 0, 1) := by decide +kernel
theorem dX10_two_102 : decode cX10_two 102 = .ok (.getfield 68, 3) := by decide +kernel
theorem dX10_two_105 : decode cX10_two 105 = .ok (.aload_n 0, 1) := by decide +kernel
theorem dX10_two_106 : decode cX10_two 106 = .ok (.invokevirtual 162, 3) := by decide +kernel
theorem dX10_two_109 : decode cX10_two 109 = .ok (.iload_n 3, 1) := by decide +kernel
theorem dX10_two_110 : decode cX10_two 110 = .ok (.isub, 1) := by decide +kernel
theorem dX10_two_111 : decode cX10_two 111 = .ok (.iaload, 1) := by decide +kernel
theorem dX10_two_112 : decode cX10_two 112 = .ok (.iadd, 1) := by decide +kernel
theorem dX10_two_113 : decode cX10_two 113 = .ok (.if_icmp .ge 8, 3) := by decide +kernel
theorem dX10_two_116 : decode cX10_two 116 = .ok (.iload 4, 2) := by decide +kernel
theorem dX10_two_118 : decode cX10_two 118 = .ok (.goto 4, 3) := by decide +kernel
theorem dX10_two_121 : decode cX10_two 121 = .ok (.iload_n 3, 1) := by decide +kernel
theorem dX10_two_122 : decode cX10_two 122 = .ok (.istore_n 3, 1) := by decide +kernel
theorem dX10_two_123 : decode cX10_two 123 = .ok (.iinc 4 1, 3) := by decide +kernel
theorem dX10_two_126 : decode cX10_two 126 = .ok (.goto (-60), 3) := by decide +kernel
theorem dX10_two_129 : decode cX10_two 129 = .ok (.iload_n 2, 1) := by decide +kernel
theorem dX10_two_130 : decode cX10_two 130 = .ok (.ifCond .ne 7, 3) := by decide +kernel
theorem dX10_two_133 : decode cX10_two 133 = .ok (.iload_n 3, 1) := by decide +kernel
theorem dX10_two_134 : decode cX10_two 134 = .ok (.goto 21, 3) := by decide +kernel
theorem dX10_two_137 : decode cX10_two 137 = .ok (.aload_n 0, 1) := by decide +kernel
theorem dX10_two_138 : decode cX10_two 138 = .ok (.getfield 68, 3) := by decide +kernel
theorem dX10_two_141 : decode cX10_two 141 = .ok (.iload_n 3, 1) := by decide +kernel
theorem dX10_two_142 : decode cX10_two 142 = .ok (.iaload, 1) := by decide +kernel
theorem dX10_two_143 : decode cX10_two 143 = .ok (.aload_n 0, 1) := by decide +kernel
theorem dX10_two_144 : decode cX10_two 144 = .ok (.getfield 68, 3) := by decide +kernel
theorem dX10_two_147 : decode cX10_two 147 = .ok (.aload_n 0, 1) := by decide +kernel
theorem dX10_two_148 : decode cX10_two 148 = .ok (.invokevirtual 162, 3) := by decide +kernel
theorem dX10_two_151 : decode cX10_two 151 = .ok (.iload_n 3, 1) := by decide +kernel
theorem dX10_two_152 : decode cX10_two 152 = .ok (.isub, 1) := by decide +kernel
theorem dX10_two_153 : decode cX10_two 153 = .ok (.iaload, 1) := by decide +kernel
theorem dX10_two_154 : decode cX10_two 154 = .ok (.iadd, 1) := by decide +kernel
theorem dX10_two_155 : decode cX10_two 155 = .ok (.ireturn, 1) := by decide +kernel
set_option maxRecDepth 20000 in
theorem ggX10_site_X10_within : GoodIn wsX10_site wsX10_within := goodIn_r _ [6] (by decide +kernel) (by decide +kernel)
set_option maxRecDepth 20000 in
theorem gX10_site_X10_within : GoodIn wsX10_site (va_wsS RX10 86 yX10_within wsX10_within) := goodIn_app (goodIn_of _ (by decide +kernel)) ggX10_site_X10_within
set_option maxRecDepth 20000 in
theorem ggX10_site_X10_all : GoodIn wsX10_site wsX10_all := goodIn_r _ [10, 1, 59, 60, 61, 62, 63, 64, 65, 66, 67, 68, 69, 70, 71, 72, 73, 74, 75, 76, 77, 78, 79, 80, 81, 82, 83, 84, 85, 86, 87, 88, 89, 90, 91, 92] (by decide +kernel) (by decide +kernel)
set_option maxRecDepth 20000 in
theorem gX10_site_X10_all : GoodIn wsX10_site (wsV RX10 162 RX10 yX10_all wsX10_all) := goodIn_app (goodIn_of _ (by decide +kernel)) ggX10_site_X10_all
set_option maxRecDepth 20000 in
theorem ggX10_site_X10_leastHarm : GoodIn wsX10_site wsX10_leastHarm := goodIn_r _ [14, 15, 16, 17, 18, 19, 20, 5, 21, 1, 22, 23, 24, 25, 26, 27, 28, 29, 30, 31, 2, 32, 33, 34, 35, 36, 37, 38, 39, 40, 41, 42, 43, 44, 45, 46, 47, 48, 49, 50, 51, 52, 53, 54, 55, 56, 57, 58, 59, 60, 61, 62, 63, 64, 65, 66, 67, 68, 69, 70, 71, 72, 73, 74, 75, 76, 77, 78, 79, 80, 81, 82, 83, 84, 85, 86, 87, 88, 89, 90, 91, 92] (by decide +kernel) (by decide +kernel)
set_option maxRecDepth 20000 in
theorem gX10_site_X10_leastHarm : GoodIn wsX10_site (wsV RX10 186 RX10 yX10_leastHarm wsX10_leastHarm) := goodIn_app (goodIn_of _ (by decide +kernel)) ggX10_site_X10_leastHarm
theorem dX10_site_0 : decode cX10_site 0 = .ok (.aload_n 0, 1) := by decide +kernel
theorem dX10_site_1 : decode cX10_site 1 = .ok (.getfield 90, 3) := by decide +kernel
theorem dX10_site_4 : decode cX10_site 4 = .ok (.ifCond .ne 6, 3) := by decide +kernel
theorem dX10_site_7 : decode cX10_site 7 = .ok (.bipush (-3), 2) := by decide +kernel
theorem dX10_site_9 : decode cX10_site 9 = .ok (.ireturn, 1) := by decide +kernel
theorem dX10_site_10 : decode cX10_site 10 = .ok (.iload_n 1, 1) := by decide +kernel
theorem dX10_site_11 : decode cX10_site 11 = .ok (.iconst 1, 1) := by decide +kernel
theorem dX10_site_12 : decode cX10_site 12 = .ok (.sipush 300, 3) := by decide +kernel
theorem dX10_site_15 : decode cX10_site 15 = .ok (.invokestatic 86, 3) := by decide +kernel
theorem dX10_site_18 : decode cX10_site 18 = .ok (.ifCond .eq 12, 3) := by decide +kernel
theorem dX10_site_21 : decode cX10_site 21 = .ok (.iload_n 2, 1) := by decide +kernel
theorem dX10_site_22 : decode cX10_site 22 = .ok (.iconst 0, 1) := by decide +kernel
theorem dX10_site_23 : decode cX10_site 23 = .ok (.iconst 1, 1) := by decide +kernel
theorem dX10_site_24 : decode cX10_site 24 = .ok (.invokestatic 86, 3) := by decide +kernel
theorem dX10_site_27 : decode cX10_site 27 = .ok (.ifCond .ne 6, 3) := by decide +kernel
theorem dX10_site_30 : decode cX10_site 30 = .ok (.bipush (-2), 2) := by decide +kernel
theorem dX10_site_32 : decode cX10_site 32 = .ok (.ireturn, 1) := by decide +kernel
theorem dX10_site_33 : decode cX10_site 33 = .ok (.aload_n 0, 1) := by decide +kernel
theorem dX10_site_34 : decode cX10_site 34 = .ok (.getfield 117, 3) := by decide +kernel
theorem dX10_site_37 : decode cX10_site 37 = .ok (.istore_n 3, 1) := by decide +kernel
theorem dX10_site_38 : decode cX10_site 38 = .ok (.bipush (-9), 2) := by decide +kernel
theorem dX10_site_40 : decode cX10_site 40 = .ok (.istore 4, 2) := by decide +kernel
theorem dX10_site_42 : decode cX10_site 42 = .ok (.bipush (-9), 2) := by decide +kernel
theorem dX10_site_44 : decode cX10_site 44 = .ok (.istore 5, 2) := by decide +kernel
theorem dX10_site_46 : decode cX10_site 46 = .ok (.aload_n 0, 1) := by decide +kernel
theorem dX10_site_47 : decode cX10_site 47 = .ok (.iconst 0, 1) := by decide +kernel
theorem dX10_site_48 : decode cX10_site 48 = .ok (.putfield 117, 3) := by decide +kernel
theorem dX10_site_51 : decode cX10_site 51 = .ok (.aload_n 0, 1) := by decide +kernel
theorem dX10_site_52 : decode cX10_site 52 = .ok (.getfield 117, 3) := by decide +kernel
theorem dX10_site_55 : decode cX10_site 55 = .ok (.bipush 9, 2) := by decide +kernel
theorem dX10_site_57 : decode cX10_site 57 = .ok (.if_icmp .gt 51, 3) := by decide +kernel
theorem dX10_site_60 : decode cX10_site 60 = .ok (.aload_n 0, 1) := by decide +kernel
theorem dX10_site_61 : decode cX10_site 61 = .ok (.aload_n 0, 1) := by decide +kernel
theorem dX10_site_62 : decode cX10_site 62 = .ok (.invokevirtual 162, 3) := by decide +kernel
theorem dX10_site_65 : decode cX10_site 65 = .ok (.iload_n 1, 1) := by decide +kernel
theorem dX10_site_66 : decode cX10_site 66 = .ok (.invokevirtual 186, 3) := by decide +kernel
theorem dX10_site_69 : decode cX10_site 69 = .ok (.istore 6, 2) := by decide +kernel
theorem dX10_site_71 : decode cX10_site 71 = .ok (.iload 4, 2) := by decide +kernel
theorem dX10_site_73 : decode cX10_site 73 = .ok (.bipush (-9), 2) := by decide +kernel
theorem dX10_site_75 : decode cX10_site 75 = .ok (.if_icmp .eq 10, 3) := by decide +kernel
theorem dX10_site_78 : decode cX10_site 78 = .ok (.iload 6, 2) := by decide +kernel
theorem dX10_site_80 : decode cX10_site 80 = .ok (.iload 5, 2) := by decide +kernel
theorem dX10_site_82 : decode cX10_site 82 = .ok (.if_icmp .ge 13, 3) := by decide +kernel
theorem dX10_site_85 : decode cX10_site 85 = .ok (.aload_n 0, 1) := by decide +kernel
theorem dX10_site_86 : decode cX10_site 86 = .ok (.getfield 117, 3) := by decide +kernel
theorem dX10_site_89 : decode cX10_site 89 = .ok (.istore 4, 2) := by decide +kernel
theorem dX10_site_91 : decode cX10_site 91 = .ok (.iload 6, 2) := by decide +kernel
theorem dX10_site_93 : decode cX10_site 93 = .ok (.istore 5, 2) := by decide +kernel
theorem dX10_site_95 : decode cX10_site 95 = .ok (.aload_n 0, 1) := by decide +kernel
theorem dX10_site_96 : decode cX10_site 96 = .ok (.dup, 1) := by decide +kernel
theorem dX10_site_97 : decode cX10_site 97 = .ok (.getfield 117, 3) := by decide +kernel
theorem dX10_site_100 : decode cX10_site 100 = .ok (.iconst 1, 1) := by decide +kernel
theorem dX10_site_101 : decode cX10_site 101 = .ok (.iadd, 1) := by decide +kernel
theorem dX10_site_102 : decode cX10_site 102 = .ok (.putfield 117, 3) := by decide +kernel
theorem dX10_site_105 : decode cX10_site 105 = .ok (.goto (-54), 3) := by decide +kernel
theorem dX10_site_108 : decode cX10_site 108 = .ok (.aload_n 0, 1) := by decide +kernel
theorem dX10_site_109 : decode cX10_site 109 = .ok (.iload_n 3, 1) := by decide +kernel
theorem dX10_site_110 : decode cX10_site 110 = .ok (.putfield 117, 3) := by decide +kernel
theorem dX10_site_113 : decode cX10_site 113 = .ok (.iload_n 2, 1) := by decide +kernel
theorem dX10_site_114 : decode cX10_site 114 = .ok (.ifCond .ne 8, 3) := by decide +kernel
theorem dX10_site_117 : decode cX10_site 117 = .ok (.iload 4, 2) := by decide +kernel
theorem dX10_site_119 : decode cX10_site 119 = .ok (.goto 5, 3) := by decide +kernel
theorem dX10_site_122 : decode cX10_site 122 = .ok (.iload 5, 2) := by decide +kernel
theorem dX10_site_124 : decode cX10_site 124 = .ok (.ireturn, 1) := by decide +kernel
set_option maxRecDepth 20000 in
theorem ggX10_reading_X10_isThing : GoodIn wsX10_reading wsX10_isThing := goodIn_r _ [9, 10, 14, 15, 16, 17, 18, 19, 20, 21, 22, 23, 24, 25, 26, 27, 28, 29, 30, 31, 32, 33, 34, 35, 36, 37, 38, 39, 40, 41, 42, 43, 44, 45, 46, 47] (by decide +kernel) (by decide +kernel)
set_option maxRecDepth 20000 in
theorem gX10_reading_X10_isThing : GoodIn wsX10_reading (wsV RX10 136 RX10 yX10_isThing wsX10_isThing) := goodIn_app (goodIn_of _ (by decide +kernel)) ggX10_reading_X10_isThing
set_option maxRecDepth 20000 in
theorem ggX10_reading_X10_within : GoodIn wsX10_reading wsX10_within := goodIn_r _ [13] (by decide +kernel) (by decide +kernel)
set_option maxRecDepth 20000 in
theorem gX10_reading_X10_within : GoodIn wsX10_reading (va_wsS RX10 86 yX10_within wsX10_within) := goodIn_app (goodIn_of _ (by decide +kernel)) ggX10_reading_X10_within
theorem dX10_reading_0 : decode cX10_reading 0 = .ok (.aload_n 0, 1) := by decide +kernel
theorem dX10_reading_1 : decode cX10_reading 1 = .ok (.iload_n 1, 1) := by decide +kernel
theorem dX10_reading_2 : decode cX10_reading 2 = .ok (.invokevirtual 136, 3) := by decide +kernel
theorem dX10_reading_5 : decode cX10_reading 5 = .ok (.ifCond .ne 5, 3) := by decide +kernel
theorem dX10_reading_8 : decode cX10_reading 8 = .ok (.iconst (-1), 1) := by decide +kernel
theorem dX10_reading_9 : decode cX10_reading 9 = .ok (.ireturn, 1) := by decide +kernel
theorem dX10_reading_10 : decode cX10_reading 10 = .ok (.iload_n 2, 1) := by decide +kernel
theorem dX10_reading_11 : decode cX10_reading 11 = .ok (.iconst 0, 1) := by decide +kernel
theorem dX10_reading_12 : decode cX10_reading 12 = .ok (.sipush 299, 3) := by decide +kernel
theorem dX10_reading_15 : decode cX10_reading 15 = .ok (.invokestatic 86, 3) := by decide +kernel
theorem dX10_reading_18 : decode cX10_reading 18 = .ok (.ifCond .ne 6, 3) := by decide +kernel
theorem dX10_reading_21 : decode cX10_reading 21 = .ok (.bipush (-2), 2) := by decide +kernel
theorem dX10_reading_23 : decode cX10_reading 23 = .ok (.ireturn, 1) := by decide +kernel
theorem dX10_reading_24 : decode cX10_reading 24 = .ok (.aload_n 0, 1) := by decide +kernel
theorem dX10_reading_25 : decode cX10_reading 25 = .ok (.getfield 126, 3) := by decide +kernel
theorem dX10_reading_28 : decode cX10_reading 28 = .ok (.bipush 8, 2) := by decide +kernel
theorem dX10_reading_30 : decode cX10_reading 30 = .ok (.if_icmp .ne 6, 3) := by decide +kernel
theorem dX10_reading_33 : decode cX10_reading 33 = .ok (.bipush (-4), 2) := by decide +kernel
theorem dX10_reading_35 : decode cX10_reading 35 = .ok (.ireturn, 1) := by decide +kernel
theorem dX10_reading_36 : decode cX10_reading 36 = .ok (.aload_n 0, 1) := by decide +kernel
theorem dX10_reading_37 : decode cX10_reading 37 = .ok (.getfield 71, 3) := by decide +kernel
theorem dX10_reading_40 : decode cX10_reading 40 = .ok (.aload_n 0, 1) := by decide +kernel
theorem dX10_reading_41 : decode cX10_reading 41 = .ok (.getfield 126, 3) := by decide +kernel
theorem dX10_reading_44 : decode cX10_reading 44 = .ok (.iload_n 1, 1) := by decide +kernel
theorem dX10_reading_45 : decode cX10_reading 45 = .ok (.iastore, 1) := by decide +kernel
theorem dX10_reading_46 : decode cX10_reading 46 = .ok (.aload_n 0, 1) := by decide +kernel
theorem dX10_reading_47 : decode cX10_reading 47 = .ok (.getfield 74, 3) := by decide +kernel
theorem dX10_reading_50 : decode cX10_reading 50 = .ok (.aload_n 0, 1) := by decide +kernel
theorem dX10_reading_51 : decode cX10_reading 51 = .ok (.getfield 126, 3) := by decide +kernel
theorem dX10_reading_54 : decode cX10_reading 54 = .ok (.iload_n 2, 1) := by decide +kernel
theorem dX10_reading_55 : decode cX10_reading 55 = .ok (.iastore, 1) := by decide +kernel
theorem dX10_reading_56 : decode cX10_reading 56 = .ok (.aload_n 0, 1) := by decide +kernel
theorem dX10_reading_57 : decode cX10_reading 57 = .ok (.getfield 77, 3) := by decide +kernel
theorem dX10_reading_60 : decode cX10_reading 60 = .ok (.aload_n 0, 1) := by decide +kernel
theorem dX10_reading_61 : decode cX10_reading 61 = .ok (.getfield 126, 3) := by decide +kernel
theorem dX10_reading_64 : decode cX10_reading 64 = .ok (.iload_n 3, 1) := by decide +kernel
theorem dX10_reading_65 : decode cX10_reading 65 = .ok (.bastore, 1) := by decide +kernel
theorem dX10_reading_66 : decode cX10_reading 66 = .ok (.aload_n 0, 1) := by decide +kernel
theorem dX10_reading_67 : decode cX10_reading 67 = .ok (.dup, 1) := by decide +kernel
theorem dX10_reading_68 : decode cX10_reading 68 = .ok (.getfield 126, 3) := by decide +kernel
theorem dX10_reading_71 : decode cX10_reading 71 = .ok (.iconst 1, 1) := by decide +kernel
theorem dX10_reading_72 : decode cX10_reading 72 = .ok (.iadd, 1) := by decide +kernel
theorem dX10_reading_73 : decode cX10_reading 73 = .ok (.putfield 126, 3) := by decide +kernel
theorem dX10_reading_76 : decode cX10_reading 76 = .ok (.aload_n 0, 1) := by decide +kernel
theorem dX10_reading_77 : decode cX10_reading 77 = .ok (.getfield 126, 3) := by decide +kernel
theorem dX10_reading_80 : decode cX10_reading 80 = .ok (.iconst 1, 1) := by decide +kernel
theorem dX10_reading_81 : decode cX10_reading 81 = .ok (.isub, 1) := by decide +kernel
theorem dX10_reading_82 : decode cX10_reading 82 = .ok (.ireturn, 1) := by decide +kernel
set_option maxRecDepth 20000 in
theorem ggX10_back_X10_within : GoodIn wsX10_back wsX10_within := goodIn_r _ [5] (by decide +kernel) (by decide +kernel)
set_option maxRecDepth 20000 in
theorem gX10_back_X10_within : GoodIn wsX10_back (va_wsS RX10 86 yX10_within wsX10_within) := goodIn_app (goodIn_of _ (by decide +kernel)) ggX10_back_X10_within
theorem dX10_back_0 : decode cX10_back 0 = .ok (.iload_n 1, 1) := by decide +kernel
theorem dX10_back_1 : decode cX10_back 1 = .ok (.iconst 0, 1) := by decide +kernel
theorem dX10_back_2 : decode cX10_back 2 = .ok (.aload_n 0, 1) := by decide +kernel
theorem dX10_back_3 : decode cX10_back 3 = .ok (.getfield 126, 3) := by decide +kernel
theorem dX10_back_6 : decode cX10_back 6 = .ok (.invokestatic 86, 3) := by decide +kernel
theorem dX10_back_9 : decode cX10_back 9 = .ok (.ifCond .ne 6, 3) := by decide +kernel
theorem dX10_back_12 : decode cX10_back 12 = .ok (.bipush (-2), 2) := by decide +kernel
theorem dX10_back_14 : decode cX10_back 14 = .ok (.ireturn, 1) := by decide +kernel
theorem dX10_back_15 : decode cX10_back 15 = .ok (.aload_n 0, 1) := by decide +kernel
theorem dX10_back_16 : decode cX10_back 16 = .ok (.dup, 1) := by decide +kernel
theorem dX10_back_17 : decode cX10_back 17 = .ok (.getfield 126, 3) := by decide +kernel
theorem dX10_back_20 : decode cX10_back 20 = .ok (.iload_n 1, 1) := by decide +kernel
theorem dX10_back_21 : decode cX10_back 21 = .ok (.isub, 1) := by decide +kernel
theorem dX10_back_22 : decode cX10_back 22 = .ok (.putfield 126, 3) := by decide +kernel
theorem dX10_back_25 : decode cX10_back 25 = .ok (.aload_n 0, 1) := by decide +kernel
theorem dX10_back_26 : decode cX10_back 26 = .ok (.getfield 126, 3) := by decide +kernel
theorem dX10_back_29 : decode cX10_back 29 = .ok (.ireturn, 1) := by decide +kernel
set_option maxRecDepth 20000 in
theorem ggX10_isUp_X10_holds : GoodIn wsX10_isUp wsX10_holds := goodIn_r _ [9, 10, 11, 12, 13, 14, 15, 16, 17, 18, 19, 20, 21, 22, 23, 24, 25, 26, 27, 28, 29, 30, 31, 32, 33, 34, 35, 36, 37, 38, 39, 40, 41, 42, 43, 44, 45, 46] (by decide +kernel) (by decide +kernel)
set_option maxRecDepth 20000 in
theorem gX10_isUp_X10_holds : GoodIn wsX10_isUp (wsV RX10 139 RX10 yX10_holds wsX10_holds) := goodIn_app (goodIn_of _ (by decide +kernel)) ggX10_isUp_X10_holds
theorem dX10_isUp_0 : decode cX10_isUp 0 = .ok (.aload_n 0, 1) := by decide +kernel
theorem dX10_isUp_1 : decode cX10_isUp 1 = .ok (.iload_n 1, 1) := by decide +kernel
theorem dX10_isUp_2 : decode cX10_isUp 2 = .ok (.invokevirtual 139, 3) := by decide +kernel
theorem dX10_isUp_5 : decode cX10_isUp 5 = .ok (.istore_n 3, 1) := by decide +kernel
theorem dX10_isUp_6 : decode cX10_isUp 6 = .ok (.iconst 0, 1) := by decide +kernel
theorem dX10_isUp_7 : decode cX10_isUp 7 = .ok (.istore 4, 2) := by decide +kernel
theorem dX10_isUp_9 : decode cX10_isUp 9 = .ok (.iload 4, 2) := by decide +kernel
theorem dX10_isUp_11 : decode cX10_isUp 11 = .ok (.aload_n 0, 1) := by decide +kernel
theorem dX10_isUp_12 : decode cX10_isUp 12 = .ok (.getfield 142, 3) := by decide +kernel
theorem dX10_isUp_15 : decode cX10_isUp 15 = .ok (.if_icmp .ge 56, 3) := by decide +kernel
theorem dX10_isUp_18 : decode cX10_isUp 18 = .ok (.aload_n 0, 1) := by decide +kernel
theorem dX10_isUp_19 : decode cX10_isUp 19 = .ok (.getfield 55, 3) := by decide +kernel
theorem dX10_isUp_22 : decode cX10_isUp 22 = .ok (.iload 4, 2) := by decide +kernel
theorem dX10_isUp_24 : decode cX10_isUp 24 = .ok (.iaload, 1) := by decide +kernel
theorem dX10_isUp_25 : decode cX10_isUp 25 = .ok (.iload_n 1, 1) := by decide +kernel
theorem dX10_isUp_26 : decode cX10_isUp 26 = .ok (.if_icmp .ne 37, 3) := by decide +kernel
theorem dX10_isUp_29 : decode cX10_isUp 29 = .ok (.aload_n 0, 1) := by decide +kernel
theorem dX10_isUp_30 : decode cX10_isUp 30 = .ok (.getfield 52, 3) := by decide +kernel
theorem dX10_isUp_33 : decode cX10_isUp 33 = .ok (.iload 4, 2) := by decide +kernel
theorem dX10_isUp_35 : decode cX10_isUp 35 = .ok (.iaload, 1) := by decide +kernel
theorem dX10_isUp_36 : decode cX10_isUp 36 = .ok (.iload_n 2, 1) := by decide +kernel
theorem dX10_isUp_37 : decode cX10_isUp 37 = .ok (.if_icmp .gt 26, 3) := by decide +kernel
theorem dX10_isUp_40 : decode cX10_isUp 40 = .ok (.aload_n 0, 1) := by decide +kernel
theorem dX10_isUp_41 : decode cX10_isUp 41 = .ok (.getfield 52, 3) := by decide +kernel
theorem dX10_isUp_44 : decode cX10_isUp 44 = .ok (.iload 4, 2) := by decide +kernel
theorem dX10_isUp_46 : decode cX10_isUp 46 = .ok (.iaload, 1) := by decide +kernel
theorem dX10_isUp_47 : decode cX10_isUp 47 = .ok (.aload_n 0, 1) := by decide +kernel
theorem dX10_isUp_48 : decode cX10_isUp 48 = .ok (.getfield 25, 3) := by decide +kernel
theorem dX10_isUp_51 : decode cX10_isUp 51 = .ok (.iload_n 1, 1) := by decide +kernel
theorem dX10_isUp_52 : decode cX10_isUp 52 = .ok (.iaload, 1) := by decide +kernel
theorem dX10_isUp_53 : decode cX10_isUp 53 = .ok (.iadd, 1) := by decide +kernel
theorem dX10_isUp_54 : decode cX10_isUp 54 = .ok (.aload_n 0, 1) := by decide +kernel
theorem dX10_isUp_55 : decode cX10_isUp 55 = .ok (.iload_n 1, 1) := by decide +kernel
theorem dX10_isUp_56 : decode cX10_isUp 56 = .ok (.invokevirtual 139, 3) := by decide +kernel
theorem dX10_isUp_59 : decode cX10_isUp 59 = .ok (.iadd, 1) := by decide +kernel
theorem dX10_isUp_60 : decode cX10_isUp 60 = .ok (.goto 4, 3) := by decide +kernel
theorem dX10_isUp_63 : decode cX10_isUp 63 = .ok (.iload_n 3, 1) := by decide +kernel
theorem dX10_isUp_64 : decode cX10_isUp 64 = .ok (.istore_n 3, 1) := by decide +kernel
theorem dX10_isUp_65 : decode cX10_isUp 65 = .ok (.iinc 4 1, 3) := by decide +kernel
theorem dX10_isUp_68 : decode cX10_isUp 68 = .ok (.goto (-59), 3) := by decide +kernel
theorem dX10_isUp_71 : decode cX10_isUp 71 = .ok (.iload_n 2, 1) := by decide +kernel
theorem dX10_isUp_72 : decode cX10_isUp 72 = .ok (.iload_n 3, 1) := by decide +kernel
theorem dX10_isUp_73 : decode cX10_isUp 73 = .ok (.if_icmp .ge 7, 3) := by decide +kernel
theorem dX10_isUp_76 : decode cX10_isUp 76 = .ok (.iconst 1, 1) := by decide +kernel
theorem dX10_isUp_77 : decode cX10_isUp 77 = .ok (.goto 4, 3) := by decide +kernel
theorem dX10_isUp_80 : decode cX10_isUp 80 = .ok (.iconst 0, 1) := by decide +kernel
theorem dX10_isUp_81 : decode cX10_isUp 81 = .ok (.ireturn, 1) := by decide +kernel
set_option maxRecDepth 20000 in
theorem ggX10_areSo_X10_layComings : GoodIn wsX10_areSo wsX10_layComings := goodIn_r _ [9, 10, 11, 12, 13, 14, 15, 16, 17, 18, 19, 8, 20, 32, 33, 34, 35, 36, 37, 38, 39, 40, 41, 42, 43, 44, 45, 46, 47, 48, 49, 50, 51, 52, 53, 54, 55, 56, 57, 58, 59, 60, 61, 62, 63, 64, 65] (by decide +kernel) (by decide +kernel)
set_option maxRecDepth 20000 in
theorem gX10_areSo_X10_layComings : GoodIn wsX10_areSo (wsV RX10 151 RX10 yX10_layComings wsX10_layComings) := goodIn_app (goodIn_of _ (by decide +kernel)) ggX10_areSo_X10_layComings
set_option maxRecDepth 20000 in
theorem ggX10_areSo_X10_isUp : GoodIn wsX10_areSo wsX10_isUp := goodIn_r _ [24, 10, 16, 15, 17, 25, 26, 27, 8, 28, 29, 30, 31, 32, 33, 34, 35, 36, 37, 38, 39, 40, 41, 42, 43, 44, 45, 46, 47, 48, 49, 50, 51, 52, 53, 54, 55, 56, 57, 58, 59, 60, 61, 62, 63, 64, 65] (by decide +kernel) (by decide +kernel)
set_option maxRecDepth 20000 in
theorem gX10_areSo_X10_isUp : GoodIn wsX10_areSo (wsV RX10 195 RX10 yX10_isUp wsX10_isUp) := goodIn_app (goodIn_of _ (by decide +kernel)) ggX10_areSo_X10_isUp
theorem dX10_areSo_0 : decode cX10_areSo 0 = .ok (.aload_n 0, 1) := by decide +kernel
theorem dX10_areSo_1 : decode cX10_areSo 1 = .ok (.sipush 300, 3) := by decide +kernel
theorem dX10_areSo_4 : decode cX10_areSo 4 = .ok (.sipush 400, 3) := by decide +kernel
theorem dX10_areSo_7 : decode cX10_areSo 7 = .ok (.invokevirtual 151, 3) := by decide +kernel
theorem dX10_areSo_10 : decode cX10_areSo 10 = .ok (.iconst 0, 1) := by decide +kernel
theorem dX10_areSo_11 : decode cX10_areSo 11 = .ok (.istore_n 1, 1) := by decide +kernel
theorem dX10_areSo_12 : decode cX10_areSo 12 = .ok (.iload_n 1, 1) := by decide +kernel
theorem dX10_areSo_13 : decode cX10_areSo 13 = .ok (.aload_n 0, 1) := by decide +kernel
theorem dX10_areSo_14 : decode cX10_areSo 14 = .ok (.getfield 126, 3) := by decide +kernel
theorem dX10_areSo_17 : decode cX10_areSo 17 = .ok (.if_icmp .ge 36, 3) := by decide +kernel
theorem dX10_areSo_20 : decode cX10_areSo 20 = .ok (.aload_n 0, 1) := by decide +kernel
theorem dX10_areSo_21 : decode cX10_areSo 21 = .ok (.aload_n 0, 1) := by decide +kernel
theorem dX10_areSo_22 : decode cX10_areSo 22 = .ok (.getfield 71, 3) := by decide +kernel
theorem dX10_areSo_25 : decode cX10_areSo 25 = .ok (.iload_n 1, 1) := by decide +kernel
theorem dX10_areSo_26 : decode cX10_areSo 26 = .ok (.iaload, 1) := by decide +kernel
theorem dX10_areSo_27 : decode cX10_areSo 27 = .ok (.aload_n 0, 1) := by decide +kernel
theorem dX10_areSo_28 : decode cX10_areSo 28 = .ok (.getfield 74, 3) := by decide +kernel
theorem dX10_areSo_31 : decode cX10_areSo 31 = .ok (.iload_n 1, 1) := by decide +kernel
theorem dX10_areSo_32 : decode cX10_areSo 32 = .ok (.iaload, 1) := by decide +kernel
theorem dX10_areSo_33 : decode cX10_areSo 33 = .ok (.invokevirtual 195, 3) := by decide +kernel
theorem dX10_areSo_36 : decode cX10_areSo 36 = .ok (.aload_n 0, 1) := by decide +kernel
theorem dX10_areSo_37 : decode cX10_areSo 37 = .ok (.getfield 77, 3) := by decide +kernel
theorem dX10_areSo_40 : decode cX10_areSo 40 = .ok (.iload_n 1, 1) := by decide +kernel
theorem dX10_areSo_41 : decode cX10_areSo 41 = .ok (.baload, 1) := by decide +kernel
theorem dX10_areSo_42 : decode cX10_areSo 42 = .ok (.if_icmp .eq 5, 3) := by decide +kernel
theorem dX10_areSo_45 : decode cX10_areSo 45 = .ok (.iconst 0, 1) := by decide +kernel
theorem dX10_areSo_46 : decode cX10_areSo 46 = .ok (.ireturn, 1) := by decide +kernel
theorem dX10_areSo_47 : decode cX10_areSo 47 = .ok (.iinc 1 1, 3) := by decide +kernel
theorem dX10_areSo_50 : decode cX10_areSo 50 = .ok (.goto (-38), 3) := by decide +kernel
theorem dX10_areSo_53 : decode cX10_areSo 53 = .ok (.iconst 1, 1) := by decide +kernel
theorem dX10_areSo_54 : decode cX10_areSo 54 = .ok (.ireturn, 1) := by decide +kernel
set_option maxRecDepth 20000 in
theorem ggX10_fits_X10_within : GoodIn wsX10_fits wsX10_within := goodIn_r _ [6] (by decide +kernel) (by decide +kernel)
set_option maxRecDepth 20000 in
theorem gX10_fits_X10_within : GoodIn wsX10_fits (va_wsS RX10 86 yX10_within wsX10_within) := goodIn_app (goodIn_of _ (by decide +kernel)) ggX10_fits_X10_within
set_option maxRecDepth 20000 in
theorem ggX10_fits_X10_all : GoodIn wsX10_fits wsX10_all := goodIn_r _ [10, 1, 56, 57, 58, 59, 60, 61, 62, 63, 64, 65, 66, 67, 68, 69, 70, 71, 72, 73, 74, 75, 76, 77, 78, 79, 80, 81, 82, 83, 84, 85, 86, 87, 88, 89] (by decide +kernel) (by decide +kernel)
set_option maxRecDepth 20000 in
theorem gX10_fits_X10_all : GoodIn wsX10_fits (wsV RX10 162 RX10 yX10_all wsX10_all) := goodIn_app (goodIn_of _ (by decide +kernel)) ggX10_fits_X10_all
set_option maxRecDepth 20000 in
theorem ggX10_fits_X10_firstOrder : GoodIn wsX10_fits wsX10_firstOrder := goodIn_r _ [14, 15, 1, 2, 56, 57, 58, 59, 60, 61, 62, 63, 64, 65, 66, 67, 68, 69, 70, 71, 72, 73, 74, 75, 76, 77, 78, 79, 80, 81, 82, 83, 84, 85, 86, 87, 88, 89] (by decide +kernel) (by decide +kernel)
set_option maxRecDepth 20000 in
theorem gX10_fits_X10_firstOrder : GoodIn wsX10_fits (wsV RX10 178 RX10 yX10_firstOrder wsX10_firstOrder) := goodIn_app (goodIn_of _ (by decide +kernel)) ggX10_fits_X10_firstOrder
set_option maxRecDepth 20000 in
theorem ggX10_fits_X10_areSo : GoodIn wsX10_fits wsX10_areSo := goodIn_r _ [19, 20, 21, 22, 23, 24, 25, 26, 5, 27, 28, 15, 29, 30, 2, 31, 32, 33, 34, 35, 36, 37, 38, 39, 40, 41, 42, 43, 44, 45, 46, 47, 56, 57, 58, 59, 60, 61, 62, 63, 64, 65, 66, 67, 68, 69, 70, 71, 72, 73, 74, 75, 76, 77, 78, 79, 80, 81, 82, 83, 84, 85, 86, 87, 88, 89] (by decide +kernel) (by decide +kernel)
set_option maxRecDepth 20000 in
theorem gX10_fits_X10_areSo : GoodIn wsX10_fits (wsV RX10 198 RX10 yX10_areSo wsX10_areSo) := goodIn_app (goodIn_of _ (by decide +kernel)) ggX10_fits_X10_areSo
set_option maxRecDepth 20000 in
theorem ggX10_fits_X10_nextOrder : GoodIn wsX10_fits wsX10_nextOrder := goodIn_r _ [51, 15, 2, 52, 53, 54, 5, 55, 56, 57, 58, 59, 60, 61, 62, 63, 64, 65, 66, 67, 68, 69, 70, 71, 72, 73, 74, 75, 76, 77, 78, 79, 80, 81, 82, 83, 84, 85, 86, 87, 88, 89] (by decide +kernel) (by decide +kernel)
set_option maxRecDepth 20000 in
theorem gX10_fits_X10_nextOrder : GoodIn wsX10_fits (wsV RX10 182 RX10 yX10_nextOrder wsX10_nextOrder) := goodIn_app (goodIn_of _ (by decide +kernel)) ggX10_fits_X10_nextOrder
theorem dX10_fits_0 : decode cX10_fits 0 = .ok (.aload_n 0, 1) := by decide +kernel
theorem dX10_fits_1 : decode cX10_fits 1 = .ok (.getfield 90, 3) := by decide +kernel
theorem dX10_fits_4 : decode cX10_fits 4 = .ok (.ifCond .ne 6, 3) := by decide +kernel
theorem dX10_fits_7 : decode cX10_fits 7 = .ok (.bipush (-3), 2) := by decide +kernel
theorem dX10_fits_9 : decode cX10_fits 9 = .ok (.ireturn, 1) := by decide +kernel
theorem dX10_fits_10 : decode cX10_fits 10 = .ok (.iload_n 1, 1) := by decide +kernel
theorem dX10_fits_11 : decode cX10_fits 11 = .ok (.iconst (-1), 1) := by decide +kernel
theorem dX10_fits_12 : decode cX10_fits 12 = .ok (.aload_n 0, 1) := by decide +kernel
theorem dX10_fits_13 : decode cX10_fits 13 = .ok (.getfield 90, 3) := by decide +kernel
theorem dX10_fits_16 : decode cX10_fits 16 = .ok (.iconst 1, 1) := by decide +kernel
theorem dX10_fits_17 : decode cX10_fits 17 = .ok (.isub, 1) := by decide +kernel
theorem dX10_fits_18 : decode cX10_fits 18 = .ok (.invokestatic 86, 3) := by decide +kernel
theorem dX10_fits_21 : decode cX10_fits 21 = .ok (.ifCond .ne 5, 3) := by decide +kernel
theorem dX10_fits_24 : decode cX10_fits 24 = .ok (.iconst (-1), 1) := by decide +kernel
theorem dX10_fits_25 : decode cX10_fits 25 = .ok (.ireturn, 1) := by decide +kernel
theorem dX10_fits_26 : decode cX10_fits 26 = .ok (.aload_n 0, 1) := by decide +kernel
theorem dX10_fits_27 : decode cX10_fits 27 = .ok (.aload_n 0, 1) := by decide +kernel
theorem dX10_fits_28 : decode cX10_fits 28 = .ok (.invokevirtual 162, 3) := by decide +kernel
theorem dX10_fits_31 : decode cX10_fits 31 = .ok (.invokevirtual 178, 3) := by decide +kernel
theorem dX10_fits_34 : decode cX10_fits 34 = .ok (.iconst 0, 1) := by decide +kernel
theorem dX10_fits_35 : decode cX10_fits 35 = .ok (.istore_n 2, 1) := by decide +kernel
theorem dX10_fits_36 : decode cX10_fits 36 = .ok (.bipush (-9), 2) := by decide +kernel
theorem dX10_fits_38 : decode cX10_fits 38 = .ok (.istore_n 3, 1) := by decide +kernel
theorem dX10_fits_39 : decode cX10_fits 39 = .ok (.iconst 1, 1) := by decide +kernel
theorem dX10_fits_40 : decode cX10_fits 40 = .ok (.istore 4, 2) := by decide +kernel
theorem dX10_fits_42 : decode cX10_fits 42 = .ok (.iload 4, 2) := by decide +kernel
theorem dX10_fits_44 : decode cX10_fits 44 = .ok (.ifCond .eq 41, 3) := by decide +kernel
theorem dX10_fits_47 : decode cX10_fits 47 = .ok (.aload_n 0, 1) := by decide +kernel
theorem dX10_fits_48 : decode cX10_fits 48 = .ok (.invokevirtual 198, 3) := by decide +kernel
theorem dX10_fits_51 : decode cX10_fits 51 = .ok (.ifCond .eq 25, 3) := by decide +kernel
theorem dX10_fits_54 : decode cX10_fits 54 = .ok (.iload_n 2, 1) := by decide +kernel
theorem dX10_fits_55 : decode cX10_fits 55 = .ok (.ifCond .ne 16, 3) := by decide +kernel
theorem dX10_fits_58 : decode cX10_fits 58 = .ok (.iload_n 1, 1) := by decide +kernel
theorem dX10_fits_59 : decode cX10_fits 59 = .ok (.ifCond .lt 12, 3) := by decide +kernel
theorem dX10_fits_62 : decode cX10_fits 62 = .ok (.aload_n 0, 1) := by decide +kernel
theorem dX10_fits_63 : decode cX10_fits 63 = .ok (.getfield 49, 3) := by decide +kernel
theorem dX10_fits_66 : decode cX10_fits 66 = .ok (.iload_n 1, 1) := by decide +kernel
theorem dX10_fits_67 : decode cX10_fits 67 = .ok (.iaload, 1) := by decide +kernel
theorem dX10_fits_68 : decode cX10_fits 68 = .ok (.goto 4, 3) := by decide +kernel
theorem dX10_fits_71 : decode cX10_fits 71 = .ok (.iload_n 3, 1) := by decide +kernel
theorem dX10_fits_72 : decode cX10_fits 72 = .ok (.istore_n 3, 1) := by decide +kernel
theorem dX10_fits_73 : decode cX10_fits 73 = .ok (.iinc 2 1, 3) := by decide +kernel
theorem dX10_fits_76 : decode cX10_fits 76 = .ok (.aload_n 0, 1) := by decide +kernel
theorem dX10_fits_77 : decode cX10_fits 77 = .ok (.invokevirtual 182, 3) := by decide +kernel
theorem dX10_fits_80 : decode cX10_fits 80 = .ok (.istore 4, 2) := by decide +kernel
theorem dX10_fits_82 : decode cX10_fits 82 = .ok (.goto (-40), 3) := by decide +kernel
theorem dX10_fits_85 : decode cX10_fits 85 = .ok (.iload_n 1, 1) := by decide +kernel
theorem dX10_fits_86 : decode cX10_fits 86 = .ok (.iconst (-1), 1) := by decide +kernel
theorem dX10_fits_87 : decode cX10_fits 87 = .ok (.if_icmp .ne 7, 3) := by decide +kernel
theorem dX10_fits_90 : decode cX10_fits 90 = .ok (.iload_n 2, 1) := by decide +kernel
theorem dX10_fits_91 : decode cX10_fits 91 = .ok (.goto 4, 3) := by decide +kernel
theorem dX10_fits_94 : decode cX10_fits 94 = .ok (.iload_n 3, 1) := by decide +kernel
theorem dX10_fits_95 : decode cX10_fits 95 = .ok (.ireturn, 1) := by decide +kernel
set_option maxRecDepth 20000 in
theorem ggX10_sheet_X10_isSheet : GoodIn wsX10_sheet wsX10_isSheet := goodIn_r _ [8, 9, 10, 7, 11] (by decide +kernel) (by decide +kernel)
set_option maxRecDepth 20000 in
theorem gX10_sheet_X10_isSheet : GoodIn wsX10_sheet (va_wsS RX10 96 yX10_isSheet wsX10_isSheet) := goodIn_app (goodIn_of _ (by decide +kernel)) ggX10_sheet_X10_isSheet
set_option maxRecDepth 20000 in
theorem ggX10_sheet_X10_isSort : GoodIn wsX10_sheet wsX10_isSort := goodIn_r _ [14, 9, 10, 7, 11] (by decide +kernel) (by decide +kernel)
set_option maxRecDepth 20000 in
theorem gX10_sheet_X10_isSort : GoodIn wsX10_sheet (va_wsS RX10 100 yX10_isSort wsX10_isSort) := goodIn_app (goodIn_of _ (by decide +kernel)) ggX10_sheet_X10_isSort
set_option maxRecDepth 20000 in
theorem ggX10_sheet_X10_fails : GoodIn wsX10_sheet wsX10_fails := goodIn_r _ [18, 1, 19, 20, 21, 22, 23, 24, 25, 26, 27, 28, 29, 30, 31, 32, 33, 34, 35, 36, 37, 38, 39, 40, 41, 42, 43, 44, 45, 46, 47, 48, 49, 50, 51, 52] (by decide +kernel) (by decide +kernel)
set_option maxRecDepth 20000 in
theorem gX10_sheet_X10_fails : GoodIn wsX10_sheet (wsV RX10 107 RX10 yX10_fails wsX10_fails) := goodIn_app (goodIn_of _ (by decide +kernel)) ggX10_sheet_X10_fails
theorem dX10_sheet_0 : decode cX10_sheet 0 = .ok (.aload_n 0, 1) := by decide +kernel
theorem dX10_sheet_1 : decode cX10_sheet 1 = .ok (.iconst 0, 1) := by decide +kernel
theorem dX10_sheet_2 : decode cX10_sheet 2 = .ok (.putfield 80, 3) := by decide +kernel
theorem dX10_sheet_5 : decode cX10_sheet 5 = .ok (.iload_n 1, 1) := by decide +kernel
theorem dX10_sheet_6 : decode cX10_sheet 6 = .ok (.invokestatic 96, 3) := by decide +kernel
theorem dX10_sheet_9 : decode cX10_sheet 9 = .ok (.ifCond .ne 5, 3) := by decide +kernel
theorem dX10_sheet_12 : decode cX10_sheet 12 = .ok (.iconst (-1), 1) := by decide +kernel
theorem dX10_sheet_13 : decode cX10_sheet 13 = .ok (.ireturn, 1) := by decide +kernel
theorem dX10_sheet_14 : decode cX10_sheet 14 = .ok (.iload_n 2, 1) := by decide +kernel
theorem dX10_sheet_15 : decode cX10_sheet 15 = .ok (.invokestatic 100, 3) := by decide +kernel
theorem dX10_sheet_18 : decode cX10_sheet 18 = .ok (.ifCond .eq 9, 3) := by decide +kernel
theorem dX10_sheet_21 : decode cX10_sheet 21 = .ok (.iload_n 3, 1) := by decide +kernel
theorem dX10_sheet_22 : decode cX10_sheet 22 = .ok (.bipush 60, 2) := by decide +kernel
theorem dX10_sheet_24 : decode cX10_sheet 24 = .ok (.if_icmp .le 6, 3) := by decide +kernel
theorem dX10_sheet_27 : decode cX10_sheet 27 = .ok (.bipush (-2), 2) := by decide +kernel
theorem dX10_sheet_29 : decode cX10_sheet 29 = .ok (.ireturn, 1) := by decide +kernel
theorem dX10_sheet_30 : decode cX10_sheet 30 = .ok (.iload_n 3, 1) := by decide +kernel
theorem dX10_sheet_31 : decode cX10_sheet 31 = .ok (.ifCond .ge 9, 3) := by decide +kernel
theorem dX10_sheet_34 : decode cX10_sheet 34 = .ok (.aload_n 0, 1) := by decide +kernel
theorem dX10_sheet_35 : decode cX10_sheet 35 = .ok (.iconst 4, 1) := by decide +kernel
theorem dX10_sheet_36 : decode cX10_sheet 36 = .ok (.invokevirtual 107, 3) := by decide +kernel
theorem dX10_sheet_39 : decode cX10_sheet 39 = .ok (.ireturn, 1) := by decide +kernel
theorem dX10_sheet_40 : decode cX10_sheet 40 = .ok (.aload_n 0, 1) := by decide +kernel
theorem dX10_sheet_41 : decode cX10_sheet 41 = .ok (.getfield 9, 3) := by decide +kernel
theorem dX10_sheet_44 : decode cX10_sheet 44 = .ok (.iload_n 1, 1) := by decide +kernel
theorem dX10_sheet_45 : decode cX10_sheet 45 = .ok (.iload_n 2, 1) := by decide +kernel
theorem dX10_sheet_46 : decode cX10_sheet 46 = .ok (.iastore, 1) := by decide +kernel
theorem dX10_sheet_47 : decode cX10_sheet 47 = .ok (.aload_n 0, 1) := by decide +kernel
theorem dX10_sheet_48 : decode cX10_sheet 48 = .ok (.getfield 13, 3) := by decide +kernel
theorem dX10_sheet_51 : decode cX10_sheet 51 = .ok (.iload_n 1, 1) := by decide +kernel
theorem dX10_sheet_52 : decode cX10_sheet 52 = .ok (.iload_n 3, 1) := by decide +kernel
theorem dX10_sheet_53 : decode cX10_sheet 53 = .ok (.iastore, 1) := by decide +kernel
theorem dX10_sheet_54 : decode cX10_sheet 54 = .ok (.iconst 0, 1) := by decide +kernel
theorem dX10_sheet_55 : decode cX10_sheet 55 = .ok (.istore 4, 2) := by decide +kernel
theorem dX10_sheet_57 : decode cX10_sheet 57 = .ok (.iload 4, 2) := by decide +kernel
theorem dX10_sheet_59 : decode cX10_sheet 59 = .ok (.bipush 60, 2) := by decide +kernel
theorem dX10_sheet_61 : decode cX10_sheet 61 = .ok (.if_icmp .ge 22, 3) := by decide +kernel
theorem dX10_sheet_64 : decode cX10_sheet 64 = .ok (.aload_n 0, 1) := by decide +kernel
theorem dX10_sheet_65 : decode cX10_sheet 65 = .ok (.getfield 16, 3) := by decide +kernel
theorem dX10_sheet_68 : decode cX10_sheet 68 = .ok (.bipush 60, 2) := by decide +kernel
theorem dX10_sheet_70 : decode cX10_sheet 70 = .ok (.iload_n 1, 1) := by decide +kernel
theorem dX10_sheet_71 : decode cX10_sheet 71 = .ok (.imul, 1) := by decide +kernel
theorem dX10_sheet_72 : decode cX10_sheet 72 = .ok (.iload 4, 2) := by decide +kernel
theorem dX10_sheet_74 : decode cX10_sheet 74 = .ok (.iadd, 1) := by decide +kernel
theorem dX10_sheet_75 : decode cX10_sheet 75 = .ok (.iconst 0, 1) := by decide +kernel
theorem dX10_sheet_76 : decode cX10_sheet 76 = .ok (.iastore, 1) := by decide +kernel
theorem dX10_sheet_77 : decode cX10_sheet 77 = .ok (.iinc 4 1, 3) := by decide +kernel
theorem dX10_sheet_80 : decode cX10_sheet 80 = .ok (.goto (-23), 3) := by decide +kernel
theorem dX10_sheet_83 : decode cX10_sheet 83 = .ok (.iconst 1, 1) := by decide +kernel
theorem dX10_sheet_84 : decode cX10_sheet 84 = .ok (.ireturn, 1) := by decide +kernel
set_option maxRecDepth 20000 in
theorem ggX10_lose_X10_isSheet : GoodIn wsX10_lose wsX10_isSheet := goodIn_r _ [5, 6, 7, 4, 8] (by decide +kernel) (by decide +kernel)
set_option maxRecDepth 20000 in
theorem gX10_lose_X10_isSheet : GoodIn wsX10_lose (va_wsS RX10 96 yX10_isSheet wsX10_isSheet) := goodIn_app (goodIn_of _ (by decide +kernel)) ggX10_lose_X10_isSheet
theorem dX10_lose_0 : decode cX10_lose 0 = .ok (.iload_n 1, 1) := by decide +kernel
theorem dX10_lose_1 : decode cX10_lose 1 = .ok (.invokestatic 96, 3) := by decide +kernel
theorem dX10_lose_4 : decode cX10_lose 4 = .ok (.ifCond .ne 5, 3) := by decide +kernel
theorem dX10_lose_7 : decode cX10_lose 7 = .ok (.iconst (-1), 1) := by decide +kernel
theorem dX10_lose_8 : decode cX10_lose 8 = .ok (.ireturn, 1) := by decide +kernel
theorem dX10_lose_9 : decode cX10_lose 9 = .ok (.aload_n 0, 1) := by decide +kernel
theorem dX10_lose_10 : decode cX10_lose 10 = .ok (.getfield 9, 3) := by decide +kernel
theorem dX10_lose_13 : decode cX10_lose 13 = .ok (.iload_n 1, 1) := by decide +kernel
theorem dX10_lose_14 : decode cX10_lose 14 = .ok (.iaload, 1) := by decide +kernel
theorem dX10_lose_15 : decode cX10_lose 15 = .ok (.bipush (-9), 2) := by decide +kernel
theorem dX10_lose_17 : decode cX10_lose 17 = .ok (.if_icmp .ne 7, 3) := by decide +kernel
theorem dX10_lose_20 : decode cX10_lose 20 = .ok (.iconst 0, 1) := by decide +kernel
theorem dX10_lose_21 : decode cX10_lose 21 = .ok (.goto 4, 3) := by decide +kernel
theorem dX10_lose_24 : decode cX10_lose 24 = .ok (.iconst 1, 1) := by decide +kernel
theorem dX10_lose_25 : decode cX10_lose 25 = .ok (.istore_n 2, 1) := by decide +kernel
theorem dX10_lose_26 : decode cX10_lose 26 = .ok (.aload_n 0, 1) := by decide +kernel
theorem dX10_lose_27 : decode cX10_lose 27 = .ok (.getfield 9, 3) := by decide +kernel
theorem dX10_lose_30 : decode cX10_lose 30 = .ok (.iload_n 1, 1) := by decide +kernel
theorem dX10_lose_31 : decode cX10_lose 31 = .ok (.bipush (-9), 2) := by decide +kernel
theorem dX10_lose_33 : decode cX10_lose 33 = .ok (.iastore, 1) := by decide +kernel
theorem dX10_lose_34 : decode cX10_lose 34 = .ok (.iload_n 2, 1) := by decide +kernel
theorem dX10_lose_35 : decode cX10_lose 35 = .ok (.ireturn, 1) := by decide +kernel
set_option maxRecDepth 20000 in
theorem ggX10_put_X10_isSheet : GoodIn wsX10_put wsX10_isSheet := goodIn_r _ [8, 9, 10, 7, 11] (by decide +kernel) (by decide +kernel)
set_option maxRecDepth 20000 in
theorem gX10_put_X10_isSheet : GoodIn wsX10_put (va_wsS RX10 96 yX10_isSheet wsX10_isSheet) := goodIn_app (goodIn_of _ (by decide +kernel)) ggX10_put_X10_isSheet
set_option maxRecDepth 20000 in
theorem ggX10_put_X10_fails : GoodIn wsX10_put wsX10_fails := goodIn_r _ [15, 1, 16, 17, 18, 19, 20, 21, 22, 23, 24, 25, 26, 27, 28, 29, 30, 31, 32, 33, 34, 35, 36, 37, 38, 39, 40, 41, 42, 43, 44, 45, 46, 47, 48, 49] (by decide +kernel) (by decide +kernel)
set_option maxRecDepth 20000 in
theorem gX10_put_X10_fails : GoodIn wsX10_put (wsV RX10 107 RX10 yX10_fails wsX10_fails) := goodIn_app (goodIn_of _ (by decide +kernel)) ggX10_put_X10_fails
set_option maxRecDepth 20000 in
theorem ggX10_put_X10_within : GoodIn wsX10_put wsX10_within := goodIn_r _ [11] (by decide +kernel) (by decide +kernel)
set_option maxRecDepth 20000 in
theorem gX10_put_X10_within : GoodIn wsX10_put (va_wsS RX10 86 yX10_within wsX10_within) := goodIn_app (goodIn_of _ (by decide +kernel)) ggX10_put_X10_within
theorem dX10_put_0 : decode cX10_put 0 = .ok (.aload_n 0, 1) := by decide +kernel
theorem dX10_put_1 : decode cX10_put 1 = .ok (.iconst 0, 1) := by decide +kernel
theorem dX10_put_2 : decode cX10_put 2 = .ok (.putfield 80, 3) := by decide +kernel
theorem dX10_put_5 : decode cX10_put 5 = .ok (.iload_n 1, 1) := by decide +kernel
theorem dX10_put_6 : decode cX10_put 6 = .ok (.invokestatic 96, 3) := by decide +kernel
theorem dX10_put_9 : decode cX10_put 9 = .ok (.ifCond .ne 5, 3) := by decide +kernel
theorem dX10_put_12 : decode cX10_put 12 = .ok (.iconst (-1), 1) := by decide +kernel
theorem dX10_put_13 : decode cX10_put 13 = .ok (.ireturn, 1) := by decide +kernel
theorem dX10_put_14 : decode cX10_put 14 = .ok (.aload_n 0, 1) := by decide +kernel
theorem dX10_put_15 : decode cX10_put 15 = .ok (.getfield 9, 3) := by decide +kernel
theorem dX10_put_18 : decode cX10_put 18 = .ok (.iload_n 1, 1) := by decide +kernel
theorem dX10_put_19 : decode cX10_put 19 = .ok (.iaload, 1) := by decide +kernel
theorem dX10_put_20 : decode cX10_put 20 = .ok (.bipush (-9), 2) := by decide +kernel
theorem dX10_put_22 : decode cX10_put 22 = .ok (.if_icmp .ne 9, 3) := by decide +kernel
theorem dX10_put_25 : decode cX10_put 25 = .ok (.aload_n 0, 1) := by decide +kernel
theorem dX10_put_26 : decode cX10_put 26 = .ok (.iconst 1, 1) := by decide +kernel
theorem dX10_put_27 : decode cX10_put 27 = .ok (.invokevirtual 107, 3) := by decide +kernel
theorem dX10_put_30 : decode cX10_put 30 = .ok (.ireturn, 1) := by decide +kernel
theorem dX10_put_31 : decode cX10_put 31 = .ok (.iload_n 2, 1) := by decide +kernel
theorem dX10_put_32 : decode cX10_put 32 = .ok (.iconst 0, 1) := by decide +kernel
theorem dX10_put_33 : decode cX10_put 33 = .ok (.aload_n 0, 1) := by decide +kernel
theorem dX10_put_34 : decode cX10_put 34 = .ok (.getfield 13, 3) := by decide +kernel
theorem dX10_put_37 : decode cX10_put 37 = .ok (.iload_n 1, 1) := by decide +kernel
theorem dX10_put_38 : decode cX10_put 38 = .ok (.iaload, 1) := by decide +kernel
theorem dX10_put_39 : decode cX10_put 39 = .ok (.iconst 1, 1) := by decide +kernel
theorem dX10_put_40 : decode cX10_put 40 = .ok (.isub, 1) := by decide +kernel
theorem dX10_put_41 : decode cX10_put 41 = .ok (.invokestatic 86, 3) := by decide +kernel
theorem dX10_put_44 : decode cX10_put 44 = .ok (.ifCond .ne 9, 3) := by decide +kernel
theorem dX10_put_47 : decode cX10_put 47 = .ok (.aload_n 0, 1) := by decide +kernel
theorem dX10_put_48 : decode cX10_put 48 = .ok (.iconst 3, 1) := by decide +kernel
theorem dX10_put_49 : decode cX10_put 49 = .ok (.invokevirtual 107, 3) := by decide +kernel
theorem dX10_put_52 : decode cX10_put 52 = .ok (.ireturn, 1) := by decide +kernel
theorem dX10_put_53 : decode cX10_put 53 = .ok (.aload_n 0, 1) := by decide +kernel
theorem dX10_put_54 : decode cX10_put 54 = .ok (.getfield 16, 3) := by decide +kernel
theorem dX10_put_57 : decode cX10_put 57 = .ok (.bipush 60, 2) := by decide +kernel
theorem dX10_put_59 : decode cX10_put 59 = .ok (.iload_n 1, 1) := by decide +kernel
theorem dX10_put_60 : decode cX10_put 60 = .ok (.imul, 1) := by decide +kernel
theorem dX10_put_61 : decode cX10_put 61 = .ok (.iload_n 2, 1) := by decide +kernel
theorem dX10_put_62 : decode cX10_put 62 = .ok (.iadd, 1) := by decide +kernel
theorem dX10_put_63 : decode cX10_put 63 = .ok (.aload_n 0, 1) := by decide +kernel
theorem dX10_put_64 : decode cX10_put 64 = .ok (.getfield 9, 3) := by decide +kernel
theorem dX10_put_67 : decode cX10_put 67 = .ok (.iload_n 1, 1) := by decide +kernel
theorem dX10_put_68 : decode cX10_put 68 = .ok (.iaload, 1) := by decide +kernel
theorem dX10_put_69 : decode cX10_put 69 = .ok (.ifCond .ne 8, 3) := by decide +kernel
theorem dX10_put_72 : decode cX10_put 72 = .ok (.iload_n 3, 1) := by decide +kernel
theorem dX10_put_73 : decode cX10_put 73 = .ok (.i2b, 1) := by decide +kernel
theorem dX10_put_74 : decode cX10_put 74 = .ok (.goto 19, 3) := by decide +kernel
theorem dX10_put_77 : decode cX10_put 77 = .ok (.aload_n 0, 1) := by decide +kernel
theorem dX10_put_78 : decode cX10_put 78 = .ok (.getfield 9, 3) := by decide +kernel
theorem dX10_put_81 : decode cX10_put 81 = .ok (.iload_n 1, 1) := by decide +kernel
theorem dX10_put_82 : decode cX10_put 82 = .ok (.iaload, 1) := by decide +kernel
theorem dX10_put_83 : decode cX10_put 83 = .ok (.iconst 1, 1) := by decide +kernel
theorem dX10_put_84 : decode cX10_put 84 = .ok (.if_icmp .ne 8, 3) := by decide +kernel
theorem dX10_put_87 : decode cX10_put 87 = .ok (.iload_n 3, 1) := by decide +kernel
theorem dX10_put_88 : decode cX10_put 88 = .ok (.i2s, 1) := by decide +kernel
theorem dX10_put_89 : decode cX10_put 89 = .ok (.goto 4, 3) := by decide +kernel
theorem dX10_put_92 : decode cX10_put 92 = .ok (.iload_n 3, 1) := by decide +kernel
theorem dX10_put_93 : decode cX10_put 93 = .ok (.iastore, 1) := by decide +kernel
theorem dX10_put_94 : decode cX10_put 94 = .ok (.iconst 1, 1) := by decide +kernel
theorem dX10_put_95 : decode cX10_put 95 = .ok (.ireturn, 1) := by decide +kernel
set_option maxRecDepth 20000 in
theorem ggX10_cell_X10_isSheet : GoodIn wsX10_cell wsX10_isSheet := goodIn_r _ [9, 10, 11, 8, 12] (by decide +kernel) (by decide +kernel)
set_option maxRecDepth 20000 in
theorem gX10_cell_X10_isSheet : GoodIn wsX10_cell (va_wsS RX10 96 yX10_isSheet wsX10_isSheet) := goodIn_app (goodIn_of _ (by decide +kernel)) ggX10_cell_X10_isSheet
set_option maxRecDepth 20000 in
theorem ggX10_cell_X10_isSort : GoodIn wsX10_cell wsX10_isSort := goodIn_r _ [15, 10, 11, 8, 12] (by decide +kernel) (by decide +kernel)
set_option maxRecDepth 20000 in
theorem gX10_cell_X10_isSort : GoodIn wsX10_cell (va_wsS RX10 100 yX10_isSort wsX10_isSort) := goodIn_app (goodIn_of _ (by decide +kernel)) ggX10_cell_X10_isSort
set_option maxRecDepth 20000 in
theorem ggX10_cell_X10_lost : GoodIn wsX10_cell wsX10_lost := goodIn_r _ [19, 1, 2, 20, 21, 22, 23, 24, 25, 26, 27, 28, 29, 30, 31, 32, 33, 34, 35, 36, 37, 38, 39, 40, 41, 42, 43, 44, 45, 46, 47, 48, 49, 50, 51, 52, 53] (by decide +kernel) (by decide +kernel)
set_option maxRecDepth 20000 in
theorem gX10_cell_X10_lost : GoodIn wsX10_cell (wsV RX10 201 RX10 yX10_lost wsX10_lost) := goodIn_app (goodIn_of _ (by decide +kernel)) ggX10_cell_X10_lost
set_option maxRecDepth 20000 in
theorem ggX10_cell_X10_within : GoodIn wsX10_cell wsX10_within := goodIn_r _ [12] (by decide +kernel) (by decide +kernel)
set_option maxRecDepth 20000 in
theorem gX10_cell_X10_within : GoodIn wsX10_cell (va_wsS RX10 86 yX10_within wsX10_within) := goodIn_app (goodIn_of _ (by decide +kernel)) ggX10_cell_X10_within
theorem dX10_cell_0 : decode cX10_cell 0 = .ok (.aload_n 0, 1) := by decide +kernel
theorem dX10_cell_1 : decode cX10_cell 1 = .ok (.iconst 0, 1) := by decide +kernel
theorem dX10_cell_2 : decode cX10_cell 2 = .ok (.putfield 80, 3) := by decide +kernel
theorem dX10_cell_5 : decode cX10_cell 5 = .ok (.iload_n 1, 1) := by decide +kernel
theorem dX10_cell_6 : decode cX10_cell 6 = .ok (.invokestatic 96, 3) := by decide +kernel
theorem dX10_cell_9 : decode cX10_cell 9 = .ok (.ifCond .eq 10, 3) := by decide +kernel
theorem dX10_cell_12 : decode cX10_cell 12 = .ok (.iload_n 3, 1) := by decide +kernel
theorem dX10_cell_13 : decode cX10_cell 13 = .ok (.invokestatic 100, 3) := by decide +kernel
theorem dX10_cell_16 : decode cX10_cell 16 = .ok (.ifCond .ne 7, 3) := by decide +kernel
theorem dX10_cell_19 : decode cX10_cell 19 = .ok (.ldc2_w 84, 3) := by decide +kernel
theorem dX10_cell_22 : decode cX10_cell 22 = .ok (.lreturn, 1) := by decide +kernel
theorem dX10_cell_23 : decode cX10_cell 23 = .ok (.aload_n 0, 1) := by decide +kernel
theorem dX10_cell_24 : decode cX10_cell 24 = .ok (.getfield 9, 3) := by decide +kernel
theorem dX10_cell_27 : decode cX10_cell 27 = .ok (.iload_n 1, 1) := by decide +kernel
theorem dX10_cell_28 : decode cX10_cell 28 = .ok (.iaload, 1) := by decide +kernel
theorem dX10_cell_29 : decode cX10_cell 29 = .ok (.bipush (-9), 2) := by decide +kernel
theorem dX10_cell_31 : decode cX10_cell 31 = .ok (.if_icmp .eq 19, 3) := by decide +kernel
theorem dX10_cell_34 : decode cX10_cell 34 = .ok (.aload_n 0, 1) := by decide +kernel
theorem dX10_cell_35 : decode cX10_cell 35 = .ok (.getfield 9, 3) := by decide +kernel
theorem dX10_cell_38 : decode cX10_cell 38 = .ok (.iload_n 1, 1) := by decide +kernel
theorem dX10_cell_39 : decode cX10_cell 39 = .ok (.iaload, 1) := by decide +kernel
theorem dX10_cell_40 : decode cX10_cell 40 = .ok (.iload_n 3, 1) := by decide +kernel
theorem dX10_cell_41 : decode cX10_cell 41 = .ok (.if_icmp .eq 9, 3) := by decide +kernel
theorem dX10_cell_44 : decode cX10_cell 44 = .ok (.aload_n 0, 1) := by decide +kernel
theorem dX10_cell_45 : decode cX10_cell 45 = .ok (.iconst 2, 1) := by decide +kernel
theorem dX10_cell_46 : decode cX10_cell 46 = .ok (.invokevirtual 201, 3) := by decide +kernel
theorem dX10_cell_49 : decode cX10_cell 49 = .ok (.lreturn, 1) := by decide +kernel
theorem dX10_cell_50 : decode cX10_cell 50 = .ok (.aload_n 0, 1) := by decide +kernel
theorem dX10_cell_51 : decode cX10_cell 51 = .ok (.getfield 9, 3) := by decide +kernel
theorem dX10_cell_54 : decode cX10_cell 54 = .ok (.iload_n 1, 1) := by decide +kernel
theorem dX10_cell_55 : decode cX10_cell 55 = .ok (.iaload, 1) := by decide +kernel
theorem dX10_cell_56 : decode cX10_cell 56 = .ok (.bipush (-9), 2) := by decide +kernel
theorem dX10_cell_58 : decode cX10_cell 58 = .ok (.if_icmp .ne 9, 3) := by decide +kernel
theorem dX10_cell_61 : decode cX10_cell 61 = .ok (.aload_n 0, 1) := by decide +kernel
theorem dX10_cell_62 : decode cX10_cell 62 = .ok (.iconst 1, 1) := by decide +kernel
theorem dX10_cell_63 : decode cX10_cell 63 = .ok (.invokevirtual 201, 3) := by decide +kernel
theorem dX10_cell_66 : decode cX10_cell 66 = .ok (.lreturn, 1) := by decide +kernel
theorem dX10_cell_67 : decode cX10_cell 67 = .ok (.iload_n 2, 1) := by decide +kernel
theorem dX10_cell_68 : decode cX10_cell 68 = .ok (.iconst 0, 1) := by decide +kernel
theorem dX10_cell_69 : decode cX10_cell 69 = .ok (.aload_n 0, 1) := by decide +kernel
theorem dX10_cell_70 : decode cX10_cell 70 = .ok (.getfield 13, 3) := by decide +kernel
theorem dX10_cell_73 : decode cX10_cell 73 = .ok (.iload_n 1, 1) := by decide +kernel
theorem dX10_cell_74 : decode cX10_cell 74 = .ok (.iaload, 1) := by decide +kernel
theorem dX10_cell_75 : decode cX10_cell 75 = .ok (.iconst 1, 1) := by decide +kernel
theorem dX10_cell_76 : decode cX10_cell 76 = .ok (.isub, 1) := by decide +kernel
theorem dX10_cell_77 : decode cX10_cell 77 = .ok (.invokestatic 86, 3) := by decide +kernel
theorem dX10_cell_80 : decode cX10_cell 80 = .ok (.ifCond .ne 9, 3) := by decide +kernel
theorem dX10_cell_83 : decode cX10_cell 83 = .ok (.aload_n 0, 1) := by decide +kernel
theorem dX10_cell_84 : decode cX10_cell 84 = .ok (.iconst 3, 1) := by decide +kernel
theorem dX10_cell_85 : decode cX10_cell 85 = .ok (.invokevirtual 201, 3) := by decide +kernel
theorem dX10_cell_88 : decode cX10_cell 88 = .ok (.lreturn, 1) := by decide +kernel
theorem dX10_cell_89 : decode cX10_cell 89 = .ok (.aload_n 0, 1) := by decide +kernel
theorem dX10_cell_90 : decode cX10_cell 90 = .ok (.getfield 16, 3) := by decide +kernel
theorem dX10_cell_93 : decode cX10_cell 93 = .ok (.bipush 60, 2) := by decide +kernel
theorem dX10_cell_95 : decode cX10_cell 95 = .ok (.iload_n 1, 1) := by decide +kernel
theorem dX10_cell_96 : decode cX10_cell 96 = .ok (.imul, 1) := by decide +kernel
theorem dX10_cell_97 : decode cX10_cell 97 = .ok (.iload_n 2, 1) := by decide +kernel
theorem dX10_cell_98 : decode cX10_cell 98 = .ok (.iadd, 1) := by decide +kernel
theorem dX10_cell_99 : decode cX10_cell 99 = .ok (.iaload, 1) := by decide +kernel
theorem dX10_cell_100 : decode cX10_cell 100 = .ok (.i2l, 1) := by decide +kernel
theorem dX10_cell_101 : decode cX10_cell 101 = .ok (.lreturn, 1) := by decide +kernel
set_option maxRecDepth 20000 in
theorem ggX10_copy_X10_isSheet : GoodIn wsX10_copy wsX10_isSheet := goodIn_r _ [8, 9, 10, 7, 11] (by decide +kernel) (by decide +kernel)
set_option maxRecDepth 20000 in
theorem gX10_copy_X10_isSheet : GoodIn wsX10_copy (va_wsS RX10 96 yX10_isSheet wsX10_isSheet) := goodIn_app (goodIn_of _ (by decide +kernel)) ggX10_copy_X10_isSheet
set_option maxRecDepth 20000 in
theorem ggX10_copy_X10_fails : GoodIn wsX10_copy wsX10_fails := goodIn_r _ [15, 1, 16, 17, 18, 19, 20, 21, 22, 23, 24, 25, 26, 27, 28, 29, 30, 31, 32, 33, 34, 35, 36, 37, 38, 39, 40, 41, 42, 43, 44, 45, 46, 47, 48, 49] (by decide +kernel) (by decide +kernel)
set_option maxRecDepth 20000 in
theorem gX10_copy_X10_fails : GoodIn wsX10_copy (wsV RX10 107 RX10 yX10_fails wsX10_fails) := goodIn_app (goodIn_of _ (by decide +kernel)) ggX10_copy_X10_fails
theorem dX10_copy_0 : decode cX10_copy 0 = .ok (.aload_n 0, 1) := by decide +kernel
theorem dX10_copy_1 : decode cX10_copy 1 = .ok (.iconst 0, 1) := by decide +kernel
theorem dX10_copy_2 : decode cX10_copy 2 = .ok (.putfield 80, 3) := by decide +kernel
theorem dX10_copy_5 : decode cX10_copy 5 = .ok (.iload_n 1, 1) := by decide +kernel
theorem dX10_copy_6 : decode cX10_copy 6 = .ok (.invokestatic 96, 3) := by decide +kernel
theorem dX10_copy_9 : decode cX10_copy 9 = .ok (.ifCond .eq 10, 3) := by decide +kernel
theorem dX10_copy_12 : decode cX10_copy 12 = .ok (.iload_n 3, 1) := by decide +kernel
theorem dX10_copy_13 : decode cX10_copy 13 = .ok (.invokestatic 96, 3) := by decide +kernel
theorem dX10_copy_16 : decode cX10_copy 16 = .ok (.ifCond .ne 5, 3) := by decide +kernel
theorem dX10_copy_19 : decode cX10_copy 19 = .ok (.iconst (-1), 1) := by decide +kernel
theorem dX10_copy_20 : decode cX10_copy 20 = .ok (.ireturn, 1) := by decide +kernel
theorem dX10_copy_21 : decode cX10_copy 21 = .ok (.aload_n 0, 1) := by decide +kernel
theorem dX10_copy_22 : decode cX10_copy 22 = .ok (.getfield 9, 3) := by decide +kernel
theorem dX10_copy_25 : decode cX10_copy 25 = .ok (.iload_n 1, 1) := by decide +kernel
theorem dX10_copy_26 : decode cX10_copy 26 = .ok (.iaload, 1) := by decide +kernel
theorem dX10_copy_27 : decode cX10_copy 27 = .ok (.bipush (-9), 2) := by decide +kernel
theorem dX10_copy_29 : decode cX10_copy 29 = .ok (.if_icmp .eq 14, 3) := by decide +kernel
theorem dX10_copy_32 : decode cX10_copy 32 = .ok (.aload_n 0, 1) := by decide +kernel
theorem dX10_copy_33 : decode cX10_copy 33 = .ok (.getfield 9, 3) := by decide +kernel
theorem dX10_copy_36 : decode cX10_copy 36 = .ok (.iload_n 3, 1) := by decide +kernel
theorem dX10_copy_37 : decode cX10_copy 37 = .ok (.iaload, 1) := by decide +kernel
theorem dX10_copy_38 : decode cX10_copy 38 = .ok (.bipush (-9), 2) := by decide +kernel
theorem dX10_copy_40 : decode cX10_copy 40 = .ok (.if_icmp .ne 9, 3) := by decide +kernel
theorem dX10_copy_43 : decode cX10_copy 43 = .ok (.aload_n 0, 1) := by decide +kernel
theorem dX10_copy_44 : decode cX10_copy 44 = .ok (.iconst 1, 1) := by decide +kernel
theorem dX10_copy_45 : decode cX10_copy 45 = .ok (.invokevirtual 107, 3) := by decide +kernel
theorem dX10_copy_48 : decode cX10_copy 48 = .ok (.ireturn, 1) := by decide +kernel
theorem dX10_copy_49 : decode cX10_copy 49 = .ok (.aload_n 0, 1) := by decide +kernel
theorem dX10_copy_50 : decode cX10_copy 50 = .ok (.getfield 9, 3) := by decide +kernel
theorem dX10_copy_53 : decode cX10_copy 53 = .ok (.iload_n 1, 1) := by decide +kernel
theorem dX10_copy_54 : decode cX10_copy 54 = .ok (.iaload, 1) := by decide +kernel
theorem dX10_copy_55 : decode cX10_copy 55 = .ok (.aload_n 0, 1) := by decide +kernel
theorem dX10_copy_56 : decode cX10_copy 56 = .ok (.getfield 9, 3) := by decide +kernel
theorem dX10_copy_59 : decode cX10_copy 59 = .ok (.iload_n 3, 1) := by decide +kernel
theorem dX10_copy_60 : decode cX10_copy 60 = .ok (.iaload, 1) := by decide +kernel
theorem dX10_copy_61 : decode cX10_copy 61 = .ok (.if_icmp .eq 9, 3) := by decide +kernel
theorem dX10_copy_64 : decode cX10_copy 64 = .ok (.aload_n 0, 1) := by decide +kernel
theorem dX10_copy_65 : decode cX10_copy 65 = .ok (.iconst 2, 1) := by decide +kernel
theorem dX10_copy_66 : decode cX10_copy 66 = .ok (.invokevirtual 107, 3) := by decide +kernel
theorem dX10_copy_69 : decode cX10_copy 69 = .ok (.ireturn, 1) := by decide +kernel
theorem dX10_copy_70 : decode cX10_copy 70 = .ok (.iload_n 2, 1) := by decide +kernel
theorem dX10_copy_71 : decode cX10_copy 71 = .ok (.ifCond .lt 38, 3) := by decide +kernel
theorem dX10_copy_74 : decode cX10_copy 74 = .ok (.iload 4, 2) := by decide +kernel
theorem dX10_copy_76 : decode cX10_copy 76 = .ok (.ifCond .lt 33, 3) := by decide +kernel
theorem dX10_copy_79 : decode cX10_copy 79 = .ok (.iload 5, 2) := by decide +kernel
theorem dX10_copy_81 : decode cX10_copy 81 = .ok (.ifCond .lt 28, 3) := by decide +kernel
theorem dX10_copy_84 : decode cX10_copy 84 = .ok (.iload_n 2, 1) := by decide +kernel
theorem dX10_copy_85 : decode cX10_copy 85 = .ok (.aload_n 0, 1) := by decide +kernel
theorem dX10_copy_86 : decode cX10_copy 86 = .ok (.getfield 13, 3) := by decide +kernel
theorem dX10_copy_89 : decode cX10_copy 89 = .ok (.iload_n 1, 1) := by decide +kernel
theorem dX10_copy_90 : decode cX10_copy 90 = .ok (.iaload, 1) := by decide +kernel
theorem dX10_copy_91 : decode cX10_copy 91 = .ok (.if_icmp .gt 18, 3) := by decide +kernel
theorem dX10_copy_94 : decode cX10_copy 94 = .ok (.iload 4, 2) := by decide +kernel
theorem dX10_copy_96 : decode cX10_copy 96 = .ok (.aload_n 0, 1) := by decide +kernel
theorem dX10_copy_97 : decode cX10_copy 97 = .ok (.getfield 13, 3) := by decide +kernel
theorem dX10_copy_100 : decode cX10_copy 100 = .ok (.iload_n 3, 1) := by decide +kernel
theorem dX10_copy_101 : decode cX10_copy 101 = .ok (.iaload, 1) := by decide +kernel
theorem dX10_copy_102 : decode cX10_copy 102 = .ok (.if_icmp .gt 7, 3) := by decide +kernel
theorem dX10_copy_105 : decode cX10_copy 105 = .ok (.iconst 1, 1) := by decide +kernel
theorem dX10_copy_106 : decode cX10_copy 106 = .ok (.goto 4, 3) := by decide +kernel
theorem dX10_copy_109 : decode cX10_copy 109 = .ok (.iconst 0, 1) := by decide +kernel
theorem dX10_copy_110 : decode cX10_copy 110 = .ok (.istore 6, 2) := by decide +kernel
theorem dX10_copy_112 : decode cX10_copy 112 = .ok (.iload 6, 2) := by decide +kernel
theorem dX10_copy_114 : decode cX10_copy 114 = .ok (.ifCond .eq 30, 3) := by decide +kernel
theorem dX10_copy_117 : decode cX10_copy 117 = .ok (.iload 5, 2) := by decide +kernel
theorem dX10_copy_119 : decode cX10_copy 119 = .ok (.aload_n 0, 1) := by decide +kernel
theorem dX10_copy_120 : decode cX10_copy 120 = .ok (.getfield 13, 3) := by decide +kernel
theorem dX10_copy_123 : decode cX10_copy 123 = .ok (.iload_n 1, 1) := by decide +kernel
theorem dX10_copy_124 : decode cX10_copy 124 = .ok (.iaload, 1) := by decide +kernel
theorem dX10_copy_125 : decode cX10_copy 125 = .ok (.iload_n 2, 1) := by decide +kernel
theorem dX10_copy_126 : decode cX10_copy 126 = .ok (.isub, 1) := by decide +kernel
theorem dX10_copy_127 : decode cX10_copy 127 = .ok (.if_icmp .gt 17, 3) := by decide +kernel
theorem dX10_copy_130 : decode cX10_copy 130 = .ok (.iload 5, 2) := by decide +kernel
theorem dX10_copy_132 : decode cX10_copy 132 = .ok (.aload_n 0, 1) := by decide +kernel
theorem dX10_copy_133 : decode cX10_copy 133 = .ok (.getfield 13, 3) := by decide +kernel
theorem dX10_copy_136 : decode cX10_copy 136 = .ok (.iload_n 3, 1) := by decide +kernel
theorem dX10_copy_137 : decode cX10_copy 137 = .ok (.iaload, 1) := by decide +kernel
theorem dX10_copy_138 : decode cX10_copy 138 = .ok (.iload 4, 2) := by decide +kernel
theorem dX10_copy_140 : decode cX10_copy 140 = .ok (.isub, 1) := by decide +kernel
theorem dX10_copy_141 : decode cX10_copy 141 = .ok (.if_icmp .le 9, 3) := by decide +kernel
theorem dX10_copy_144 : decode cX10_copy 144 = .ok (.aload_n 0, 1) := by decide +kernel
theorem dX10_copy_145 : decode cX10_copy 145 = .ok (.iconst 3, 1) := by decide +kernel
theorem dX10_copy_146 : decode cX10_copy 146 = .ok (.invokevirtual 107, 3) := by decide +kernel
theorem dX10_copy_149 : decode cX10_copy 149 = .ok (.ireturn, 1) := by decide +kernel
theorem dX10_copy_150 : decode cX10_copy 150 = .ok (.iload_n 2, 1) := by decide +kernel
theorem dX10_copy_151 : decode cX10_copy 151 = .ok (.iload 4, 2) := by decide +kernel
theorem dX10_copy_153 : decode cX10_copy 153 = .ok (.if_icmp .ge 7, 3) := by decide +kernel
theorem dX10_copy_156 : decode cX10_copy 156 = .ok (.iconst 1, 1) := by decide +kernel
theorem dX10_copy_157 : decode cX10_copy 157 = .ok (.goto 4, 3) := by decide +kernel
theorem dX10_copy_160 : decode cX10_copy 160 = .ok (.iconst 0, 1) := by decide +kernel
theorem dX10_copy_161 : decode cX10_copy 161 = .ok (.istore 7, 2) := by decide +kernel
theorem dX10_copy_163 : decode cX10_copy 163 = .ok (.iconst 0, 1) := by decide +kernel
theorem dX10_copy_164 : decode cX10_copy 164 = .ok (.istore 8, 2) := by decide +kernel
theorem dX10_copy_166 : decode cX10_copy 166 = .ok (.iload 8, 2) := by decide +kernel
theorem dX10_copy_168 : decode cX10_copy 168 = .ok (.iload 5, 2) := by decide +kernel
theorem dX10_copy_170 : decode cX10_copy 170 = .ok (.if_icmp .ge 57, 3) := by decide +kernel
theorem dX10_copy_173 : decode cX10_copy 173 = .ok (.iload 7, 2) := by decide +kernel
theorem dX10_copy_175 : decode cX10_copy 175 = .ok (.ifCond .eq 13, 3) := by decide +kernel
theorem dX10_copy_178 : decode cX10_copy 178 = .ok (.iload 5, 2) := by decide +kernel
theorem dX10_copy_180 : decode cX10_copy 180 = .ok (.iconst 1, 1) := by decide +kernel
theorem dX10_copy_181 : decode cX10_copy 181 = .ok (.isub, 1) := by decide +kernel
theorem dX10_copy_182 : decode cX10_copy 182 = .ok (.iload 8, 2) := by decide +kernel
theorem dX10_copy_184 : decode cX10_copy 184 = .ok (.isub, 1) := by decide +kernel
theorem dX10_copy_185 : decode cX10_copy 185 = .ok (.goto 5, 3) := by decide +kernel
theorem dX10_copy_188 : decode cX10_copy 188 = .ok (.iload 8, 2) := by decide +kernel
theorem dX10_copy_190 : decode cX10_copy 190 = .ok (.istore 9, 2) := by decide +kernel
theorem dX10_copy_192 : decode cX10_copy 192 = .ok (.aload_n 0, 1) := by decide +kernel
theorem dX10_copy_193 : decode cX10_copy 193 = .ok (.getfield 16, 3) := by decide +kernel
theorem dX10_copy_196 : decode cX10_copy 196 = .ok (.bipush 60, 2) := by decide +kernel
theorem dX10_copy_198 : decode cX10_copy 198 = .ok (.iload_n 3, 1) := by decide +kernel
theorem dX10_copy_199 : decode cX10_copy 199 = .ok (.imul, 1) := by decide +kernel
theorem dX10_copy_200 : decode cX10_copy 200 = .ok (.iload 4, 2) := by decide +kernel
theorem dX10_copy_202 : decode cX10_copy 202 = .ok (.iadd, 1) := by decide +kernel
theorem dX10_copy_203 : decode cX10_copy 203 = .ok (.iload 9, 2) := by decide +kernel
theorem dX10_copy_205 : decode cX10_copy 205 = .ok (.iadd, 1) := by decide +kernel
theorem dX10_copy_206 : decode cX10_copy 206 = .ok (.aload_n 0, 1) := by decide +kernel
theorem dX10_copy_207 : decode cX10_copy 207 = .ok (.getfield 16, 3) := by decide +kernel
theorem dX10_copy_210 : decode cX10_copy 210 = .ok (.bipush 60, 2) := by decide +kernel
theorem dX10_copy_212 : decode cX10_copy 212 = .ok (.iload_n 1, 1) := by decide +kernel
theorem dX10_copy_213 : decode cX10_copy 213 = .ok (.imul, 1) := by decide +kernel
theorem dX10_copy_214 : decode cX10_copy 214 = .ok (.iload_n 2, 1) := by decide +kernel
theorem dX10_copy_215 : decode cX10_copy 215 = .ok (.iadd, 1) := by decide +kernel
theorem dX10_copy_216 : decode cX10_copy 216 = .ok (.iload 9, 2) := by decide +kernel
theorem dX10_copy_218 : decode cX10_copy 218 = .ok (.iadd, 1) := by decide +kernel
theorem dX10_copy_219 : decode cX10_copy 219 = .ok (.iaload, 1) := by decide +kernel
theorem dX10_copy_220 : decode cX10_copy 220 = .ok (.iastore, 1) := by decide +kernel
theorem dX10_copy_221 : decode cX10_copy 221 = .ok (.iinc 8 1, 3) := by decide +kernel
theorem dX10_copy_224 : decode cX10_copy 224 = .ok (.goto (-58), 3) := by decide +kernel
theorem dX10_copy_227 : decode cX10_copy 227 = .ok (.iload 5, 2) := by decide +kernel
theorem dX10_copy_229 : decode cX10_copy 229 = .ok (.ireturn, 1) := by decide +kernel
theorem dX10_begins_0 : decode cX10_begins 0 = .ok (.aload_n 0, 1) := by decide +kernel
theorem dX10_begins_1 : decode cX10_begins 1 = .ok (.bipush 31, 2) := by decide +kernel
theorem dX10_begins_3 : decode cX10_begins 3 = .ok (.aload_n 0, 1) := by decide +kernel
theorem dX10_begins_4 : decode cX10_begins 4 = .ok (.getfield 205, 3) := by decide +kernel
theorem dX10_begins_7 : decode cX10_begins 7 = .ok (.imul, 1) := by decide +kernel
theorem dX10_begins_8 : decode cX10_begins 8 = .ok (.iload_n 1, 1) := by decide +kernel
theorem dX10_begins_9 : decode cX10_begins 9 = .ok (.iadd, 1) := by decide +kernel
theorem dX10_begins_10 : decode cX10_begins 10 = .ok (.putfield 205, 3) := by decide +kernel
theorem dX10_begins_13 : decode cX10_begins 13 = .ok (.return_, 1) := by decide +kernel
set_option maxRecDepth 20000 in
theorem ggX10_tell_X10_isThing : GoodIn wsX10_tell wsX10_isThing := goodIn_r _ [7, 8, 14, 15, 16, 17, 18, 19, 20, 21, 22, 23, 24, 25, 26, 27, 28, 29, 30, 31, 32, 33, 34, 35, 36, 37, 38, 39, 40, 41, 42, 43, 44, 45, 46, 47] (by decide +kernel) (by decide +kernel)
set_option maxRecDepth 20000 in
theorem gX10_tell_X10_isThing : GoodIn wsX10_tell (wsV RX10 136 RX10 yX10_isThing wsX10_isThing) := goodIn_app (goodIn_of _ (by decide +kernel)) ggX10_tell_X10_isThing
set_option maxRecDepth 20000 in
theorem ggX10_tell_X10_begins : GoodIn wsX10_tell wsX10_begins := goodIn_r _ [12, 13, 14, 15, 16, 17, 18, 19, 20, 21, 22, 23, 24, 25, 26, 27, 28, 29, 30, 31, 32, 33, 34, 35, 36, 37, 38, 39, 40, 41, 42, 43, 44, 45, 46, 47] (by decide +kernel) (by decide +kernel)
set_option maxRecDepth 20000 in
theorem gX10_tell_X10_begins : GoodIn wsX10_tell (wsV RX10 208 RX10 yX10_begins wsX10_begins) := goodIn_app (goodIn_of _ (by decide +kernel)) ggX10_tell_X10_begins
theorem dX10_tell_0 : decode cX10_tell 0 = .ok (.aload_n 0, 1) := by decide +kernel
theorem dX10_tell_1 : decode cX10_tell 1 = .ok (.iload_n 1, 1) := by decide +kernel
theorem dX10_tell_2 : decode cX10_tell 2 = .ok (.invokevirtual 136, 3) := by decide +kernel
theorem dX10_tell_5 : decode cX10_tell 5 = .ok (.ifCond .ne 5, 3) := by decide +kernel
theorem dX10_tell_8 : decode cX10_tell 8 = .ok (.iconst (-1), 1) := by decide +kernel
theorem dX10_tell_9 : decode cX10_tell 9 = .ok (.ireturn, 1) := by decide +kernel
theorem dX10_tell_10 : decode cX10_tell 10 = .ok (.aload_n 0, 1) := by decide +kernel
theorem dX10_tell_11 : decode cX10_tell 11 = .ok (.getfield 28, 3) := by decide +kernel
theorem dX10_tell_14 : decode cX10_tell 14 = .ok (.iload_n 1, 1) := by decide +kernel
theorem dX10_tell_15 : decode cX10_tell 15 = .ok (.iaload, 1) := by decide +kernel
theorem dX10_tell_16 : decode cX10_tell 16 = .ok (.istore_n 2, 1) := by decide +kernel
theorem dX10_tell_17 : decode cX10_tell 17 = .ok (.aload_n 0, 1) := by decide +kernel
theorem dX10_tell_18 : decode cX10_tell 18 = .ok (.getfield 19, 3) := by decide +kernel
theorem dX10_tell_21 : decode cX10_tell 21 = .ok (.iload_n 1, 1) := by decide +kernel
theorem dX10_tell_22 : decode cX10_tell 22 = .ok (.iaload, 1) := by decide +kernel
theorem dX10_tell_23 : decode cX10_tell 23 = .ok (.lookupswitch 67 #[(1, 25), (2, 40)], 25) := by decide +kernel
theorem dX10_tell_48 : decode cX10_tell 48 = .ok (.aload_n 0, 1) := by decide +kernel
theorem dX10_tell_49 : decode cX10_tell 49 = .ok (.iconst 2, 1) := by decide +kernel
theorem dX10_tell_50 : decode cX10_tell 50 = .ok (.invokevirtual 208, 3) := by decide +kernel
theorem dX10_tell_53 : decode cX10_tell 53 = .ok (.aload_n 0, 1) := by decide +kernel
theorem dX10_tell_54 : decode cX10_tell 54 = .ok (.iconst 1, 1) := by decide +kernel
theorem dX10_tell_55 : decode cX10_tell 55 = .ok (.invokevirtual 208, 3) := by decide +kernel
theorem dX10_tell_58 : decode cX10_tell 58 = .ok (.iload_n 2, 1) := by decide +kernel
theorem dX10_tell_59 : decode cX10_tell 59 = .ok (.bipush 100, 2) := by decide +kernel
theorem dX10_tell_61 : decode cX10_tell 61 = .ok (.iadd, 1) := by decide +kernel
theorem dX10_tell_62 : decode cX10_tell 62 = .ok (.ireturn, 1) := by decide +kernel
theorem dX10_tell_63 : decode cX10_tell 63 = .ok (.aload_n 0, 1) := by decide +kernel
theorem dX10_tell_64 : decode cX10_tell 64 = .ok (.iconst 3, 1) := by decide +kernel
theorem dX10_tell_65 : decode cX10_tell 65 = .ok (.invokevirtual 208, 3) := by decide +kernel
theorem dX10_tell_68 : decode cX10_tell 68 = .ok (.aload_n 0, 1) := by decide +kernel
theorem dX10_tell_69 : decode cX10_tell 69 = .ok (.iconst 2, 1) := by decide +kernel
theorem dX10_tell_70 : decode cX10_tell 70 = .ok (.invokevirtual 208, 3) := by decide +kernel
theorem dX10_tell_73 : decode cX10_tell 73 = .ok (.aload_n 0, 1) := by decide +kernel
theorem dX10_tell_74 : decode cX10_tell 74 = .ok (.iconst 1, 1) := by decide +kernel
theorem dX10_tell_75 : decode cX10_tell 75 = .ok (.invokevirtual 208, 3) := by decide +kernel
theorem dX10_tell_78 : decode cX10_tell 78 = .ok (.aload_n 0, 1) := by decide +kernel
theorem dX10_tell_79 : decode cX10_tell 79 = .ok (.iconst 1, 1) := by decide +kernel
theorem dX10_tell_80 : decode cX10_tell 80 = .ok (.invokevirtual 208, 3) := by decide +kernel
theorem dX10_tell_83 : decode cX10_tell 83 = .ok (.iconst 2, 1) := by decide +kernel
theorem dX10_tell_84 : decode cX10_tell 84 = .ok (.iload_n 2, 1) := by decide +kernel
theorem dX10_tell_85 : decode cX10_tell 85 = .ok (.imul, 1) := by decide +kernel
theorem dX10_tell_86 : decode cX10_tell 86 = .ok (.bipush 100, 2) := by decide +kernel
theorem dX10_tell_88 : decode cX10_tell 88 = .ok (.iadd, 1) := by decide +kernel
theorem dX10_tell_89 : decode cX10_tell 89 = .ok (.ireturn, 1) := by decide +kernel
theorem dX10_tell_90 : decode cX10_tell 90 = .ok (.aload_n 0, 1) := by decide +kernel
theorem dX10_tell_91 : decode cX10_tell 91 = .ok (.iconst 1, 1) := by decide +kernel
theorem dX10_tell_92 : decode cX10_tell 92 = .ok (.invokevirtual 208, 3) := by decide +kernel
theorem dX10_tell_95 : decode cX10_tell 95 = .ok (.iload_n 2, 1) := by decide +kernel
theorem dX10_tell_96 : decode cX10_tell 96 = .ok (.ireturn, 1) := by decide +kernel
set_option maxRecDepth 20000 in
theorem ggX10_strike_X10_isThing : GoodIn wsX10_strike wsX10_isThing := goodIn_r _ [6, 7, 13, 14, 15, 16, 17, 18, 19, 20, 21, 22, 23, 24, 25, 26, 27, 28, 29, 30, 31, 32, 33, 34, 35, 36, 37, 38, 39, 40, 41, 42, 43, 44, 45, 46] (by decide +kernel) (by decide +kernel)
set_option maxRecDepth 20000 in
theorem gX10_strike_X10_isThing : GoodIn wsX10_strike (wsV RX10 136 RX10 yX10_isThing wsX10_isThing) := goodIn_app (goodIn_of _ (by decide +kernel)) ggX10_strike_X10_isThing
set_option maxRecDepth 20000 in
theorem ggX10_strike_X10_begins : GoodIn wsX10_strike wsX10_begins := goodIn_r _ [11, 12, 13, 14, 15, 16, 17, 18, 19, 20, 21, 22, 23, 24, 25, 26, 27, 28, 29, 30, 31, 32, 33, 34, 35, 36, 37, 38, 39, 40, 41, 42, 43, 44, 45, 46] (by decide +kernel) (by decide +kernel)
set_option maxRecDepth 20000 in
theorem gX10_strike_X10_begins : GoodIn wsX10_strike (wsV RX10 208 RX10 yX10_begins wsX10_begins) := goodIn_app (goodIn_of _ (by decide +kernel)) ggX10_strike_X10_begins
theorem dX10_strike_0 : decode cX10_strike 0 = .ok (.aload_n 0, 1) := by decide +kernel
theorem dX10_strike_1 : decode cX10_strike 1 = .ok (.iload_n 1, 1) := by decide +kernel
theorem dX10_strike_2 : decode cX10_strike 2 = .ok (.invokevirtual 136, 3) := by decide +kernel
theorem dX10_strike_5 : decode cX10_strike 5 = .ok (.ifCond .ne 5, 3) := by decide +kernel
theorem dX10_strike_8 : decode cX10_strike 8 = .ok (.iconst (-1), 1) := by decide +kernel
theorem dX10_strike_9 : decode cX10_strike 9 = .ok (.ireturn, 1) := by decide +kernel
theorem dX10_strike_10 : decode cX10_strike 10 = .ok (.aload_n 0, 1) := by decide +kernel
theorem dX10_strike_11 : decode cX10_strike 11 = .ok (.aload_n 0, 1) := by decide +kernel
theorem dX10_strike_12 : decode cX10_strike 12 = .ok (.getfield 19, 3) := by decide +kernel
theorem dX10_strike_15 : decode cX10_strike 15 = .ok (.iload_n 1, 1) := by decide +kernel
theorem dX10_strike_16 : decode cX10_strike 16 = .ok (.iaload, 1) := by decide +kernel
theorem dX10_strike_17 : decode cX10_strike 17 = .ok (.iconst 2, 1) := by decide +kernel
theorem dX10_strike_18 : decode cX10_strike 18 = .ok (.if_icmp .ne 7, 3) := by decide +kernel
theorem dX10_strike_21 : decode cX10_strike 21 = .ok (.iconst 5, 1) := by decide +kernel
theorem dX10_strike_22 : decode cX10_strike 22 = .ok (.goto 4, 3) := by decide +kernel
theorem dX10_strike_25 : decode cX10_strike 25 = .ok (.iconst 4, 1) := by decide +kernel
theorem dX10_strike_26 : decode cX10_strike 26 = .ok (.invokevirtual 208, 3) := by decide +kernel
theorem dX10_strike_29 : decode cX10_strike 29 = .ok (.aload_n 0, 1) := by decide +kernel
theorem dX10_strike_30 : decode cX10_strike 30 = .ok (.getfield 19, 3) := by decide +kernel
theorem dX10_strike_33 : decode cX10_strike 33 = .ok (.iload_n 1, 1) := by decide +kernel
theorem dX10_strike_34 : decode cX10_strike 34 = .ok (.iaload, 1) := by decide +kernel
theorem dX10_strike_35 : decode cX10_strike 35 = .ok (.iconst 2, 1) := by decide +kernel
theorem dX10_strike_36 : decode cX10_strike 36 = .ok (.if_icmp .ne 8, 3) := by decide +kernel
theorem dX10_strike_39 : decode cX10_strike 39 = .ok (.bipush 30, 2) := by decide +kernel
theorem dX10_strike_41 : decode cX10_strike 41 = .ok (.goto 4, 3) := by decide +kernel
theorem dX10_strike_44 : decode cX10_strike 44 = .ok (.iload_n 1, 1) := by decide +kernel
theorem dX10_strike_45 : decode cX10_strike 45 = .ok (.ireturn, 1) := by decide +kernel
set_option maxRecDepth 20000 in
theorem ggX10_as_X10_isThing : GoodIn wsX10_as wsX10_isThing := goodIn_r _ [7, 8, 16, 17, 18, 19, 20, 21, 22, 23, 24, 25, 26, 27, 28, 29, 30, 31, 32, 33, 34, 35, 36, 37, 38, 39, 40, 41, 42, 43, 44, 45, 46, 47, 48, 49] (by decide +kernel) (by decide +kernel)
set_option maxRecDepth 20000 in
theorem gX10_as_X10_isThing : GoodIn wsX10_as (wsV RX10 136 RX10 yX10_isThing wsX10_isThing) := goodIn_app (goodIn_of _ (by decide +kernel)) ggX10_as_X10_isThing
set_option maxRecDepth 20000 in
theorem ggX10_as_X10_within : GoodIn wsX10_as wsX10_within := goodIn_r _ [11] (by decide +kernel) (by decide +kernel)
set_option maxRecDepth 20000 in
theorem gX10_as_X10_within : GoodIn wsX10_as (va_wsS RX10 86 yX10_within wsX10_within) := goodIn_app (goodIn_of _ (by decide +kernel)) ggX10_as_X10_within
set_option maxRecDepth 20000 in
theorem ggX10_as_X10_fails : GoodIn wsX10_as wsX10_fails := goodIn_r _ [15, 1, 16, 17, 18, 19, 20, 21, 22, 23, 24, 25, 26, 27, 28, 29, 30, 31, 32, 33, 34, 35, 36, 37, 38, 39, 40, 41, 42, 43, 44, 45, 46, 47, 48, 49] (by decide +kernel) (by decide +kernel)
set_option maxRecDepth 20000 in
theorem gX10_as_X10_fails : GoodIn wsX10_as (wsV RX10 107 RX10 yX10_fails wsX10_fails) := goodIn_app (goodIn_of _ (by decide +kernel)) ggX10_as_X10_fails
theorem dX10_as_0 : decode cX10_as 0 = .ok (.aload_n 0, 1) := by decide +kernel
theorem dX10_as_1 : decode cX10_as 1 = .ok (.iconst 0, 1) := by decide +kernel
theorem dX10_as_2 : decode cX10_as 2 = .ok (.putfield 80, 3) := by decide +kernel
theorem dX10_as_5 : decode cX10_as 5 = .ok (.aload_n 0, 1) := by decide +kernel
theorem dX10_as_6 : decode cX10_as 6 = .ok (.iload_n 1, 1) := by decide +kernel
theorem dX10_as_7 : decode cX10_as 7 = .ok (.invokevirtual 136, 3) := by decide +kernel
theorem dX10_as_10 : decode cX10_as 10 = .ok (.ifCond .ne 5, 3) := by decide +kernel
theorem dX10_as_13 : decode cX10_as 13 = .ok (.iconst (-1), 1) := by decide +kernel
theorem dX10_as_14 : decode cX10_as 14 = .ok (.ireturn, 1) := by decide +kernel
theorem dX10_as_15 : decode cX10_as 15 = .ok (.iload_n 2, 1) := by decide +kernel
theorem dX10_as_16 : decode cX10_as 16 = .ok (.iconst 0, 1) := by decide +kernel
theorem dX10_as_17 : decode cX10_as 17 = .ok (.iconst 2, 1) := by decide +kernel
theorem dX10_as_18 : decode cX10_as 18 = .ok (.invokestatic 86, 3) := by decide +kernel
theorem dX10_as_21 : decode cX10_as 21 = .ok (.ifCond .ne 6, 3) := by decide +kernel
theorem dX10_as_24 : decode cX10_as 24 = .ok (.bipush (-2), 2) := by decide +kernel
theorem dX10_as_26 : decode cX10_as 26 = .ok (.ireturn, 1) := by decide +kernel
theorem dX10_as_27 : decode cX10_as 27 = .ok (.aload_n 0, 1) := by decide +kernel
theorem dX10_as_28 : decode cX10_as 28 = .ok (.getfield 19, 3) := by decide +kernel
theorem dX10_as_31 : decode cX10_as 31 = .ok (.iload_n 1, 1) := by decide +kernel
theorem dX10_as_32 : decode cX10_as 32 = .ok (.iaload, 1) := by decide +kernel
theorem dX10_as_33 : decode cX10_as 33 = .ok (.iload_n 2, 1) := by decide +kernel
theorem dX10_as_34 : decode cX10_as 34 = .ok (.if_icmp .lt 7, 3) := by decide +kernel
theorem dX10_as_37 : decode cX10_as 37 = .ok (.iconst 1, 1) := by decide +kernel
theorem dX10_as_38 : decode cX10_as 38 = .ok (.goto 8, 3) := by decide +kernel
theorem dX10_as_41 : decode cX10_as 41 = .ok (.aload_n 0, 1) := by decide +kernel
theorem dX10_as_42 : decode cX10_as 42 = .ok (.iconst 2, 1) := by decide +kernel
theorem dX10_as_43 : decode cX10_as 43 = .ok (.invokevirtual 107, 3) := by decide +kernel
theorem dX10_as_46 : decode cX10_as 46 = .ok (.ireturn, 1) := by decide +kernel
theorem dX10_trace_0 : decode cX10_trace 0 = .ok (.aload_n 0, 1) := by decide +kernel
theorem dX10_trace_1 : decode cX10_trace 1 = .ok (.getfield 205, 3) := by decide +kernel
theorem dX10_trace_4 : decode cX10_trace 4 = .ok (.ireturn, 1) := by decide +kernel
theorem dX10_fault_0 : decode cX10_fault 0 = .ok (.aload_n 0, 1) := by decide +kernel
theorem dX10_fault_1 : decode cX10_fault 1 = .ok (.getfield 80, 3) := by decide +kernel
theorem dX10_fault_4 : decode cX10_fault 4 = .ok (.ireturn, 1) := by decide +kernel
theorem dX10_many_0 : decode cX10_many 0 = .ok (.iload_n 1, 1) := by decide +kernel
theorem dX10_many_1 : decode cX10_many 1 = .ok (.ifCond .ne 10, 3) := by decide +kernel
theorem dX10_many_4 : decode cX10_many 4 = .ok (.aload_n 0, 1) := by decide +kernel
theorem dX10_many_5 : decode cX10_many 5 = .ok (.getfield 90, 3) := by decide +kernel
theorem dX10_many_8 : decode cX10_many 8 = .ok (.goto 41, 3) := by decide +kernel
theorem dX10_many_11 : decode cX10_many 11 = .ok (.iload_n 1, 1) := by decide +kernel
theorem dX10_many_12 : decode cX10_many 12 = .ok (.iconst 1, 1) := by decide +kernel
theorem dX10_many_13 : decode cX10_many 13 = .ok (.if_icmp .ne 10, 3) := by decide +kernel
theorem dX10_many_16 : decode cX10_many 16 = .ok (.aload_n 0, 1) := by decide +kernel
theorem dX10_many_17 : decode cX10_many 17 = .ok (.getfield 117, 3) := by decide +kernel
theorem dX10_many_20 : decode cX10_many 20 = .ok (.goto 29, 3) := by decide +kernel
theorem dX10_many_23 : decode cX10_many 23 = .ok (.iload_n 1, 1) := by decide +kernel
theorem dX10_many_24 : decode cX10_many 24 = .ok (.iconst 2, 1) := by decide +kernel
theorem dX10_many_25 : decode cX10_many 25 = .ok (.if_icmp .ne 10, 3) := by decide +kernel
theorem dX10_many_28 : decode cX10_many 28 = .ok (.aload_n 0, 1) := by decide +kernel
theorem dX10_many_29 : decode cX10_many 29 = .ok (.getfield 123, 3) := by decide +kernel
theorem dX10_many_32 : decode cX10_many 32 = .ok (.goto 17, 3) := by decide +kernel
theorem dX10_many_35 : decode cX10_many 35 = .ok (.iload_n 1, 1) := by decide +kernel
theorem dX10_many_36 : decode cX10_many 36 = .ok (.iconst 3, 1) := by decide +kernel
theorem dX10_many_37 : decode cX10_many 37 = .ok (.if_icmp .ne 10, 3) := by decide +kernel
theorem dX10_many_40 : decode cX10_many 40 = .ok (.aload_n 0, 1) := by decide +kernel
theorem dX10_many_41 : decode cX10_many 41 = .ok (.getfield 126, 3) := by decide +kernel
theorem dX10_many_44 : decode cX10_many 44 = .ok (.goto 5, 3) := by decide +kernel
theorem dX10_many_47 : decode cX10_many 47 = .ok (.bipush (-2), 2) := by decide +kernel
theorem dX10_many_49 : decode cX10_many 49 = .ok (.ireturn, 1) := by decide +kernel
end
section
/-! ===== rows over nI: small numbers, arrays, branches ===== -/
section
variable {p : Program} {l : Launch} {e : Env} {R : Room} {s : State} {m : MethodId} {args : Array Value} {below : List Frame} {meth : Method} {c : Code} {H : Heap} {locs : List Loc} {cells slots : Nat} {Q : State → Prop}
variable {cc : ByteArray} {pc : Nat} {ls : Array Slot} {rest : List Value} {D : va_G} {cl : List vw_C} {A : Nat → Prop} {a : Nat} {tys : List (ClassId × FieldType)} {ws : va_W} {H0 : Heap}
theorem ra_iald (hexec : p.tables.exec = Jvm.exec) (hb : c.code = cc) (hK : va_K D cl tys s) (hP : va_P D cl ws H) (q0 t0 : Nat) {cA : ClassId} {n : Nat} {f : Nat → Int32} (ha : ws[q0]? = some (a, .inl (cA, n, .inl f))) (ht : tys[t0]? = some (cA, .int)) {j : Nat} {v : Int32} (hj : j < n) (hn : n < 2 ^ 31) (hv : f j = v) (hdg : decode cc pc = .ok (.iaload, 1))
    (kk : W p l e R s m args below meth c H locs cells slots Q (F0 m (pc + 1) ls (.int v :: rest))) : W p l e R s m args below meth c H locs cells slots Q (F0 m pc ls (.int (nI j) :: .ref a :: rest)) :=
  va_iald hexec hb hK hP q0 t0 ha ht (vp_in_nI hj hn) hdg (by rw [nI_clamp (Nat.lt_trans hj hn), hv]; exact kk)
theorem ra_zald (hexec : p.tables.exec = Jvm.exec) (hb : c.code = cc) (hK : va_K D cl tys s) (hP : va_P D cl ws H) (q0 t0 : Nat) {cA : ClassId} {n : Nat} {f : Nat → Int32} (ha : ws[q0]? = some (a, .inl (cA, n, .inl f))) (ht : tys[t0]? = some (cA, .boolean)) {j : Nat} {v : Int32} (hj : j < n) (hn : n < 2 ^ 31) (hv : f j = v) (hdg : decode cc pc = .ok (.baload, 1))
    (kk : W p l e R s m args below meth c H locs cells slots Q (F0 m (pc + 1) ls (.int v :: rest))) : W p l e R s m args below meth c H locs cells slots Q (F0 m pc ls (.int (nI j) :: .ref a :: rest)) :=
  va_zald hexec hb hK hP q0 t0 ha ht (vp_in_nI hj hn) hdg (by rw [nI_clamp (Nat.lt_trans hj hn), hv]; exact kk)
theorem ra_iast (hexec : p.tables.exec = Jvm.exec) (hb : c.code = cc) (hK : va_K D cl tys s) (hP : va_P D cl ws H) (hD : va_D A ws) (hS : va_S A H0 H locs) (q0 t0 : Nat) {cA : ClassId} {n : Nat} {f : Nat → Int32} (ha : ws[q0]? = some (a, .inl (cA, n, .inl f))) (ht : tys[t0]? = some (cA, .int)) {j : Nat} {x : Int32} (hj : j < n) (hn : n < 2 ^ 31) (hdg : decode cc pc = .ok (.iastore, 1))
    (kk : ∀ (H1 : Heap) (locs1 : List Loc), va_P D cl (ws.set q0 (a, .inl (cA, n, .inl (upd f j x)))) H1 → va_D A (ws.set q0 (a, .inl (cA, n, .inl (upd f j x)))) → va_S A H0 H1 locs1 → W p l e R s m args below meth c H1 locs1 cells slots Q (F0 m (pc + 1) ls rest)) : W p l e R s m args below meth c H locs cells slots Q (F0 m pc ls (.int x :: .int (nI j) :: .ref a :: rest)) :=
  va_iast hexec hb hK hP hD hS q0 t0 ha ht (vp_in_nI hj hn) hdg (by rw [nI_clamp (Nat.lt_trans hj hn)]; exact kk)
theorem rn_nz1 : vp_nar .boolean 1 = 1 := rfl
theorem rn_nz0 : vp_nar .boolean 0 = 0 := rfl
theorem ra_zast (hexec : p.tables.exec = Jvm.exec) (hb : c.code = cc) (hK : va_K D cl tys s) (hP : va_P D cl ws H) (hD : va_D A ws) (hS : va_S A H0 H locs) (q0 t0 : Nat) {cA : ClassId} {n : Nat} {f : Nat → Int32} (ha : ws[q0]? = some (a, .inl (cA, n, .inl f))) (ht : tys[t0]? = some (cA, .boolean)) {j : Nat} {x : Int32} (hx01 : x = 0 ∨ x = 1) (hj : j < n) (hn : n < 2 ^ 31) (hdg : decode cc pc = .ok (.bastore, 1))
    (kk : ∀ (H1 : Heap) (locs1 : List Loc), va_P D cl (ws.set q0 (a, .inl (cA, n, .inl (upd f j x)))) H1 → va_D A (ws.set q0 (a, .inl (cA, n, .inl (upd f j x)))) → va_S A H0 H1 locs1 → W p l e R s m args below meth c H1 locs1 cells slots Q (F0 m (pc + 1) ls rest)) : W p l e R s m args below meth c H locs cells slots Q (F0 m pc ls (.int x :: .int (nI j) :: .ref a :: rest)) :=
  va_zast hexec hb hK hP hD hS q0 t0 ha ht (vp_in_nI hj hn) hdg (by
    have e : vp_nar .boolean x = x := by rcases hx01 with rfl | rfl <;> rfl
    rw [nI_clamp (Nat.lt_trans hj hn), e]; exact kk)
theorem rn_iadd (hexec : p.tables.exec = Jvm.exec) (hb : c.code = cc) {x y : Nat} (hdg : decode cc pc = .ok (.iadd, 1))
    (k : W p l e R s m args below meth c H locs cells slots Q (F0 m (pc + 1) ls (.int (nI (x + y)) :: rest))) : W p l e R s m args below meth c H locs cells slots Q (F0 m pc ls (.int (nI y) :: .int (nI x) :: rest)) :=
  lv_iadd hexec hb hdg (by rw [nI_add]; exact k)
theorem rn_isub (hexec : p.tables.exec = Jvm.exec) (hb : c.code = cc) {x y : Nat} (h : y ≤ x) (hdg : decode cc pc = .ok (.isub, 1))
    (k : W p l e R s m args below meth c H locs cells slots Q (F0 m (pc + 1) ls (.int (nI (x - y)) :: rest))) : W p l e R s m args below meth c H locs cells slots Q (F0 m pc ls (.int (nI y) :: .int (nI x) :: rest)) :=
  lv_isub hexec hb hdg (by rw [pk_sub h]; exact k)
theorem rn_imul (hexec : p.tables.exec = Jvm.exec) (hb : c.code = cc) {x y : Nat} (hdg : decode cc pc = .ok (.imul, 1))
    (k : W p l e R s m args below meth c H locs cells slots Q (F0 m (pc + 1) ls (.int (nI (x * y)) :: rest))) : W p l e R s m args below meth c H locs cells slots Q (F0 m pc ls (.int (nI y) :: .int (nI x) :: rest)) :=
  lv_imul hexec hb hdg (by rw [pk_mul]; exact k)
theorem rn_idiv (hexec : p.tables.exec = Jvm.exec) (hb : c.code = cc) {x y : Nat} (h1 : x < 2 ^ 31) (h0 : 0 < y) (h2 : y < 2 ^ 31) (hdg : decode cc pc = .ok (.idiv, 1))
    (k : W p l e R s m args below meth c H locs cells slots Q (F0 m (pc + 1) ls (.int (nI (x / y)) :: rest))) : W p l e R s m args below meth c H locs cells slots Q (F0 m pc ls (.int (nI y) :: .int (nI x) :: rest)) :=
  lv_idiv hexec hb hdg (nI_ne0 h0 h2) (by rw [pk_div h1 h0 h2]; exact k)
theorem rn_irem (hexec : p.tables.exec = Jvm.exec) (hb : c.code = cc) {x y : Nat} (h1 : x < 2 ^ 31) (h0 : 0 < y) (h2 : y < 2 ^ 31) (hdg : decode cc pc = .ok (.irem, 1))
    (k : W p l e R s m args below meth c H locs cells slots Q (F0 m (pc + 1) ls (.int (nI (x % y)) :: rest))) : W p l e R s m args below meth c H locs cells slots Q (F0 m pc ls (.int (nI y) :: .int (nI x) :: rest)) :=
  lv_irem hexec hb hdg (nI_ne0 h0 h2) (by rw [pk_rem h1 h0 h2]; exact k)
theorem rn_iinc (hexec : p.tables.exec = Jvm.exec) (hb : c.code = cc) {i nL k : Nat} {n : Int} {x d : Nat} {lv lv' : List (Nat × Value)} (hd : Int32.ofInt n = nI d) (hdg : decode cc pc = .ok (.iinc i n, 3)) (h : lv_has ls nL lv) (hk : lv[k]? = some (i, .int (nI x))) (hn : i < nL) (hl : (i, Value.int (nI (x + d))) :: lv.filter (fun q => !(q.1 == i) && !(q.1 + 1 == i && q.2.category == 2)) = lv')
    (kk : ∀ ls' : Array Slot, lv_has ls' nL lv' → W p l e R s m args below meth c H locs cells slots Q (F0 m (pc + 3) ls' rest)) : W p l e R s m args below meth c H locs cells slots Q (F0 m pc ls rest) :=
  lv_iinc hexec hb hdg h hk (by rw [hd, nI_add]) hn hl kk
theorem rn_lt (hexec : p.tables.exec = Jvm.exec) (hb : c.code = cc) {x y : Nat} (hx : x < 2 ^ 31) (hy : y < 2 ^ 31) {off : Int} {tgt : Nat} (hdg : decode cc pc = .ok (.if_icmp .lt off, 3)) (ht : (pc : Int) + off = (tgt : Int))
    (kt : x < y → W p l e R s m args below meth c H locs cells slots Q (F0 m tgt ls rest)) (kf : y ≤ x → W p l e R s m args below meth c H locs cells slots Q (F0 m (pc + 3) ls rest)) : W p l e R s m args below meth c H locs cells slots Q (F0 m pc ls (.int (nI y) :: .int (nI x) :: rest)) :=
  lv_icmp_lt hexec hb hdg ht (fun h => kt ((nI_ltI hx hy).mp h)) (fun h => kf (Nat.not_lt.mp (fun q => h ((nI_ltI hx hy).mpr q))))
theorem rn_ge (hexec : p.tables.exec = Jvm.exec) (hb : c.code = cc) {x y : Nat} (hx : x < 2 ^ 31) (hy : y < 2 ^ 31) {off : Int} {tgt : Nat} (hdg : decode cc pc = .ok (.if_icmp .ge off, 3)) (ht : (pc : Int) + off = (tgt : Int))
    (kt : y ≤ x → W p l e R s m args below meth c H locs cells slots Q (F0 m tgt ls rest)) (kf : x < y → W p l e R s m args below meth c H locs cells slots Q (F0 m (pc + 3) ls rest)) : W p l e R s m args below meth c H locs cells slots Q (F0 m pc ls (.int (nI y) :: .int (nI x) :: rest)) :=
  lv_icmp_ge hexec hb hdg ht (fun h => kt ((nI_leI hy hx).mp h)) (fun h => kf (Nat.not_le.mp (fun q => h ((nI_leI hy hx).mpr q))))
theorem rn_gt (hexec : p.tables.exec = Jvm.exec) (hb : c.code = cc) {x y : Nat} (hx : x < 2 ^ 31) (hy : y < 2 ^ 31) {off : Int} {tgt : Nat} (hdg : decode cc pc = .ok (.if_icmp .gt off, 3)) (ht : (pc : Int) + off = (tgt : Int))
    (kt : y < x → W p l e R s m args below meth c H locs cells slots Q (F0 m tgt ls rest)) (kf : x ≤ y → W p l e R s m args below meth c H locs cells slots Q (F0 m (pc + 3) ls rest)) : W p l e R s m args below meth c H locs cells slots Q (F0 m pc ls (.int (nI y) :: .int (nI x) :: rest)) :=
  lv_icmp_gt hexec hb hdg ht (fun h => kt ((nI_ltI hy hx).mp h)) (fun h => kf (Nat.not_lt.mp (fun q => h ((nI_ltI hy hx).mpr q))))
theorem rn_le (hexec : p.tables.exec = Jvm.exec) (hb : c.code = cc) {x y : Nat} (hx : x < 2 ^ 31) (hy : y < 2 ^ 31) {off : Int} {tgt : Nat} (hdg : decode cc pc = .ok (.if_icmp .le off, 3)) (ht : (pc : Int) + off = (tgt : Int))
    (kt : x ≤ y → W p l e R s m args below meth c H locs cells slots Q (F0 m tgt ls rest)) (kf : y < x → W p l e R s m args below meth c H locs cells slots Q (F0 m (pc + 3) ls rest)) : W p l e R s m args below meth c H locs cells slots Q (F0 m pc ls (.int (nI y) :: .int (nI x) :: rest)) :=
  lv_icmp_le hexec hb hdg ht (fun h => kt ((nI_leI hx hy).mp h)) (fun h => kf (Nat.not_le.mp (fun q => h ((nI_leI hx hy).mpr q))))
theorem rn_eq (hexec : p.tables.exec = Jvm.exec) (hb : c.code = cc) {x y : Nat} (hx : x < 2 ^ 31) (hy : y < 2 ^ 31) {off : Int} {tgt : Nat} (hdg : decode cc pc = .ok (.if_icmp .eq off, 3)) (ht : (pc : Int) + off = (tgt : Int))
    (kt : x = y → W p l e R s m args below meth c H locs cells slots Q (F0 m tgt ls rest)) (kf : ¬ x = y → W p l e R s m args below meth c H locs cells slots Q (F0 m (pc + 3) ls rest)) : W p l e R s m args below meth c H locs cells slots Q (F0 m pc ls (.int (nI y) :: .int (nI x) :: rest)) :=
  lv_icmp_eq hexec hb hdg ht (fun h => kt ((nI_eq hx hy).mp h)) (fun h => kf (fun q => h ((nI_eq hx hy).mpr q)))
theorem rn_ne (hexec : p.tables.exec = Jvm.exec) (hb : c.code = cc) {x y : Nat} (hx : x < 2 ^ 31) (hy : y < 2 ^ 31) {off : Int} {tgt : Nat} (hdg : decode cc pc = .ok (.if_icmp .ne off, 3)) (ht : (pc : Int) + off = (tgt : Int))
    (kt : ¬ x = y → W p l e R s m args below meth c H locs cells slots Q (F0 m tgt ls rest)) (kf : x = y → W p l e R s m args below meth c H locs cells slots Q (F0 m (pc + 3) ls rest)) : W p l e R s m args below meth c H locs cells slots Q (F0 m pc ls (.int (nI y) :: .int (nI x) :: rest)) :=
  lv_icmp_ne hexec hb hdg ht (fun h => kt (fun q => h ((nI_eq hx hy).mpr q))) (fun h => kf ((nI_eq hx hy).mp h))
end
end
section
def WM (cA : Nat → ClassId) (r : Nat → Nat) (u : Nat → Int32) (a : Nat → Nat → Int32) : va_W := [(r 0, .inr (10, [.int (u 0), .int (u 1), .ref (r 2), .ref (r 3), .ref (r 4), .int (u 5), .int (u 6), .int (u 7), .ref (r 8), .ref (r 9), .ref (r 10), .ref (r 11), .ref (r 12), .int (u 13), .int (u 14), .int (u 15), .ref (r 16), .ref (r 17), .ref (r 18), .ref (r 19), .ref (r 20), .ref (r 21), .int (u 22), .ref (r 23), .ref (r 24), .int (u 25), .ref (r 26), .ref (r 27), .ref (r 28), .ref (r 29), .int (u 30), .ref (r 31), .ref (r 32), .ref (r 33)])), (r 2, .inl (cA 0, 4, .inl (a 2))), (r 3, .inl (cA 0, 4, .inl (a 3))), (r 4, .inl (cA 0, 240, .inl (a 4))), (r 8, .inl (cA 0, 6, .inl (a 8))), (r 9, .inl (cA 0, 6, .inl (a 9))), (r 10, .inl (cA 0, 6, .inl (a 10))), (r 11, .inl (cA 0, 6, .inl (a 11))), (r 12, .inl (cA 0, 6, .inl (a 12))), (r 16, .inl (cA 0, 6, .inl (a 16))), (r 17, .inl (cA 0, 6, .inl (a 17))), (r 18, .inl (cA 0, 6, .inl (a 18))), (r 19, .inl (cA 0, 6, .inl (a 19))), (r 20, .inl (cA 0, 6, .inl (a 20))), (r 21, .inl (cA 0, 8, .inl (a 21))), (r 23, .inl (cA 0, 400, .inl (a 23))), (r 24, .inl (cA 0, 400, .inl (a 24))), (r 26, .inl (cA 0, 400, .inl (a 26))), (r 27, .inl (cA 1, 1800, .inl (a 27))), (r 28, .inl (cA 0, 6, .inl (a 28))), (r 29, .inl (cA 0, 64, .inl (a 29))), (r 31, .inl (cA 0, 8, .inl (a 31))), (r 32, .inl (cA 0, 8, .inl (a 32))), (r 33, .inl (cA 1, 8, .inl (a 33)))]
def WN (cA : Nat → ClassId) (r : Nat → Nat) (u : Nat → Int32) (a : Nat → Nat → Int32) (th : Nat → Option Nat) : va_W := [(r 0, .inr (9, [.ref (r 1), .ref (r 2), .ref (r 3), .ref (r 4), .ref (r 10), .ref (r 11), .ref (r 5), .int (u 0)])), (r 1, .inr (5, [.int (u 1), .int (u 2), .int (u 3), .ref (r 12), .ref (r 13), .ref (r 14), .ref (r 15), .ref (r 16)])), (r 2, .inr (3, [.int (u 4), .ref (r 17), .ref (r 18), .ref (r 19)])), (r 3, .inr (8, [.ref (r 1), .ref (r 20), .int (u 5), .ref (r 21), .ref (r 22), .int (u 6), .int (u 7), .int (u 8), .int (u 9), .int (u 10)])), (r 4, .inr (2, [.ref (r 1), .ref (r 23), .int (u 11), .ref (r 24), .int (u 12), .ref (r 25)])), (r 5, .inr (7, [.int (u 13)])), (r 6, .inr (4, [.int (u 14), .int (u 18), .ref (r 26)])), (r 7, .inr (4, [.int (u 15), .int (u 19), .ref (r 27)])), (r 8, .inr (4, [.int (u 16), .int (u 20), .ref (r 28)])), (r 9, .inr (4, [.int (u 17), .int (u 21), .ref (r 29)])), (r 10, .inl (cA 2, 4, .inr (.inr (.inr (.inr (fun k => if k < 4 then some (r (6 + k)) else none)))))), (r 12, .inl (cA 3, 6, .inr (.inr (.inr (.inr th))))), (r 11, .inl (cA 0, 64, .inl (a 11))), (r 13, .inl (cA 0, 6, .inl (a 13))), (r 14, .inl (cA 0, 6, .inl (a 14))), (r 15, .inl (cA 0, 6, .inl (a 15))), (r 16, .inl (cA 0, 6, .inl (a 16))), (r 17, .inl (cA 0, 8, .inl (a 17))), (r 18, .inl (cA 0, 8, .inl (a 18))), (r 19, .inl (cA 1, 8, .inl (a 19))), (r 20, .inl (cA 0, 8, .inl (a 20))), (r 21, .inl (cA 0, 6, .inl (a 21))), (r 22, .inl (cA 0, 300, .inl (a 22))), (r 23, .inl (cA 0, 6, .inl (a 23))), (r 24, .inl (cA 0, 6, .inl (a 24))), (r 25, .inl (cA 0, 6, .inl (a 25))), (r 26, .inl (cA 0, 60, .inl (a 26))), (r 27, .inl (cA 0, 60, .inl (a 27))), (r 28, .inl (cA 0, 60, .inl (a 28))), (r 29, .inl (cA 0, 60, .inl (a 29)))]
def tyA (cA : Nat → ClassId) : List (ClassId × FieldType) := [(cA 0, .int), (cA 1, .boolean), (cA 2, .object "OneNail$Sheet"), (cA 3, .object "OneNail$Thing")]
abbrev sM : Type := (Nat → Int32) × (Nat → Nat → Int32)
abbrev sN : Type := (Nat → Int32) × (Nat → Nat → Int32) × (Nat → Option Nat) × List Nat × (Nat → va_E)
abbrev xM (cA : Nat → ClassId) (r : Nat → Nat) (x : sM) : va_W := WM cA r x.1 x.2
abbrev xN (cA : Nat → ClassId) (r : Nat → Nat) (x : sN) : va_W := WN cA r x.1 x.2.1 x.2.2.1 ++ va_pl x.2.2.2.1 x.2.2.2.2
/-- what is carried of cells that nobody writes -/
abbrev eT : Type := (Nat → Prop) → State → Heap → Prop
def eS (E : eT) : Prop := ∀ (A B : Nat → Prop) (u U : State) (H H1 : Heap), E A u H → (∀ q, B q → A q) → (∀ q : Nat, q < H.size → ¬ A q → H1[q]? = H[q]?) → u.vm.Alike U.vm → E B U H1
def e0 : eT := fun _ _ _ => True
theorem e0_S : eS e0 := fun _ _ _ _ _ _ _ _ _ _ => trivial
def eO (t : Nat) : eT := fun A U H => va_Z "OneNail$Orders" "ORDERS_OF" "[I" (.ref t) A U H ∧ va_T .int t 7 (fun j => .int (nI (match j with | 0 => 1 | 1 => 1 | 2 => 2 | 3 => 6 | 4 => 24 | 5 => 120 | _ => 720))) A U H
def wA (D : va_G) (cl : List vw_C) (tys : List (ClassId × FieldType)) (E : eT) {σ : Type} (Wd : σ → va_W) (x : σ) (sz : Nat) (U : State) : Prop :=
  U.heap.size = sz ∧ va_P D cl (Wd x) U.heap ∧ va_K D cl tys U ∧ va_D (fun _ => True) (Wd x) ∧ E (va_A (Wd x) sz) U U.heap
def wB (D : va_G) (cl : List vw_C) (tys : List (ClassId × FieldType)) {σ : Type} (Wd : σ → va_W) (A : Nat → Prop) (y : σ) (t : State) : Prop :=
  va_P D cl (Wd y) t.heap ∧ va_K D cl tys t ∧ va_D A (Wd y)
theorem wA_blind {D : va_G} {cl : List vw_C} {tys : List (ClassId × FieldType)} {E : eT} {σ : Type} {Wd : σ → va_W} {x : σ} {sz : Nat} {av : List Value} (hE : eS E) : FrameBlind (va_Pc av (wA D cl tys E Wd x sz)) := fun a U g mk q => by
  obtain ⟨q0, q1, qP, qK, qD, qE⟩ := q
  exact ⟨q0, q1, qP, va_K.moved (u := U) (U := U.calling g mk a) (Vm.Alike.refl U.vm) qK, qD, hE _ _ U _ _ _ qE (fun _ h => h) (fun _ _ _ => rfl) (Vm.Alike.refl U.vm)⟩
theorem wF {A0 : Nat → Prop} {ws : va_W} {H0 H : Heap} {locs : List Loc} (hD : va_D A0 ws) (hS : va_S A0 H0 H locs) (hA : ∀ q, H0.size ≤ q → A0 q) : ∀ q, va_A ws H.size q → A0 q := fun q h => h.elim (fun ⟨k, _, hk⟩ => hD.2 k _ hk) (fun h => hA q (Nat.le_trans hS.1 h))
section
variable {p : Program} {l : Launch} {e : Env} {R : Room} {s : State} {m : MethodId} {args : Array Value} {below : List Frame} {meth : Method} {c : Code} {H : Heap} {locs : List Loc} {cells slots : Nat} {Q : State → Prop}
variable {y : MethodName} {bytes cc : ByteArray} {maxL nL mc ms n index pc : Nat} {ret : Option FieldType} {ws : List Cond} {rm : Room} {Ts : List Cond} {own C : String} {b : Addr} {As rest st0 : List Value} {ls : Array Slot}
variable {D : va_G} {cl : List vw_C} {A0 : Nat → Prop} {tys : List (ClassId × FieldType)} {H0 : Heap} {E : eT} {σ : Type} {Wd : σ → va_W} {x : σ}
theorem wPre {av : List Value} (hE : eS E) (hK : va_K D cl tys s) (hP : va_P D cl (Wd x) H) (hD : va_D A0 (Wd x)) (hS : va_S A0 s.heap H locs) (hA : ∀ q, s.heap.size ≤ q → A0 q) (hEs : E A0 s s.heap) : ∀ U : State, U.heap = H → s.WarmedH U.vm → va_Pc av (wA D cl tys E Wd x H.size) av.toArray U := fun U hU hW => by
  refine ⟨rfl, by rw [hU], by rw [hU]; exact hP, va_K.moved hW.alike hK, hD.weaken (fun _ _ _ _ => trivial), hE A0 _ s U s.heap _ hEs (wF hD hS hA) (fun q h1 h2 => by rw [hU]; exact hS.2.1 q h1 h2) hW.alike⟩
theorem wVi {post : Int32 → σ → Prop} (hE : eS E) (S : CallFix p m c cc nL s args Ts own)
    (hM : Met l y ws rm (va_Pc (.ref b :: As) (wA D cl tys E Wd x H.size)) (va_Qi post (wB D cl tys Wd (va_A (Wd x) H.size)) (va_A (Wd x) H.size)) mc ms (va_A (Wd x) H.size))
    (cw : CallW R s args own C index y bytes maxL ret ws rm mc ms n) (hrc : ∃ cell : Cell, H[b]? = some cell ∧ cell.vm.isStatics = false ∧ s.vm.findClass C = some cell.cls)
    (hK : va_K D cl tys s) (hP : va_P D cl (Wd x) H) (hD : va_D A0 (Wd x)) (hS : va_S A0 s.heap H locs) (hA : ∀ q, s.heap.size ≤ q → A0 q) (hEs : E A0 s s.heap)
    (hn : As.length = n) (hsize : ls.size = nL) (hst : st0 = As.reverse ++ .ref b :: rest) (hW : (rest.map fun v => v.category).sum ≤ 8) (hdg : decode cc pc = .ok (.invokevirtual index, 3)) (hf : cells + mc ≤ R.cells ∧ slots + ms ≤ R.slots)
    (kk : ∀ (rv : Int32) (z : σ) (H1 : Heap) (locs1 : List Loc), post rv z → va_P D cl (Wd z) H1 → va_D A0 (Wd z) → va_S A0 s.heap H1 locs1 → W p l e R s m args below meth c H1 locs1 (cells + mc) (slots + ms) Q (F0 m (pc + 3) ls (.int rv :: rest))) :
    W p l e R s m args below meth c H locs cells slots Q (F0 m pc ls st0) := by
  have hF := wF hD hS hA
  refine va_calli (va_runV (As := As) (rest := rest) S hM cw ⟨wA_blind hE, hrc, wPre hE hK hP hD hS hA hEs⟩ rfl hn hsize hst (lv_room hW) hdg hf) hS (fun q _ h => hF q h) hF (fun rv z t H1 locs1 ht hvm hw hB hz1 hk1 hS1 => ?_)
  obtain ⟨hP1, hK1, hD1⟩ := hB
  rw [ht] at hP1
  exact kk rv z H1 locs1 hw hP1 (hD1.weaken (fun _ _ _ h => hF _ h)) hS1
theorem wVl {post : Int64 → σ → Prop} (hE : eS E) (S : CallFix p m c cc nL s args Ts own)
    (hM : Met l y ws rm (va_Pc (.ref b :: As) (wA D cl tys E Wd x H.size)) (va_Ql post (wB D cl tys Wd (va_A (Wd x) H.size)) (va_A (Wd x) H.size)) mc ms (va_A (Wd x) H.size))
    (cw : CallW R s args own C index y bytes maxL ret ws rm mc ms n) (hrc : ∃ cell : Cell, H[b]? = some cell ∧ cell.vm.isStatics = false ∧ s.vm.findClass C = some cell.cls)
    (hK : va_K D cl tys s) (hP : va_P D cl (Wd x) H) (hD : va_D A0 (Wd x)) (hS : va_S A0 s.heap H locs) (hA : ∀ q, s.heap.size ≤ q → A0 q) (hEs : E A0 s s.heap)
    (hn : As.length = n) (hsize : ls.size = nL) (hst : st0 = As.reverse ++ .ref b :: rest) (hW : (rest.map fun v => v.category).sum ≤ 8) (hdg : decode cc pc = .ok (.invokevirtual index, 3)) (hf : cells + mc ≤ R.cells ∧ slots + ms ≤ R.slots)
    (kk : ∀ (rv : Int64) (z : σ) (H1 : Heap) (locs1 : List Loc), post rv z → va_P D cl (Wd z) H1 → va_D A0 (Wd z) → va_S A0 s.heap H1 locs1 → W p l e R s m args below meth c H1 locs1 (cells + mc) (slots + ms) Q (F0 m (pc + 3) ls (.long rv :: rest))) :
    W p l e R s m args below meth c H locs cells slots Q (F0 m pc ls st0) := by
  have hF := wF hD hS hA
  refine va_calll (va_runV (As := As) (rest := rest) S hM cw ⟨wA_blind hE, hrc, wPre hE hK hP hD hS hA hEs⟩ rfl hn hsize hst (lv_room hW) hdg hf) hS (fun q _ h => hF q h) hF (fun rv z t H1 locs1 ht hvm hw hB hz1 hk1 hS1 => ?_)
  obtain ⟨hP1, hK1, hD1⟩ := hB
  rw [ht] at hP1
  exact kk rv z H1 locs1 hw hP1 (hD1.weaken (fun _ _ _ h => hF _ h)) hS1
theorem wVv {post : σ → Prop} (hE : eS E) (S : CallFix p m c cc nL s args Ts own)
    (hM : Met l y ws rm (va_Pc (.ref b :: As) (wA D cl tys E Wd x H.size)) (va_Qv post (wB D cl tys Wd (va_A (Wd x) H.size)) (va_A (Wd x) H.size)) mc ms (va_A (Wd x) H.size))
    (cw : CallW R s args own C index y bytes maxL ret ws rm mc ms n) (hrc : ∃ cell : Cell, H[b]? = some cell ∧ cell.vm.isStatics = false ∧ s.vm.findClass C = some cell.cls)
    (hK : va_K D cl tys s) (hP : va_P D cl (Wd x) H) (hD : va_D A0 (Wd x)) (hS : va_S A0 s.heap H locs) (hA : ∀ q, s.heap.size ≤ q → A0 q) (hEs : E A0 s s.heap)
    (hn : As.length = n) (hsize : ls.size = nL) (hst : st0 = As.reverse ++ .ref b :: rest) (hW : (rest.map fun v => v.category).sum ≤ 8) (hdg : decode cc pc = .ok (.invokevirtual index, 3)) (hf : cells + mc ≤ R.cells ∧ slots + ms ≤ R.slots)
    (kk : ∀ (z : σ) (H1 : Heap) (locs1 : List Loc), post z → va_P D cl (Wd z) H1 → va_D A0 (Wd z) → va_S A0 s.heap H1 locs1 → W p l e R s m args below meth c H1 locs1 (cells + mc) (slots + ms) Q (F0 m (pc + 3) ls rest)) :
    W p l e R s m args below meth c H locs cells slots Q (F0 m pc ls st0) := by
  have hF := wF hD hS hA
  refine va_callv (va_runV (As := As) (rest := rest) S hM cw ⟨wA_blind hE, hrc, wPre hE hK hP hD hS hA hEs⟩ rfl hn hsize hst (lv_room hW) hdg hf) hS (fun q _ h => hF q h) hF (fun z t H1 locs1 ht hvm hw hB hz1 hk1 hS1 => ?_)
  obtain ⟨hP1, hK1, hD1⟩ := hB
  rw [ht] at hP1
  exact kk z H1 locs1 hw hP1 (hD1.weaken (fun _ _ _ h => hF _ h)) hS1
/-- a static method that touches no cell -/
theorem wSi {post : Int32 → Prop} (S : CallFix p m c cc nL s args Ts own)
    (hM : Met l y ws rm (va_Pc As (fun _ => True)) (vp_Si post) 0 0 (fun _ => False))
    (cw : CallB R s args own index y bytes maxL ret ws rm 0 0 n ∧ (Cond.static y).before args s = true)
    (hn : As.length = n) (hsize : ls.size = nL) (hst : st0 = As.reverse ++ rest) (hW : (rest.map fun v => v.category).sum ≤ 8) (hdg : decode cc pc = .ok (.invokestatic index, 3)) (hf : cells + 0 ≤ R.cells ∧ slots + 0 ≤ R.slots)
    (kk : ∀ rv : Int32, post rv → W p l e R s m args below meth c H locs cells slots Q (F0 m (pc + 3) ls (.int rv :: rest))) :
    W p l e R s m args below meth c H locs cells slots Q (F0 m pc ls st0) :=
  vp_callSi (va_Run.run (va_runS (As := As) (rest := rest) S hM cw ⟨fun _ _ _ _ q => q, fun _ _ _ => ⟨rfl, trivial⟩⟩ rfl hn hsize hst (lv_room hW) hdg hf)) kk
theorem wIret {post : Int32 → σ → Prop} (hx : p.tables.exec = Jvm.exec) (hb : c.code = cc) (hr : meth.sig.returnType = some .int) (hlocks : meth.locks = false) {v : Int32} (z : σ) (hp : post v z) (hK : va_K D cl tys s) (hP : va_P D cl (Wd z) H) (hD : va_D A0 (Wd z)) (hS : va_S A0 s.heap H locs) (hdg : decode cc pc = .ok (.ireturn, 1)) :
    W p l e R s m args below meth c H locs cells slots (MQ below (va_Qi post (wB D cl tys Wd A0) A0) args s cells slots A0) (F0 m pc ls [.int v]) :=
  W.iret hx hb hr (fun t ht hW => ⟨⟨v, z, rfl, hp, by rw [ht]; exact hP, va_K.moved hW.alike hK, hD⟩, hS.F ht⟩) hS.2.2 hdg
theorem wZret {post : Int32 → σ → Prop} (hx : p.tables.exec = Jvm.exec) (hb : c.code = cc) (hr : meth.sig.returnType = some .boolean) (hlocks : meth.locks = false) {v : Int32} (hv : v = 0 ∨ v = 1) (z : σ) (hp : post v z) (hK : va_K D cl tys s) (hP : va_P D cl (Wd z) H) (hD : va_D A0 (Wd z)) (hS : va_S A0 s.heap H locs) (hdg : decode cc pc = .ok (.ireturn, 1)) :
    W p l e R s m args below meth c H locs cells slots (MQ below (va_Qi post (wB D cl tys Wd A0) A0) args s cells slots A0) (F0 m pc ls [.int v]) :=
  W.zret hx hb hr (by rcases hv with rfl | rfl <;> rfl) (fun t ht hW => ⟨⟨v, z, rfl, hp, by rw [ht]; exact hP, va_K.moved hW.alike hK, hD⟩, hS.F ht⟩) hS.2.2 hdg
theorem wLret {post : Int64 → σ → Prop} (hx : p.tables.exec = Jvm.exec) (hb : c.code = cc) (hr : meth.sig.returnType = some .long) (hlocks : meth.locks = false) {v : Int64} (z : σ) (hp : post v z) (hK : va_K D cl tys s) (hP : va_P D cl (Wd z) H) (hD : va_D A0 (Wd z)) (hS : va_S A0 s.heap H locs) (hdg : decode cc pc = .ok (.lreturn, 1)) :
    W p l e R s m args below meth c H locs cells slots (MQ below (va_Ql post (wB D cl tys Wd A0) A0) args s cells slots A0) (F0 m pc ls [.long v]) :=
  W.lret hx hb hr (fun t ht hW => ⟨⟨v, z, rfl, hp, by rw [ht]; exact hP, va_K.moved hW.alike hK, hD⟩, hS.F ht⟩) hS.2.2 hdg
theorem wVret {post : σ → Prop} (hx : p.tables.exec = Jvm.exec) (hb : c.code = cc) (hr : meth.sig.returnType = none) (hlocks : meth.locks = false) (z : σ) (hp : post z) (hK : va_K D cl tys s) (hP : va_P D cl (Wd z) H) (hD : va_D A0 (Wd z)) (hS : va_S A0 s.heap H locs) (hdg : decode cc pc = .ok (.return_, 1)) :
    W p l e R s m args below meth c H locs cells slots (MQ below (va_Qv post (wB D cl tys Wd A0) A0) args s cells slots A0) (F0 m pc ls []) :=
  W.vret hx hb hr (fun t ht hW => ⟨⟨z, rfl, hp, by rw [ht]; exact hP, va_K.moved hW.alike hK, hD⟩, hS.F ht⟩) hS.2.2 hdg
theorem wSret {post : Int32 → Prop} (hx : p.tables.exec = Jvm.exec) (hb : c.code = cc) (hr : meth.sig.returnType = some .int) (hlocks : meth.locks = false) {v : Int32} (hp : post v) (hdg : decode cc pc = .ok (.ireturn, 1)) :
    W p l e R s m args below meth c s.heap [] cells slots (MQ below (vp_Si post) args s cells slots (fun _ => False)) (F0 m pc ls [.int v]) :=
  W.iret hx hb hr (fun t ht hW => ⟨v, rfl, hp, ht⟩) (fun _ h => absurd h List.not_mem_nil) hdg
theorem wSzret {post : Int32 → Prop} (hx : p.tables.exec = Jvm.exec) (hb : c.code = cc) (hr : meth.sig.returnType = some .boolean) (hlocks : meth.locks = false) {v : Int32} (hv : v = 0 ∨ v = 1) (hp : post v) (hdg : decode cc pc = .ok (.ireturn, 1)) :
    W p l e R s m args below meth c s.heap [] cells slots (MQ below (vp_Si post) args s cells slots (fun _ => False)) (F0 m pc ls [.int v]) :=
  W.zret hx hb hr (by rcases hv with rfl | rfl <;> rfl) (fun t ht hW => ⟨v, rfl, hp, ht⟩) (fun _ h => absurd h List.not_mem_nil) hdg
end
end
section
section
variable {p : Program} {l : Launch} {e : Env} {R : Room} {s : State} {m : MethodId} {args : Array Value} {below : List Frame} {meth : Method} {c : Code} {H : Heap} {locs : List Loc} {cells slots : Nat} {Q : State → Prop} {pc : Nat} {ls : Array Slot} {st : List Value}
theorem wLoop {τ : Type} (I : τ → Heap → List Loc → Array Slot → Prop) (μ : τ → Nat) (z0 : τ) (h0 : I z0 H locs ls)
    (step : ∀ (z : τ) (H : Heap) (locs : List Loc) (ls : Array Slot), I z H locs ls → (∀ (z' : τ) (H' : Heap) (locs' : List Loc) (ls' : Array Slot), μ z' < μ z → I z' H' locs' ls' → W p l e R s m args below meth c H' locs' cells slots Q (F0 m pc ls' st)) → W p l e R s m args below meth c H locs cells slots Q (F0 m pc ls st)) :
    W p l e R s m args below meth c H locs cells slots Q (F0 m pc ls st) := by
  have key : ∀ (n : Nat) (z : τ) (H : Heap) (locs : List Loc) (ls : Array Slot), μ z < n → I z H locs ls → W p l e R s m args below meth c H locs cells slots Q (F0 m pc ls st) := by
    intro n
    induction n with
    | zero => intro z H locs ls h; exact absurd h (Nat.not_lt_zero _)
    | succ n ih => intro z H locs ls h hI; exact step z H locs ls hI (fun z' H' locs' ls' h' hI' => ih z' H' locs' ls' (Nat.lt_of_lt_of_le h' (Nat.le_of_lt_succ h)) hI')
  exact key (μ z0 + 1) z0 H locs ls (Nat.lt_succ_self _) h0
/-- a place where roads meet -/
theorem wJoin {τ : Type} (I : τ → Heap → List Loc → Array Slot → Prop) (st : τ → List Value)
    (body : ∀ (z : τ) (H : Heap) (locs : List Loc) (ls : Array Slot), I z H locs ls → W p l e R s m args below meth c H locs cells slots Q (F0 m pc ls (st z)))
    {pc0 : Nat} {st0 : List Value} (k : (∀ (z : τ) (H : Heap) (locs : List Loc) (ls : Array Slot), I z H locs ls → W p l e R s m args below meth c H locs cells slots Q (F0 m pc ls (st z))) → W p l e R s m args below meth c H locs cells slots Q (F0 m pc0 ls st0)) : W p l e R s m args below meth c H locs cells slots Q (F0 m pc0 ls st0) := k body
end
theorem eO_S (t : Nat) : eS (eO t) := by
  intro A B u U H H1 h hBA hk hvm
  exact ⟨((h.1.kept hk).narrow hBA).moved hvm, ((h.2.kept hk).narrow hBA).moved hvm⟩
end
section
/-! ===== rows on a number beside 0; words for the town, for comings and falls, for orders ===== -/
section
variable {p : Program} {l : Launch} {e : Env} {R : Room} {s : State} {m : MethodId} {args : Array Value} {below : List Frame} {meth : Method} {c : Code} {H : Heap} {locs : List Loc} {cells slots : Nat} {Q : State → Prop}
variable {cc : ByteArray} {pc : Nat} {ls : Array Slot} {rest : List Value}
theorem rz_eq (hexec : p.tables.exec = Jvm.exec) (hb : c.code = cc) {x : Nat} (hx : x < 2 ^ 31) {off : Int} {tgt : Nat} (hdg : decode cc pc = .ok (.ifCond .eq off, 3)) (ht : (pc : Int) + off = (tgt : Int))
    (kt : x = 0 → W p l e R s m args below meth c H locs cells slots Q (F0 m tgt ls rest)) (kf : ¬ x = 0 → W p l e R s m args below meth c H locs cells slots Q (F0 m (pc + 3) ls rest)) : W p l e R s m args below meth c H locs cells slots Q (F0 m pc ls (.int (nI x) :: rest)) :=
  lv_if_eq hexec hb hdg ht (fun h => kt ((nI_eq hx (by decide)).mp h)) (fun h => kf (fun q => h (by rw [q]; rfl)))
theorem rz_ne (hexec : p.tables.exec = Jvm.exec) (hb : c.code = cc) {x : Nat} (hx : x < 2 ^ 31) {off : Int} {tgt : Nat} (hdg : decode cc pc = .ok (.ifCond .ne off, 3)) (ht : (pc : Int) + off = (tgt : Int))
    (kt : ¬ x = 0 → W p l e R s m args below meth c H locs cells slots Q (F0 m tgt ls rest)) (kf : x = 0 → W p l e R s m args below meth c H locs cells slots Q (F0 m (pc + 3) ls rest)) : W p l e R s m args below meth c H locs cells slots Q (F0 m pc ls (.int (nI x) :: rest)) :=
  lv_if_ne hexec hb hdg ht (fun h => kt (fun q => h (by rw [q]; rfl))) (fun h => kf ((nI_eq hx (by decide)).mp h))
theorem rz_lt (hexec : p.tables.exec = Jvm.exec) (hb : c.code = cc) {x : Nat} (hx : x < 2 ^ 31) {off : Int} {tgt : Nat} (hdg : decode cc pc = .ok (.ifCond .lt off, 3)) (ht : (pc : Int) + off = (tgt : Int))
    (kf : W p l e R s m args below meth c H locs cells slots Q (F0 m (pc + 3) ls rest)) : W p l e R s m args below meth c H locs cells slots Q (F0 m pc ls (.int (nI x) :: rest)) :=
  lv_if_lt hexec hb hdg ht (fun h => absurd h (nI_pos hx)) (fun _ => kf)
theorem rz_ge (hexec : p.tables.exec = Jvm.exec) (hb : c.code = cc) {x : Nat} (hx : x < 2 ^ 31) {off : Int} {tgt : Nat} (hdg : decode cc pc = .ok (.ifCond .ge off, 3)) (ht : (pc : Int) + off = (tgt : Int))
    (kt : W p l e R s m args below meth c H locs cells slots Q (F0 m tgt ls rest)) : W p l e R s m args below meth c H locs cells slots Q (F0 m pc ls (.int (nI x) :: rest)) :=
  lv_if_ge hexec hb hdg ht (fun _ => kt) (fun h => absurd (nI_pos' hx) h)
theorem rz_le (hexec : p.tables.exec = Jvm.exec) (hb : c.code = cc) {x : Nat} (hx : x < 2 ^ 31) {off : Int} {tgt : Nat} (hdg : decode cc pc = .ok (.ifCond .le off, 3)) (ht : (pc : Int) + off = (tgt : Int))
    (kt : x = 0 → W p l e R s m args below meth c H locs cells slots Q (F0 m tgt ls rest)) (kf : 0 < x → W p l e R s m args below meth c H locs cells slots Q (F0 m (pc + 3) ls rest)) : W p l e R s m args below meth c H locs cells slots Q (F0 m pc ls (.int (nI x) :: rest)) :=
  lv_if_le hexec hb hdg ht (fun h => kt (by
    rcases Nat.eq_zero_or_pos x with q | q
    · exact q
    · exact absurd h (nI_nle q hx))) (fun h => kf (Nat.pos_of_ne_zero (fun q => h (by rw [q]; exact Int32.le_refl _))))
end
theorem up_ne {f : Nat → Int32} {k i : Nat} {x : Int32} (h : i ≠ k) : upd f k x i = f i := if_neg h
theorem up_eq {f : Nat → Int32} {k : Nat} {x : Int32} : upd f k x k = x := if_pos rfl
theorem vup_ne {α : Type} {f : Nat → α} {k i : Nat} {x : α} (h : i ≠ k) : va_up f k x i = f i := if_neg h
theorem vup_eq {α : Type} {f : Nat → α} {k : Nat} {x : α} : va_up f k x k = x := if_pos rfl
/-- the way between two places -/
def md (x y : Nat) : Nat := if x < y then y - x else x - y
theorem md_le {x y : Nat} (hx : x ≤ 9) (hy : y ≤ 9) : md x y ≤ 9 := by unfold md; split <;> omega
/-- the town: g 0 things, g 1 the smithy's place, g 2 rust; T 0 kind, T 1 place, T 2 stay, T 3 hold, T 4 harm -/
def TB (g : Nat → Nat) (T : Nat → Nat → Nat) : Prop := g 0 ≤ 6 ∧ g 1 ≤ 9 ∧ g 2 ≤ 50 ∧ ∀ x, x < g 0 → T 0 x ≤ 2 ∧ T 1 x ≤ 9 ∧ 1 ≤ T 2 x ∧ T 2 x ≤ 9 ∧ 1 ≤ T 3 x ∧ T 3 x ≤ 99 ∧ 1 ≤ T 4 x ∧ T 4 x ≤ 9
/-- the model's picture of the town -/
def MT (u : Nat → Int32) (a : Nat → Nat → Int32) (g : Nat → Nat) (T : Nat → Nat → Nat) : Prop := u 5 = nI (g 0) ∧ u 6 = nI (g 1) ∧ u 7 = nI (g 2) ∧ ∀ x, x < g 0 → a 8 x = nI (T 0 x) ∧ a 9 x = nI (T 1 x) ∧ a 10 x = nI (T 2 x) ∧ a 11 x = nI (T 3 x) ∧ a 12 x = nI (T 4 x)
theorem MT.keep {u u' : Nat → Int32} {a a' : Nat → Nat → Int32} {g : Nat → Nat} {T : Nat → Nat → Nat} (h : MT u a g T) (h5 : u' 5 = u 5) (h6 : u' 6 = u 6) (h7 : u' 7 = u 7) (h8 : a' 8 = a 8) (h9 : a' 9 = a 9) (h10 : a' 10 = a 10) (h11 : a' 11 = a 11) (h12 : a' 12 = a 12) : MT u' a' g T := by
  unfold MT; rw [h5, h6, h7, h8, h9, h10, h11, h12]; exact h
/-- how long a thing holds -/
def hd (g : Nat → Nat) (T : Nat → Nat → Nat) (x : Nat) : Nat :=
  (if T 0 x = 2 then 10 else 0) + ((if g 2 < T 3 x then T 3 x - g 2 else 1) + (if 0 < T 0 x then (if g 2 < T 3 x then T 3 x - g 2 else 1) / 2 else 0))
theorem hd_le {g : Nat → Nat} {T : Nat → Nat → Nat} (hB : TB g T) {x : Nat} (hx : x < g 0) : 1 ≤ hd g T x ∧ hd g T x ≤ 158 := by
  obtain ⟨-, -, -, h⟩ := hB
  have := h x hx
  unfold hd
  repeat' split
  all_goals omega
/-- the minute of the k-th coming of a round ro of length L -/
def ct (g : Nat → Nat) (T : Nat → Nat → Nat) (ro : Nat → Nat) (L : Nat) : Nat → Nat
  | 0 => md (g 1) (T 1 (ro 0))
  | k + 1 => ct g T ro L k + (T 2 (ro (k % L)) + md (T 1 (ro (k % L))) (T 1 (ro ((k + 1) % L))))
theorem ct_le {g : Nat → Nat} {T : Nat → Nat → Nat} {ro : Nat → Nat} {L : Nat} (hB : TB g T) (hL : 0 < L) (hro : ∀ k, k < L → ro k < g 0) : ∀ k, ct g T ro L k ≤ 9 + 18 * k
  | 0 => by
    have h1 := hB.2.2.2 (ro 0) (hro 0 hL)
    have := md_le hB.2.1 h1.2.1
    unfold ct; omega
  | k + 1 => by
    have ih := ct_le hB hL hro k
    have h1 := hB.2.2.2 (ro (k % L)) (hro _ (Nat.mod_lt _ hL))
    have h2 := hB.2.2.2 (ro ((k + 1) % L)) (hro _ (Nat.mod_lt _ hL))
    have := md_le h1.2.1 h2.2.1
    unfold ct; omega
theorem ct_lt {g : Nat → Nat} {T : Nat → Nat → Nat} {ro : Nat → Nat} {L : Nat} (hB : TB g T) (hL : 0 < L) (hro : ∀ k, k < L → ro k < g 0) (k : Nat) : ct g T ro L k + 1 ≤ ct g T ro L (k + 1) := by
  have h1 := hB.2.2.2 (ro (k % L)) (hro _ (Nat.mod_lt _ hL))
  show _ ≤ ct g T ro L k + (T 2 (ro (k % L)) + md (T 1 (ro (k % L))) (T 1 (ro ((k + 1) % L))))
  omega
theorem ct_ge {g : Nat → Nat} {T : Nat → Nat → Nat} {ro : Nat → Nat} {L : Nat} (hB : TB g T) (hL : 0 < L) (hro : ∀ k, k < L → ro k < g 0) : ∀ k, k ≤ ct g T ro L k
  | 0 => Nat.zero_le _
  | k + 1 => by have := ct_ge hB hL hro k; have := ct_lt hB hL hro k; omega
/-- till when thing x is up, ahead of the k-th coming (tg k: to which thing, cf k: when) -/
def up (cf tg : Nat → Nat) (x h y : Nat) : Nat → Nat
  | 0 => h
  | k + 1 => if tg k = x then cf k + y + h else up cf tg x h y k
/-- the falls of x below minute t, ahead of the k-th coming -/
def fl (cf tg : Nat → Nat) (x h y t : Nat) : Nat → List Nat
  | 0 => []
  | k + 1 => if tg k = x ∧ up cf tg x h y k < cf k ∧ up cf tg x h y k < t then fl cf tg x h y t k ++ [up cf tg x h y k] else fl cf tg x h y t k
theorem fl_len (cf tg : Nat → Nat) (x h y t : Nat) : ∀ k, (fl cf tg x h y t k).length ≤ k
  | 0 => Nat.le_refl _
  | k + 1 => by
    have := fl_len cf tg x h y t k
    unfold fl; split
    · rw [List.length_append, List.length_singleton]; omega
    · omega
/-- all falls of x below minute t: cN comings lie below minute 300 -/
def fa (cf tg : Nat → Nat) (x h y t cN : Nat) : List Nat := if up cf tg x h y cN < t then fl cf tg x h y t cN ++ [up cf tg x h y cN] else fl cf tg x h y t cN
theorem fa_len (cf tg : Nat → Nat) (x h y t cN : Nat) : (fa cf tg x h y t cN).length ≤ cN + 1 := by
  have := fl_len cf tg x h y t cN
  unfold fa; split
  · rw [List.length_append, List.length_singleton]; omega
  · omega
/-- a row of digits as one number -/
def dg (N k : Nat) : Nat := N / 8 ^ k % 8
def mk (f : Nat → Nat) : Nat → Nat
  | 0 => 0
  | k + 1 => mk f k + f k * 8 ^ k
theorem mk_lt (f : Nat → Nat) : ∀ L, (∀ k, k < L → f k < 8) → mk f L < 8 ^ L
  | 0, _ => Nat.lt_succ_self 0
  | k + 1, h => by
    have ih := mk_lt f k (fun i hi => h i (by omega))
    have h1 := h k (by omega)
    have h2 : f k * 8 ^ k ≤ 7 * 8 ^ k := Nat.mul_le_mul_right _ (by omega)
    unfold mk; rw [Nat.pow_succ]; omega
theorem dg_mk (f : Nat → Nat) : ∀ (L x : Nat), (∀ k, k < L → f k < 8) → x < L → dg (mk f L) x = f x
  | 0, x, _, hx => absurd hx (Nat.not_lt_zero x)
  | L + 1, x, h, hx => by
    have hl := mk_lt f L (fun i hi => h i (by omega))
    rcases Nat.lt_or_ge x L with q | q
    · have ih := dg_mk f L x (fun i hi => h i (by omega)) q
      unfold dg at ih ⊢; unfold mk
      have e : f L * 8 ^ L = 8 ^ x * (8 * (f L * 8 ^ (L - x - 1))) := by
        have : 8 ^ L = 8 ^ x * (8 * 8 ^ (L - x - 1)) := by rw [← Nat.pow_succ', ← Nat.pow_add]; congr 1; omega
        rw [this, Nat.mul_left_comm, Nat.mul_left_comm (f L)]
      rw [e, Nat.add_mul_div_left _ _ (Nat.pow_pos (by decide)), Nat.add_mul_mod_self_left, ih]
    · obtain rfl : x = L := by omega
      unfold dg; unfold mk
      rw [Nat.mul_comm, Nat.add_mul_div_left _ _ (Nat.pow_pos (by decide)), Nat.div_eq_of_lt hl, Nat.zero_add, Nat.mod_eq_of_lt (h x (by omega))]
theorem dg_lt (N k : Nat) : dg N k < 8 := Nat.mod_lt _ (by decide)
/-- the next order: the place of the last rise (and 1), the place to change with, the row behind turned -/
def fk (N : Nat) : Nat → Nat
  | 0 => 0
  | k + 1 => if dg N (k + 1) < dg N k then fk N k else k + 1
def fq (N v : Nat) : Nat → Nat
  | 0 => 0
  | q + 1 => if dg N (q + 1) < v then fq N v q else q + 1
def sw (f : Nat → Nat) (i j : Nat) : Nat → Nat := fun x => if x = j then f i else if x = i then f j else f x
def rv (f : Nat → Nat) : Nat → Nat → Nat → (Nat → Nat)
  | 0, _, _ => f
  | n + 1, i, j => if i < j then rv (sw f i j) n (i + 1) (j - 1) else f
def nxf (N L : Nat) : Nat → Nat := rv (sw (dg N) (fk N (L - 1) - 1) (fq N (dg N (fk N (L - 1) - 1)) (L - 1))) 6 (fk N (L - 1)) (L - 1)
def nx (N L : Nat) : Nat := mk (nxf N L) L
/-- bit x of a set -/
def bi (S x : Nat) : Nat := S / 2 ^ x % 2
theorem bi_lt (S x : Nat) : bi S x < 2 := Nat.mod_lt _ (by decide)
theorem bi_row : ∀ S, S < 64 → ∀ x, x < 6 → (nI S >>> (nI x &&& 31)) &&& nI 1 = nI (bi S x) := by decide +kernel
theorem all_row : ∀ n, n ≤ 6 → (nI 1 <<< (nI n &&& 31)) - nI 1 = nI (2 ^ n - 1) := by decide +kernel
/-- the first order of a set: how many, and the row -/
def ol (S : Nat) : Nat → Nat
  | 0 => 0
  | x + 1 => if bi S x = 1 then ol S x + 1 else ol S x
theorem ol_le (S : Nat) : ∀ n, ol S n ≤ n
  | 0 => Nat.le_refl _
  | n + 1 => by have := ol_le S n; unfold ol; split <;> omega
def of1 (S : Nat) : Nat → (Nat → Nat)
  | 0 => fun _ => 0
  | x + 1 => if bi S x = 1 then (fun k => if k = ol S x then x else of1 S x k) else of1 S x
/-- how many things a set has -/
def sz6 (S : Nat) : Nat := bi S 0 + bi S 1 + bi S 2 + bi S 3 + bi S 4 + bi S 5
end
section
theorem lv_re {ls : Array Slot} {nL : Nat} {lv : List (Nat × Value)} (h : lv_has ls nL lv) (k : Nat) {i : Nat} {x y : Int32} {lv' : List (Nat × Value)} (hk : (lv[k]? = some (i, .int x) ∧ lv.set k (i, .int y) = lv')) (e : x = y) : lv_has ls nL lv' := by
  obtain ⟨hk, rfl⟩ := hk
  refine ⟨h.1, h.2.1, ?_⟩
  intro q hq
  obtain ⟨j, hj⟩ := List.getElem?_of_mem hq
  rw [List.getElem?_set] at hj
  split at hj
  · split at hj
    · cases hj
      rw [← e]
      exact h.2.2 (i, .int x) (List.mem_of_getElem? hk)
    · cases hj
  · exact h.2.2 q (List.mem_of_getElem? hj)
theorem arr_push {f F : Nat → Int32} {c : Nat} (h : ∀ k, k < c → f k = F k) {v : Int32} (hv : v = F c) : ∀ k, k < c + 1 → upd f c v k = F k := fun k hk => by
  rcases Nat.lt_or_ge k c with q | q
  · rw [up_ne (by omega)]; exact h k q
  · obtain rfl : k = c := by omega
    rw [up_eq]; exact hv
theorem md_s {c L : Nat} (h : c % L + 1 = L) : 0 = (c + 1) % L := by
  rw [Nat.add_mod]
  rcases Nat.lt_or_ge 1 L with q | q
  · rw [Nat.mod_eq_of_lt q, h, Nat.mod_self]
  · obtain rfl : L = 1 := by omega
    omega
theorem md_n {c L : Nat} (hL : 0 < L) (h : ¬ c % L + 1 = L) : c % L + 1 = (c + 1) % L := by
  have h1 := Nat.mod_lt c hL
  rw [Nat.add_mod, Nat.mod_eq_of_lt (show 1 < L by omega), Nat.mod_eq_of_lt (show c % L + 1 < L by omega)]
/-- what the row of comings holds -/
def LC (g : Nat → Nat) (T : Nat → Nat → Nat) (ro : Nat → Nat) (L till most cN : Nat) : Prop := cN ≤ most ∧ (L = 0 → cN = 0) ∧ (0 < L → (∀ k, k < cN → ct g T ro L k < till) ∧ (cN = most ∨ till ≤ ct g T ro L cN))
/-- what is wrong with a row that is asked for: of a sheet with lane so and length ln -/
def ag (so ln sort i n : Int32) : Int32 := if so ≠ -9 ∧ so ≠ sort then nI 2 else if so = -9 then nI 1 else if n < 0 then nI 4 else if i < 0 ∨ ln < i ∨ ln - i < n then nI 3 else nI 0
end
section
theorem up_le {cf tg : Nat → Nat} {x h y M : Nat} {n : Nat} (hc : ∀ k, k < n → cf k ≤ M) : ∀ k, k ≤ n → up cf tg x h y k ≤ M + y + h
  | 0, _ => by unfold up; omega
  | k + 1, hk => by
    have ih := up_le (tg := tg) (x := x) (h := h) (y := y) hc k (by omega)
    have := hc k (by omega)
    unfold up; split <;> omega
theorem up_yes {cf tg : Nat → Nat} {x h y k : Nat} (e : tg k = x) : up cf tg x h y (k + 1) = cf k + y + h := by unfold up; rw [if_pos e]
theorem up_no {cf tg : Nat → Nat} {x h y k : Nat} (e : ¬ tg k = x) : up cf tg x h y (k + 1) = up cf tg x h y k := by rw [up, if_neg e]
theorem fl_yes {cf tg : Nat → Nat} {x h y t k : Nat} (e : tg k = x ∧ up cf tg x h y k < cf k ∧ up cf tg x h y k < t) : fl cf tg x h y t (k + 1) = fl cf tg x h y t k ++ [up cf tg x h y k] := by rw [fl, if_pos e]
theorem fl_no {cf tg : Nat → Nat} {x h y t k : Nat} (e : ¬ (tg k = x ∧ up cf tg x h y k < cf k ∧ up cf tg x h y k < t)) : fl cf tg x h y t (k + 1) = fl cf tg x h y t k := by rw [fl, if_neg e]
theorem fa_yes {cf tg : Nat → Nat} {x h y t k : Nat} (e : up cf tg x h y k < t) : fa cf tg x h y t k = fl cf tg x h y t k ++ [up cf tg x h y k] := by rw [fa, if_pos e]
theorem fa_no {cf tg : Nat → Nat} {x h y t k : Nat} (e : ¬ up cf tg x h y k < t) : fa cf tg x h y t k = fl cf tg x h y t k := by rw [fa, if_neg e]
theorem len_push (l : List Nat) (v : Nat) : (l ++ [v]).length = l.length + 1 := by rw [List.length_append, List.length_singleton]
theorem fl_push {f : Nat → Int32} {l : List Nat} (h : ∀ j, j < l.length → f j = nI (l.getD j 0)) (v : Nat) : ∀ j, j < (l ++ [v]).length → upd f l.length (nI v) j = nI ((l ++ [v]).getD j 0) := fun j hj => by
  rw [len_push] at hj
  rcases Nat.lt_or_ge j l.length with q | q
  · rw [up_ne (by omega), h j q]
    simp [List.getD, List.getElem?_append_left q]
  · obtain rfl : j = l.length := by omega
    rw [up_eq]; simp [List.getD]
end
section
theorem th_in {x : Int32} {n : Nat} (hn : n < 2 ^ 31) (h0 : ¬ x < 0) (h : ¬ nI n ≤ x) : ∃ j : Nat, j < n ∧ x = nI j := by
  rcases pk_ix x hn with q | q | q
  · exact absurd q h0
  · exact absurd q h
  · exact q
theorem th_out1 {x : Int32} {n : Nat} (hn : n < 2 ^ 31) (h : x < 0) : ¬ ∃ j : Nat, j < n ∧ x = nI j := fun ⟨j, hj, e⟩ => absurd (e ▸ h) (nI_pos (Nat.lt_trans hj hn))
theorem th_out2 {x : Int32} {n : Nat} (hn : n < 2 ^ 31) (h : nI n ≤ x) : ¬ ∃ j : Nat, j < n ∧ x = nI j := fun ⟨j, hj, e⟩ => absurd (e ▸ h) (nI_ge hj hn)
set_option maxHeartbeats 4000000 in
set_option maxRecDepth 100000 in
theorem kX10_within (l : Launch) (x lo hi : Int32)  : Met l yX10_within wsX10_within ({ frames := 0, cells := 0, slots := 0, locals := 0 } : Room) (va_Pc [.int x, .int lo, .int hi] (fun _ => True)) (vp_Si (fun v => (v = nI 1 ∧ (lo ≤ x ∧ x ≤ hi)) ∨ (v = nI 0 ∧ ¬ (lo ≤ x ∧ x ≤ hi)))) 0 0 (fun _ => False) := by
  refine Met.ofW (cc := cX10_within) (maxL := 3) (ret := (some .boolean)) (by decide) rfl ?_
  intro p e s m args below meth c s₁ B hml hv
  obtain ⟨rfl, -⟩ := hv
  have hx := B.exec
  have hb := B.bytes
  have hr := B.returns
  have hts := atoms_spec (ws := wsX10_within) B.pre
  have hown : s.vm.findClass RX10 = some m.cls := findClass_of_methodNamed B.named
  have hlocks := B.notSynchronized
  have hl := lv_entry ([.int x, .int lo, .int hi]) (n := 3) (Nat.le_of_ble_eq_true rfl)
  rw [lg_entry_eq]
  generalize (lg_sl ([.int x, .int lo, .int hi]) ++ List.replicate (3 - (lg_sl ([.int x, .int lo, .int hi])).length) Slot.unset).toArray = ls at hl ⊢
  have hl : lv_has ls 3 [(0, .int x), (1, .int lo), (2, .int hi)] := hl
  refine lv_iload_n hx hb dX10_within_0 rfl (lv_at hl 0 rfl) ?_
  refine lv_iload_n hx hb dX10_within_1 rfl (lv_at hl 1 rfl) ?_
  refine lv_icmp_lt (tgt := 14) hx hb dX10_within_2 (by decide) (fun c_1 => ?_) (fun c_1 => ?_)
  · refine lv_iconst (v := (nI 0)) hx hb dX10_within_14 rfl ?_
    exact wSzret hx hb hr hlocks (v := (nI 0)) (by first | exact Or.inl rfl | exact Or.inr rfl) (by first | exact Or.inl ⟨rfl, Int32.not_lt.mp (by assumption), Int32.not_lt.mp (by assumption)⟩ | exact Or.inr ⟨rfl, fun q => Int32.not_le.mpr (by assumption) q.1⟩ | exact Or.inr ⟨rfl, fun q => Int32.not_le.mpr (by assumption) q.2⟩) dX10_within_15
  · refine lv_iload_n hx hb dX10_within_5 rfl (lv_at hl 0 rfl) ?_
    refine lv_iload_n hx hb dX10_within_6 rfl (lv_at hl 2 rfl) ?_
    refine lv_icmp_gt (tgt := 14) hx hb dX10_within_7 (by decide) (fun c_2 => ?_) (fun c_2 => ?_)
    · refine lv_iconst (v := (nI 0)) hx hb dX10_within_14 rfl ?_
      exact wSzret hx hb hr hlocks (v := (nI 0)) (by first | exact Or.inl rfl | exact Or.inr rfl) (by first | exact Or.inl ⟨rfl, Int32.not_lt.mp (by assumption), Int32.not_lt.mp (by assumption)⟩ | exact Or.inr ⟨rfl, fun q => Int32.not_le.mpr (by assumption) q.1⟩ | exact Or.inr ⟨rfl, fun q => Int32.not_le.mpr (by assumption) q.2⟩) dX10_within_15
    · refine lv_iconst (v := (nI 1)) hx hb dX10_within_10 rfl ?_
      refine lv_goto (tgt := 15) hx hb dX10_within_11 (by decide) ?_
      exact wSzret hx hb hr hlocks (v := (nI 1)) (by first | exact Or.inl rfl | exact Or.inr rfl) (by first | exact Or.inl ⟨rfl, Int32.not_lt.mp (by assumption), Int32.not_lt.mp (by assumption)⟩ | exact Or.inr ⟨rfl, fun q => Int32.not_le.mpr (by assumption) q.1⟩ | exact Or.inr ⟨rfl, fun q => Int32.not_le.mpr (by assumption) q.2⟩) dX10_within_15

set_option maxHeartbeats 4000000 in
set_option maxRecDepth 100000 in
theorem kX10_isSheet (l : Launch) (x : Int32)  : Met l yX10_isSheet wsX10_isSheet ({ frames := 1, cells := 0, slots := 0, locals := 22 } : Room) (va_Pc [.int x] (fun _ => True)) (vp_Si (fun v => (v = nI 1 ∧ (nI 0 ≤ x ∧ x ≤ nI 3)) ∨ (v = nI 0 ∧ ¬ (nI 0 ≤ x ∧ x ≤ nI 3)))) 0 0 (fun _ => False) := by
  refine Met.ofW (cc := cX10_isSheet) (maxL := 1) (ret := (some .boolean)) (by decide) rfl ?_
  intro p e s m args below meth c s₁ B hml hv
  obtain ⟨rfl, -⟩ := hv
  have hx := B.exec
  have hb := B.bytes
  have hr := B.returns
  have hts := atoms_spec (ws := wsX10_isSheet) B.pre
  have hown : s.vm.findClass RX10 = some m.cls := findClass_of_methodNamed B.named
  have hlocks := B.notSynchronized
  have hl := lv_entry ([.int x]) (n := 1) (Nat.le_of_ble_eq_true rfl)
  rw [lg_entry_eq]
  generalize (lg_sl ([.int x]) ++ List.replicate (1 - (lg_sl ([.int x])).length) Slot.unset).toArray = ls at hl ⊢
  have hl : lv_has ls 1 [(0, .int x)] := hl
  refine lv_iload_n hx hb dX10_isSheet_0 rfl (lv_at hl 0 rfl) ?_
  refine lv_iconst (v := (nI 0)) hx hb dX10_isSheet_1 rfl ?_
  refine lv_iconst (v := (nI 3)) hx hb dX10_isSheet_2 rfl ?_
  refine wSi (As := [.int x, .int (nI 0), .int (nI 3)]) (rest := []) ⟨hx, hb, hml, hown, hts⟩ (kX10_within l x (nI 0) (nI 3)) (va_cwS 3 hts gX10_isSheet_X10_within rfl rfl rfl (by decide +kernel) ⟨Nat.le_of_ble_eq_true rfl, Nat.le_of_ble_eq_true rfl⟩) rfl hl.1 rfl (Nat.le_of_ble_eq_true rfl) dX10_isSheet_3 ⟨Nat.zero_le _, Nat.zero_le _⟩ (fun rv_1 hw_2 => ?_)
  rcases hw_2 with ⟨rfl, b_3⟩ | ⟨rfl, b_3⟩
  · exact wSzret hx hb hr hlocks (v := (nI 1)) (by first | exact Or.inl rfl | exact Or.inr rfl) (by first | exact Or.inl ⟨rfl, b_3⟩ | exact Or.inr ⟨rfl, b_3⟩) dX10_isSheet_6
  · exact wSzret hx hb hr hlocks (v := (nI 0)) (by first | exact Or.inl rfl | exact Or.inr rfl) (by first | exact Or.inl ⟨rfl, b_3⟩ | exact Or.inr ⟨rfl, b_3⟩) dX10_isSheet_6

set_option maxHeartbeats 4000000 in
set_option maxRecDepth 100000 in
theorem kX10_isSort (l : Launch) (x : Int32)  : Met l yX10_isSort wsX10_isSort ({ frames := 1, cells := 0, slots := 0, locals := 22 } : Room) (va_Pc [.int x] (fun _ => True)) (vp_Si (fun v => (v = nI 1 ∧ (nI 0 ≤ x ∧ x ≤ nI 2)) ∨ (v = nI 0 ∧ ¬ (nI 0 ≤ x ∧ x ≤ nI 2)))) 0 0 (fun _ => False) := by
  refine Met.ofW (cc := cX10_isSort) (maxL := 1) (ret := (some .boolean)) (by decide) rfl ?_
  intro p e s m args below meth c s₁ B hml hv
  obtain ⟨rfl, -⟩ := hv
  have hx := B.exec
  have hb := B.bytes
  have hr := B.returns
  have hts := atoms_spec (ws := wsX10_isSort) B.pre
  have hown : s.vm.findClass RX10 = some m.cls := findClass_of_methodNamed B.named
  have hlocks := B.notSynchronized
  have hl := lv_entry ([.int x]) (n := 1) (Nat.le_of_ble_eq_true rfl)
  rw [lg_entry_eq]
  generalize (lg_sl ([.int x]) ++ List.replicate (1 - (lg_sl ([.int x])).length) Slot.unset).toArray = ls at hl ⊢
  have hl : lv_has ls 1 [(0, .int x)] := hl
  refine lv_iload_n hx hb dX10_isSort_0 rfl (lv_at hl 0 rfl) ?_
  refine lv_iconst (v := (nI 0)) hx hb dX10_isSort_1 rfl ?_
  refine lv_iconst (v := (nI 2)) hx hb dX10_isSort_2 rfl ?_
  refine wSi (As := [.int x, .int (nI 0), .int (nI 2)]) (rest := []) ⟨hx, hb, hml, hown, hts⟩ (kX10_within l x (nI 0) (nI 2)) (va_cwS 3 hts gX10_isSort_X10_within rfl rfl rfl (by decide +kernel) ⟨Nat.le_of_ble_eq_true rfl, Nat.le_of_ble_eq_true rfl⟩) rfl hl.1 rfl (Nat.le_of_ble_eq_true rfl) dX10_isSort_3 ⟨Nat.zero_le _, Nat.zero_le _⟩ (fun rv_1 hw_2 => ?_)
  rcases hw_2 with ⟨rfl, b_3⟩ | ⟨rfl, b_3⟩
  · exact wSzret hx hb hr hlocks (v := (nI 1)) (by first | exact Or.inl rfl | exact Or.inr rfl) (by first | exact Or.inl ⟨rfl, b_3⟩ | exact Or.inr ⟨rfl, b_3⟩) dX10_isSort_6
  · exact wSzret hx hb hr hlocks (v := (nI 0)) (by first | exact Or.inl rfl | exact Or.inr rfl) (by first | exact Or.inl ⟨rfl, b_3⟩ | exact Or.inr ⟨rfl, b_3⟩) dX10_isSort_6

set_option maxHeartbeats 4000000 in
set_option maxRecDepth 100000 in
theorem kX10_fails (l : Launch) (D : va_G) (cA : Nat → ClassId) (r : Nat → Nat) (sz : Nat) (u : Nat → Int32) (a : Nat → Nat → Int32) (x : Int32)  : Met l yX10_fails wsX10_fails ({ frames := 0, cells := 0, slots := 0, locals := 0 } : Room) (va_Pc [.ref (r 0), .int x] (wA D vwCl (tyA cA) e0 (xM cA r) (u, a) sz)) (va_Qi (fun (v : Int32) (z : sM) => v = (-10) - x ∧ z = (upd u 0 x, a)) (wB D vwCl (tyA cA) (xM cA r) (va_A (xM cA r (u, a)) sz)) (va_A (xM cA r (u, a)) sz)) 0 0 (va_A (xM cA r (u, a)) sz) := by
  refine Met.ofW (cc := cX10_fails) (maxL := 2) (ret := (some .int)) (by decide) rfl ?_
  intro p e s m args below meth c s₁ B hml hv
  obtain ⟨rfl, hsz, hP, hK, hD0, hE⟩ := hv
  have hx := B.exec
  have hb := B.bytes
  have hr := B.returns
  have hts := atoms_spec (ws := wsX10_fails) B.pre
  have hown : s.vm.findClass RX10 = some m.cls := findClass_of_methodNamed B.named
  have hlocks := B.notSynchronized
  subst hsz
  have hD := hD0.self (sz := s.heap.size)
  generalize hAe : va_A (xM cA r (u, a)) s.heap.size = A at hD hE ⊢
  have hA : ∀ q : Nat, s.heap.size ≤ q → A q := fun q h => by rw [← hAe]; exact Or.inr h
  have hS : va_S A s.heap s.heap [] := va_S.rf
  have hinX10 : ∀ w ∈ u_ws RX10 TX10 34, w ∈ wsX10_fails := by decide +kernel
  have hl := lv_entry ([.ref (r 0), .int x]) (n := 2) (Nat.le_of_ble_eq_true rfl)
  rw [lg_entry_eq]
  generalize (lg_sl ([.ref (r 0), .int x]) ++ List.replicate (2 - (lg_sl ([.ref (r 0), .int x])).length) Slot.unset).toArray = ls at hl ⊢
  have hl : lv_has ls 2 [(0, .ref (r 0)), (1, .int x)] := hl
  refine lv_aload_n hx hb dX10_fails_0 rfl (lv_at hl 0 rfl) ?_
  refine lv_iload_n hx hb dX10_fails_1 rfl (lv_at hl 1 rfl) ?_
  refine va_put (D := D) (ci := 10) (v := .int x) (ty := .int) (C := RX10) (T := TX10) (N := 34) hx hb hts hinX10 tyX10 tyX10_ok nmX10 hown hK hP hD hS 0 rfl rfl 0 (by decide) (hts (.fieldLink RX10 80 "OneNailModel" "fault" "I") (by decide +kernel)) (fun _ h9 => h9) rfl (by decide +kernel) rfl rfl (Nat.le_of_ble_eq_true rfl) dX10_fails_2 (fun H locs hP hD hS => ?_)
  have hP : va_P D vwCl (xM cA r ((upd u 0 x), a)) H := hP
  have hD : va_D A (xM cA r ((upd u 0 x), a)) := hD
  refine lv_bipush (v := (-10)) hx hb dX10_fails_5 (by decide) ?_
  refine lv_iload_n hx hb dX10_fails_7 rfl (lv_at hl 1 rfl) ?_
  refine lv_isub hx hb dX10_fails_8 ?_
  exact wIret hx hb hr hlocks (v := ((-10) - x)) ((upd u 0 x), a) (⟨rfl, rfl⟩) hK hP hD hS dX10_fails_9

set_option maxHeartbeats 4000000 in
set_option maxRecDepth 100000 in
theorem kX10_lost (l : Launch) (D : va_G) (cA : Nat → ClassId) (r : Nat → Nat) (sz : Nat) (u : Nat → Int32) (a : Nat → Nat → Int32) (x : Int32)  : Met l yX10_lost wsX10_lost ({ frames := 0, cells := 0, slots := 0, locals := 0 } : Room) (va_Pc [.ref (r 0), .int x] (wA D vwCl (tyA cA) e0 (xM cA r) (u, a) sz)) (va_Ql (fun (v : Int64) (z : sM) => v = (-9223372036854775808) ∧ z = (upd u 0 x, a)) (wB D vwCl (tyA cA) (xM cA r) (va_A (xM cA r (u, a)) sz)) (va_A (xM cA r (u, a)) sz)) 0 0 (va_A (xM cA r (u, a)) sz) := by
  refine Met.ofW (cc := cX10_lost) (maxL := 2) (ret := (some .long)) (by decide) rfl ?_
  intro p e s m args below meth c s₁ B hml hv
  obtain ⟨rfl, hsz, hP, hK, hD0, hE⟩ := hv
  have hx := B.exec
  have hb := B.bytes
  have hr := B.returns
  have hts := atoms_spec (ws := wsX10_lost) B.pre
  have hown : s.vm.findClass RX10 = some m.cls := findClass_of_methodNamed B.named
  have hlocks := B.notSynchronized
  subst hsz
  have hD := hD0.self (sz := s.heap.size)
  generalize hAe : va_A (xM cA r (u, a)) s.heap.size = A at hD hE ⊢
  have hA : ∀ q : Nat, s.heap.size ≤ q → A q := fun q h => by rw [← hAe]; exact Or.inr h
  have hS : va_S A s.heap s.heap [] := va_S.rf
  have hinX10 : ∀ w ∈ u_ws RX10 TX10 34, w ∈ wsX10_lost := by decide +kernel
  have hl := lv_entry ([.ref (r 0), .int x]) (n := 2) (Nat.le_of_ble_eq_true rfl)
  rw [lg_entry_eq]
  generalize (lg_sl ([.ref (r 0), .int x]) ++ List.replicate (2 - (lg_sl ([.ref (r 0), .int x])).length) Slot.unset).toArray = ls at hl ⊢
  have hl : lv_has ls 2 [(0, .ref (r 0)), (1, .int x)] := hl
  refine lv_aload_n hx hb dX10_lost_0 rfl (lv_at hl 0 rfl) ?_
  refine lv_iload_n hx hb dX10_lost_1 rfl (lv_at hl 1 rfl) ?_
  refine va_put (D := D) (ci := 10) (v := .int x) (ty := .int) (C := RX10) (T := TX10) (N := 34) hx hb hts hinX10 tyX10 tyX10_ok nmX10 hown hK hP hD hS 0 rfl rfl 0 (by decide) (hts (.fieldLink RX10 80 "OneNailModel" "fault" "I") (by decide +kernel)) (fun _ h9 => h9) rfl (by decide +kernel) rfl rfl (Nat.le_of_ble_eq_true rfl) dX10_lost_2 (fun H locs hP hD hS => ?_)
  have hP : va_P D vwCl (xM cA r ((upd u 0 x), a)) H := hP
  have hD : va_D A (xM cA r ((upd u 0 x), a)) := hD
  refine lv_ldc2 (v := (-9223372036854775808)) hx hb hown (hts (.constantLong RX10 84 (-9223372036854775808)) (by decide +kernel)) dX10_lost_5 ?_
  exact wLret hx hb hr hlocks (v := (-9223372036854775808)) ((upd u 0 x), a) (⟨rfl, rfl⟩) hK hP hD hS dX10_lost_8

set_option maxHeartbeats 4000000 in
set_option maxRecDepth 100000 in
theorem kX10_isThing (l : Launch) (D : va_G) (cA : Nat → ClassId) (r : Nat → Nat) (sz : Nat) (u : Nat → Int32) (a : Nat → Nat → Int32) (g : Nat → Nat) (T : Nat → Nat → Nat) (x : Int32) (hM : MT u a g T) (hB : TB g T) : Met l yX10_isThing wsX10_isThing ({ frames := 0, cells := 0, slots := 0, locals := 0 } : Room) (va_Pc [.ref (r 0), .int x] (wA D vwCl (tyA cA) e0 (xM cA r) (u, a) sz)) (va_Qi (fun (v : Int32) (z : sM) => z = (u, a) ∧ ((v = nI 1 ∧ ∃ j : Nat, j < g 0 ∧ x = nI j) ∨ (v = nI 0 ∧ ¬ ∃ j : Nat, j < g 0 ∧ x = nI j))) (wB D vwCl (tyA cA) (xM cA r) (va_A (xM cA r (u, a)) sz)) (va_A (xM cA r (u, a)) sz)) 0 0 (va_A (xM cA r (u, a)) sz) := by
  refine Met.ofW (cc := cX10_isThing) (maxL := 2) (ret := (some .boolean)) (by decide) rfl ?_
  intro p e s m args below meth c s₁ B hml hv
  obtain ⟨rfl, hsz, hP, hK, hD0, hE⟩ := hv
  have hx := B.exec
  have hb := B.bytes
  have hr := B.returns
  have hts := atoms_spec (ws := wsX10_isThing) B.pre
  have hown : s.vm.findClass RX10 = some m.cls := findClass_of_methodNamed B.named
  have hlocks := B.notSynchronized
  subst hsz
  have hD := hD0.self (sz := s.heap.size)
  generalize hAe : va_A (xM cA r (u, a)) s.heap.size = A at hD hE ⊢
  have hA : ∀ q : Nat, s.heap.size ≤ q → A q := fun q h => by rw [← hAe]; exact Or.inr h
  have hS : va_S A s.heap s.heap [] := va_S.rf
  have hinX10 : ∀ w ∈ u_ws RX10 TX10 34, w ∈ wsX10_isThing := by decide +kernel
  have hl := lv_entry ([.ref (r 0), .int x]) (n := 2) (Nat.le_of_ble_eq_true rfl)
  rw [lg_entry_eq]
  generalize (lg_sl ([.ref (r 0), .int x]) ++ List.replicate (2 - (lg_sl ([.ref (r 0), .int x])).length) Slot.unset).toArray = ls at hl ⊢
  have hl : lv_has ls 2 [(0, .ref (r 0)), (1, .int x)] := hl
  have hg6 := hB.1
  refine lv_iload_n hx hb dX10_isThing_0 rfl (lv_at hl 1 rfl) ?_
  refine lv_if_lt (tgt := 16) hx hb dX10_isThing_1 (by decide) (fun c_1 => ?_) (fun c_1 => ?_)
  · refine lv_iconst (v := (nI 0)) hx hb dX10_isThing_16 rfl ?_
    exact wZret hx hb hr hlocks (v := (nI 0)) (by first | exact Or.inl rfl | exact Or.inr rfl) (u, a) (⟨rfl, by first | exact Or.inl ⟨rfl, th_in (by omega) (by assumption) (by assumption)⟩ | exact Or.inr ⟨rfl, th_out1 (by omega) (by assumption)⟩ | exact Or.inr ⟨rfl, th_out2 (by omega) (by assumption)⟩⟩) hK hP hD hS dX10_isThing_17
  · refine lv_iload_n hx hb dX10_isThing_4 rfl (lv_at hl 1 rfl) ?_
    refine lv_aload_n hx hb dX10_isThing_5 rfl (lv_at hl 0 rfl) ?_
    refine va_get (D := D) (ci := 10) (v := .int (nI (g 0))) (C := RX10) (T := TX10) (N := 34) hx hb hts hinX10 hown hK hP 0 rfl rfl 5 (by decide) (hts (.fieldLink RX10 90 "OneNailModel" "things" "I") (by decide +kernel)) (fun _ h9 => h9) (congrArg (fun z => some (Value.int z)) (hM.1)) dX10_isThing_6 ?_
    refine lv_icmp_ge (tgt := 16) hx hb dX10_isThing_9 (by decide) (fun c_2 => ?_) (fun c_2 => ?_)
    · refine lv_iconst (v := (nI 0)) hx hb dX10_isThing_16 rfl ?_
      exact wZret hx hb hr hlocks (v := (nI 0)) (by first | exact Or.inl rfl | exact Or.inr rfl) (u, a) (⟨rfl, by first | exact Or.inl ⟨rfl, th_in (by omega) (by assumption) (by assumption)⟩ | exact Or.inr ⟨rfl, th_out1 (by omega) (by assumption)⟩ | exact Or.inr ⟨rfl, th_out2 (by omega) (by assumption)⟩⟩) hK hP hD hS dX10_isThing_17
    · refine lv_iconst (v := (nI 1)) hx hb dX10_isThing_12 rfl ?_
      refine lv_goto (tgt := 17) hx hb dX10_isThing_13 (by decide) ?_
      exact wZret hx hb hr hlocks (v := (nI 1)) (by first | exact Or.inl rfl | exact Or.inr rfl) (u, a) (⟨rfl, by first | exact Or.inl ⟨rfl, th_in (by omega) (by assumption) (by assumption)⟩ | exact Or.inr ⟨rfl, th_out1 (by omega) (by assumption)⟩ | exact Or.inr ⟨rfl, th_out2 (by omega) (by assumption)⟩⟩) hK hP hD hS dX10_isThing_17

set_option maxHeartbeats 4000000 in
set_option maxRecDepth 100000 in
theorem kX10_between (l : Launch) (x y : Nat) (hx9 : x ≤ 9) (hy9 : y ≤ 9) : Met l yX10_between wsX10_between ({ frames := 0, cells := 0, slots := 0, locals := 0 } : Room) (va_Pc [.int (nI x), .int (nI y)] (fun _ => True)) (vp_Si (fun v => v = nI (md x y))) 0 0 (fun _ => False) := by
  refine Met.ofW (cc := cX10_between) (maxL := 2) (ret := (some .int)) (by decide) rfl ?_
  intro p e s m args below meth c s₁ B hml hv
  obtain ⟨rfl, -⟩ := hv
  have hx := B.exec
  have hb := B.bytes
  have hr := B.returns
  have hts := atoms_spec (ws := wsX10_between) B.pre
  have hown : s.vm.findClass RX10 = some m.cls := findClass_of_methodNamed B.named
  have hlocks := B.notSynchronized
  have hl := lv_entry ([.int (nI x), .int (nI y)]) (n := 2) (Nat.le_of_ble_eq_true rfl)
  rw [lg_entry_eq]
  generalize (lg_sl ([.int (nI x), .int (nI y)]) ++ List.replicate (2 - (lg_sl ([.int (nI x), .int (nI y)])).length) Slot.unset).toArray = ls at hl ⊢
  have hl : lv_has ls 2 [(0, .int (nI x)), (1, .int (nI y))] := hl
  refine lv_iload_n hx hb dX10_between_0 rfl (lv_at hl 0 rfl) ?_
  refine lv_iload_n hx hb dX10_between_1 rfl (lv_at hl 1 rfl) ?_
  refine rn_ge (x := x) (y := y) (tgt := 11) hx hb (by omega) (by omega) dX10_between_2 (by decide) (fun c_1 => ?_) (fun c_1 => ?_)
  · refine lv_iload_n hx hb dX10_between_11 rfl (lv_at hl 0 rfl) ?_
    refine lv_iload_n hx hb dX10_between_12 rfl (lv_at hl 1 rfl) ?_
    refine rn_isub (x := x) (y := y) hx hb (by omega) dX10_between_13 ?_
    exact wSret hx hb hr hlocks (v := (nI (x - y))) (by unfold md; first | rw [if_pos (by omega)] | rw [if_neg (by omega)]) dX10_between_14
  · refine lv_iload_n hx hb dX10_between_5 rfl (lv_at hl 1 rfl) ?_
    refine lv_iload_n hx hb dX10_between_6 rfl (lv_at hl 0 rfl) ?_
    refine rn_isub (x := y) (y := x) hx hb (by omega) dX10_between_7 ?_
    refine lv_goto (tgt := 14) hx hb dX10_between_8 (by decide) ?_
    exact wSret hx hb hr hlocks (v := (nI (y - x))) (by unfold md; first | rw [if_pos (by omega)] | rw [if_neg (by omega)]) dX10_between_14

set_option maxHeartbeats 4000000 in
set_option maxRecDepth 100000 in
theorem kX10_holds (l : Launch) (D : va_G) (cA : Nat → ClassId) (r : Nat → Nat) (sz : Nat) (u : Nat → Int32) (a : Nat → Nat → Int32) (g : Nat → Nat) (T : Nat → Nat → Nat) (j : Nat) (hM : MT u a g T) (hB : TB g T) (hj : j < g 0) : Met l yX10_holds wsX10_holds ({ frames := 0, cells := 0, slots := 0, locals := 0 } : Room) (va_Pc [.ref (r 0), .int (nI j)] (wA D vwCl (tyA cA) e0 (xM cA r) (u, a) sz)) (va_Qi (fun (v : Int32) (z : sM) => v = nI (hd g T j) ∧ z = (u, a)) (wB D vwCl (tyA cA) (xM cA r) (va_A (xM cA r (u, a)) sz)) (va_A (xM cA r (u, a)) sz)) 0 0 (va_A (xM cA r (u, a)) sz) := by
  refine Met.ofW (cc := cX10_holds) (maxL := 3) (ret := (some .int)) (by decide) rfl ?_
  intro p e s m args below meth c s₁ B hml hv
  obtain ⟨rfl, hsz, hP, hK, hD0, hE⟩ := hv
  have hx := B.exec
  have hb := B.bytes
  have hr := B.returns
  have hts := atoms_spec (ws := wsX10_holds) B.pre
  have hown : s.vm.findClass RX10 = some m.cls := findClass_of_methodNamed B.named
  have hlocks := B.notSynchronized
  subst hsz
  have hD := hD0.self (sz := s.heap.size)
  generalize hAe : va_A (xM cA r (u, a)) s.heap.size = A at hD hE ⊢
  have hA : ∀ q : Nat, s.heap.size ≤ q → A q := fun q h => by rw [← hAe]; exact Or.inr h
  have hS : va_S A s.heap s.heap [] := va_S.rf
  have hinX10 : ∀ w ∈ u_ws RX10 TX10 34, w ∈ wsX10_holds := by decide +kernel
  have hl := lv_entry ([.ref (r 0), .int (nI j)]) (n := 3) (Nat.le_of_ble_eq_true rfl)
  rw [lg_entry_eq]
  generalize (lg_sl ([.ref (r 0), .int (nI j)]) ++ List.replicate (3 - (lg_sl ([.ref (r 0), .int (nI j)])).length) Slot.unset).toArray = ls at hl ⊢
  have hl : lv_has ls 3 [(0, .ref (r 0)), (1, .int (nI j))] := hl
  have hg6 := hB.1
  have hT := hB.2.2.2 j hj
  have hg2 := hB.2.2.1
  refine lv_aload_n hx hb dX10_holds_0 rfl (lv_at hl 0 rfl) ?_
  refine va_get (D := D) (ci := 10) (v := .ref (r 11)) (C := RX10) (T := TX10) (N := 34) hx hb hts hinX10 hown hK hP 0 rfl rfl 11 (by decide) (hts (.fieldLink RX10 28 "OneNailModel" "hold" "[I") (by decide +kernel)) (fun _ h9 => h9) rfl dX10_holds_1 ?_
  refine lv_iload_n hx hb dX10_holds_4 rfl (lv_at hl 1 rfl) ?_
  refine ra_iald hx hb hK hP 7 0 (n := 6) (f := (a 11)) (j := j) (v := (nI (T 3 j))) rfl rfl (by omega) (by decide) ((hM.2.2.2 (j) (by omega)).2.2.2.1) dX10_holds_5 ?_
  refine lv_aload_n hx hb dX10_holds_6 rfl (lv_at hl 0 rfl) ?_
  refine va_get (D := D) (ci := 10) (v := .int (nI (g 2))) (C := RX10) (T := TX10) (N := 34) hx hb hts hinX10 hown hK hP 0 rfl rfl 7 (by decide) (hts (.fieldLink RX10 123 "OneNailModel" "rustNow" "I") (by decide +kernel)) (fun _ h9 => h9) (congrArg (fun z => some (Value.int z)) (hM.2.2.1)) dX10_holds_7 ?_
  refine rn_le (x := T 3 j) (y := g 2) (tgt := 27) hx hb (by omega) (by omega) dX10_holds_10 (by decide) (fun c_1 => ?_) (fun c_1 => ?_)
  · refine lv_iconst (v := (nI 1)) hx hb dX10_holds_27 rfl ?_
    refine lv_istore_n (lv' := [(2, .int (nI 1)), (0, .ref (r 0)), (1, .int (nI j))]) hx hb dX10_holds_28 rfl hl (by decide) rfl (fun ls hl => ?_)
    refine lv_aload_n hx hb dX10_holds_29 rfl (lv_at hl 1 rfl) ?_
    refine va_get (D := D) (ci := 10) (v := .ref (r 8)) (C := RX10) (T := TX10) (N := 34) hx hb hts hinX10 hown hK hP 0 rfl rfl 8 (by decide) (hts (.fieldLink RX10 19 "OneNailModel" "kind" "[I") (by decide +kernel)) (fun _ h9 => h9) rfl dX10_holds_30 ?_
    refine lv_iload_n hx hb dX10_holds_33 rfl (lv_at hl 2 rfl) ?_
    refine ra_iald hx hb hK hP 4 0 (n := 6) (f := (a 8)) (j := j) (v := (nI (T 0 j))) rfl rfl (by omega) (by decide) ((hM.2.2.2 (j) (by omega)).1) dX10_holds_34 ?_
    refine rz_le (x := T 0 j) (tgt := 44) hx hb (by omega) dX10_holds_35 (by decide) (fun c_2 => ?_) (fun c_2 => ?_)
    · refine lv_aload_n hx hb dX10_holds_44 rfl (lv_at hl 1 rfl) ?_
      refine va_get (D := D) (ci := 10) (v := .ref (r 8)) (C := RX10) (T := TX10) (N := 34) hx hb hts hinX10 hown hK hP 0 rfl rfl 8 (by decide) (hts (.fieldLink RX10 19 "OneNailModel" "kind" "[I") (by decide +kernel)) (fun _ h9 => h9) rfl dX10_holds_45 ?_
      refine lv_iload_n hx hb dX10_holds_48 rfl (lv_at hl 2 rfl) ?_
      refine ra_iald hx hb hK hP 4 0 (n := 6) (f := (a 8)) (j := j) (v := (nI (T 0 j))) rfl rfl (by omega) (by decide) ((hM.2.2.2 (j) (by omega)).1) dX10_holds_49 ?_
      refine lv_iconst (v := (nI 2)) hx hb dX10_holds_50 rfl ?_
      refine rn_ne (x := T 0 j) (y := 2) (tgt := 61) hx hb (by omega) (by omega) dX10_holds_51 (by decide) (fun c_3 => ?_) (fun c_3 => ?_)
      · refine lv_iload_n hx hb dX10_holds_61 rfl (lv_at hl 0 rfl) ?_
        exact wIret hx hb hr hlocks (v := (nI 1)) (u, a) (⟨congrArg nI (by unfold hd; (repeat' split) <;> omega), rfl⟩) hK hP hD hS dX10_holds_62
      · refine lv_iload_n hx hb dX10_holds_54 rfl (lv_at hl 0 rfl) ?_
        refine lv_bipush (v := (nI 10)) hx hb dX10_holds_55 rfl ?_
        refine rn_iadd (x := 1) (y := 10) hx hb dX10_holds_57 ?_
        refine lv_goto (tgt := 62) hx hb dX10_holds_58 (by decide) ?_
        exact wIret hx hb hr hlocks (v := (nI 11)) (u, a) (⟨congrArg nI (by unfold hd; (repeat' split) <;> omega), rfl⟩) hK hP hD hS dX10_holds_62
    · refine lv_iload_n hx hb dX10_holds_38 rfl (lv_at hl 0 rfl) ?_
      refine lv_iload_n hx hb dX10_holds_39 rfl (lv_at hl 0 rfl) ?_
      refine lv_iconst (v := (nI 2)) hx hb dX10_holds_40 rfl ?_
      refine rn_idiv (x := 1) (y := 2) hx hb (by omega) (by omega) (by omega) dX10_holds_41 ?_
      refine rn_iadd (x := 1) (y := 1 / 2) hx hb dX10_holds_42 ?_
      refine lv_istore_n (lv' := [(2, .int (nI (1 + (1 / 2)))), (0, .ref (r 0)), (1, .int (nI j))]) hx hb dX10_holds_43 rfl hl (by decide) rfl (fun ls hl => ?_)
      refine lv_aload_n hx hb dX10_holds_44 rfl (lv_at hl 1 rfl) ?_
      refine va_get (D := D) (ci := 10) (v := .ref (r 8)) (C := RX10) (T := TX10) (N := 34) hx hb hts hinX10 hown hK hP 0 rfl rfl 8 (by decide) (hts (.fieldLink RX10 19 "OneNailModel" "kind" "[I") (by decide +kernel)) (fun _ h9 => h9) rfl dX10_holds_45 ?_
      refine lv_iload_n hx hb dX10_holds_48 rfl (lv_at hl 2 rfl) ?_
      refine ra_iald hx hb hK hP 4 0 (n := 6) (f := (a 8)) (j := j) (v := (nI (T 0 j))) rfl rfl (by omega) (by decide) ((hM.2.2.2 (j) (by omega)).1) dX10_holds_49 ?_
      refine lv_iconst (v := (nI 2)) hx hb dX10_holds_50 rfl ?_
      refine rn_ne (x := T 0 j) (y := 2) (tgt := 61) hx hb (by omega) (by omega) dX10_holds_51 (by decide) (fun c_4 => ?_) (fun c_4 => ?_)
      · refine lv_iload_n hx hb dX10_holds_61 rfl (lv_at hl 0 rfl) ?_
        exact wIret hx hb hr hlocks (v := (nI (1 + (1 / 2)))) (u, a) (⟨congrArg nI (by unfold hd; (repeat' split) <;> omega), rfl⟩) hK hP hD hS dX10_holds_62
      · refine lv_iload_n hx hb dX10_holds_54 rfl (lv_at hl 0 rfl) ?_
        refine lv_bipush (v := (nI 10)) hx hb dX10_holds_55 rfl ?_
        refine rn_iadd (x := 1 + (1 / 2)) (y := 10) hx hb dX10_holds_57 ?_
        refine lv_goto (tgt := 62) hx hb dX10_holds_58 (by decide) ?_
        exact wIret hx hb hr hlocks (v := (nI ((1 + (1 / 2)) + 10))) (u, a) (⟨congrArg nI (by unfold hd; (repeat' split) <;> omega), rfl⟩) hK hP hD hS dX10_holds_62
  · refine lv_aload_n hx hb dX10_holds_13 rfl (lv_at hl 0 rfl) ?_
    refine va_get (D := D) (ci := 10) (v := .ref (r 11)) (C := RX10) (T := TX10) (N := 34) hx hb hts hinX10 hown hK hP 0 rfl rfl 11 (by decide) (hts (.fieldLink RX10 28 "OneNailModel" "hold" "[I") (by decide +kernel)) (fun _ h9 => h9) rfl dX10_holds_14 ?_
    refine lv_iload_n hx hb dX10_holds_17 rfl (lv_at hl 1 rfl) ?_
    refine ra_iald hx hb hK hP 7 0 (n := 6) (f := (a 11)) (j := j) (v := (nI (T 3 j))) rfl rfl (by omega) (by decide) ((hM.2.2.2 (j) (by omega)).2.2.2.1) dX10_holds_18 ?_
    refine lv_aload_n hx hb dX10_holds_19 rfl (lv_at hl 0 rfl) ?_
    refine va_get (D := D) (ci := 10) (v := .int (nI (g 2))) (C := RX10) (T := TX10) (N := 34) hx hb hts hinX10 hown hK hP 0 rfl rfl 7 (by decide) (hts (.fieldLink RX10 123 "OneNailModel" "rustNow" "I") (by decide +kernel)) (fun _ h9 => h9) (congrArg (fun z => some (Value.int z)) (hM.2.2.1)) dX10_holds_20 ?_
    refine rn_isub (x := T 3 j) (y := g 2) hx hb (by omega) dX10_holds_23 ?_
    refine lv_goto (tgt := 28) hx hb dX10_holds_24 (by decide) ?_
    refine lv_istore_n (lv' := [(2, .int (nI ((T 3 j) - (g 2)))), (0, .ref (r 0)), (1, .int (nI j))]) hx hb dX10_holds_28 rfl hl (by decide) rfl (fun ls hl => ?_)
    refine lv_aload_n hx hb dX10_holds_29 rfl (lv_at hl 1 rfl) ?_
    refine va_get (D := D) (ci := 10) (v := .ref (r 8)) (C := RX10) (T := TX10) (N := 34) hx hb hts hinX10 hown hK hP 0 rfl rfl 8 (by decide) (hts (.fieldLink RX10 19 "OneNailModel" "kind" "[I") (by decide +kernel)) (fun _ h9 => h9) rfl dX10_holds_30 ?_
    refine lv_iload_n hx hb dX10_holds_33 rfl (lv_at hl 2 rfl) ?_
    refine ra_iald hx hb hK hP 4 0 (n := 6) (f := (a 8)) (j := j) (v := (nI (T 0 j))) rfl rfl (by omega) (by decide) ((hM.2.2.2 (j) (by omega)).1) dX10_holds_34 ?_
    refine rz_le (x := T 0 j) (tgt := 44) hx hb (by omega) dX10_holds_35 (by decide) (fun c_5 => ?_) (fun c_5 => ?_)
    · refine lv_aload_n hx hb dX10_holds_44 rfl (lv_at hl 1 rfl) ?_
      refine va_get (D := D) (ci := 10) (v := .ref (r 8)) (C := RX10) (T := TX10) (N := 34) hx hb hts hinX10 hown hK hP 0 rfl rfl 8 (by decide) (hts (.fieldLink RX10 19 "OneNailModel" "kind" "[I") (by decide +kernel)) (fun _ h9 => h9) rfl dX10_holds_45 ?_
      refine lv_iload_n hx hb dX10_holds_48 rfl (lv_at hl 2 rfl) ?_
      refine ra_iald hx hb hK hP 4 0 (n := 6) (f := (a 8)) (j := j) (v := (nI (T 0 j))) rfl rfl (by omega) (by decide) ((hM.2.2.2 (j) (by omega)).1) dX10_holds_49 ?_
      refine lv_iconst (v := (nI 2)) hx hb dX10_holds_50 rfl ?_
      refine rn_ne (x := T 0 j) (y := 2) (tgt := 61) hx hb (by omega) (by omega) dX10_holds_51 (by decide) (fun c_6 => ?_) (fun c_6 => ?_)
      · refine lv_iload_n hx hb dX10_holds_61 rfl (lv_at hl 0 rfl) ?_
        exact wIret hx hb hr hlocks (v := (nI ((T 3 j) - (g 2)))) (u, a) (⟨congrArg nI (by unfold hd; (repeat' split) <;> omega), rfl⟩) hK hP hD hS dX10_holds_62
      · refine lv_iload_n hx hb dX10_holds_54 rfl (lv_at hl 0 rfl) ?_
        refine lv_bipush (v := (nI 10)) hx hb dX10_holds_55 rfl ?_
        refine rn_iadd (x := (T 3 j) - (g 2)) (y := 10) hx hb dX10_holds_57 ?_
        refine lv_goto (tgt := 62) hx hb dX10_holds_58 (by decide) ?_
        exact wIret hx hb hr hlocks (v := (nI (((T 3 j) - (g 2)) + 10))) (u, a) (⟨congrArg nI (by unfold hd; (repeat' split) <;> omega), rfl⟩) hK hP hD hS dX10_holds_62
    · refine lv_iload_n hx hb dX10_holds_38 rfl (lv_at hl 0 rfl) ?_
      refine lv_iload_n hx hb dX10_holds_39 rfl (lv_at hl 0 rfl) ?_
      refine lv_iconst (v := (nI 2)) hx hb dX10_holds_40 rfl ?_
      refine rn_idiv (x := (T 3 j) - (g 2)) (y := 2) hx hb (by omega) (by omega) (by omega) dX10_holds_41 ?_
      refine rn_iadd (x := (T 3 j) - (g 2)) (y := ((T 3 j) - (g 2)) / 2) hx hb dX10_holds_42 ?_
      refine lv_istore_n (lv' := [(2, .int (nI (((T 3 j) - (g 2)) + (((T 3 j) - (g 2)) / 2)))), (0, .ref (r 0)), (1, .int (nI j))]) hx hb dX10_holds_43 rfl hl (by decide) rfl (fun ls hl => ?_)
      refine lv_aload_n hx hb dX10_holds_44 rfl (lv_at hl 1 rfl) ?_
      refine va_get (D := D) (ci := 10) (v := .ref (r 8)) (C := RX10) (T := TX10) (N := 34) hx hb hts hinX10 hown hK hP 0 rfl rfl 8 (by decide) (hts (.fieldLink RX10 19 "OneNailModel" "kind" "[I") (by decide +kernel)) (fun _ h9 => h9) rfl dX10_holds_45 ?_
      refine lv_iload_n hx hb dX10_holds_48 rfl (lv_at hl 2 rfl) ?_
      refine ra_iald hx hb hK hP 4 0 (n := 6) (f := (a 8)) (j := j) (v := (nI (T 0 j))) rfl rfl (by omega) (by decide) ((hM.2.2.2 (j) (by omega)).1) dX10_holds_49 ?_
      refine lv_iconst (v := (nI 2)) hx hb dX10_holds_50 rfl ?_
      refine rn_ne (x := T 0 j) (y := 2) (tgt := 61) hx hb (by omega) (by omega) dX10_holds_51 (by decide) (fun c_7 => ?_) (fun c_7 => ?_)
      · refine lv_iload_n hx hb dX10_holds_61 rfl (lv_at hl 0 rfl) ?_
        exact wIret hx hb hr hlocks (v := (nI (((T 3 j) - (g 2)) + (((T 3 j) - (g 2)) / 2)))) (u, a) (⟨congrArg nI (by unfold hd; (repeat' split) <;> omega), rfl⟩) hK hP hD hS dX10_holds_62
      · refine lv_iload_n hx hb dX10_holds_54 rfl (lv_at hl 0 rfl) ?_
        refine lv_bipush (v := (nI 10)) hx hb dX10_holds_55 rfl ?_
        refine rn_iadd (x := ((T 3 j) - (g 2)) + (((T 3 j) - (g 2)) / 2)) (y := 10) hx hb dX10_holds_57 ?_
        refine lv_goto (tgt := 62) hx hb dX10_holds_58 (by decide) ?_
        exact wIret hx hb hr hlocks (v := (nI ((((T 3 j) - (g 2)) + (((T 3 j) - (g 2)) / 2)) + 10))) (u, a) (⟨congrArg nI (by unfold hd; (repeat' split) <;> omega), rfl⟩) hK hP hD hS dX10_holds_62

set_option maxHeartbeats 4000000 in
set_option maxRecDepth 100000 in
theorem kX10_all (l : Launch) (D : va_G) (cA : Nat → ClassId) (r : Nat → Nat) (sz : Nat) (u : Nat → Int32) (a : Nat → Nat → Int32) (g : Nat → Nat) (T : Nat → Nat → Nat) (hM : MT u a g T) (hB : TB g T) : Met l yX10_all wsX10_all ({ frames := 0, cells := 0, slots := 0, locals := 0 } : Room) (va_Pc [.ref (r 0)] (wA D vwCl (tyA cA) e0 (xM cA r) (u, a) sz)) (va_Qi (fun (v : Int32) (z : sM) => v = nI (2 ^ g 0 - 1) ∧ z = (u, a)) (wB D vwCl (tyA cA) (xM cA r) (va_A (xM cA r (u, a)) sz)) (va_A (xM cA r (u, a)) sz)) 0 0 (va_A (xM cA r (u, a)) sz) := by
  refine Met.ofW (cc := cX10_all) (maxL := 1) (ret := (some .int)) (by decide) rfl ?_
  intro p e s m args below meth c s₁ B hml hv
  obtain ⟨rfl, hsz, hP, hK, hD0, hE⟩ := hv
  have hx := B.exec
  have hb := B.bytes
  have hr := B.returns
  have hts := atoms_spec (ws := wsX10_all) B.pre
  have hown : s.vm.findClass RX10 = some m.cls := findClass_of_methodNamed B.named
  have hlocks := B.notSynchronized
  subst hsz
  have hD := hD0.self (sz := s.heap.size)
  generalize hAe : va_A (xM cA r (u, a)) s.heap.size = A at hD hE ⊢
  have hA : ∀ q : Nat, s.heap.size ≤ q → A q := fun q h => by rw [← hAe]; exact Or.inr h
  have hS : va_S A s.heap s.heap [] := va_S.rf
  have hinX10 : ∀ w ∈ u_ws RX10 TX10 34, w ∈ wsX10_all := by decide +kernel
  have hl := lv_entry ([.ref (r 0)]) (n := 1) (Nat.le_of_ble_eq_true rfl)
  rw [lg_entry_eq]
  generalize (lg_sl ([.ref (r 0)]) ++ List.replicate (1 - (lg_sl ([.ref (r 0)])).length) Slot.unset).toArray = ls at hl ⊢
  have hl : lv_has ls 1 [(0, .ref (r 0))] := hl
  refine lv_iconst (v := (nI 1)) hx hb dX10_all_0 rfl ?_
  refine lv_aload_n hx hb dX10_all_1 rfl (lv_at hl 0 rfl) ?_
  refine va_get (D := D) (ci := 10) (v := .int (nI (g 0))) (C := RX10) (T := TX10) (N := 34) hx hb hts hinX10 hown hK hP 0 rfl rfl 5 (by decide) (hts (.fieldLink RX10 90 "OneNailModel" "things" "I") (by decide +kernel)) (fun _ h9 => h9) (congrArg (fun z => some (Value.int z)) (hM.1)) dX10_all_2 ?_
  refine lv_ishl hx hb dX10_all_5 ?_
  refine lv_iconst (v := (nI 1)) hx hb dX10_all_6 rfl ?_
  refine lv_isub hx hb dX10_all_7 ?_
  exact wIret hx hb hr hlocks (v := (((nI 1) <<< ((nI (g 0)) &&& 31)) - (nI 1))) (u, a) (⟨all_row (g 0) hB.1, rfl⟩) hK hP hD hS dX10_all_8
end
section
set_option maxHeartbeats 4000000 in
set_option maxRecDepth 100000 in
theorem kX10_against (l : Launch) (D : va_G) (cA : Nat → ClassId) (r : Nat → Nat) (sz : Nat) (u : Nat → Int32) (a : Nat → Nat → Int32) (k : Nat) (so i n : Int32) (hk : k < 4) : Met l yX10_against wsX10_against ({ frames := 0, cells := 0, slots := 0, locals := 0 } : Room) (va_Pc [.ref (r 0), .int (nI k), .int so, .int i, .int n] (wA D vwCl (tyA cA) e0 (xM cA r) (u, a) sz)) (va_Qi (fun (v : Int32) (z : sM) => v = ag (a 2 k) (a 3 k) so i n ∧ z = (u, a)) (wB D vwCl (tyA cA) (xM cA r) (va_A (xM cA r (u, a)) sz)) (va_A (xM cA r (u, a)) sz)) 0 0 (va_A (xM cA r (u, a)) sz) := by
  refine Met.ofW (cc := cX10_against) (maxL := 5) (ret := (some .int)) (by decide) rfl ?_
  intro p e s m args below meth c s₁ B hml hv
  obtain ⟨rfl, hsz, hP, hK, hD0, hE⟩ := hv
  have hx := B.exec
  have hb := B.bytes
  have hr := B.returns
  have hts := atoms_spec (ws := wsX10_against) B.pre
  have hown : s.vm.findClass RX10 = some m.cls := findClass_of_methodNamed B.named
  have hlocks := B.notSynchronized
  subst hsz
  have hD := hD0.self (sz := s.heap.size)
  generalize hAe : va_A (xM cA r (u, a)) s.heap.size = A at hD hE ⊢
  have hA : ∀ q : Nat, s.heap.size ≤ q → A q := fun q h => by rw [← hAe]; exact Or.inr h
  have hS : va_S A s.heap s.heap [] := va_S.rf
  have hinX10 : ∀ w ∈ u_ws RX10 TX10 34, w ∈ wsX10_against := by decide +kernel
  have hl := lv_entry ([.ref (r 0), .int (nI k), .int so, .int i, .int n]) (n := 5) (Nat.le_of_ble_eq_true rfl)
  rw [lg_entry_eq]
  generalize (lg_sl ([.ref (r 0), .int (nI k), .int so, .int i, .int n]) ++ List.replicate (5 - (lg_sl ([.ref (r 0), .int (nI k), .int so, .int i, .int n])).length) Slot.unset).toArray = ls at hl ⊢
  have hl : lv_has ls 5 [(0, .ref (r 0)), (1, .int (nI k)), (2, .int so), (3, .int i), (4, .int n)] := hl
  refine lv_aload_n hx hb dX10_against_0 rfl (lv_at hl 0 rfl) ?_
  refine va_get (D := D) (ci := 10) (v := .ref (r 2)) (C := RX10) (T := TX10) (N := 34) hx hb hts hinX10 hown hK hP 0 rfl rfl 2 (by decide) (hts (.fieldLink RX10 9 "OneNailModel" "sorts" "[I") (by decide +kernel)) (fun _ h9 => h9) rfl dX10_against_1 ?_
  refine lv_iload_n hx hb dX10_against_4 rfl (lv_at hl 1 rfl) ?_
  refine ra_iald hx hb hK hP 1 0 (n := 4) (f := (a 2)) (j := k) (v := ((a 2) k)) rfl rfl (by omega) (by decide) (rfl) dX10_against_5 ?_
  refine lv_bipush (v := (-9)) hx hb dX10_against_6 (by decide) ?_
  refine lv_icmp_eq (tgt := 23) hx hb dX10_against_8 (by decide) (fun c_1 => ?_) (fun c_1 => ?_)
  · refine lv_aload_n hx hb dX10_against_23 rfl (lv_at hl 0 rfl) ?_
    refine va_get (D := D) (ci := 10) (v := .ref (r 2)) (C := RX10) (T := TX10) (N := 34) hx hb hts hinX10 hown hK hP 0 rfl rfl 2 (by decide) (hts (.fieldLink RX10 9 "OneNailModel" "sorts" "[I") (by decide +kernel)) (fun _ h9 => h9) rfl dX10_against_24 ?_
    refine lv_iload_n hx hb dX10_against_27 rfl (lv_at hl 1 rfl) ?_
    refine ra_iald hx hb hK hP 1 0 (n := 4) (f := (a 2)) (j := k) (v := ((a 2) k)) rfl rfl (by omega) (by decide) (rfl) dX10_against_28 ?_
    refine lv_bipush (v := (-9)) hx hb dX10_against_29 (by decide) ?_
    refine lv_icmp_ne (tgt := 36) hx hb dX10_against_31 (by decide) (fun c_2 => ?_) (fun c_2 => ?_)
    · refine lv_iload hx hb dX10_against_36 (lv_at hl 4 rfl) ?_
      refine lv_if_ge (tgt := 43) hx hb dX10_against_38 (by decide) (fun c_3 => ?_) (fun c_3 => ?_)
      · refine lv_iload_n hx hb dX10_against_43 rfl (lv_at hl 3 rfl) ?_
        refine lv_if_lt (tgt := 70) hx hb dX10_against_44 (by decide) (fun c_4 => ?_) (fun c_4 => ?_)
        · refine lv_iconst (v := (nI 3)) hx hb dX10_against_70 rfl ?_
          refine lv_goto (tgt := 75) hx hb dX10_against_71 (by decide) ?_
          exact wIret hx hb hr hlocks (v := (nI 3)) (u, a) (⟨by unfold ag; grind, rfl⟩) hK hP hD hS dX10_against_75
        · refine lv_iload_n hx hb dX10_against_47 rfl (lv_at hl 3 rfl) ?_
          refine lv_aload_n hx hb dX10_against_48 rfl (lv_at hl 0 rfl) ?_
          refine va_get (D := D) (ci := 10) (v := .ref (r 3)) (C := RX10) (T := TX10) (N := 34) hx hb hts hinX10 hown hK hP 0 rfl rfl 3 (by decide) (hts (.fieldLink RX10 13 "OneNailModel" "sheetLong" "[I") (by decide +kernel)) (fun _ h9 => h9) rfl dX10_against_49 ?_
          refine lv_iload_n hx hb dX10_against_52 rfl (lv_at hl 1 rfl) ?_
          refine ra_iald hx hb hK hP 2 0 (n := 4) (f := (a 3)) (j := k) (v := ((a 3) k)) rfl rfl (by omega) (by decide) (rfl) dX10_against_53 ?_
          refine lv_icmp_gt (tgt := 70) hx hb dX10_against_54 (by decide) (fun c_5 => ?_) (fun c_5 => ?_)
          · refine lv_iconst (v := (nI 3)) hx hb dX10_against_70 rfl ?_
            refine lv_goto (tgt := 75) hx hb dX10_against_71 (by decide) ?_
            exact wIret hx hb hr hlocks (v := (nI 3)) (u, a) (⟨by unfold ag; grind, rfl⟩) hK hP hD hS dX10_against_75
          · refine lv_iload hx hb dX10_against_57 (lv_at hl 4 rfl) ?_
            refine lv_aload_n hx hb dX10_against_59 rfl (lv_at hl 0 rfl) ?_
            refine va_get (D := D) (ci := 10) (v := .ref (r 3)) (C := RX10) (T := TX10) (N := 34) hx hb hts hinX10 hown hK hP 0 rfl rfl 3 (by decide) (hts (.fieldLink RX10 13 "OneNailModel" "sheetLong" "[I") (by decide +kernel)) (fun _ h9 => h9) rfl dX10_against_60 ?_
            refine lv_iload_n hx hb dX10_against_63 rfl (lv_at hl 1 rfl) ?_
            refine ra_iald hx hb hK hP 2 0 (n := 4) (f := (a 3)) (j := k) (v := ((a 3) k)) rfl rfl (by omega) (by decide) (rfl) dX10_against_64 ?_
            refine lv_iload_n hx hb dX10_against_65 rfl (lv_at hl 3 rfl) ?_
            refine lv_isub hx hb dX10_against_66 ?_
            refine lv_icmp_le (tgt := 74) hx hb dX10_against_67 (by decide) (fun c_6 => ?_) (fun c_6 => ?_)
            · refine lv_iconst (v := (nI 0)) hx hb dX10_against_74 rfl ?_
              exact wIret hx hb hr hlocks (v := (nI 0)) (u, a) (⟨by unfold ag; grind, rfl⟩) hK hP hD hS dX10_against_75
            · refine lv_iconst (v := (nI 3)) hx hb dX10_against_70 rfl ?_
              refine lv_goto (tgt := 75) hx hb dX10_against_71 (by decide) ?_
              exact wIret hx hb hr hlocks (v := (nI 3)) (u, a) (⟨by unfold ag; grind, rfl⟩) hK hP hD hS dX10_against_75
      · refine lv_iconst (v := (nI 4)) hx hb dX10_against_41 rfl ?_
        exact wIret hx hb hr hlocks (v := (nI 4)) (u, a) (⟨by unfold ag; grind, rfl⟩) hK hP hD hS dX10_against_42
    · refine lv_iconst (v := (nI 1)) hx hb dX10_against_34 rfl ?_
      exact wIret hx hb hr hlocks (v := (nI 1)) (u, a) (⟨by unfold ag; grind, rfl⟩) hK hP hD hS dX10_against_35
  · refine lv_aload_n hx hb dX10_against_11 rfl (lv_at hl 0 rfl) ?_
    refine va_get (D := D) (ci := 10) (v := .ref (r 2)) (C := RX10) (T := TX10) (N := 34) hx hb hts hinX10 hown hK hP 0 rfl rfl 2 (by decide) (hts (.fieldLink RX10 9 "OneNailModel" "sorts" "[I") (by decide +kernel)) (fun _ h9 => h9) rfl dX10_against_12 ?_
    refine lv_iload_n hx hb dX10_against_15 rfl (lv_at hl 1 rfl) ?_
    refine ra_iald hx hb hK hP 1 0 (n := 4) (f := (a 2)) (j := k) (v := ((a 2) k)) rfl rfl (by omega) (by decide) (rfl) dX10_against_16 ?_
    refine lv_iload_n hx hb dX10_against_17 rfl (lv_at hl 2 rfl) ?_
    refine lv_icmp_eq (tgt := 23) hx hb dX10_against_18 (by decide) (fun c_7 => ?_) (fun c_7 => ?_)
    · refine lv_aload_n hx hb dX10_against_23 rfl (lv_at hl 0 rfl) ?_
      refine va_get (D := D) (ci := 10) (v := .ref (r 2)) (C := RX10) (T := TX10) (N := 34) hx hb hts hinX10 hown hK hP 0 rfl rfl 2 (by decide) (hts (.fieldLink RX10 9 "OneNailModel" "sorts" "[I") (by decide +kernel)) (fun _ h9 => h9) rfl dX10_against_24 ?_
      refine lv_iload_n hx hb dX10_against_27 rfl (lv_at hl 1 rfl) ?_
      refine ra_iald hx hb hK hP 1 0 (n := 4) (f := (a 2)) (j := k) (v := ((a 2) k)) rfl rfl (by omega) (by decide) (rfl) dX10_against_28 ?_
      refine lv_bipush (v := (-9)) hx hb dX10_against_29 (by decide) ?_
      refine lv_icmp_ne (tgt := 36) hx hb dX10_against_31 (by decide) (fun c_8 => ?_) (fun c_8 => ?_)
      · refine lv_iload hx hb dX10_against_36 (lv_at hl 4 rfl) ?_
        refine lv_if_ge (tgt := 43) hx hb dX10_against_38 (by decide) (fun c_9 => ?_) (fun c_9 => ?_)
        · refine lv_iload_n hx hb dX10_against_43 rfl (lv_at hl 3 rfl) ?_
          refine lv_if_lt (tgt := 70) hx hb dX10_against_44 (by decide) (fun c_10 => ?_) (fun c_10 => ?_)
          · refine lv_iconst (v := (nI 3)) hx hb dX10_against_70 rfl ?_
            refine lv_goto (tgt := 75) hx hb dX10_against_71 (by decide) ?_
            exact wIret hx hb hr hlocks (v := (nI 3)) (u, a) (⟨by unfold ag; grind, rfl⟩) hK hP hD hS dX10_against_75
          · refine lv_iload_n hx hb dX10_against_47 rfl (lv_at hl 3 rfl) ?_
            refine lv_aload_n hx hb dX10_against_48 rfl (lv_at hl 0 rfl) ?_
            refine va_get (D := D) (ci := 10) (v := .ref (r 3)) (C := RX10) (T := TX10) (N := 34) hx hb hts hinX10 hown hK hP 0 rfl rfl 3 (by decide) (hts (.fieldLink RX10 13 "OneNailModel" "sheetLong" "[I") (by decide +kernel)) (fun _ h9 => h9) rfl dX10_against_49 ?_
            refine lv_iload_n hx hb dX10_against_52 rfl (lv_at hl 1 rfl) ?_
            refine ra_iald hx hb hK hP 2 0 (n := 4) (f := (a 3)) (j := k) (v := ((a 3) k)) rfl rfl (by omega) (by decide) (rfl) dX10_against_53 ?_
            refine lv_icmp_gt (tgt := 70) hx hb dX10_against_54 (by decide) (fun c_11 => ?_) (fun c_11 => ?_)
            · refine lv_iconst (v := (nI 3)) hx hb dX10_against_70 rfl ?_
              refine lv_goto (tgt := 75) hx hb dX10_against_71 (by decide) ?_
              exact wIret hx hb hr hlocks (v := (nI 3)) (u, a) (⟨by unfold ag; grind, rfl⟩) hK hP hD hS dX10_against_75
            · refine lv_iload hx hb dX10_against_57 (lv_at hl 4 rfl) ?_
              refine lv_aload_n hx hb dX10_against_59 rfl (lv_at hl 0 rfl) ?_
              refine va_get (D := D) (ci := 10) (v := .ref (r 3)) (C := RX10) (T := TX10) (N := 34) hx hb hts hinX10 hown hK hP 0 rfl rfl 3 (by decide) (hts (.fieldLink RX10 13 "OneNailModel" "sheetLong" "[I") (by decide +kernel)) (fun _ h9 => h9) rfl dX10_against_60 ?_
              refine lv_iload_n hx hb dX10_against_63 rfl (lv_at hl 1 rfl) ?_
              refine ra_iald hx hb hK hP 2 0 (n := 4) (f := (a 3)) (j := k) (v := ((a 3) k)) rfl rfl (by omega) (by decide) (rfl) dX10_against_64 ?_
              refine lv_iload_n hx hb dX10_against_65 rfl (lv_at hl 3 rfl) ?_
              refine lv_isub hx hb dX10_against_66 ?_
              refine lv_icmp_le (tgt := 74) hx hb dX10_against_67 (by decide) (fun c_12 => ?_) (fun c_12 => ?_)
              · refine lv_iconst (v := (nI 0)) hx hb dX10_against_74 rfl ?_
                exact wIret hx hb hr hlocks (v := (nI 0)) (u, a) (⟨by unfold ag; grind, rfl⟩) hK hP hD hS dX10_against_75
              · refine lv_iconst (v := (nI 3)) hx hb dX10_against_70 rfl ?_
                refine lv_goto (tgt := 75) hx hb dX10_against_71 (by decide) ?_
                exact wIret hx hb hr hlocks (v := (nI 3)) (u, a) (⟨by unfold ag; grind, rfl⟩) hK hP hD hS dX10_against_75
        · refine lv_iconst (v := (nI 4)) hx hb dX10_against_41 rfl ?_
          exact wIret hx hb hr hlocks (v := (nI 4)) (u, a) (⟨by unfold ag; grind, rfl⟩) hK hP hD hS dX10_against_42
      · refine lv_iconst (v := (nI 1)) hx hb dX10_against_34 rfl ?_
        exact wIret hx hb hr hlocks (v := (nI 1)) (u, a) (⟨by unfold ag; grind, rfl⟩) hK hP hD hS dX10_against_35
    · refine lv_iconst (v := (nI 2)) hx hb dX10_against_21 rfl ?_
      exact wIret hx hb hr hlocks (v := (nI 2)) (u, a) (⟨by unfold ag; grind, rfl⟩) hK hP hD hS dX10_against_22

set_option maxHeartbeats 4000000 in
set_option maxRecDepth 100000 in
theorem kX10_layComings (l : Launch) (D : va_G) (cA : Nat → ClassId) (r : Nat → Nat) (sz : Nat) (u : Nat → Int32) (a : Nat → Nat → Int32) (g : Nat → Nat) (T : Nat → Nat → Nat) (ro : Nat → Nat) (L : Nat) (till most : Nat) (hM : MT u a g T) (hB : TB g T) (hL : u 22 = nI L) (hL8 : L ≤ 8) (hro : ∀ k, k < L → a 21 k = nI (ro k)) (hrg : ∀ k, k < L → ro k < g 0) (htl : till ≤ 100000) (hmo : most ≤ 400) : Met l yX10_layComings wsX10_layComings ({ frames := 1, cells := 0, slots := 0, locals := 21 } : Room) (va_Pc [.ref (r 0), .int (nI till), .int (nI most)] (wA D vwCl (tyA cA) e0 (xM cA r) (u, a) sz)) (va_Qv (fun (z : sM) => ∃ cN, LC g T ro L till most cN ∧ z.1 25 = nI cN ∧ (∀ k, k < cN → z.2 23 k = nI (ct g T ro L k)) ∧ (∀ k, k < cN → z.2 24 k = nI (ro (k % L))) ∧ (∀ i, i ≠ 25 → z.1 i = u i) ∧ (∀ i, i ≠ 23 → i ≠ 24 → z.2 i = a i)) (wB D vwCl (tyA cA) (xM cA r) (va_A (xM cA r (u, a)) sz)) (va_A (xM cA r (u, a)) sz)) 0 0 (va_A (xM cA r (u, a)) sz) := by
  refine Met.ofW (cc := cX10_layComings) (maxL := 6) (ret := none) (by decide) rfl ?_
  intro p e s m args below meth c s₁ B hml hv
  obtain ⟨rfl, hsz, hP, hK, hD0, hE⟩ := hv
  have hx := B.exec
  have hb := B.bytes
  have hr := B.returns
  have hts := atoms_spec (ws := wsX10_layComings) B.pre
  have hown : s.vm.findClass RX10 = some m.cls := findClass_of_methodNamed B.named
  have hlocks := B.notSynchronized
  subst hsz
  have hD := hD0.self (sz := s.heap.size)
  generalize hAe : va_A (xM cA r (u, a)) s.heap.size = A at hD hE ⊢
  have hA : ∀ q : Nat, s.heap.size ≤ q → A q := fun q h => by rw [← hAe]; exact Or.inr h
  have hS : va_S A s.heap s.heap [] := va_S.rf
  have hinX10 : ∀ w ∈ u_ws RX10 TX10 34, w ∈ wsX10_layComings := by decide +kernel
  have hl := lv_entry ([.ref (r 0), .int (nI till), .int (nI most)]) (n := 6) (Nat.le_of_ble_eq_true rfl)
  rw [lg_entry_eq]
  generalize (lg_sl ([.ref (r 0), .int (nI till), .int (nI most)]) ++ List.replicate (6 - (lg_sl ([.ref (r 0), .int (nI till), .int (nI most)])).length) Slot.unset).toArray = ls at hl ⊢
  have hl : lv_has ls 6 [(0, .ref (r 0)), (1, .int (nI till)), (2, .int (nI most))] := hl
  have hg6 := hB.1
  have hg1 := hB.2.1
  refine lv_aload_n hx hb dX10_layComings_0 rfl (lv_at hl 0 rfl) ?_
  refine lv_iconst (v := (nI 0)) hx hb dX10_layComings_1 rfl ?_
  refine va_put (D := D) (ci := 10) (v := .int (nI 0)) (ty := .int) (C := RX10) (T := TX10) (N := 34) hx hb hts hinX10 tyX10 tyX10_ok nmX10 hown hK hP hD hS 0 rfl rfl 25 (by decide) (hts (.fieldLink RX10 142 "OneNailModel" "comings" "I") (by decide +kernel)) (fun _ h9 => h9) rfl (by decide +kernel) rfl rfl (Nat.le_of_ble_eq_true rfl) dX10_layComings_2 (fun H locs hP hD hS => ?_)
  have hP : va_P D vwCl (xM cA r ((upd u 25 (nI 0)), a)) H := hP
  have hD : va_D A (xM cA r ((upd u 25 (nI 0)), a)) := hD
  refine lv_aload_n hx hb dX10_layComings_5 rfl (lv_at hl 0 rfl) ?_
  refine va_get (D := D) (ci := 10) (v := .int (nI L)) (C := RX10) (T := TX10) (N := 34) hx hb hts hinX10 hown hK hP 0 rfl rfl 22 (by decide) (hts (.fieldLink RX10 145 "OneNailModel" "rowLong" "I") (by decide +kernel)) (fun _ h9 => h9) (congrArg (fun z => some (Value.int z)) (hL)) dX10_layComings_6 ?_
  refine rz_ne (x := L) (tgt := 13) hx hb (by omega) dX10_layComings_9 (by decide) (fun c_1 => ?_) (fun c_1 => ?_)
  · have hr0 := hrg 0 (by omega)
    have hT0 := hB.2.2.2 _ hr0
    refine lv_aload_n hx hb dX10_layComings_13 rfl (lv_at hl 0 rfl) ?_
    refine va_get (D := D) (ci := 10) (v := .int (nI (g 1))) (C := RX10) (T := TX10) (N := 34) hx hb hts hinX10 hown hK hP 0 rfl rfl 6 (by decide) (hts (.fieldLink RX10 117 "OneNailModel" "home" "I") (by decide +kernel)) (fun _ h9 => h9) (congrArg (fun z => some (Value.int z)) (hM.2.1)) dX10_layComings_14 ?_
    refine lv_aload_n hx hb dX10_layComings_17 rfl (lv_at hl 0 rfl) ?_
    refine va_get (D := D) (ci := 10) (v := .ref (r 9)) (C := RX10) (T := TX10) (N := 34) hx hb hts hinX10 hown hK hP 0 rfl rfl 9 (by decide) (hts (.fieldLink RX10 22 "OneNailModel" "place" "[I") (by decide +kernel)) (fun _ h9 => h9) rfl dX10_layComings_18 ?_
    refine lv_aload_n hx hb dX10_layComings_21 rfl (lv_at hl 0 rfl) ?_
    refine va_get (D := D) (ci := 10) (v := .ref (r 21)) (C := RX10) (T := TX10) (N := 34) hx hb hts hinX10 hown hK hP 0 rfl rfl 21 (by decide) (hts (.fieldLink RX10 49 "OneNailModel" "row" "[I") (by decide +kernel)) (fun _ h9 => h9) rfl dX10_layComings_22 ?_
    refine lv_iconst (v := (nI 0)) hx hb dX10_layComings_25 rfl ?_
    refine ra_iald hx hb hK hP 14 0 (n := 8) (f := (a 21)) (j := 0) (v := (nI (ro (0)))) rfl rfl (by omega) (by decide) (hro (0) (by omega)) dX10_layComings_26 ?_
    refine ra_iald hx hb hK hP 5 0 (n := 6) (f := (a 9)) (j := ro (0)) (v := (nI (T 1 (ro (0))))) rfl rfl (by omega) (by decide) ((hM.2.2.2 (ro (0)) (by omega)).2.1) dX10_layComings_27 ?_
    refine wSi (As := [.int (nI (g 1)), .int (nI (T 1 (ro (0))))]) (rest := []) ⟨hx, hb, hml, hown, hts⟩ (kX10_between l (g 1) (T 1 (ro (0))) (by omega) (by omega)) (va_cwS 2 hts gX10_layComings_X10_between rfl rfl rfl (by decide +kernel) ⟨Nat.le_of_ble_eq_true rfl, Nat.le_of_ble_eq_true rfl⟩) rfl hl.1 rfl (Nat.le_of_ble_eq_true rfl) dX10_layComings_28 ⟨Nat.zero_le _, Nat.zero_le _⟩ (fun rv_2 hw_3 => ?_)
    obtain rfl := hw_3
    refine lv_istore_n (lv' := [(3, .int (nI (md (g 1) (T 1 (ro (0)))))), (0, .ref (r 0)), (1, .int (nI till)), (2, .int (nI most))]) hx hb dX10_layComings_31 rfl hl (by decide) rfl (fun ls hl => ?_)
    refine lv_iconst (v := (nI 0)) hx hb dX10_layComings_32 rfl ?_
    refine lv_istore (lv' := [(4, .int (nI 0)), (3, .int (nI (md (g 1) (T 1 (ro (0)))))), (0, .ref (r 0)), (1, .int (nI till)), (2, .int (nI most))]) hx hb dX10_layComings_33 hl (by decide) rfl (fun ls hl => ?_)
    refine wLoop (τ := Nat × (Nat → Int32) × (Nat → Nat → Int32)) (fun z H locs ls => (fun (cN : Nat) (u1035 : (Nat → Int32)) (a1035 : (Nat → Nat → Int32)) => (cN ≤ most) ∧ (u1035 25 = nI cN) ∧ (∀ k, k < cN → a1035 23 k = nI (ct g T ro L k)) ∧ (∀ k, k < cN → a1035 24 k = nI (ro (k % L))) ∧ (∀ k, k < cN → ct g T ro L k < till) ∧ (∀ i : Nat, i ≠ 25 → u1035 i = u i) ∧ (∀ i : Nat, i ≠ 23 → i ≠ 24 → a1035 i = a i) ∧ (va_P D vwCl (xM cA r (u1035, a1035)) H) ∧ (va_D A (xM cA r (u1035, a1035))) ∧ (va_S A s.heap H locs) ∧ (lv_has ls 6 [(3, .int (nI (ct g T ro L cN))), (4, .int (nI (cN % L))), (0, .ref (r 0)), (1, .int (nI till)), (2, .int (nI most))])) z.1 z.2.1 z.2.2) (fun z => (fun (cN : Nat) (u1035 : (Nat → Int32)) (a1035 : (Nat → Nat → Int32)) => most - cN) z.1 z.2.1 z.2.2) (0, (upd u 25 (nI 0)), a) ⟨(show 0 ≤ most from Nat.zero_le _), (show (upd u 25 (nI 0)) 25 = nI 0 from rfl), (show ∀ k, k < 0 → a 23 k = nI (ct g T ro L k) from (fun k h => absurd h (Nat.not_lt_zero k))), (show ∀ k, k < 0 → a 24 k = nI (ro (k % L)) from (fun k h => absurd h (Nat.not_lt_zero k))), (show ∀ k, k < 0 → ct g T ro L k < till from (fun k h => absurd h (Nat.not_lt_zero k))), (fun i h25 => up_ne h25), (fun i h23 h24 => rfl), hP, hD, hS, lv_sub hl [1, 0, 2, 3, 4] rfl⟩ ?_
    rintro ⟨cN, u1035, a1035⟩ H locs ls ⟨hc, hu25, hc23, hc24, hlt, hfu35, hfa35, hP, hD, hS, hl⟩ ih35
    have hc : cN ≤ most := hc
    have hu25 : u1035 25 = nI cN := hu25
    have hc23 : ∀ k, k < cN → a1035 23 k = nI (ct g T ro L k) := hc23
    have hc24 : ∀ k, k < cN → a1035 24 k = nI (ro (k % L)) := hc24
    have hlt : ∀ k, k < cN → ct g T ro L k < till := hlt
    have hfu35 : ∀ i : Nat, i ≠ 25 → u1035 i = u i := hfu35
    have hfa35 : ∀ i : Nat, i ≠ 23 → i ≠ 24 → a1035 i = a i := hfa35
    have hP : va_P D vwCl (xM cA r (u1035, a1035)) H := hP
    have hD : va_D A (xM cA r (u1035, a1035)) := hD
    have hl : lv_has ls 6 [(3, .int (nI (ct g T ro L cN))), (4, .int (nI (cN % L))), (0, .ref (r 0)), (1, .int (nI till)), (2, .int (nI most))] := hl
    have hm1 : cN % L < L := Nat.mod_lt _ (by omega)
    have hr1 := hrg _ hm1
    have hT1 := hB.2.2.2 _ hr1
    have hcl := ct_le hB (by omega) hrg cN
    refine lv_iload_n hx hb dX10_layComings_35 rfl (lv_at hl 0 rfl) ?_
    refine lv_iload_n hx hb dX10_layComings_36 rfl (lv_at hl 3 rfl) ?_
    refine rn_ge (x := ct g T ro L cN) (y := till) (tgt := 145) hx hb (by omega) (by omega) dX10_layComings_37 (by decide) (fun c_4 => ?_) (fun c_4 => ?_)
    · exact wVret hx hb hr hlocks (u1035, a1035) (⟨cN, ⟨hc, fun h => absurd h (by omega), fun _ => ⟨hlt, by omega⟩⟩, hu25, hc23, hc24, hfu35, hfa35⟩) hK hP hD hS dX10_layComings_145
    · refine lv_aload_n hx hb dX10_layComings_40 rfl (lv_at hl 2 rfl) ?_
      refine va_get (D := D) (ci := 10) (v := .int (nI cN)) (C := RX10) (T := TX10) (N := 34) hx hb hts hinX10 hown hK hP 0 rfl rfl 25 (by decide) (hts (.fieldLink RX10 142 "OneNailModel" "comings" "I") (by decide +kernel)) (fun _ h9 => h9) (congrArg (fun z => some (Value.int z)) (hu25)) dX10_layComings_41 ?_
      refine lv_iload_n hx hb dX10_layComings_44 rfl (lv_at hl 4 rfl) ?_
      refine rn_ge (x := cN) (y := most) (tgt := 145) hx hb (by omega) (by omega) dX10_layComings_45 (by decide) (fun c_5 => ?_) (fun c_5 => ?_)
      · exact wVret hx hb hr hlocks (u1035, a1035) (⟨cN, ⟨hc, fun h => absurd h (by omega), fun _ => ⟨hlt, by omega⟩⟩, hu25, hc23, hc24, hfu35, hfa35⟩) hK hP hD hS dX10_layComings_145
      · refine lv_aload_n hx hb dX10_layComings_48 rfl (lv_at hl 2 rfl) ?_
        refine va_get (D := D) (ci := 10) (v := .ref (r 21)) (C := RX10) (T := TX10) (N := 34) hx hb hts hinX10 hown hK hP 0 rfl rfl 21 (by decide) (hts (.fieldLink RX10 49 "OneNailModel" "row" "[I") (by decide +kernel)) (fun _ h9 => h9) rfl dX10_layComings_49 ?_
        refine lv_iload hx hb dX10_layComings_52 (lv_at hl 1 rfl) ?_
        refine ra_iald hx hb hK hP 14 0 (n := 8) (f := (a1035 21)) (j := cN % L) (v := (nI (ro (cN % L)))) rfl rfl (by omega) (by decide) ((congrFun (hfa35 21 (by decide) (by decide)) (cN % L)).trans (hro (cN % L) (by omega))) dX10_layComings_54 ?_
        refine lv_istore (lv' := [(5, .int (nI (ro (cN % L)))), (3, .int (nI (ct g T ro L cN))), (4, .int (nI (cN % L))), (0, .ref (r 0)), (1, .int (nI till)), (2, .int (nI most))]) hx hb dX10_layComings_55 hl (by decide) rfl (fun ls hl => ?_)
        refine lv_aload_n hx hb dX10_layComings_57 rfl (lv_at hl 3 rfl) ?_
        refine va_get (D := D) (ci := 10) (v := .ref (r 23)) (C := RX10) (T := TX10) (N := 34) hx hb hts hinX10 hown hK hP 0 rfl rfl 23 (by decide) (hts (.fieldLink RX10 52 "OneNailModel" "comesAt" "[I") (by decide +kernel)) (fun _ h9 => h9) rfl dX10_layComings_58 ?_
        refine lv_aload_n hx hb dX10_layComings_61 rfl (lv_at hl 3 rfl) ?_
        refine va_get (D := D) (ci := 10) (v := .int (nI cN)) (C := RX10) (T := TX10) (N := 34) hx hb hts hinX10 hown hK hP 0 rfl rfl 25 (by decide) (hts (.fieldLink RX10 142 "OneNailModel" "comings" "I") (by decide +kernel)) (fun _ h9 => h9) (congrArg (fun z => some (Value.int z)) (hu25)) dX10_layComings_62 ?_
        refine lv_iload_n hx hb dX10_layComings_65 rfl (lv_at hl 1 rfl) ?_
        refine ra_iast hx hb hK hP hD hS 15 0 (n := 400) (f := (a1035 23)) (j := cN) (x := (nI (ct g T ro L cN))) rfl rfl (by omega) (by decide) dX10_layComings_66 (fun H locs hP hD hS => ?_)
        have hP : va_P D vwCl (xM cA r (u1035, (va_up a1035 23 (upd (a1035 23) cN (nI (ct g T ro L cN)))))) H := hP
        have hD : va_D A (xM cA r (u1035, (va_up a1035 23 (upd (a1035 23) cN (nI (ct g T ro L cN)))))) := hD
        refine lv_aload_n hx hb dX10_layComings_67 rfl (lv_at hl 3 rfl) ?_
        refine va_get (D := D) (ci := 10) (v := .ref (r 24)) (C := RX10) (T := TX10) (N := 34) hx hb hts hinX10 hown hK hP 0 rfl rfl 24 (by decide) (hts (.fieldLink RX10 55 "OneNailModel" "comesTo" "[I") (by decide +kernel)) (fun _ h9 => h9) rfl dX10_layComings_68 ?_
        refine lv_aload_n hx hb dX10_layComings_71 rfl (lv_at hl 3 rfl) ?_
        refine va_get (D := D) (ci := 10) (v := .int (nI cN)) (C := RX10) (T := TX10) (N := 34) hx hb hts hinX10 hown hK hP 0 rfl rfl 25 (by decide) (hts (.fieldLink RX10 142 "OneNailModel" "comings" "I") (by decide +kernel)) (fun _ h9 => h9) (congrArg (fun z => some (Value.int z)) (hu25)) dX10_layComings_72 ?_
        refine lv_iload hx hb dX10_layComings_75 (lv_at hl 0 rfl) ?_
        refine ra_iast hx hb hK hP hD hS 16 0 (n := 400) (f := (a1035 24)) (j := cN) (x := (nI (ro (cN % L)))) rfl rfl (by omega) (by decide) dX10_layComings_77 (fun H locs hP hD hS => ?_)
        have hP : va_P D vwCl (xM cA r (u1035, (va_up (va_up a1035 23 (upd (a1035 23) cN (nI (ct g T ro L cN)))) 24 (upd (a1035 24) cN (nI (ro (cN % L))))))) H := hP
        have hD : va_D A (xM cA r (u1035, (va_up (va_up a1035 23 (upd (a1035 23) cN (nI (ct g T ro L cN)))) 24 (upd (a1035 24) cN (nI (ro (cN % L))))))) := hD
        refine lv_aload_n hx hb dX10_layComings_78 rfl (lv_at hl 3 rfl) ?_
        refine lv_dup hx hb dX10_layComings_79 rfl ?_
        refine va_get (D := D) (ci := 10) (v := .int (nI cN)) (C := RX10) (T := TX10) (N := 34) hx hb hts hinX10 hown hK hP 0 rfl rfl 25 (by decide) (hts (.fieldLink RX10 142 "OneNailModel" "comings" "I") (by decide +kernel)) (fun _ h9 => h9) (congrArg (fun z => some (Value.int z)) (hu25)) dX10_layComings_80 ?_
        refine lv_iconst (v := (nI 1)) hx hb dX10_layComings_83 rfl ?_
        refine rn_iadd (x := cN) (y := 1) hx hb dX10_layComings_84 ?_
        refine va_put (D := D) (ci := 10) (v := .int (nI (cN + 1))) (ty := .int) (C := RX10) (T := TX10) (N := 34) hx hb hts hinX10 tyX10 tyX10_ok nmX10 hown hK hP hD hS 0 rfl rfl 25 (by decide) (hts (.fieldLink RX10 142 "OneNailModel" "comings" "I") (by decide +kernel)) (fun _ h9 => h9) rfl (by decide +kernel) rfl rfl (Nat.le_of_ble_eq_true rfl) dX10_layComings_85 (fun H locs hP hD hS => ?_)
        have hP : va_P D vwCl (xM cA r ((upd u1035 25 (nI (cN + 1))), (va_up (va_up a1035 23 (upd (a1035 23) cN (nI (ct g T ro L cN)))) 24 (upd (a1035 24) cN (nI (ro (cN % L))))))) H := hP
        have hD : va_D A (xM cA r ((upd u1035 25 (nI (cN + 1))), (va_up (va_up a1035 23 (upd (a1035 23) cN (nI (ct g T ro L cN)))) 24 (upd (a1035 24) cN (nI (ro (cN % L))))))) := hD
        refine lv_iload hx hb dX10_layComings_88 (lv_at hl 2 rfl) ?_
        refine lv_iconst (v := (nI 1)) hx hb dX10_layComings_90 rfl ?_
        refine rn_iadd (x := cN % L) (y := 1) hx hb dX10_layComings_91 ?_
        refine lv_aload_n hx hb dX10_layComings_92 rfl (lv_at hl 3 rfl) ?_
        refine va_get (D := D) (ci := 10) (v := .int (nI L)) (C := RX10) (T := TX10) (N := 34) hx hb hts hinX10 hown hK hP 0 rfl rfl 22 (by decide) (hts (.fieldLink RX10 145 "OneNailModel" "rowLong" "I") (by decide +kernel)) (fun _ h9 => h9) (congrArg (fun z => some (Value.int z)) ((hfu35 22 (by decide)).trans (hL))) dX10_layComings_93 ?_
        refine rn_ne (x := (cN % L) + 1) (y := L) (tgt := 103) hx hb (by omega) (by omega) dX10_layComings_96 (by decide) (fun c_6 => ?_) (fun c_6 => ?_)
        · refine lv_iload hx hb dX10_layComings_103 (lv_at hl 2 rfl) ?_
          refine lv_iconst (v := (nI 1)) hx hb dX10_layComings_105 rfl ?_
          refine rn_iadd (x := cN % L) (y := 1) hx hb dX10_layComings_106 ?_
          refine lv_topi (fun y_7 ey_7 => ?_)
          obtain rfl : y_7 = (nI ((cN + 1) % L)) := ey_7.trans (congrArg nI (md_n (by omega) (by omega)))
          have hm2 : (cN + 1) % L < L := Nat.mod_lt _ (by omega)
          have hr2 := hrg _ hm2
          have hT2 := hB.2.2.2 _ hr2
          refine lv_istore (lv' := [(4, .int (nI ((cN + 1) % L))), (5, .int (nI (ro (cN % L)))), (3, .int (nI (ct g T ro L cN))), (0, .ref (r 0)), (1, .int (nI till)), (2, .int (nI most))]) hx hb dX10_layComings_107 hl (by decide) rfl (fun ls hl => ?_)
          refine lv_iload_n hx hb dX10_layComings_109 rfl (lv_at hl 2 rfl) ?_
          refine lv_aload_n hx hb dX10_layComings_110 rfl (lv_at hl 3 rfl) ?_
          refine va_get (D := D) (ci := 10) (v := .ref (r 10)) (C := RX10) (T := TX10) (N := 34) hx hb hts hinX10 hown hK hP 0 rfl rfl 10 (by decide) (hts (.fieldLink RX10 25 "OneNailModel" "stays" "[I") (by decide +kernel)) (fun _ h9 => h9) rfl dX10_layComings_111 ?_
          refine lv_iload hx hb dX10_layComings_114 (lv_at hl 1 rfl) ?_
          refine ra_iald hx hb hK hP 6 0 (n := 6) (f := (a1035 10)) (j := ro (cN % L)) (v := (nI (T 2 (ro (cN % L))))) rfl rfl (by omega) (by decide) ((congrFun (hfa35 10 (by decide) (by decide)) (ro (cN % L))).trans ((hM.2.2.2 (ro (cN % L)) (by omega)).2.2.1)) dX10_layComings_116 ?_
          refine lv_aload_n hx hb dX10_layComings_117 rfl (lv_at hl 3 rfl) ?_
          refine va_get (D := D) (ci := 10) (v := .ref (r 9)) (C := RX10) (T := TX10) (N := 34) hx hb hts hinX10 hown hK hP 0 rfl rfl 9 (by decide) (hts (.fieldLink RX10 22 "OneNailModel" "place" "[I") (by decide +kernel)) (fun _ h9 => h9) rfl dX10_layComings_118 ?_
          refine lv_iload hx hb dX10_layComings_121 (lv_at hl 1 rfl) ?_
          refine ra_iald hx hb hK hP 5 0 (n := 6) (f := (a1035 9)) (j := ro (cN % L)) (v := (nI (T 1 (ro (cN % L))))) rfl rfl (by omega) (by decide) ((congrFun (hfa35 9 (by decide) (by decide)) (ro (cN % L))).trans ((hM.2.2.2 (ro (cN % L)) (by omega)).2.1)) dX10_layComings_123 ?_
          refine lv_aload_n hx hb dX10_layComings_124 rfl (lv_at hl 3 rfl) ?_
          refine va_get (D := D) (ci := 10) (v := .ref (r 9)) (C := RX10) (T := TX10) (N := 34) hx hb hts hinX10 hown hK hP 0 rfl rfl 9 (by decide) (hts (.fieldLink RX10 22 "OneNailModel" "place" "[I") (by decide +kernel)) (fun _ h9 => h9) rfl dX10_layComings_125 ?_
          refine lv_aload_n hx hb dX10_layComings_128 rfl (lv_at hl 3 rfl) ?_
          refine va_get (D := D) (ci := 10) (v := .ref (r 21)) (C := RX10) (T := TX10) (N := 34) hx hb hts hinX10 hown hK hP 0 rfl rfl 21 (by decide) (hts (.fieldLink RX10 49 "OneNailModel" "row" "[I") (by decide +kernel)) (fun _ h9 => h9) rfl dX10_layComings_129 ?_
          refine lv_iload hx hb dX10_layComings_132 (lv_at hl 0 rfl) ?_
          refine ra_iald hx hb hK hP 14 0 (n := 8) (f := (a1035 21)) (j := (cN + 1) % L) (v := (nI (ro ((cN + 1) % L)))) rfl rfl (by omega) (by decide) ((congrFun (hfa35 21 (by decide) (by decide)) ((cN + 1) % L)).trans (hro ((cN + 1) % L) (by omega))) dX10_layComings_134 ?_
          refine ra_iald hx hb hK hP 5 0 (n := 6) (f := (a1035 9)) (j := ro ((cN + 1) % L)) (v := (nI (T 1 (ro ((cN + 1) % L))))) rfl rfl (by omega) (by decide) ((congrFun (hfa35 9 (by decide) (by decide)) (ro ((cN + 1) % L))).trans ((hM.2.2.2 (ro ((cN + 1) % L)) (by omega)).2.1)) dX10_layComings_135 ?_
          refine wSi (As := [.int (nI (T 1 (ro (cN % L)))), .int (nI (T 1 (ro ((cN + 1) % L))))]) (rest := [.int (nI (T 2 (ro (cN % L)))), .int (nI (ct g T ro L cN))]) ⟨hx, hb, hml, hown, hts⟩ (kX10_between l (T 1 (ro (cN % L))) (T 1 (ro ((cN + 1) % L))) (by omega) (by omega)) (va_cwS 2 hts gX10_layComings_X10_between rfl rfl rfl (by decide +kernel) ⟨Nat.le_of_ble_eq_true rfl, Nat.le_of_ble_eq_true rfl⟩) rfl hl.1 rfl (Nat.le_of_ble_eq_true rfl) dX10_layComings_136 ⟨Nat.zero_le _, Nat.zero_le _⟩ (fun rv_8 hw_9 => ?_)
          obtain rfl := hw_9
          refine rn_iadd (x := T 2 (ro (cN % L))) (y := md (T 1 (ro (cN % L))) (T 1 (ro ((cN + 1) % L)))) hx hb dX10_layComings_139 ?_
          refine rn_iadd (x := ct g T ro L cN) (y := (T 2 (ro (cN % L))) + (md (T 1 (ro (cN % L))) (T 1 (ro ((cN + 1) % L))))) hx hb dX10_layComings_140 ?_
          refine lv_istore_n (lv' := [(3, .int (nI ((ct g T ro L cN) + ((T 2 (ro (cN % L))) + (md (T 1 (ro (cN % L))) (T 1 (ro ((cN + 1) % L)))))))), (4, .int (nI ((cN + 1) % L))), (5, .int (nI (ro (cN % L)))), (0, .ref (r 0)), (1, .int (nI till)), (2, .int (nI most))]) hx hb dX10_layComings_141 rfl hl (by decide) rfl (fun ls hl => ?_)
          refine lv_goto (tgt := 35) hx hb dX10_layComings_142 (by decide) ?_
          exact ih35 ((cN + 1), (upd u1035 25 (nI (cN + 1))), (va_up (va_up a1035 23 (upd (a1035 23) cN (nI (ct g T ro L cN)))) 24 (upd (a1035 24) cN (nI (ro (cN % L)))))) _ _ _ (show most - (cN + 1) < most - cN from by omega) ⟨(show (cN + 1) ≤ most from by omega), (show (upd u1035 25 (nI (cN + 1))) 25 = nI (cN + 1) from rfl), (show ∀ k, k < (cN + 1) → (va_up (va_up a1035 23 (upd (a1035 23) cN (nI (ct g T ro L cN)))) 24 (upd (a1035 24) cN (nI (ro (cN % L))))) 23 k = nI (ct g T ro L k) from (show ∀ k, k < cN + 1 → (upd (a1035 23) cN (nI (ct g T ro L cN))) k = nI (ct g T ro L k) from arr_push (F := fun k => nI (ct g T ro L k)) hc23 rfl)), (show ∀ k, k < (cN + 1) → (va_up (va_up a1035 23 (upd (a1035 23) cN (nI (ct g T ro L cN)))) 24 (upd (a1035 24) cN (nI (ro (cN % L))))) 24 k = nI (ro (k % L)) from (show ∀ k, k < cN + 1 → (upd (a1035 24) cN (nI (ro (cN % L)))) k = nI (ro (k % L)) from arr_push (F := fun k => nI (ro (k % L))) hc24 rfl)), (show ∀ k, k < (cN + 1) → ct g T ro L k < till from (lt_s hlt (by omega))), (fun i h25 => Eq.trans (up_ne h25) (hfu35 i h25)), (fun i h23 h24 => Eq.trans (vup_ne h24) (Eq.trans (vup_ne h23) (hfa35 i h23 h24))), hP, hD, hS, lv_sub hl [0, 1, 3, 4, 5] rfl⟩
        · refine lv_iconst (v := (nI 0)) hx hb dX10_layComings_99 rfl ?_
          refine lv_goto (tgt := 107) hx hb dX10_layComings_100 (by decide) ?_
          refine lv_topi (fun y_10 ey_10 => ?_)
          obtain rfl : y_10 = (nI ((cN + 1) % L)) := ey_10.trans (congrArg nI (md_s (by omega)))
          have hm2 : (cN + 1) % L < L := Nat.mod_lt _ (by omega)
          have hr2 := hrg _ hm2
          have hT2 := hB.2.2.2 _ hr2
          refine lv_istore (lv' := [(4, .int (nI ((cN + 1) % L))), (5, .int (nI (ro (cN % L)))), (3, .int (nI (ct g T ro L cN))), (0, .ref (r 0)), (1, .int (nI till)), (2, .int (nI most))]) hx hb dX10_layComings_107 hl (by decide) rfl (fun ls hl => ?_)
          refine lv_iload_n hx hb dX10_layComings_109 rfl (lv_at hl 2 rfl) ?_
          refine lv_aload_n hx hb dX10_layComings_110 rfl (lv_at hl 3 rfl) ?_
          refine va_get (D := D) (ci := 10) (v := .ref (r 10)) (C := RX10) (T := TX10) (N := 34) hx hb hts hinX10 hown hK hP 0 rfl rfl 10 (by decide) (hts (.fieldLink RX10 25 "OneNailModel" "stays" "[I") (by decide +kernel)) (fun _ h9 => h9) rfl dX10_layComings_111 ?_
          refine lv_iload hx hb dX10_layComings_114 (lv_at hl 1 rfl) ?_
          refine ra_iald hx hb hK hP 6 0 (n := 6) (f := (a1035 10)) (j := ro (cN % L)) (v := (nI (T 2 (ro (cN % L))))) rfl rfl (by omega) (by decide) ((congrFun (hfa35 10 (by decide) (by decide)) (ro (cN % L))).trans ((hM.2.2.2 (ro (cN % L)) (by omega)).2.2.1)) dX10_layComings_116 ?_
          refine lv_aload_n hx hb dX10_layComings_117 rfl (lv_at hl 3 rfl) ?_
          refine va_get (D := D) (ci := 10) (v := .ref (r 9)) (C := RX10) (T := TX10) (N := 34) hx hb hts hinX10 hown hK hP 0 rfl rfl 9 (by decide) (hts (.fieldLink RX10 22 "OneNailModel" "place" "[I") (by decide +kernel)) (fun _ h9 => h9) rfl dX10_layComings_118 ?_
          refine lv_iload hx hb dX10_layComings_121 (lv_at hl 1 rfl) ?_
          refine ra_iald hx hb hK hP 5 0 (n := 6) (f := (a1035 9)) (j := ro (cN % L)) (v := (nI (T 1 (ro (cN % L))))) rfl rfl (by omega) (by decide) ((congrFun (hfa35 9 (by decide) (by decide)) (ro (cN % L))).trans ((hM.2.2.2 (ro (cN % L)) (by omega)).2.1)) dX10_layComings_123 ?_
          refine lv_aload_n hx hb dX10_layComings_124 rfl (lv_at hl 3 rfl) ?_
          refine va_get (D := D) (ci := 10) (v := .ref (r 9)) (C := RX10) (T := TX10) (N := 34) hx hb hts hinX10 hown hK hP 0 rfl rfl 9 (by decide) (hts (.fieldLink RX10 22 "OneNailModel" "place" "[I") (by decide +kernel)) (fun _ h9 => h9) rfl dX10_layComings_125 ?_
          refine lv_aload_n hx hb dX10_layComings_128 rfl (lv_at hl 3 rfl) ?_
          refine va_get (D := D) (ci := 10) (v := .ref (r 21)) (C := RX10) (T := TX10) (N := 34) hx hb hts hinX10 hown hK hP 0 rfl rfl 21 (by decide) (hts (.fieldLink RX10 49 "OneNailModel" "row" "[I") (by decide +kernel)) (fun _ h9 => h9) rfl dX10_layComings_129 ?_
          refine lv_iload hx hb dX10_layComings_132 (lv_at hl 0 rfl) ?_
          refine ra_iald hx hb hK hP 14 0 (n := 8) (f := (a1035 21)) (j := (cN + 1) % L) (v := (nI (ro ((cN + 1) % L)))) rfl rfl (by omega) (by decide) ((congrFun (hfa35 21 (by decide) (by decide)) ((cN + 1) % L)).trans (hro ((cN + 1) % L) (by omega))) dX10_layComings_134 ?_
          refine ra_iald hx hb hK hP 5 0 (n := 6) (f := (a1035 9)) (j := ro ((cN + 1) % L)) (v := (nI (T 1 (ro ((cN + 1) % L))))) rfl rfl (by omega) (by decide) ((congrFun (hfa35 9 (by decide) (by decide)) (ro ((cN + 1) % L))).trans ((hM.2.2.2 (ro ((cN + 1) % L)) (by omega)).2.1)) dX10_layComings_135 ?_
          refine wSi (As := [.int (nI (T 1 (ro (cN % L)))), .int (nI (T 1 (ro ((cN + 1) % L))))]) (rest := [.int (nI (T 2 (ro (cN % L)))), .int (nI (ct g T ro L cN))]) ⟨hx, hb, hml, hown, hts⟩ (kX10_between l (T 1 (ro (cN % L))) (T 1 (ro ((cN + 1) % L))) (by omega) (by omega)) (va_cwS 2 hts gX10_layComings_X10_between rfl rfl rfl (by decide +kernel) ⟨Nat.le_of_ble_eq_true rfl, Nat.le_of_ble_eq_true rfl⟩) rfl hl.1 rfl (Nat.le_of_ble_eq_true rfl) dX10_layComings_136 ⟨Nat.zero_le _, Nat.zero_le _⟩ (fun rv_11 hw_12 => ?_)
          obtain rfl := hw_12
          refine rn_iadd (x := T 2 (ro (cN % L))) (y := md (T 1 (ro (cN % L))) (T 1 (ro ((cN + 1) % L)))) hx hb dX10_layComings_139 ?_
          refine rn_iadd (x := ct g T ro L cN) (y := (T 2 (ro (cN % L))) + (md (T 1 (ro (cN % L))) (T 1 (ro ((cN + 1) % L))))) hx hb dX10_layComings_140 ?_
          refine lv_istore_n (lv' := [(3, .int (nI ((ct g T ro L cN) + ((T 2 (ro (cN % L))) + (md (T 1 (ro (cN % L))) (T 1 (ro ((cN + 1) % L)))))))), (4, .int (nI ((cN + 1) % L))), (5, .int (nI (ro (cN % L)))), (0, .ref (r 0)), (1, .int (nI till)), (2, .int (nI most))]) hx hb dX10_layComings_141 rfl hl (by decide) rfl (fun ls hl => ?_)
          refine lv_goto (tgt := 35) hx hb dX10_layComings_142 (by decide) ?_
          exact ih35 ((cN + 1), (upd u1035 25 (nI (cN + 1))), (va_up (va_up a1035 23 (upd (a1035 23) cN (nI (ct g T ro L cN)))) 24 (upd (a1035 24) cN (nI (ro (cN % L)))))) _ _ _ (show most - (cN + 1) < most - cN from by omega) ⟨(show (cN + 1) ≤ most from by omega), (show (upd u1035 25 (nI (cN + 1))) 25 = nI (cN + 1) from rfl), (show ∀ k, k < (cN + 1) → (va_up (va_up a1035 23 (upd (a1035 23) cN (nI (ct g T ro L cN)))) 24 (upd (a1035 24) cN (nI (ro (cN % L))))) 23 k = nI (ct g T ro L k) from (show ∀ k, k < cN + 1 → (upd (a1035 23) cN (nI (ct g T ro L cN))) k = nI (ct g T ro L k) from arr_push (F := fun k => nI (ct g T ro L k)) hc23 rfl)), (show ∀ k, k < (cN + 1) → (va_up (va_up a1035 23 (upd (a1035 23) cN (nI (ct g T ro L cN)))) 24 (upd (a1035 24) cN (nI (ro (cN % L))))) 24 k = nI (ro (k % L)) from (show ∀ k, k < cN + 1 → (upd (a1035 24) cN (nI (ro (cN % L)))) k = nI (ro (k % L)) from arr_push (F := fun k => nI (ro (k % L))) hc24 rfl)), (show ∀ k, k < (cN + 1) → ct g T ro L k < till from (lt_s hlt (by omega))), (fun i h25 => Eq.trans (up_ne h25) (hfu35 i h25)), (fun i h23 h24 => Eq.trans (vup_ne h24) (Eq.trans (vup_ne h23) (hfa35 i h23 h24))), hP, hD, hS, lv_sub hl [0, 1, 3, 4, 5] rfl⟩
  · exact wVret hx hb hr hlocks ((upd u 25 (nI 0)), a) (⟨0, ⟨Nat.zero_le _, fun _ => rfl, fun h => absurd h (by omega)⟩, rfl, fun k h => absurd h (Nat.not_lt_zero k), fun k h => absurd h (Nat.not_lt_zero k), fun i h => up_ne h, fun i _ _ => rfl⟩) hK hP hD hS dX10_layComings_12
end
section
set_option maxHeartbeats 4000000 in
set_option maxRecDepth 100000 in
theorem kX10_fallsOf (l : Launch) (D : va_G) (cA : Nat → ClassId) (r : Nat → Nat) (sz : Nat) (u : Nat → Int32) (a : Nat → Nat → Int32) (g : Nat → Nat) (T : Nat → Nat → Nat) (cf tg : Nat → Nat) (cN x till : Nat) (hM : MT u a g T) (hB : TB g T) (hc : u 25 = nI cN) (hcN : cN ≤ 300) (hcf : ∀ k, k < cN → a 23 k = nI (cf k)) (hct : ∀ k, k < cN → a 24 k = nI (tg k)) (hcb : ∀ k, k < cN → cf k ≤ 10000) (htb : ∀ k, k < cN → tg k < 8) (hx0 : x < g 0) (htl : till ≤ 300) : Met l yX10_fallsOf wsX10_fallsOf ({ frames := 1, cells := 0, slots := 0, locals := 22 } : Room) (va_Pc [.ref (r 0), .int (nI x), .int (nI till)] (wA D vwCl (tyA cA) e0 (xM cA r) (u, a) sz)) (va_Qi (fun (v : Int32) (z : sM) => v = nI (fa cf tg x (hd g T x) (T 2 x) till cN).length ∧ z.1 = u ∧ (∀ i, i ≠ 26 → z.2 i = a i) ∧ ∀ j, j < (fa cf tg x (hd g T x) (T 2 x) till cN).length → z.2 26 j = nI ((fa cf tg x (hd g T x) (T 2 x) till cN).getD j 0)) (wB D vwCl (tyA cA) (xM cA r) (va_A (xM cA r (u, a)) sz)) (va_A (xM cA r (u, a)) sz)) 0 0 (va_A (xM cA r (u, a)) sz) := by
  refine Met.ofW (cc := cX10_fallsOf) (maxL := 6) (ret := (some .int)) (by decide) rfl ?_
  intro p e s m args below meth c s₁ B hml hv
  obtain ⟨rfl, hsz, hP, hK, hD0, hE⟩ := hv
  have hx := B.exec
  have hb := B.bytes
  have hr := B.returns
  have hts := atoms_spec (ws := wsX10_fallsOf) B.pre
  have hown : s.vm.findClass RX10 = some m.cls := findClass_of_methodNamed B.named
  have hlocks := B.notSynchronized
  subst hsz
  have hD := hD0.self (sz := s.heap.size)
  generalize hAe : va_A (xM cA r (u, a)) s.heap.size = A at hD hE ⊢
  have hA : ∀ q : Nat, s.heap.size ≤ q → A q := fun q h => by rw [← hAe]; exact Or.inr h
  have hS : va_S A s.heap s.heap [] := va_S.rf
  have hinX10 : ∀ w ∈ u_ws RX10 TX10 34, w ∈ wsX10_fallsOf := by decide +kernel
  have hl := lv_entry ([.ref (r 0), .int (nI x), .int (nI till)]) (n := 6) (Nat.le_of_ble_eq_true rfl)
  rw [lg_entry_eq]
  generalize (lg_sl ([.ref (r 0), .int (nI x), .int (nI till)]) ++ List.replicate (6 - (lg_sl ([.ref (r 0), .int (nI x), .int (nI till)])).length) Slot.unset).toArray = ls at hl ⊢
  have hl : lv_has ls 6 [(0, .ref (r 0)), (1, .int (nI x)), (2, .int (nI till))] := hl
  have hg6 := hB.1
  have hTx := hB.2.2.2 x hx0
  have hdx := hd_le hB hx0
  refine lv_iconst (v := (nI 0)) hx hb dX10_fallsOf_0 rfl ?_
  refine lv_istore_n (lv' := [(3, .int (nI 0)), (0, .ref (r 0)), (1, .int (nI x)), (2, .int (nI till))]) hx hb dX10_fallsOf_1 rfl hl (by decide) rfl (fun ls hl => ?_)
  refine lv_aload_n hx hb dX10_fallsOf_2 rfl (lv_at hl 1 rfl) ?_
  refine lv_iload_n hx hb dX10_fallsOf_3 rfl (lv_at hl 2 rfl) ?_
  refine wVi e0_S (As := [.int (nI x)]) (rest := []) ⟨hx, hb, hml, hown, hts⟩ (kX10_holds l D cA r _ u a g T x hM hB (by omega)) (cwV 1 hts gX10_fallsOf_X10_holds rfl rfl rfl (by decide +kernel) ⟨Nat.le_of_ble_eq_true rfl, Nat.le_of_ble_eq_true rfl⟩) (va_recv hK hP (ci := 10) (q0 := 0) rfl rfl) hK hP hD hS hA hE rfl hl.1 rfl (Nat.le_of_ble_eq_true rfl) dX10_fallsOf_4 ⟨Nat.zero_le _, Nat.zero_le _⟩ (fun rv_1 z_3 H locs hw_2 hP hD hS => ?_)
  obtain ⟨rfl, rfl⟩ := hw_2
  have hP : va_P D vwCl (xM cA r (u, a)) H := hP
  have hD : va_D A (xM cA r (u, a)) := hD
  refine lv_istore (lv' := [(4, .int (nI (hd g T x))), (3, .int (nI 0)), (0, .ref (r 0)), (1, .int (nI x)), (2, .int (nI till))]) hx hb dX10_fallsOf_7 hl (by decide) rfl (fun ls hl => ?_)
  refine lv_iconst (v := (nI 0)) hx hb dX10_fallsOf_9 rfl ?_
  refine lv_istore (lv' := [(5, .int (nI 0)), (4, .int (nI (hd g T x))), (3, .int (nI 0)), (0, .ref (r 0)), (1, .int (nI x)), (2, .int (nI till))]) hx hb dX10_fallsOf_10 hl (by decide) rfl (fun ls hl => ?_)
  refine wLoop (τ := Nat × (Nat → Nat → Int32)) (fun z H locs ls => (fun (k : Nat) (a1012 : (Nat → Nat → Int32)) => (k ≤ cN) ∧ (∀ j, j < (fl cf tg x (hd g T x) (T 2 x) till k).length → a1012 26 j = nI ((fl cf tg x (hd g T x) (T 2 x) till k).getD j 0)) ∧ (∀ i : Nat, i ≠ 26 → a1012 i = a i) ∧ (va_P D vwCl (xM cA r (u, a1012)) H) ∧ (va_D A (xM cA r (u, a1012))) ∧ (va_S A s.heap H locs) ∧ (lv_has ls 6 [(5, .int (nI k)), (4, .int (nI (up cf tg x (hd g T x) (T 2 x) k))), (3, .int (nI ((fl cf tg x (hd g T x) (T 2 x) till k).length))), (0, .ref (r 0)), (1, .int (nI x)), (2, .int (nI till))])) z.1 z.2) (fun z => (fun (k : Nat) (a1012 : (Nat → Nat → Int32)) => cN - k) z.1 z.2) (0, a) ⟨(show 0 ≤ cN from Nat.zero_le _), (show ∀ j, j < (fl cf tg x (hd g T x) (T 2 x) till 0).length → a 26 j = nI ((fl cf tg x (hd g T x) (T 2 x) till 0).getD j 0) from (fun j h => absurd h (Nat.not_lt_zero j))), (fun i h26 => rfl), hP, hD, hS, lv_sub hl [0, 1, 2, 3, 4, 5] rfl⟩ ?_
  rintro ⟨k, a1012⟩ H locs ls ⟨hk, hF, hfa12, hP, hD, hS, hl⟩ ih12
  have hk : k ≤ cN := hk
  have hF : ∀ j, j < (fl cf tg x (hd g T x) (T 2 x) till k).length → a1012 26 j = nI ((fl cf tg x (hd g T x) (T 2 x) till k).getD j 0) := hF
  have hfa12 : ∀ i : Nat, i ≠ 26 → a1012 i = a i := hfa12
  have hP : va_P D vwCl (xM cA r (u, a1012)) H := hP
  have hD : va_D A (xM cA r (u, a1012)) := hD
  have hl : lv_has ls 6 [(5, .int (nI k)), (4, .int (nI (up cf tg x (hd g T x) (T 2 x) k))), (3, .int (nI ((fl cf tg x (hd g T x) (T 2 x) till k).length))), (0, .ref (r 0)), (1, .int (nI x)), (2, .int (nI till))] := hl
  have hul := up_le (tg := tg) (x := x) (h := hd g T x) (y := T 2 x) hcb k hk
  have hfl := fl_len cf tg x (hd g T x) (T 2 x) till k
  refine lv_iload hx hb dX10_fallsOf_12 (lv_at hl 0 rfl) ?_
  refine lv_aload_n hx hb dX10_fallsOf_14 rfl (lv_at hl 3 rfl) ?_
  refine va_get (D := D) (ci := 10) (v := .int (nI cN)) (C := RX10) (T := TX10) (N := 34) hx hb hts hinX10 hown hK hP 0 rfl rfl 25 (by decide) (hts (.fieldLink RX10 142 "OneNailModel" "comings" "I") (by decide +kernel)) (fun _ h9 => h9) (congrArg (fun z => some (Value.int z)) (hc)) dX10_fallsOf_15 ?_
  refine rn_ge (x := k) (y := cN) (tgt := 89) hx hb (by omega) (by omega) dX10_fallsOf_18 (by decide) (fun c_4 => ?_) (fun c_4 => ?_)
  · obtain rfl : k = cN := by omega
    refine lv_iload hx hb dX10_fallsOf_89 (lv_at hl 1 rfl) ?_
    refine lv_iload_n hx hb dX10_fallsOf_91 rfl (lv_at hl 5 rfl) ?_
    refine rn_ge (x := up cf tg x (hd g T x) (T 2 x) k) (y := till) (tgt := 106) hx hb (by omega) (by omega) dX10_fallsOf_92 (by decide) (fun c_5 => ?_) (fun c_5 => ?_)
    · refine lv_iload_n hx hb dX10_fallsOf_106 rfl (lv_at hl 2 rfl) ?_
      exact wIret hx hb hr hlocks (v := (nI ((fl cf tg x (hd g T x) (T 2 x) till k).length))) (u, a1012) (⟨by rw [fa_no (by omega)], rfl, hfa12, by rw [fa_no (by omega)]; exact hF⟩) hK hP hD hS dX10_fallsOf_107
    · refine lv_aload_n hx hb dX10_fallsOf_95 rfl (lv_at hl 3 rfl) ?_
      refine va_get (D := D) (ci := 10) (v := .ref (r 26)) (C := RX10) (T := TX10) (N := 34) hx hb hts hinX10 hown hK hP 0 rfl rfl 26 (by decide) (hts (.fieldLink RX10 58 "OneNailModel" "falls" "[I") (by decide +kernel)) (fun _ h9 => h9) rfl dX10_fallsOf_96 ?_
      refine lv_iload_n hx hb dX10_fallsOf_99 rfl (lv_at hl 2 rfl) ?_
      refine lv_iload hx hb dX10_fallsOf_100 (lv_at hl 1 rfl) ?_
      refine ra_iast hx hb hK hP hD hS 17 0 (n := 400) (f := (a1012 26)) (j := (fl cf tg x (hd g T x) (T 2 x) till k).length) (x := (nI (up cf tg x (hd g T x) (T 2 x) k))) rfl rfl (by omega) (by decide) dX10_fallsOf_102 (fun H locs hP hD hS => ?_)
      have hP : va_P D vwCl (xM cA r (u, (va_up a1012 26 (upd (a1012 26) ((fl cf tg x (hd g T x) (T 2 x) till k).length) (nI (up cf tg x (hd g T x) (T 2 x) k)))))) H := hP
      have hD : va_D A (xM cA r (u, (va_up a1012 26 (upd (a1012 26) ((fl cf tg x (hd g T x) (T 2 x) till k).length) (nI (up cf tg x (hd g T x) (T 2 x) k)))))) := hD
      refine rn_iinc (x := (fl cf tg x (hd g T x) (T 2 x) till k).length) (d := 1) (lv' := [(3, .int (nI ((fl cf tg x (hd g T x) (T 2 x) till k).length + 1))), (5, .int (nI k)), (4, .int (nI (up cf tg x (hd g T x) (T 2 x) k))), (0, .ref (r 0)), (1, .int (nI x)), (2, .int (nI till))]) hx hb rfl dX10_fallsOf_103 hl (k := 2) rfl (by decide) rfl (fun ls hl => ?_)
      refine lv_iload_n hx hb dX10_fallsOf_106 rfl (lv_at hl 0 rfl) ?_
      exact wIret hx hb hr hlocks (v := (nI ((fl cf tg x (hd g T x) (T 2 x) till k).length + 1))) (u, (va_up a1012 26 (upd (a1012 26) ((fl cf tg x (hd g T x) (T 2 x) till k).length) (nI (up cf tg x (hd g T x) (T 2 x) k))))) (⟨by rw [fa_yes (by omega), len_push], rfl, fun i h => (vup_ne h).trans (hfa12 i h), by rw [fa_yes (by omega)]; exact fl_push hF _⟩) hK hP hD hS dX10_fallsOf_107
  · have hcbk := hcb k (by omega)
    have htbk := htb k (by omega)
    refine lv_aload_n hx hb dX10_fallsOf_21 rfl (lv_at hl 3 rfl) ?_
    refine va_get (D := D) (ci := 10) (v := .ref (r 24)) (C := RX10) (T := TX10) (N := 34) hx hb hts hinX10 hown hK hP 0 rfl rfl 24 (by decide) (hts (.fieldLink RX10 55 "OneNailModel" "comesTo" "[I") (by decide +kernel)) (fun _ h9 => h9) rfl dX10_fallsOf_22 ?_
    refine lv_iload hx hb dX10_fallsOf_25 (lv_at hl 0 rfl) ?_
    refine ra_iald hx hb hK hP 16 0 (n := 400) (f := (a1012 24)) (j := k) (v := (nI (tg k))) rfl rfl (by omega) (by decide) ((congrFun (hfa12 24 (by decide)) (k)).trans (hct (k) (by omega))) dX10_fallsOf_27 ?_
    refine lv_iload_n hx hb dX10_fallsOf_28 rfl (lv_at hl 4 rfl) ?_
    refine rn_ne (x := tg k) (y := x) (tgt := 83) hx hb (by omega) (by omega) dX10_fallsOf_29 (by decide) (fun c_6 => ?_) (fun c_6 => ?_)
    · refine rn_iinc (x := k) (d := 1) (lv' := [(5, .int (nI (k + 1))), (4, .int (nI (up cf tg x (hd g T x) (T 2 x) k))), (3, .int (nI ((fl cf tg x (hd g T x) (T 2 x) till k).length))), (0, .ref (r 0)), (1, .int (nI x)), (2, .int (nI till))]) hx hb rfl dX10_fallsOf_83 hl (k := 0) rfl (by decide) rfl (fun ls hl => ?_)
      refine lv_goto (tgt := 12) hx hb dX10_fallsOf_86 (by decide) ?_
      have hl : lv_has ls 6 [(5, .int (nI (k + 1))), (4, .int (nI (up cf tg x (hd g T x) (T 2 x) (k + 1)))), (3, .int (nI ((fl cf tg x (hd g T x) (T 2 x) till k).length))), (0, .ref (r 0)), (1, .int (nI x)), (2, .int (nI till))] := lv_re hl 1 ⟨rfl, rfl⟩ (congrArg nI (up_no (by omega)).symm)
      have hl : lv_has ls 6 [(5, .int (nI (k + 1))), (4, .int (nI (up cf tg x (hd g T x) (T 2 x) (k + 1)))), (3, .int (nI ((fl cf tg x (hd g T x) (T 2 x) till (k + 1)).length))), (0, .ref (r 0)), (1, .int (nI x)), (2, .int (nI till))] := lv_re hl 2 ⟨rfl, rfl⟩ (congrArg nI (by rw [fl_no (by omega)]))
      exact ih12 ((k + 1), a1012) _ _ _ (show cN - (k + 1) < cN - k from by omega) ⟨(show (k + 1) ≤ cN from by omega), (show ∀ j, j < (fl cf tg x (hd g T x) (T 2 x) till (k + 1)).length → a1012 26 j = nI ((fl cf tg x (hd g T x) (T 2 x) till (k + 1)).getD j 0) from (by rw [fl_no (by omega)]; exact hF)), (fun i h26 => hfa12 i h26), hP, hD, hS, lv_sub hl [0, 1, 2, 3, 4, 5] rfl⟩
    · refine lv_iload hx hb dX10_fallsOf_32 (lv_at hl 1 rfl) ?_
      refine lv_aload_n hx hb dX10_fallsOf_34 rfl (lv_at hl 3 rfl) ?_
      refine va_get (D := D) (ci := 10) (v := .ref (r 23)) (C := RX10) (T := TX10) (N := 34) hx hb hts hinX10 hown hK hP 0 rfl rfl 23 (by decide) (hts (.fieldLink RX10 52 "OneNailModel" "comesAt" "[I") (by decide +kernel)) (fun _ h9 => h9) rfl dX10_fallsOf_35 ?_
      refine lv_iload hx hb dX10_fallsOf_38 (lv_at hl 0 rfl) ?_
      refine ra_iald hx hb hK hP 15 0 (n := 400) (f := (a1012 23)) (j := k) (v := (nI (cf k))) rfl rfl (by omega) (by decide) ((congrFun (hfa12 23 (by decide)) (k)).trans (hcf (k) (by omega))) dX10_fallsOf_40 ?_
      refine rn_ge (x := up cf tg x (hd g T x) (T 2 x) k) (y := cf k) (tgt := 61) hx hb (by omega) (by omega) dX10_fallsOf_41 (by decide) (fun c_7 => ?_) (fun c_7 => ?_)
      · refine lv_aload_n hx hb dX10_fallsOf_61 rfl (lv_at hl 3 rfl) ?_
        refine va_get (D := D) (ci := 10) (v := .ref (r 23)) (C := RX10) (T := TX10) (N := 34) hx hb hts hinX10 hown hK hP 0 rfl rfl 23 (by decide) (hts (.fieldLink RX10 52 "OneNailModel" "comesAt" "[I") (by decide +kernel)) (fun _ h9 => h9) rfl dX10_fallsOf_62 ?_
        refine lv_iload hx hb dX10_fallsOf_65 (lv_at hl 0 rfl) ?_
        refine ra_iald hx hb hK hP 15 0 (n := 400) (f := (a1012 23)) (j := k) (v := (nI (cf k))) rfl rfl (by omega) (by decide) ((congrFun (hfa12 23 (by decide)) (k)).trans (hcf (k) (by omega))) dX10_fallsOf_67 ?_
        refine lv_aload_n hx hb dX10_fallsOf_68 rfl (lv_at hl 3 rfl) ?_
        refine va_get (D := D) (ci := 10) (v := .ref (r 10)) (C := RX10) (T := TX10) (N := 34) hx hb hts hinX10 hown hK hP 0 rfl rfl 10 (by decide) (hts (.fieldLink RX10 25 "OneNailModel" "stays" "[I") (by decide +kernel)) (fun _ h9 => h9) rfl dX10_fallsOf_69 ?_
        refine lv_iload_n hx hb dX10_fallsOf_72 rfl (lv_at hl 4 rfl) ?_
        refine ra_iald hx hb hK hP 6 0 (n := 6) (f := (a1012 10)) (j := x) (v := (nI (T 2 x))) rfl rfl (by omega) (by decide) ((congrFun (hfa12 10 (by decide)) (x)).trans ((hM.2.2.2 (x) (by omega)).2.2.1)) dX10_fallsOf_73 ?_
        refine rn_iadd (x := cf k) (y := T 2 x) hx hb dX10_fallsOf_74 ?_
        refine lv_aload_n hx hb dX10_fallsOf_75 rfl (lv_at hl 3 rfl) ?_
        refine lv_iload_n hx hb dX10_fallsOf_76 rfl (lv_at hl 4 rfl) ?_
        refine wVi e0_S (As := [.int (nI x)]) (rest := [.int (nI ((cf k) + (T 2 x)))]) ⟨hx, hb, hml, hown, hts⟩ (kX10_holds l D cA r _ u a1012 g T x (MT.keep hM rfl rfl rfl (hfa12 8 (by decide)) (hfa12 9 (by decide)) (hfa12 10 (by decide)) (hfa12 11 (by decide)) (hfa12 12 (by decide))) hB (by omega)) (cwV 1 hts gX10_fallsOf_X10_holds rfl rfl rfl (by decide +kernel) ⟨Nat.le_of_ble_eq_true rfl, Nat.le_of_ble_eq_true rfl⟩) (va_recv hK hP (ci := 10) (q0 := 0) rfl rfl) hK hP hD hS hA hE rfl hl.1 rfl (Nat.le_of_ble_eq_true rfl) dX10_fallsOf_77 ⟨Nat.zero_le _, Nat.zero_le _⟩ (fun rv_8 z_10 H locs hw_9 hP hD hS => ?_)
        obtain ⟨rfl, rfl⟩ := hw_9
        have hP : va_P D vwCl (xM cA r (u, a1012)) H := hP
        have hD : va_D A (xM cA r (u, a1012)) := hD
        refine rn_iadd (x := (cf k) + (T 2 x)) (y := hd g T x) hx hb dX10_fallsOf_80 ?_
        refine lv_istore (lv' := [(4, .int (nI (((cf k) + (T 2 x)) + (hd g T x)))), (5, .int (nI k)), (3, .int (nI ((fl cf tg x (hd g T x) (T 2 x) till k).length))), (0, .ref (r 0)), (1, .int (nI x)), (2, .int (nI till))]) hx hb dX10_fallsOf_81 hl (by decide) rfl (fun ls hl => ?_)
        refine rn_iinc (x := k) (d := 1) (lv' := [(5, .int (nI (k + 1))), (4, .int (nI (((cf k) + (T 2 x)) + (hd g T x)))), (3, .int (nI ((fl cf tg x (hd g T x) (T 2 x) till k).length))), (0, .ref (r 0)), (1, .int (nI x)), (2, .int (nI till))]) hx hb rfl dX10_fallsOf_83 hl (k := 1) rfl (by decide) rfl (fun ls hl => ?_)
        refine lv_goto (tgt := 12) hx hb dX10_fallsOf_86 (by decide) ?_
        have hl : lv_has ls 6 [(5, .int (nI (k + 1))), (4, .int (nI (up cf tg x (hd g T x) (T 2 x) (k + 1)))), (3, .int (nI ((fl cf tg x (hd g T x) (T 2 x) till k).length))), (0, .ref (r 0)), (1, .int (nI x)), (2, .int (nI till))] := lv_re hl 1 ⟨rfl, rfl⟩ (congrArg nI (up_yes (by omega)).symm)
        have hl : lv_has ls 6 [(5, .int (nI (k + 1))), (4, .int (nI (up cf tg x (hd g T x) (T 2 x) (k + 1)))), (3, .int (nI ((fl cf tg x (hd g T x) (T 2 x) till (k + 1)).length))), (0, .ref (r 0)), (1, .int (nI x)), (2, .int (nI till))] := lv_re hl 2 ⟨rfl, rfl⟩ (congrArg nI (by rw [fl_no (by omega)]))
        exact ih12 ((k + 1), a1012) _ _ _ (show cN - (k + 1) < cN - k from by omega) ⟨(show (k + 1) ≤ cN from by omega), (show ∀ j, j < (fl cf tg x (hd g T x) (T 2 x) till (k + 1)).length → a1012 26 j = nI ((fl cf tg x (hd g T x) (T 2 x) till (k + 1)).getD j 0) from (by rw [fl_no (by omega)]; exact hF)), (fun i h26 => hfa12 i h26), hP, hD, hS, lv_sub hl [0, 1, 2, 3, 4, 5] rfl⟩
      · refine lv_iload hx hb dX10_fallsOf_44 (lv_at hl 1 rfl) ?_
        refine lv_iload_n hx hb dX10_fallsOf_46 rfl (lv_at hl 5 rfl) ?_
        refine rn_ge (x := up cf tg x (hd g T x) (T 2 x) k) (y := till) (tgt := 61) hx hb (by omega) (by omega) dX10_fallsOf_47 (by decide) (fun c_11 => ?_) (fun c_11 => ?_)
        · refine lv_aload_n hx hb dX10_fallsOf_61 rfl (lv_at hl 3 rfl) ?_
          refine va_get (D := D) (ci := 10) (v := .ref (r 23)) (C := RX10) (T := TX10) (N := 34) hx hb hts hinX10 hown hK hP 0 rfl rfl 23 (by decide) (hts (.fieldLink RX10 52 "OneNailModel" "comesAt" "[I") (by decide +kernel)) (fun _ h9 => h9) rfl dX10_fallsOf_62 ?_
          refine lv_iload hx hb dX10_fallsOf_65 (lv_at hl 0 rfl) ?_
          refine ra_iald hx hb hK hP 15 0 (n := 400) (f := (a1012 23)) (j := k) (v := (nI (cf k))) rfl rfl (by omega) (by decide) ((congrFun (hfa12 23 (by decide)) (k)).trans (hcf (k) (by omega))) dX10_fallsOf_67 ?_
          refine lv_aload_n hx hb dX10_fallsOf_68 rfl (lv_at hl 3 rfl) ?_
          refine va_get (D := D) (ci := 10) (v := .ref (r 10)) (C := RX10) (T := TX10) (N := 34) hx hb hts hinX10 hown hK hP 0 rfl rfl 10 (by decide) (hts (.fieldLink RX10 25 "OneNailModel" "stays" "[I") (by decide +kernel)) (fun _ h9 => h9) rfl dX10_fallsOf_69 ?_
          refine lv_iload_n hx hb dX10_fallsOf_72 rfl (lv_at hl 4 rfl) ?_
          refine ra_iald hx hb hK hP 6 0 (n := 6) (f := (a1012 10)) (j := x) (v := (nI (T 2 x))) rfl rfl (by omega) (by decide) ((congrFun (hfa12 10 (by decide)) (x)).trans ((hM.2.2.2 (x) (by omega)).2.2.1)) dX10_fallsOf_73 ?_
          refine rn_iadd (x := cf k) (y := T 2 x) hx hb dX10_fallsOf_74 ?_
          refine lv_aload_n hx hb dX10_fallsOf_75 rfl (lv_at hl 3 rfl) ?_
          refine lv_iload_n hx hb dX10_fallsOf_76 rfl (lv_at hl 4 rfl) ?_
          refine wVi e0_S (As := [.int (nI x)]) (rest := [.int (nI ((cf k) + (T 2 x)))]) ⟨hx, hb, hml, hown, hts⟩ (kX10_holds l D cA r _ u a1012 g T x (MT.keep hM rfl rfl rfl (hfa12 8 (by decide)) (hfa12 9 (by decide)) (hfa12 10 (by decide)) (hfa12 11 (by decide)) (hfa12 12 (by decide))) hB (by omega)) (cwV 1 hts gX10_fallsOf_X10_holds rfl rfl rfl (by decide +kernel) ⟨Nat.le_of_ble_eq_true rfl, Nat.le_of_ble_eq_true rfl⟩) (va_recv hK hP (ci := 10) (q0 := 0) rfl rfl) hK hP hD hS hA hE rfl hl.1 rfl (Nat.le_of_ble_eq_true rfl) dX10_fallsOf_77 ⟨Nat.zero_le _, Nat.zero_le _⟩ (fun rv_12 z_14 H locs hw_13 hP hD hS => ?_)
          obtain ⟨rfl, rfl⟩ := hw_13
          have hP : va_P D vwCl (xM cA r (u, a1012)) H := hP
          have hD : va_D A (xM cA r (u, a1012)) := hD
          refine rn_iadd (x := (cf k) + (T 2 x)) (y := hd g T x) hx hb dX10_fallsOf_80 ?_
          refine lv_istore (lv' := [(4, .int (nI (((cf k) + (T 2 x)) + (hd g T x)))), (5, .int (nI k)), (3, .int (nI ((fl cf tg x (hd g T x) (T 2 x) till k).length))), (0, .ref (r 0)), (1, .int (nI x)), (2, .int (nI till))]) hx hb dX10_fallsOf_81 hl (by decide) rfl (fun ls hl => ?_)
          refine rn_iinc (x := k) (d := 1) (lv' := [(5, .int (nI (k + 1))), (4, .int (nI (((cf k) + (T 2 x)) + (hd g T x)))), (3, .int (nI ((fl cf tg x (hd g T x) (T 2 x) till k).length))), (0, .ref (r 0)), (1, .int (nI x)), (2, .int (nI till))]) hx hb rfl dX10_fallsOf_83 hl (k := 1) rfl (by decide) rfl (fun ls hl => ?_)
          refine lv_goto (tgt := 12) hx hb dX10_fallsOf_86 (by decide) ?_
          have hl : lv_has ls 6 [(5, .int (nI (k + 1))), (4, .int (nI (up cf tg x (hd g T x) (T 2 x) (k + 1)))), (3, .int (nI ((fl cf tg x (hd g T x) (T 2 x) till k).length))), (0, .ref (r 0)), (1, .int (nI x)), (2, .int (nI till))] := lv_re hl 1 ⟨rfl, rfl⟩ (congrArg nI (up_yes (by omega)).symm)
          have hl : lv_has ls 6 [(5, .int (nI (k + 1))), (4, .int (nI (up cf tg x (hd g T x) (T 2 x) (k + 1)))), (3, .int (nI ((fl cf tg x (hd g T x) (T 2 x) till (k + 1)).length))), (0, .ref (r 0)), (1, .int (nI x)), (2, .int (nI till))] := lv_re hl 2 ⟨rfl, rfl⟩ (congrArg nI (by rw [fl_no (by omega)]))
          exact ih12 ((k + 1), a1012) _ _ _ (show cN - (k + 1) < cN - k from by omega) ⟨(show (k + 1) ≤ cN from by omega), (show ∀ j, j < (fl cf tg x (hd g T x) (T 2 x) till (k + 1)).length → a1012 26 j = nI ((fl cf tg x (hd g T x) (T 2 x) till (k + 1)).getD j 0) from (by rw [fl_no (by omega)]; exact hF)), (fun i h26 => hfa12 i h26), hP, hD, hS, lv_sub hl [0, 1, 2, 3, 4, 5] rfl⟩
        · refine lv_aload_n hx hb dX10_fallsOf_50 rfl (lv_at hl 3 rfl) ?_
          refine va_get (D := D) (ci := 10) (v := .ref (r 26)) (C := RX10) (T := TX10) (N := 34) hx hb hts hinX10 hown hK hP 0 rfl rfl 26 (by decide) (hts (.fieldLink RX10 58 "OneNailModel" "falls" "[I") (by decide +kernel)) (fun _ h9 => h9) rfl dX10_fallsOf_51 ?_
          refine lv_iload_n hx hb dX10_fallsOf_54 rfl (lv_at hl 2 rfl) ?_
          refine lv_iload hx hb dX10_fallsOf_55 (lv_at hl 1 rfl) ?_
          refine ra_iast hx hb hK hP hD hS 17 0 (n := 400) (f := (a1012 26)) (j := (fl cf tg x (hd g T x) (T 2 x) till k).length) (x := (nI (up cf tg x (hd g T x) (T 2 x) k))) rfl rfl (by omega) (by decide) dX10_fallsOf_57 (fun H locs hP hD hS => ?_)
          have hP : va_P D vwCl (xM cA r (u, (va_up a1012 26 (upd (a1012 26) ((fl cf tg x (hd g T x) (T 2 x) till k).length) (nI (up cf tg x (hd g T x) (T 2 x) k)))))) H := hP
          have hD : va_D A (xM cA r (u, (va_up a1012 26 (upd (a1012 26) ((fl cf tg x (hd g T x) (T 2 x) till k).length) (nI (up cf tg x (hd g T x) (T 2 x) k)))))) := hD
          refine rn_iinc (x := (fl cf tg x (hd g T x) (T 2 x) till k).length) (d := 1) (lv' := [(3, .int (nI ((fl cf tg x (hd g T x) (T 2 x) till k).length + 1))), (5, .int (nI k)), (4, .int (nI (up cf tg x (hd g T x) (T 2 x) k))), (0, .ref (r 0)), (1, .int (nI x)), (2, .int (nI till))]) hx hb rfl dX10_fallsOf_58 hl (k := 2) rfl (by decide) rfl (fun ls hl => ?_)
          refine lv_aload_n hx hb dX10_fallsOf_61 rfl (lv_at hl 3 rfl) ?_
          refine va_get (D := D) (ci := 10) (v := .ref (r 23)) (C := RX10) (T := TX10) (N := 34) hx hb hts hinX10 hown hK hP 0 rfl rfl 23 (by decide) (hts (.fieldLink RX10 52 "OneNailModel" "comesAt" "[I") (by decide +kernel)) (fun _ h9 => h9) rfl dX10_fallsOf_62 ?_
          refine lv_iload hx hb dX10_fallsOf_65 (lv_at hl 1 rfl) ?_
          refine ra_iald hx hb hK hP 15 0 (n := 400) (f := (a1012 23)) (j := k) (v := (nI (cf k))) rfl rfl (by omega) (by decide) ((congrFun (hfa12 23 (by decide)) (k)).trans (hcf (k) (by omega))) dX10_fallsOf_67 ?_
          refine lv_aload_n hx hb dX10_fallsOf_68 rfl (lv_at hl 3 rfl) ?_
          refine va_get (D := D) (ci := 10) (v := .ref (r 10)) (C := RX10) (T := TX10) (N := 34) hx hb hts hinX10 hown hK hP 0 rfl rfl 10 (by decide) (hts (.fieldLink RX10 25 "OneNailModel" "stays" "[I") (by decide +kernel)) (fun _ h9 => h9) rfl dX10_fallsOf_69 ?_
          refine lv_iload_n hx hb dX10_fallsOf_72 rfl (lv_at hl 4 rfl) ?_
          refine ra_iald hx hb hK hP 6 0 (n := 6) (f := (a1012 10)) (j := x) (v := (nI (T 2 x))) rfl rfl (by omega) (by decide) ((congrFun (hfa12 10 (by decide)) (x)).trans ((hM.2.2.2 (x) (by omega)).2.2.1)) dX10_fallsOf_73 ?_
          refine rn_iadd (x := cf k) (y := T 2 x) hx hb dX10_fallsOf_74 ?_
          refine lv_aload_n hx hb dX10_fallsOf_75 rfl (lv_at hl 3 rfl) ?_
          refine lv_iload_n hx hb dX10_fallsOf_76 rfl (lv_at hl 4 rfl) ?_
          refine wVi e0_S (As := [.int (nI x)]) (rest := [.int (nI ((cf k) + (T 2 x)))]) ⟨hx, hb, hml, hown, hts⟩ (kX10_holds l D cA r _ u (va_up a1012 26 (upd (a1012 26) ((fl cf tg x (hd g T x) (T 2 x) till k).length) (nI (up cf tg x (hd g T x) (T 2 x) k)))) g T x (MT.keep (MT.keep hM rfl rfl rfl (hfa12 8 (by decide)) (hfa12 9 (by decide)) (hfa12 10 (by decide)) (hfa12 11 (by decide)) (hfa12 12 (by decide))) rfl rfl rfl rfl rfl rfl rfl rfl) hB (by omega)) (cwV 1 hts gX10_fallsOf_X10_holds rfl rfl rfl (by decide +kernel) ⟨Nat.le_of_ble_eq_true rfl, Nat.le_of_ble_eq_true rfl⟩) (va_recv hK hP (ci := 10) (q0 := 0) rfl rfl) hK hP hD hS hA hE rfl hl.1 rfl (Nat.le_of_ble_eq_true rfl) dX10_fallsOf_77 ⟨Nat.zero_le _, Nat.zero_le _⟩ (fun rv_15 z_17 H locs hw_16 hP hD hS => ?_)
          obtain ⟨rfl, rfl⟩ := hw_16
          have hP : va_P D vwCl (xM cA r (u, (va_up a1012 26 (upd (a1012 26) ((fl cf tg x (hd g T x) (T 2 x) till k).length) (nI (up cf tg x (hd g T x) (T 2 x) k)))))) H := hP
          have hD : va_D A (xM cA r (u, (va_up a1012 26 (upd (a1012 26) ((fl cf tg x (hd g T x) (T 2 x) till k).length) (nI (up cf tg x (hd g T x) (T 2 x) k)))))) := hD
          refine rn_iadd (x := (cf k) + (T 2 x)) (y := hd g T x) hx hb dX10_fallsOf_80 ?_
          refine lv_istore (lv' := [(4, .int (nI (((cf k) + (T 2 x)) + (hd g T x)))), (3, .int (nI ((fl cf tg x (hd g T x) (T 2 x) till k).length + 1))), (5, .int (nI k)), (0, .ref (r 0)), (1, .int (nI x)), (2, .int (nI till))]) hx hb dX10_fallsOf_81 hl (by decide) rfl (fun ls hl => ?_)
          refine rn_iinc (x := k) (d := 1) (lv' := [(5, .int (nI (k + 1))), (4, .int (nI (((cf k) + (T 2 x)) + (hd g T x)))), (3, .int (nI ((fl cf tg x (hd g T x) (T 2 x) till k).length + 1))), (0, .ref (r 0)), (1, .int (nI x)), (2, .int (nI till))]) hx hb rfl dX10_fallsOf_83 hl (k := 2) rfl (by decide) rfl (fun ls hl => ?_)
          refine lv_goto (tgt := 12) hx hb dX10_fallsOf_86 (by decide) ?_
          have hl : lv_has ls 6 [(5, .int (nI (k + 1))), (4, .int (nI (up cf tg x (hd g T x) (T 2 x) (k + 1)))), (3, .int (nI ((fl cf tg x (hd g T x) (T 2 x) till k).length + 1))), (0, .ref (r 0)), (1, .int (nI x)), (2, .int (nI till))] := lv_re hl 1 ⟨rfl, rfl⟩ (congrArg nI (up_yes (by omega)).symm)
          have hl : lv_has ls 6 [(5, .int (nI (k + 1))), (4, .int (nI (up cf tg x (hd g T x) (T 2 x) (k + 1)))), (3, .int (nI ((fl cf tg x (hd g T x) (T 2 x) till (k + 1)).length))), (0, .ref (r 0)), (1, .int (nI x)), (2, .int (nI till))] := lv_re hl 2 ⟨rfl, rfl⟩ (congrArg nI (by rw [fl_yes ⟨by omega, by omega, by omega⟩, len_push]))
          exact ih12 ((k + 1), (va_up a1012 26 (upd (a1012 26) ((fl cf tg x (hd g T x) (T 2 x) till k).length) (nI (up cf tg x (hd g T x) (T 2 x) k))))) _ _ _ (show cN - (k + 1) < cN - k from by omega) ⟨(show (k + 1) ≤ cN from by omega), (show ∀ j, j < (fl cf tg x (hd g T x) (T 2 x) till (k + 1)).length → (va_up a1012 26 (upd (a1012 26) ((fl cf tg x (hd g T x) (T 2 x) till k).length) (nI (up cf tg x (hd g T x) (T 2 x) k)))) 26 j = nI ((fl cf tg x (hd g T x) (T 2 x) till (k + 1)).getD j 0) from (by rw [fl_yes ⟨by omega, by omega, by omega⟩]; exact fl_push hF _)), (fun i h26 => Eq.trans (vup_ne h26) (hfa12 i h26)), hP, hD, hS, lv_sub hl [0, 1, 2, 3, 4, 5] rfl⟩
end
