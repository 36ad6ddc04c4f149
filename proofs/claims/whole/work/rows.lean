section
-- ===== PART A: goes FIRST, ahead of the names: the tables' words, and 'selects' of the private methods out of them =====
/-- a private method of a class that the tables say can be made, by its rows of tables_1 -/
def lw_okq (q : MethodName × Nat) : Prop := (q.1.cls ≠ "java/lang/invoke/MethodHandle" ∧ q.1.cls ≠ "java/lang/invoke/VarHandle") ∧ Cond.instantiable q.1.cls q.2 ∈ tables_1 ∧ Cond.privateMethod q.1 ∈ tables_1 ∧ Cond.instanceMethod q.1 ∈ tables_1
theorem lw_p0 : lw_okq (⟨"DewLooms", "layText", "()I"⟩, 10) := ⟨⟨by decide +kernel, by decide +kernel⟩, List.mem_of_getElem? (i := 19) (by decide +kernel), List.mem_of_getElem? (i := 272) (by decide +kernel), List.mem_of_getElem? (i := 273) (by decide +kernel)⟩
theorem lw_p1 : lw_okq (⟨"DewLooms$Reader", "readNumbers", "(LDewLooms$Text;I)Z"⟩, 2) := ⟨⟨by decide +kernel, by decide +kernel⟩, List.mem_of_getElem? (i := 43) (by decide +kernel), List.mem_of_getElem? (i := 295) (by decide +kernel), List.mem_of_getElem? (i := 296) (by decide +kernel)⟩
theorem lw_p2 : lw_okq (⟨"DewLooms$Reader", "readNumber", "(LDewLooms$Text;)I"⟩, 2) := ⟨⟨by decide +kernel, by decide +kernel⟩, List.mem_of_getElem? (i := 43) (by decide +kernel), List.mem_of_getElem? (i := 302) (by decide +kernel), List.mem_of_getElem? (i := 303) (by decide +kernel)⟩
theorem lw_p3 : lw_okq (⟨"DewLooms$Reader", "tellNight", "(LDewLooms$Night;I)Z"⟩, 2) := ⟨⟨by decide +kernel, by decide +kernel⟩, List.mem_of_getElem? (i := 43) (by decide +kernel), List.mem_of_getElem? (i := 306) (by decide +kernel), List.mem_of_getElem? (i := 307) (by decide +kernel)⟩
theorem lw_p4 : lw_okq (⟨"DewLooms", "isNoLoom", "(I)Z"⟩, 10) := ⟨⟨by decide +kernel, by decide +kernel⟩, List.mem_of_getElem? (i := 19) (by decide +kernel), List.mem_of_getElem? (i := 433) (by decide +kernel), List.mem_of_getElem? (i := 434) (by decide +kernel)⟩
theorem lw_p5 : lw_okq (⟨"DewLooms$Night", "ofHour", "([III)I"⟩, 7) := ⟨⟨by decide +kernel, by decide +kernel⟩, List.mem_of_getElem? (i := 185) (by decide +kernel), List.mem_of_getElem? (i := 450) (by decide +kernel), List.mem_of_getElem? (i := 451) (by decide +kernel)⟩
theorem lw_p6 : lw_okq (⟨"DewLooms$Pile", "loseOldest", "()V"⟩, 2) := ⟨⟨by decide +kernel, by decide +kernel⟩, List.mem_of_getElem? (i := 125) (by decide +kernel), List.mem_of_getElem? (i := 479) (by decide +kernel), List.mem_of_getElem? (i := 480) (by decide +kernel)⟩
theorem lw_p7 : lw_okq (⟨"DewLooms$Loom", "settling", "(II)I"⟩, 7) := ⟨⟨by decide +kernel, by decide +kernel⟩, List.mem_of_getElem? (i := 64) (by decide +kernel), List.mem_of_getElem? (i := 502) (by decide +kernel), List.mem_of_getElem? (i := 503) (by decide +kernel)⟩
theorem lw_p8 : lw_okq (⟨"DewLooms", "yardsOfTrial", "()I"⟩, 10) := ⟨⟨by decide +kernel, by decide +kernel⟩, List.mem_of_getElem? (i := 19) (by decide +kernel), List.mem_of_getElem? (i := 570) (by decide +kernel), List.mem_of_getElem? (i := 571) (by decide +kernel)⟩
theorem lw_p9 : lw_okq (⟨"DewLooms", "hoursTillMerchants", "()I"⟩, 10) := ⟨⟨by decide +kernel, by decide +kernel⟩, List.mem_of_getElem? (i := 19) (by decide +kernel), List.mem_of_getElem? (i := 574) (by decide +kernel), List.mem_of_getElem? (i := 575) (by decide +kernel)⟩
theorem lw_p10 : lw_okq (⟨"DewLooms$Ways", "leastAbove", "(I)I"⟩, 4) := ⟨⟨by decide +kernel, by decide +kernel⟩, List.mem_of_getElem? (i := 165) (by decide +kernel), List.mem_of_getElem? (i := 618) (by decide +kernel), List.mem_of_getElem? (i := 619) (by decide +kernel)⟩
theorem lw_p11 : lw_okq (⟨"DewLooms$Ways", "swap", "(II)V"⟩, 4) := ⟨⟨by decide +kernel, by decide +kernel⟩, List.mem_of_getElem? (i := 165) (by decide +kernel), List.mem_of_getElem? (i := 622) (by decide +kernel), List.mem_of_getElem? (i := 623) (by decide +kernel)⟩
theorem lw_p12 : lw_okq (⟨"DewLooms$Ways", "turnBehind", "(I)V"⟩, 4) := ⟨⟨by decide +kernel, by decide +kernel⟩, List.mem_of_getElem? (i := 165) (by decide +kernel), List.mem_of_getElem? (i := 627) (by decide +kernel), List.mem_of_getElem? (i := 628) (by decide +kernel)⟩
theorem lw_p13 : lw_okq (⟨"DewLooms", "shadeTrial", "(I)V"⟩, 10) := ⟨⟨by decide +kernel, by decide +kernel⟩, List.mem_of_getElem? (i := 19) (by decide +kernel), List.mem_of_getElem? (i := 647) (by decide +kernel), List.mem_of_getElem? (i := 648) (by decide +kernel)⟩
theorem lw_p14 : lw_okq (⟨"DewLooms", "ownNextCold", "()I"⟩, 10) := ⟨⟨by decide +kernel, by decide +kernel⟩, List.mem_of_getElem? (i := 19) (by decide +kernel), List.mem_of_getElem? (i := 686) (by decide +kernel), List.mem_of_getElem? (i := 687) (by decide +kernel)⟩
theorem lw_p15 : lw_okq (⟨"DewLooms", "isAllSeenSo", "(I)Z"⟩, 10) := ⟨⟨by decide +kernel, by decide +kernel⟩, List.mem_of_getElem? (i := 19) (by decide +kernel), List.mem_of_getElem? (i := 690) (by decide +kernel), List.mem_of_getElem? (i := 691) (by decide +kernel)⟩
def lw_privs_1 : List (MethodName × Nat) := [(⟨"DewLooms", "layText", "()I"⟩, 10), (⟨"DewLooms$Reader", "readNumbers", "(LDewLooms$Text;I)Z"⟩, 2), (⟨"DewLooms$Reader", "readNumber", "(LDewLooms$Text;)I"⟩, 2), (⟨"DewLooms$Reader", "tellNight", "(LDewLooms$Night;I)Z"⟩, 2), (⟨"DewLooms", "isNoLoom", "(I)Z"⟩, 10), (⟨"DewLooms$Night", "ofHour", "([III)I"⟩, 7), (⟨"DewLooms$Pile", "loseOldest", "()V"⟩, 2), (⟨"DewLooms$Loom", "settling", "(II)I"⟩, 7), (⟨"DewLooms", "yardsOfTrial", "()I"⟩, 10), (⟨"DewLooms", "hoursTillMerchants", "()I"⟩, 10), (⟨"DewLooms$Ways", "leastAbove", "(I)I"⟩, 4), (⟨"DewLooms$Ways", "swap", "(II)V"⟩, 4), (⟨"DewLooms$Ways", "turnBehind", "(I)V"⟩, 4), (⟨"DewLooms", "shadeTrial", "(I)V"⟩, 10), (⟨"DewLooms", "ownNextCold", "()I"⟩, 10), (⟨"DewLooms", "isAllSeenSo", "(I)Z"⟩, 10)]
theorem lw_r1 : ∀ q ∈ lw_privs_1, lw_okq q := List.forall_mem_cons.mpr ⟨lw_p0, List.forall_mem_cons.mpr ⟨lw_p1, List.forall_mem_cons.mpr ⟨lw_p2, List.forall_mem_cons.mpr ⟨lw_p3, List.forall_mem_cons.mpr ⟨lw_p4, List.forall_mem_cons.mpr ⟨lw_p5, List.forall_mem_cons.mpr ⟨lw_p6, List.forall_mem_cons.mpr ⟨lw_p7, List.forall_mem_cons.mpr ⟨lw_p8, List.forall_mem_cons.mpr ⟨lw_p9, List.forall_mem_cons.mpr ⟨lw_p10, List.forall_mem_cons.mpr ⟨lw_p11, List.forall_mem_cons.mpr ⟨lw_p12, List.forall_mem_cons.mpr ⟨lw_p13, List.forall_mem_cons.mpr ⟨lw_p14, List.forall_mem_cons.mpr ⟨lw_p15, fun _ h => absurd h List.not_mem_nil⟩⟩⟩⟩⟩⟩⟩⟩⟩⟩⟩⟩⟩⟩⟩⟩
theorem lw_p16 : lw_okq (⟨"DewLooms", "chancesOfYard", "(III)I"⟩, 10) := ⟨⟨by decide +kernel, by decide +kernel⟩, List.mem_of_getElem? (i := 19) (by decide +kernel), List.mem_of_getElem? (i := 708) (by decide +kernel), List.mem_of_getElem? (i := 709) (by decide +kernel)⟩
theorem lw_p17 : lw_okq (⟨"DewLooms", "actByDraw", "(I)V"⟩, 10) := ⟨⟨by decide +kernel, by decide +kernel⟩, List.mem_of_getElem? (i := 19) (by decide +kernel), List.mem_of_getElem? (i := 729) (by decide +kernel), List.mem_of_getElem? (i := 730) (by decide +kernel)⟩
theorem lw_p18 : lw_okq (⟨"DewLoomsModel", "begins", "()V"⟩, 15) := ⟨⟨by decide +kernel, by decide +kernel⟩, List.mem_of_getElem? (i := 746) (by decide +kernel), List.mem_of_getElem? (i := 752) (by decide +kernel), List.mem_of_getElem? (i := 753) (by decide +kernel)⟩
theorem lw_p19 : lw_okq (⟨"DewLoomsModel", "loomOf", "(III)V"⟩, 15) := ⟨⟨by decide +kernel, by decide +kernel⟩, List.mem_of_getElem? (i := 746) (by decide +kernel), List.mem_of_getElem? (i := 756) (by decide +kernel), List.mem_of_getElem? (i := 757) (by decide +kernel)⟩
theorem lw_p20 : lw_okq (⟨"DewLoomsModel", "hourOf", "(II)V"⟩, 15) := ⟨⟨by decide +kernel, by decide +kernel⟩, List.mem_of_getElem? (i := 746) (by decide +kernel), List.mem_of_getElem? (i := 760) (by decide +kernel), List.mem_of_getElem? (i := 761) (by decide +kernel)⟩
theorem lw_p21 : lw_okq (⟨"DewLoomsModel", "lays", "()V"⟩, 15) := ⟨⟨by decide +kernel, by decide +kernel⟩, List.mem_of_getElem? (i := 746) (by decide +kernel), List.mem_of_getElem? (i := 764) (by decide +kernel), List.mem_of_getElem? (i := 765) (by decide +kernel)⟩
theorem lw_p22 : lw_okq (⟨"DewLoomsModel", "readsAll", "()I"⟩, 15) := ⟨⟨by decide +kernel, by decide +kernel⟩, List.mem_of_getElem? (i := 746) (by decide +kernel), List.mem_of_getElem? (i := 829) (by decide +kernel), List.mem_of_getElem? (i := 830) (by decide +kernel)⟩
theorem lw_p23 : lw_okq (⟨"DewLoomsModel", "readsItem", "(I)Z"⟩, 15) := ⟨⟨by decide +kernel, by decide +kernel⟩, List.mem_of_getElem? (i := 746) (by decide +kernel), List.mem_of_getElem? (i := 833) (by decide +kernel), List.mem_of_getElem? (i := 834) (by decide +kernel)⟩
theorem lw_p24 : lw_okq (⟨"DewLoomsModel", "readsLoom", "()Z"⟩, 15) := ⟨⟨by decide +kernel, by decide +kernel⟩, List.mem_of_getElem? (i := 746) (by decide +kernel), List.mem_of_getElem? (i := 837) (by decide +kernel), List.mem_of_getElem? (i := 838) (by decide +kernel)⟩
theorem lw_p25 : lw_okq (⟨"DewLoomsModel", "number", "(III)I"⟩, 15) := ⟨⟨by decide +kernel, by decide +kernel⟩, List.mem_of_getElem? (i := 746) (by decide +kernel), List.mem_of_getElem? (i := 841) (by decide +kernel), List.mem_of_getElem? (i := 842) (by decide +kernel)⟩
theorem lw_p26 : lw_okq (⟨"DewLoomsModel", "letterAt", "(I)I"⟩, 15) := ⟨⟨by decide +kernel, by decide +kernel⟩, List.mem_of_getElem? (i := 746) (by decide +kernel), List.mem_of_getElem? (i := 845) (by decide +kernel), List.mem_of_getElem? (i := 846) (by decide +kernel)⟩
theorem lw_p27 : lw_okq (⟨"DewLoomsModel", "one", "(III)Z"⟩, 15) := ⟨⟨by decide +kernel, by decide +kernel⟩, List.mem_of_getElem? (i := 746) (by decide +kernel), List.mem_of_getElem? (i := 852) (by decide +kernel), List.mem_of_getElem? (i := 853) (by decide +kernel)⟩
theorem lw_p28 : lw_okq (⟨"DewLoomsModel", "isLoom", "(I)Z"⟩, 15) := ⟨⟨by decide +kernel, by decide +kernel⟩, List.mem_of_getElem? (i := 746) (by decide +kernel), List.mem_of_getElem? (i := 864) (by decide +kernel), List.mem_of_getElem? (i := 865) (by decide +kernel)⟩
theorem lw_p29 : lw_okq (⟨"DewLoomsModel", "coldOf", "(I)I"⟩, 15) := ⟨⟨by decide +kernel, by decide +kernel⟩, List.mem_of_getElem? (i := 746) (by decide +kernel), List.mem_of_getElem? (i := 872) (by decide +kernel), List.mem_of_getElem? (i := 873) (by decide +kernel)⟩
theorem lw_p30 : lw_okq (⟨"DewLoomsModel", "nth", "(I)I"⟩, 15) := ⟨⟨by decide +kernel, by decide +kernel⟩, List.mem_of_getElem? (i := 746) (by decide +kernel), List.mem_of_getElem? (i := 876) (by decide +kernel), List.mem_of_getElem? (i := 877) (by decide +kernel)⟩
theorem lw_p31 : lw_okq (⟨"DewLoomsModel", "mistOf", "(I)I"⟩, 15) := ⟨⟨by decide +kernel, by decide +kernel⟩, List.mem_of_getElem? (i := 746) (by decide +kernel), List.mem_of_getElem? (i := 880) (by decide +kernel), List.mem_of_getElem? (i := 881) (by decide +kernel)⟩
def lw_privs_2 : List (MethodName × Nat) := [(⟨"DewLooms", "chancesOfYard", "(III)I"⟩, 10), (⟨"DewLooms", "actByDraw", "(I)V"⟩, 10), (⟨"DewLoomsModel", "begins", "()V"⟩, 15), (⟨"DewLoomsModel", "loomOf", "(III)V"⟩, 15), (⟨"DewLoomsModel", "hourOf", "(II)V"⟩, 15), (⟨"DewLoomsModel", "lays", "()V"⟩, 15), (⟨"DewLoomsModel", "readsAll", "()I"⟩, 15), (⟨"DewLoomsModel", "readsItem", "(I)Z"⟩, 15), (⟨"DewLoomsModel", "readsLoom", "()Z"⟩, 15), (⟨"DewLoomsModel", "number", "(III)I"⟩, 15), (⟨"DewLoomsModel", "letterAt", "(I)I"⟩, 15), (⟨"DewLoomsModel", "one", "(III)Z"⟩, 15), (⟨"DewLoomsModel", "isLoom", "(I)Z"⟩, 15), (⟨"DewLoomsModel", "coldOf", "(I)I"⟩, 15), (⟨"DewLoomsModel", "nth", "(I)I"⟩, 15), (⟨"DewLoomsModel", "mistOf", "(I)I"⟩, 15)]
theorem lw_r2 : ∀ q ∈ lw_privs_2, lw_okq q := List.forall_mem_cons.mpr ⟨lw_p16, List.forall_mem_cons.mpr ⟨lw_p17, List.forall_mem_cons.mpr ⟨lw_p18, List.forall_mem_cons.mpr ⟨lw_p19, List.forall_mem_cons.mpr ⟨lw_p20, List.forall_mem_cons.mpr ⟨lw_p21, List.forall_mem_cons.mpr ⟨lw_p22, List.forall_mem_cons.mpr ⟨lw_p23, List.forall_mem_cons.mpr ⟨lw_p24, List.forall_mem_cons.mpr ⟨lw_p25, List.forall_mem_cons.mpr ⟨lw_p26, List.forall_mem_cons.mpr ⟨lw_p27, List.forall_mem_cons.mpr ⟨lw_p28, List.forall_mem_cons.mpr ⟨lw_p29, List.forall_mem_cons.mpr ⟨lw_p30, List.forall_mem_cons.mpr ⟨lw_p31, fun _ h => absurd h List.not_mem_nil⟩⟩⟩⟩⟩⟩⟩⟩⟩⟩⟩⟩⟩⟩⟩⟩
theorem lw_p32 : lw_okq (⟨"DewLoomsModel", "loomAt", "(I)I"⟩, 15) := ⟨⟨by decide +kernel, by decide +kernel⟩, List.mem_of_getElem? (i := 746) (by decide +kernel), List.mem_of_getElem? (i := 888) (by decide +kernel), List.mem_of_getElem? (i := 889) (by decide +kernel)⟩
theorem lw_p33 : lw_okq (⟨"DewLoomsModel", "keeps", "()V"⟩, 15) := ⟨⟨by decide +kernel, by decide +kernel⟩, List.mem_of_getElem? (i := 746) (by decide +kernel), List.mem_of_getElem? (i := 896) (by decide +kernel), List.mem_of_getElem? (i := 897) (by decide +kernel)⟩
theorem lw_p34 : lw_okq (⟨"DewLoomsModel", "hours", "(I)V"⟩, 15) := ⟨⟨by decide +kernel, by decide +kernel⟩, List.mem_of_getElem? (i := 746) (by decide +kernel), List.mem_of_getElem? (i := 900) (by decide +kernel), List.mem_of_getElem? (i := 901) (by decide +kernel)⟩
theorem lw_p35 : lw_okq (⟨"DewLoomsModel", "passes", "(II)V"⟩, 15) := ⟨⟨by decide +kernel, by decide +kernel⟩, List.mem_of_getElem? (i := 746) (by decide +kernel), List.mem_of_getElem? (i := 904) (by decide +kernel), List.mem_of_getElem? (i := 905) (by decide +kernel)⟩
theorem lw_p36 : lw_okq (⟨"DewLoomsModel", "settles", "(III)I"⟩, 15) := ⟨⟨by decide +kernel, by decide +kernel⟩, List.mem_of_getElem? (i := 746) (by decide +kernel), List.mem_of_getElem? (i := 908) (by decide +kernel), List.mem_of_getElem? (i := 909) (by decide +kernel)⟩
theorem lw_p37 : lw_okq (⟨"DewLoomsModel", "holds", "(I)I"⟩, 15) := ⟨⟨by decide +kernel, by decide +kernel⟩, List.mem_of_getElem? (i := 746) (by decide +kernel), List.mem_of_getElem? (i := 912) (by decide +kernel), List.mem_of_getElem? (i := 913) (by decide +kernel)⟩
theorem lw_p38 : lw_okq (⟨"DewLoomsModel", "sumOf", "(I)I"⟩, 15) := ⟨⟨by decide +kernel, by decide +kernel⟩, List.mem_of_getElem? (i := 746) (by decide +kernel), List.mem_of_getElem? (i := 916) (by decide +kernel), List.mem_of_getElem? (i := 917) (by decide +kernel)⟩
theorem lw_p39 : lw_okq (⟨"DewLoomsModel", "weeps", "(I)V"⟩, 15) := ⟨⟨by decide +kernel, by decide +kernel⟩, List.mem_of_getElem? (i := 746) (by decide +kernel), List.mem_of_getElem? (i := 932) (by decide +kernel), List.mem_of_getElem? (i := 933) (by decide +kernel)⟩
theorem lw_p40 : lw_okq (⟨"DewLoomsModel", "keepsAside", "()V"⟩, 15) := ⟨⟨by decide +kernel, by decide +kernel⟩, List.mem_of_getElem? (i := 746) (by decide +kernel), List.mem_of_getElem? (i := 948) (by decide +kernel), List.mem_of_getElem? (i := 949) (by decide +kernel)⟩
theorem lw_p41 : lw_okq (⟨"DewLoomsModel", "bringsBack", "()V"⟩, 15) := ⟨⟨by decide +kernel, by decide +kernel⟩, List.mem_of_getElem? (i := 746) (by decide +kernel), List.mem_of_getElem? (i := 952) (by decide +kernel), List.mem_of_getElem? (i := 953) (by decide +kernel)⟩
theorem lw_p42 : lw_okq (⟨"DewLoomsModel", "sells", "()V"⟩, 15) := ⟨⟨by decide +kernel, by decide +kernel⟩, List.mem_of_getElem? (i := 746) (by decide +kernel), List.mem_of_getElem? (i := 960) (by decide +kernel), List.mem_of_getElem? (i := 961) (by decide +kernel)⟩
theorem lw_p43 : lw_okq (⟨"DewLoomsModel", "yardsNow", "()I"⟩, 15) := ⟨⟨by decide +kernel, by decide +kernel⟩, List.mem_of_getElem? (i := 746) (by decide +kernel), List.mem_of_getElem? (i := 964) (by decide +kernel), List.mem_of_getElem? (i := 965) (by decide +kernel)⟩
theorem lw_p44 : lw_okq (⟨"DewLoomsModel", "placeOf", "(I)I"⟩, 15) := ⟨⟨by decide +kernel, by decide +kernel⟩, List.mem_of_getElem? (i := 746) (by decide +kernel), List.mem_of_getElem? (i := 972) (by decide +kernel), List.mem_of_getElem? (i := 973) (by decide +kernel)⟩
theorem lw_p45 : lw_okq (⟨"DewLoomsModel", "isSo", "(I)Z"⟩, 15) := ⟨⟨by decide +kernel, by decide +kernel⟩, List.mem_of_getElem? (i := 746) (by decide +kernel), List.mem_of_getElem? (i := 1003) (by decide +kernel), List.mem_of_getElem? (i := 1004) (by decide +kernel)⟩
theorem lw_p46 : lw_okq (⟨"DewLoomsModel", "turn", "(I)V"⟩, 15) := ⟨⟨by decide +kernel, by decide +kernel⟩, List.mem_of_getElem? (i := 746) (by decide +kernel), List.mem_of_getElem? (i := 1022) (by decide +kernel), List.mem_of_getElem? (i := 1023) (by decide +kernel)⟩
def lw_privs_3 : List (MethodName × Nat) := [(⟨"DewLoomsModel", "loomAt", "(I)I"⟩, 15), (⟨"DewLoomsModel", "keeps", "()V"⟩, 15), (⟨"DewLoomsModel", "hours", "(I)V"⟩, 15), (⟨"DewLoomsModel", "passes", "(II)V"⟩, 15), (⟨"DewLoomsModel", "settles", "(III)I"⟩, 15), (⟨"DewLoomsModel", "holds", "(I)I"⟩, 15), (⟨"DewLoomsModel", "sumOf", "(I)I"⟩, 15), (⟨"DewLoomsModel", "weeps", "(I)V"⟩, 15), (⟨"DewLoomsModel", "keepsAside", "()V"⟩, 15), (⟨"DewLoomsModel", "bringsBack", "()V"⟩, 15), (⟨"DewLoomsModel", "sells", "()V"⟩, 15), (⟨"DewLoomsModel", "yardsNow", "()I"⟩, 15), (⟨"DewLoomsModel", "placeOf", "(I)I"⟩, 15), (⟨"DewLoomsModel", "isSo", "(I)Z"⟩, 15), (⟨"DewLoomsModel", "turn", "(I)V"⟩, 15)]
theorem lw_r3 : ∀ q ∈ lw_privs_3, lw_okq q := List.forall_mem_cons.mpr ⟨lw_p32, List.forall_mem_cons.mpr ⟨lw_p33, List.forall_mem_cons.mpr ⟨lw_p34, List.forall_mem_cons.mpr ⟨lw_p35, List.forall_mem_cons.mpr ⟨lw_p36, List.forall_mem_cons.mpr ⟨lw_p37, List.forall_mem_cons.mpr ⟨lw_p38, List.forall_mem_cons.mpr ⟨lw_p39, List.forall_mem_cons.mpr ⟨lw_p40, List.forall_mem_cons.mpr ⟨lw_p41, List.forall_mem_cons.mpr ⟨lw_p42, List.forall_mem_cons.mpr ⟨lw_p43, List.forall_mem_cons.mpr ⟨lw_p44, List.forall_mem_cons.mpr ⟨lw_p45, List.forall_mem_cons.mpr ⟨lw_p46, fun _ h => absurd h List.not_mem_nil⟩⟩⟩⟩⟩⟩⟩⟩⟩⟩⟩⟩⟩⟩⟩
def lw_privs : List (MethodName × Nat) := lw_privs_1 ++ (lw_privs_2 ++ (lw_privs_3))
def lw_tbl : List Cond := k2_sels lw_privs ++ tables_1
theorem lw_privs_ok : ∀ q ∈ lw_privs, lw_okq q := by
  show ∀ q ∈ lw_privs_1 ++ (lw_privs_2 ++ (lw_privs_3)), lw_okq q
  exact List.forall_mem_append.mpr ⟨lw_r1, List.forall_mem_append.mpr ⟨lw_r2, lw_r3⟩⟩
end
section
/-! names, field tables: as printed for this claim -/
def RX0 : String := "DewLooms$Loom"
def TX0 : u_T := fun k => match k with
  | 0 => ("DewLooms$Loom", "kind", "I", false)
  | 1 => ("DewLooms$Loom", "place", "I", false)
  | 2 => ("DewLooms$Loom", "threads", "I", false)
  | 3 => ("DewLooms$Loom", "drops", "I", false)
  | 4 => ("DewLooms$Loom", "spoiled", "I", false)
  | 5 => ("DewLooms$Loom", "ranDown", "I", false)
  | _ => ("DewLooms$Loom", "shaded", "Z", false)
def tyX0 : Nat → FieldType := fun k => match k with
  | 0 => .int
  | 1 => .int
  | 2 => .int
  | 3 => .int
  | 4 => .int
  | 5 => .int
  | _ => .boolean
theorem nmX0 : ∀ a, a < 7 → ∀ b, b < 7 → a ≠ b → (TX0 a).2.1 ≠ (TX0 b).2.1 := by decide +kernel
theorem tyX0_ok : ∀ k, k < 7 → parseFieldDescriptor (TX0 k).2.2.1 = some (tyX0 k) := by decide +kernel
abbrev cX0_init : ByteArray := prog_2_method_1_code
def yX0_init : MethodName := ⟨RX0, "<init>", "()V"⟩
abbrev cX0_clear : ByteArray := prog_2_method_2_code
def yX0_clear : MethodName := ⟨RX0, "clear", "(III)V"⟩
abbrev cX0_copy : ByteArray := prog_2_method_3_code
def yX0_copy : MethodName := ⟨RX0, "copy", "(LDewLooms$Loom;)V"⟩
abbrev cX0_tell : ByteArray := prog_2_method_4_code
def yX0_tell : MethodName := ⟨RX0, "tell", "(I)I"⟩
abbrev cX0_holds : ByteArray := prog_2_method_5_code
def yX0_holds : MethodName := ⟨RX0, "holds", "()I"⟩
abbrev cX0_turnShade : ByteArray := prog_2_method_6_code
def yX0_turnShade : MethodName := ⟨RX0, "turnShade", "()V"⟩
abbrev cX0_feelCow : ByteArray := prog_2_method_7_code
def yX0_feelCow : MethodName := ⟨RX0, "feelCow", "()V"⟩
abbrev cX0_takeTears : ByteArray := prog_2_method_8_code
def yX0_takeTears : MethodName := ⟨RX0, "takeTears", "()V"⟩
abbrev cX0_gather : ByteArray := prog_2_method_9_code
def yX0_gather : MethodName := ⟨RX0, "gather", "(III)V"⟩
abbrev cX0_settling : ByteArray := prog_2_method_10_code
def yX0_settling : MethodName := ⟨RX0, "settling", "(II)I"⟩
abbrev cX0_dry : ByteArray := prog_2_method_11_code
def yX0_dry : MethodName := ⟨RX0, "dry", "()V"⟩
def RX1 : String := "DewLooms$Night"
def TX1 : u_T := fun k => match k with
  | 0 => ("DewLooms$Night", "start", "LDewLooms$Slope;", true)
  | 1 => ("DewLooms$Night", "colds", "[I", true)
  | 2 => ("DewLooms$Night", "mists", "[I", true)
  | 3 => ("DewLooms$Night", "hoursTold", "I", false)
  | 4 => ("DewLooms$Night", "sun", "I", false)
  | 5 => ("DewLooms$Night", "merchants", "I", false)
  | _ => ("DewLooms$Night", "yard", "I", false)
def tyX1 : Nat → FieldType := fun k => match k with
  | 0 => .object "DewLooms$Slope"
  | 1 => .array .int
  | 2 => .array .int
  | 3 => .int
  | 4 => .int
  | 5 => .int
  | _ => .int
theorem nmX1 : ∀ a, a < 7 → ∀ b, b < 7 → a ≠ b → (TX1 a).2.1 ≠ (TX1 b).2.1 := by decide +kernel
theorem tyX1_ok : ∀ k, k < 7 → parseFieldDescriptor (TX1 k).2.2.1 = some (tyX1 k) := by decide +kernel
abbrev cX1_init : ByteArray := prog_3_method_1_code
def yX1_init : MethodName := ⟨RX1, "<init>", "()V"⟩
abbrev cX1_clear : ByteArray := prog_3_method_2_code
def yX1_clear : MethodName := ⟨RX1, "clear", "()V"⟩
abbrev cX1_addHour : ByteArray := prog_3_method_3_code
def yX1_addHour : MethodName := ⟨RX1, "addHour", "(II)Z"⟩
abbrev cX1_tellSun : ByteArray := prog_3_method_4_code
def yX1_tellSun : MethodName := ⟨RX1, "tellSun", "(I)Z"⟩
abbrev cX1_tellMerchants : ByteArray := prog_3_method_5_code
def yX1_tellMerchants : MethodName := ⟨RX1, "tellMerchants", "(I)Z"⟩
abbrev cX1_tellYard : ByteArray := prog_3_method_6_code
def yX1_tellYard : MethodName := ⟨RX1, "tellYard", "(I)Z"⟩
abbrev cX1_coldOf : ByteArray := prog_3_method_7_code
def yX1_coldOf : MethodName := ⟨RX1, "coldOf", "(I)I"⟩
abbrev cX1_mistOf : ByteArray := prog_3_method_8_code
def yX1_mistOf : MethodName := ⟨RX1, "mistOf", "(I)I"⟩
abbrev cX1_ofHour : ByteArray := prog_3_method_9_code
def yX1_ofHour : MethodName := ⟨RX1, "ofHour", "([III)I"⟩
abbrev cX1_goBy : ByteArray := prog_3_method_10_code
def yX1_goBy : MethodName := ⟨RX1, "goBy", "(LDewLooms$Slope;I)V"⟩
abbrev cX1_goByOne : ByteArray := prog_3_method_11_code
def yX1_goByOne : MethodName := ⟨RX1, "goByOne", "(LDewLooms$Slope;II)V"⟩
def RX2 : String := "DewLooms$Pile"
def TX2 : u_T := fun k => match k with
  | 0 => ("DewLooms$Pile", "slopes", "[LDewLooms$Slope;", true)
  | _ => ("DewLooms$Pile", "many", "I", false)
def tyX2 : Nat → FieldType := fun k => match k with
  | 0 => .array (.object "DewLooms$Slope")
  | _ => .int
theorem nmX2 : ∀ a, a < 2 → ∀ b, b < 2 → a ≠ b → (TX2 a).2.1 ≠ (TX2 b).2.1 := by decide +kernel
theorem tyX2_ok : ∀ k, k < 2 → parseFieldDescriptor (TX2 k).2.2.1 = some (tyX2 k) := by decide +kernel
abbrev cX2_init : ByteArray := prog_4_method_1_code
def yX2_init : MethodName := ⟨RX2, "<init>", "(I)V"⟩
abbrev cX2_clear : ByteArray := prog_4_method_2_code
def yX2_clear : MethodName := ⟨RX2, "clear", "()V"⟩
abbrev cX2_isFull : ByteArray := prog_4_method_3_code
def yX2_isFull : MethodName := ⟨RX2, "isFull", "()Z"⟩
abbrev cX2_put : ByteArray := prog_4_method_4_code
def yX2_put : MethodName := ⟨RX2, "put", "(LDewLooms$Slope;)V"⟩
abbrev cX2_loseOldest : ByteArray := prog_4_method_5_code
def yX2_loseOldest : MethodName := ⟨RX2, "loseOldest", "()V"⟩
abbrev cX2_takeInto : ByteArray := prog_4_method_6_code
def yX2_takeInto : MethodName := ⟨RX2, "takeInto", "(LDewLooms$Slope;)V"⟩
def RX3 : String := "DewLooms$Reader"
def TX3 : u_T := fun k => match k with
  | 0 => ("DewLooms$Reader", "numbers", "[I", true)
  | _ => ("DewLooms$Reader", "place", "I", false)
def tyX3 : Nat → FieldType := fun k => match k with
  | 0 => .array .int
  | _ => .int
theorem nmX3 : ∀ a, a < 2 → ∀ b, b < 2 → a ≠ b → (TX3 a).2.1 ≠ (TX3 b).2.1 := by decide +kernel
theorem tyX3_ok : ∀ k, k < 2 → parseFieldDescriptor (TX3 k).2.2.1 = some (tyX3 k) := by decide +kernel
abbrev cX3_init : ByteArray := prog_5_method_1_code
def yX3_init : MethodName := ⟨RX3, "<init>", "()V"⟩
abbrev cX3_read : ByteArray := prog_5_method_2_code
def yX3_read : MethodName := ⟨RX3, "read", "(LDewLooms$Text;LDewLooms$Night;)I"⟩
abbrev cX3_numbersBehind : ByteArray := prog_5_method_3_code
def yX3_numbersBehind : MethodName := ⟨RX3, "numbersBehind", "(I)I"⟩
abbrev cX3_readNumbers : ByteArray := prog_5_method_4_code
def yX3_readNumbers : MethodName := ⟨RX3, "readNumbers", "(LDewLooms$Text;I)Z"⟩
abbrev cX3_readNumber : ByteArray := prog_5_method_5_code
def yX3_readNumber : MethodName := ⟨RX3, "readNumber", "(LDewLooms$Text;)I"⟩
abbrev cX3_isFigure : ByteArray := prog_5_method_6_code
def yX3_isFigure : MethodName := ⟨RX3, "isFigure", "(I)Z"⟩
abbrev cX3_tellNight : ByteArray := prog_5_method_7_code
def yX3_tellNight : MethodName := ⟨RX3, "tellNight", "(LDewLooms$Night;I)Z"⟩
def RX4 : String := "DewLooms$Sights"
def TX4 : u_T := fun k => match k with
  | 0 => ("DewLooms$Sights", "looms", "[I", true)
  | 1 => ("DewLooms$Sights", "drops", "[I", true)
  | 2 => ("DewLooms$Sights", "hours", "[I", true)
  | _ => ("DewLooms$Sights", "many", "I", false)
def tyX4 : Nat → FieldType := fun k => match k with
  | 0 => .array .int
  | 1 => .array .int
  | 2 => .array .int
  | _ => .int
theorem nmX4 : ∀ a, a < 4 → ∀ b, b < 4 → a ≠ b → (TX4 a).2.1 ≠ (TX4 b).2.1 := by decide +kernel
theorem tyX4_ok : ∀ k, k < 4 → parseFieldDescriptor (TX4 k).2.2.1 = some (tyX4 k) := by decide +kernel
abbrev cX4_init : ByteArray := prog_6_method_1_code
def yX4_init : MethodName := ⟨RX4, "<init>", "()V"⟩
abbrev cX4_clear : ByteArray := prog_6_method_2_code
def yX4_clear : MethodName := ⟨RX4, "clear", "()V"⟩
abbrev cX4_isFull : ByteArray := prog_6_method_3_code
def yX4_isFull : MethodName := ⟨RX4, "isFull", "()Z"⟩
abbrev cX4_put : ByteArray := prog_6_method_4_code
def yX4_put : MethodName := ⟨RX4, "put", "(III)V"⟩
abbrev cX4_isSo : ByteArray := prog_6_method_5_code
def yX4_isSo : MethodName := ⟨RX4, "isSo", "(LDewLooms$Slope;I)Z"⟩
def RX5 : String := "DewLooms$Slope"
def TX5 : u_T := fun k => match k with
  | 0 => ("DewLooms$Slope", "looms", "[LDewLooms$Loom;", true)
  | 1 => ("DewLooms$Slope", "fromAbove", "[I", true)
  | 2 => ("DewLooms$Slope", "many", "I", false)
  | 3 => ("DewLooms$Slope", "hour", "I", false)
  | _ => ("DewLooms$Slope", "ranOff", "I", false)
def tyX5 : Nat → FieldType := fun k => match k with
  | 0 => .array (.object "DewLooms$Loom")
  | 1 => .array .int
  | 2 => .int
  | 3 => .int
  | _ => .int
theorem nmX5 : ∀ a, a < 5 → ∀ b, b < 5 → a ≠ b → (TX5 a).2.1 ≠ (TX5 b).2.1 := by decide +kernel
theorem tyX5_ok : ∀ k, k < 5 → parseFieldDescriptor (TX5 k).2.2.1 = some (tyX5 k) := by decide +kernel
abbrev cX5_init : ByteArray := prog_7_method_1_code
def yX5_init : MethodName := ⟨RX5, "<init>", "()V"⟩
abbrev cX5_clear : ByteArray := prog_7_method_2_code
def yX5_clear : MethodName := ⟨RX5, "clear", "()V"⟩
abbrev cX5_copy : ByteArray := prog_7_method_3_code
def yX5_copy : MethodName := ⟨RX5, "copy", "(LDewLooms$Slope;)V"⟩
abbrev cX5_addLoom : ByteArray := prog_7_method_4_code
def yX5_addLoom : MethodName := ⟨RX5, "addLoom", "(III)Z"⟩
abbrev cX5_pick : ByteArray := prog_7_method_5_code
def yX5_pick : MethodName := ⟨RX5, "pick", "(I)LDewLooms$Loom;"⟩
abbrev cX5_loomOn : ByteArray := prog_7_method_6_code
def yX5_loomOn : MethodName := ⟨RX5, "loomOn", "(I)I"⟩
abbrev cX5_rank : ByteArray := prog_7_method_7_code
def yX5_rank : MethodName := ⟨RX5, "rank", "()V"⟩
abbrev cX5_nextAbove : ByteArray := prog_7_method_8_code
def yX5_nextAbove : MethodName := ⟨RX5, "nextAbove", "(I)I"⟩
abbrev cX5_gather : ByteArray := prog_7_method_9_code
def yX5_gather : MethodName := ⟨RX5, "gather", "(II)V"⟩
abbrev cX5_dry : ByteArray := prog_7_method_10_code
def yX5_dry : MethodName := ⟨RX5, "dry", "()V"⟩
abbrev cX5_allDrops : ByteArray := prog_7_method_11_code
def yX5_allDrops : MethodName := ⟨RX5, "allDrops", "()I"⟩
abbrev cX5_allSpoiled : ByteArray := prog_7_method_12_code
def yX5_allSpoiled : MethodName := ⟨RX5, "allSpoiled", "()I"⟩
abbrev cX5_shades : ByteArray := prog_7_method_13_code
def yX5_shades : MethodName := ⟨RX5, "shades", "()I"⟩
abbrev cX5_yardBits : ByteArray := prog_7_method_14_code
def yX5_yardBits : MethodName := ⟨RX5, "yardBits", "(I)I"⟩
def RX6 : String := "DewLooms$Text"
def TX6 : u_T := fun k => match k with
  | 0 => ("DewLooms$Text", "letters", "[C", true)
  | _ => ("DewLooms$Text", "many", "I", false)
def tyX6 : Nat → FieldType := fun k => match k with
  | 0 => .array .char
  | _ => .int
theorem nmX6 : ∀ a, a < 2 → ∀ b, b < 2 → a ≠ b → (TX6 a).2.1 ≠ (TX6 b).2.1 := by decide +kernel
theorem tyX6_ok : ∀ k, k < 2 → parseFieldDescriptor (TX6 k).2.2.1 = some (tyX6 k) := by decide +kernel
abbrev cX6_init : ByteArray := prog_8_method_1_code
def yX6_init : MethodName := ⟨RX6, "<init>", "()V"⟩
abbrev cX6_clear : ByteArray := prog_8_method_2_code
def yX6_clear : MethodName := ⟨RX6, "clear", "()V"⟩
abbrev cX6_isFull : ByteArray := prog_8_method_3_code
def yX6_isFull : MethodName := ⟨RX6, "isFull", "()Z"⟩
abbrev cX6_append : ByteArray := prog_8_method_4_code
def yX6_append : MethodName := ⟨RX6, "append", "(C)V"⟩
abbrev cX6_letterOn : ByteArray := prog_8_method_5_code
def yX6_letterOn : MethodName := ⟨RX6, "letterOn", "(I)I"⟩
def RX7 : String := "DewLooms$Ways"
def TX7 : u_T := fun k => match k with
  | 0 => ("DewLooms$Ways", "places", "[I", true)
  | 1 => ("DewLooms$Ways", "bestPlaces", "[I", true)
  | 2 => ("DewLooms$Ways", "many", "I", false)
  | _ => ("DewLooms$Ways", "bestYards", "I", false)
def tyX7 : Nat → FieldType := fun k => match k with
  | 0 => .array .int
  | 1 => .array .int
  | 2 => .int
  | _ => .int
theorem nmX7 : ∀ a, a < 4 → ∀ b, b < 4 → a ≠ b → (TX7 a).2.1 ≠ (TX7 b).2.1 := by decide +kernel
theorem tyX7_ok : ∀ k, k < 4 → parseFieldDescriptor (TX7 k).2.2.1 = some (tyX7 k) := by decide +kernel
abbrev cX7_init : ByteArray := prog_9_method_1_code
def yX7_init : MethodName := ⟨RX7, "<init>", "()V"⟩
abbrev cX7_begin : ByteArray := prog_9_method_2_code
def yX7_begin : MethodName := ⟨RX7, "begin", "(LDewLooms$Slope;)V"⟩
abbrev cX7_applyTo : ByteArray := prog_9_method_3_code
def yX7_applyTo : MethodName := ⟨RX7, "applyTo", "(LDewLooms$Slope;)V"⟩
abbrev cX7_weigh : ByteArray := prog_9_method_4_code
def yX7_weigh : MethodName := ⟨RX7, "weigh", "(I)V"⟩
abbrev cX7_isFound : ByteArray := prog_9_method_5_code
def yX7_isFound : MethodName := ⟨RX7, "isFound", "()Z"⟩
abbrev cX7_bestPlace : ByteArray := prog_9_method_6_code
def yX7_bestPlace : MethodName := ⟨RX7, "bestPlace", "(I)I"⟩
abbrev cX7_goOn : ByteArray := prog_9_method_7_code
def yX7_goOn : MethodName := ⟨RX7, "goOn", "()Z"⟩
abbrev cX7_leastAbove : ByteArray := prog_9_method_8_code
def yX7_leastAbove : MethodName := ⟨RX7, "leastAbove", "(I)I"⟩
abbrev cX7_turnBehind : ByteArray := prog_9_method_9_code
def yX7_turnBehind : MethodName := ⟨RX7, "turnBehind", "(I)V"⟩
abbrev cX7_swap : ByteArray := prog_9_method_10_code
def yX7_swap : MethodName := ⟨RX7, "swap", "(II)V"⟩
def RX8 : String := "DewLooms"
def TX8 : u_T := fun k => match k with
  | 0 => ("DewLooms", "text", "LDewLooms$Text;", true)
  | 1 => ("DewLooms", "reader", "LDewLooms$Reader;", true)
  | 2 => ("DewLooms", "now", "LDewLooms$Slope;", true)
  | 3 => ("DewLooms", "trial", "LDewLooms$Slope;", true)
  | 4 => ("DewLooms", "acts", "LDewLooms$Pile;", true)
  | 5 => ("DewLooms", "kept", "LDewLooms$Pile;", true)
  | 6 => ("DewLooms", "sights", "LDewLooms$Sights;", true)
  | 7 => ("DewLooms", "ways", "LDewLooms$Ways;", true)
  | 8 => ("DewLooms", "night", "LDewLooms$Night;", false)
  | _ => ("DewLooms", "draft", "LDewLooms$Night;", false)
def tyX8 : Nat → FieldType := fun k => match k with
  | 0 => .object "DewLooms$Text"
  | 1 => .object "DewLooms$Reader"
  | 2 => .object "DewLooms$Slope"
  | 3 => .object "DewLooms$Slope"
  | 4 => .object "DewLooms$Pile"
  | 5 => .object "DewLooms$Pile"
  | 6 => .object "DewLooms$Sights"
  | 7 => .object "DewLooms$Ways"
  | 8 => .object "DewLooms$Night"
  | _ => .object "DewLooms$Night"
theorem nmX8 : ∀ a, a < 10 → ∀ b, b < 10 → a ≠ b → (TX8 a).2.1 ≠ (TX8 b).2.1 := by decide +kernel
theorem tyX8_ok : ∀ k, k < 10 → parseFieldDescriptor (TX8 k).2.2.1 = some (tyX8 k) := by decide +kernel
abbrev cX8_init : ByteArray := prog_1_method_1_code
def yX8_init : MethodName := ⟨RX8, "<init>", "()V"⟩
abbrev cX8_write : ByteArray := prog_1_method_2_code
def yX8_write : MethodName := ⟨RX8, "write", "(I)I"⟩
abbrev cX8_wipe : ByteArray := prog_1_method_3_code
def yX8_wipe : MethodName := ⟨RX8, "wipe", "()I"⟩
abbrev cX8_fault : ByteArray := prog_1_method_4_code
def yX8_fault : MethodName := ⟨RX8, "fault", "()I"⟩
abbrev cX8_lay : ByteArray := prog_1_method_5_code
def yX8_lay : MethodName := ⟨RX8, "lay", "()I"⟩
abbrev cX8_loom : ByteArray := prog_1_method_6_code
def yX8_loom : MethodName := ⟨RX8, "loom", "(II)I"⟩
abbrev cX8_hour : ByteArray := prog_1_method_7_code
def yX8_hour : MethodName := ⟨RX8, "hour", "(II)I"⟩
abbrev cX8_at : ByteArray := prog_1_method_8_code
def yX8_at : MethodName := ⟨RX8, "at", "(I)I"⟩
abbrev cX8_pass : ByteArray := prog_1_method_9_code
def yX8_pass : MethodName := ⟨RX8, "pass", "(I)I"⟩
abbrev cX8_shade : ByteArray := prog_1_method_10_code
def yX8_shade : MethodName := ⟨RX8, "shade", "(I)I"⟩
abbrev cX8_cow : ByteArray := prog_1_method_11_code
def yX8_cow : MethodName := ⟨RX8, "cow", "(I)I"⟩
abbrev cX8_tears : ByteArray := prog_1_method_12_code
def yX8_tears : MethodName := ⟨RX8, "tears", "(I)I"⟩
abbrev cX8_set : ByteArray := prog_1_method_13_code
def yX8_set : MethodName := ⟨RX8, "set", "(II)I"⟩
abbrev cX8_undo : ByteArray := prog_1_method_14_code
def yX8_undo : MethodName := ⟨RX8, "undo", "()I"⟩
abbrev cX8_behind : ByteArray := prog_1_method_15_code
def yX8_behind : MethodName := ⟨RX8, "behind", "(III)I"⟩
abbrev cX8_yards : ByteArray := prog_1_method_16_code
def yX8_yards : MethodName := ⟨RX8, "yards", "()I"⟩
abbrev cX8_setting : ByteArray := prog_1_method_17_code
def yX8_setting : MethodName := ⟨RX8, "setting", "(I)I"⟩
abbrev cX8_shading : ByteArray := prog_1_method_18_code
def yX8_shading : MethodName := ⟨RX8, "shading", "(I)I"⟩
abbrev cX8_wants : ByteArray := prog_1_method_19_code
def yX8_wants : MethodName := ⟨RX8, "wants", "(I)I"⟩
abbrev cX8_drips : ByteArray := prog_1_method_20_code
def yX8_drips : MethodName := ⟨RX8, "drips", "(I)I"⟩
abbrev cX8_seen : ByteArray := prog_1_method_21_code
def yX8_seen : MethodName := ⟨RX8, "seen", "(III)I"⟩
abbrev cX8_forget : ByteArray := prog_1_method_22_code
def yX8_forget : MethodName := ⟨RX8, "forget", "()I"⟩
abbrev cX8_cows : ByteArray := prog_1_method_23_code
def yX8_cows : MethodName := ⟨RX8, "cows", "()I"⟩
abbrev cX8_colds : ByteArray := prog_1_method_24_code
def yX8_colds : MethodName := ⟨RX8, "colds", "()I"⟩
abbrev cX8_likely : ByteArray := prog_1_method_25_code
def yX8_likely : MethodName := ⟨RX8, "likely", "(IIII)I"⟩
abbrev cX8_year : ByteArray := prog_1_method_26_code
def yX8_year : MethodName := ⟨RX8, "year", "(III)I"⟩
abbrev cX8_keep : ByteArray := prog_1_method_27_code
def yX8_keep : MethodName := ⟨RX8, "keep", "()I"⟩
abbrev cX8_back : ByteArray := prog_1_method_28_code
def yX8_back : MethodName := ⟨RX8, "back", "()I"⟩
abbrev cX8_count : ByteArray := prog_1_method_29_code
def yX8_count : MethodName := ⟨RX8, "count", "(I)I"⟩
abbrev cX8_layText : ByteArray := prog_1_method_30_code
def yX8_layText : MethodName := ⟨RX8, "layText", "()I"⟩
abbrev cX8_isNoLoom : ByteArray := prog_1_method_31_code
def yX8_isNoLoom : MethodName := ⟨RX8, "isNoLoom", "(I)Z"⟩
abbrev cX8_isNoPlace : ByteArray := prog_1_method_32_code
def yX8_isNoPlace : MethodName := ⟨RX8, "isNoPlace", "(I)Z"⟩
abbrev cX8_isOutside : ByteArray := prog_1_method_33_code
def yX8_isOutside : MethodName := ⟨RX8, "isOutside", "(III)Z"⟩
abbrev cX8_hasBit : ByteArray := prog_1_method_34_code
def yX8_hasBit : MethodName := ⟨RX8, "hasBit", "(II)Z"⟩
abbrev cX8_yardsOfTrial : ByteArray := prog_1_method_35_code
def yX8_yardsOfTrial : MethodName := ⟨RX8, "yardsOfTrial", "()I"⟩
abbrev cX8_hoursTillMerchants : ByteArray := prog_1_method_36_code
def yX8_hoursTillMerchants : MethodName := ⟨RX8, "hoursTillMerchants", "()I"⟩
abbrev cX8_shadeTrial : ByteArray := prog_1_method_37_code
def yX8_shadeTrial : MethodName := ⟨RX8, "shadeTrial", "(I)V"⟩
abbrev cX8_ownNextCold : ByteArray := prog_1_method_38_code
def yX8_ownNextCold : MethodName := ⟨RX8, "ownNextCold", "()I"⟩
abbrev cX8_isAllSeenSo : ByteArray := prog_1_method_39_code
def yX8_isAllSeenSo : MethodName := ⟨RX8, "isAllSeenSo", "(I)Z"⟩
abbrev cX8_chancesOfYard : ByteArray := prog_1_method_40_code
def yX8_chancesOfYard : MethodName := ⟨RX8, "chancesOfYard", "(III)I"⟩
abbrev cX8_power : ByteArray := prog_1_method_41_code
def yX8_power : MethodName := ⟨RX8, "power", "(II)I"⟩
abbrev cX8_sharedPower : ByteArray := prog_1_method_42_code
def yX8_sharedPower : MethodName := ⟨RX8, "sharedPower", "(III)I"⟩
abbrev cX8_draw : ByteArray := prog_1_method_43_code
def yX8_draw : MethodName := ⟨RX8, "draw", "(II)I"⟩
abbrev cX8_actByDraw : ByteArray := prog_1_method_44_code
def yX8_actByDraw : MethodName := ⟨RX8, "actByDraw", "(I)V"⟩
def RX9 : String := "DewLoomsModel"
def TX9 : u_T := fun k => match k with
  | 0 => ("DewLoomsModel", "text", "[I", true)
  | 1 => ("DewLoomsModel", "typed", "I", false)
  | 2 => ("DewLoomsModel", "told", "[I", true)
  | 3 => ("DewLoomsModel", "draft", "[I", true)
  | 4 => ("DewLoomsModel", "begun", "[I", true)
  | 5 => ("DewLoomsModel", "s", "[I", true)
  | 6 => ("DewLoomsModel", "past", "[I", true)
  | 7 => ("DewLoomsModel", "known", "I", false)
  | 8 => ("DewLoomsModel", "images", "[I", true)
  | 9 => ("DewLoomsModel", "kept", "I", false)
  | 10 => ("DewLoomsModel", "notes", "[I", true)
  | 11 => ("DewLoomsModel", "noted", "I", false)
  | 12 => ("DewLoomsModel", "at", "I", false)
  | 13 => ("DewLoomsModel", "drips", "[I", true)
  | _ => ("DewLoomsModel", "held", "[I", true)
def tyX9 : Nat → FieldType := fun k => match k with
  | 0 => .array .int
  | 1 => .int
  | 2 => .array .int
  | 3 => .array .int
  | 4 => .array .int
  | 5 => .array .int
  | 6 => .array .int
  | 7 => .int
  | 8 => .array .int
  | 9 => .int
  | 10 => .array .int
  | 11 => .int
  | 12 => .int
  | 13 => .array .int
  | _ => .array .int
theorem nmX9 : ∀ a, a < 15 → ∀ b, b < 15 → a ≠ b → (TX9 a).2.1 ≠ (TX9 b).2.1 := by decide +kernel
theorem tyX9_ok : ∀ k, k < 15 → parseFieldDescriptor (TX9 k).2.2.1 = some (tyX9 k) := by decide +kernel
abbrev cX9_init : ByteArray := prog_11_method_1_code
def yX9_init : MethodName := ⟨RX9, "<init>", "()V"⟩
abbrev cX9_in : ByteArray := prog_11_method_3_code
def yX9_in : MethodName := ⟨RX9, "in", "(III)Z"⟩
abbrev cX9_isLoom : ByteArray := prog_11_method_4_code
def yX9_isLoom : MethodName := ⟨RX9, "isLoom", "(I)Z"⟩
abbrev cX9_write : ByteArray := prog_11_method_5_code
def yX9_write : MethodName := ⟨RX9, "write", "(I)I"⟩
abbrev cX9_wipe : ByteArray := prog_11_method_6_code
def yX9_wipe : MethodName := ⟨RX9, "wipe", "()I"⟩
abbrev cX9_letterAt : ByteArray := prog_11_method_7_code
def yX9_letterAt : MethodName := ⟨RX9, "letterAt", "(I)I"⟩
abbrev cX9_isFigure : ByteArray := prog_11_method_8_code
def yX9_isFigure : MethodName := ⟨RX9, "isFigure", "(I)Z"⟩
abbrev cX9_number : ByteArray := prog_11_method_9_code
def yX9_number : MethodName := ⟨RX9, "number", "(III)I"⟩
abbrev cX9_begins : ByteArray := prog_11_method_10_code
def yX9_begins : MethodName := ⟨RX9, "begins", "()V"⟩
abbrev cX9_loomOf : ByteArray := prog_11_method_11_code
def yX9_loomOf : MethodName := ⟨RX9, "loomOf", "(III)V"⟩
abbrev cX9_hourOf : ByteArray := prog_11_method_12_code
def yX9_hourOf : MethodName := ⟨RX9, "hourOf", "(II)V"⟩
abbrev cX9_one : ByteArray := prog_11_method_13_code
def yX9_one : MethodName := ⟨RX9, "one", "(III)Z"⟩
abbrev cX9_readsLoom : ByteArray := prog_11_method_14_code
def yX9_readsLoom : MethodName := ⟨RX9, "readsLoom", "()Z"⟩
abbrev cX9_readsItem : ByteArray := prog_11_method_15_code
def yX9_readsItem : MethodName := ⟨RX9, "readsItem", "(I)Z"⟩
abbrev cX9_readsAll : ByteArray := prog_11_method_16_code
def yX9_readsAll : MethodName := ⟨RX9, "readsAll", "()I"⟩
abbrev cX9_fault : ByteArray := prog_11_method_17_code
def yX9_fault : MethodName := ⟨RX9, "fault", "()I"⟩
abbrev cX9_lays : ByteArray := prog_11_method_18_code
def yX9_lays : MethodName := ⟨RX9, "lays", "()V"⟩
abbrev cX9_lay : ByteArray := prog_11_method_19_code
def yX9_lay : MethodName := ⟨RX9, "lay", "()I"⟩
abbrev cX9_loom : ByteArray := prog_11_method_20_code
def yX9_loom : MethodName := ⟨RX9, "loom", "(II)I"⟩
abbrev cX9_nth : ByteArray := prog_11_method_21_code
def yX9_nth : MethodName := ⟨RX9, "nth", "(I)I"⟩
abbrev cX9_coldOf : ByteArray := prog_11_method_22_code
def yX9_coldOf : MethodName := ⟨RX9, "coldOf", "(I)I"⟩
abbrev cX9_mistOf : ByteArray := prog_11_method_23_code
def yX9_mistOf : MethodName := ⟨RX9, "mistOf", "(I)I"⟩
abbrev cX9_hour : ByteArray := prog_11_method_24_code
def yX9_hour : MethodName := ⟨RX9, "hour", "(II)I"⟩
abbrev cX9_loomAt : ByteArray := prog_11_method_25_code
def yX9_loomAt : MethodName := ⟨RX9, "loomAt", "(I)I"⟩
abbrev cX9_at : ByteArray := prog_11_method_26_code
def yX9_at : MethodName := ⟨RX9, "at", "(I)I"⟩
abbrev cX9_keeps : ByteArray := prog_11_method_27_code
def yX9_keeps : MethodName := ⟨RX9, "keeps", "()V"⟩
abbrev cX9_holds : ByteArray := prog_11_method_28_code
def yX9_holds : MethodName := ⟨RX9, "holds", "(I)I"⟩
abbrev cX9_settles : ByteArray := prog_11_method_29_code
def yX9_settles : MethodName := ⟨RX9, "settles", "(III)I"⟩
abbrev cX9_passes : ByteArray := prog_11_method_30_code
def yX9_passes : MethodName := ⟨RX9, "passes", "(II)V"⟩
abbrev cX9_hours : ByteArray := prog_11_method_31_code
def yX9_hours : MethodName := ⟨RX9, "hours", "(I)V"⟩
abbrev cX9_sumOf : ByteArray := prog_11_method_32_code
def yX9_sumOf : MethodName := ⟨RX9, "sumOf", "(I)I"⟩
abbrev cX9_pass : ByteArray := prog_11_method_33_code
def yX9_pass : MethodName := ⟨RX9, "pass", "(I)I"⟩
abbrev cX9_shade : ByteArray := prog_11_method_34_code
def yX9_shade : MethodName := ⟨RX9, "shade", "(I)I"⟩
abbrev cX9_cow : ByteArray := prog_11_method_35_code
def yX9_cow : MethodName := ⟨RX9, "cow", "(I)I"⟩
abbrev cX9_weeps : ByteArray := prog_11_method_36_code
def yX9_weeps : MethodName := ⟨RX9, "weeps", "(I)V"⟩
abbrev cX9_tears : ByteArray := prog_11_method_37_code
def yX9_tears : MethodName := ⟨RX9, "tears", "(I)I"⟩
abbrev cX9_set : ByteArray := prog_11_method_38_code
def yX9_set : MethodName := ⟨RX9, "set", "(II)I"⟩
abbrev cX9_undo : ByteArray := prog_11_method_39_code
def yX9_undo : MethodName := ⟨RX9, "undo", "()I"⟩
abbrev cX9_keepsAside : ByteArray := prog_11_method_40_code
def yX9_keepsAside : MethodName := ⟨RX9, "keepsAside", "()V"⟩
abbrev cX9_bringsBack : ByteArray := prog_11_method_41_code
def yX9_bringsBack : MethodName := ⟨RX9, "bringsBack", "()V"⟩
abbrev cX9_behind : ByteArray := prog_11_method_42_code
def yX9_behind : MethodName := ⟨RX9, "behind", "(III)I"⟩
abbrev cX9_yardsNow : ByteArray := prog_11_method_43_code
def yX9_yardsNow : MethodName := ⟨RX9, "yardsNow", "()I"⟩
abbrev cX9_ones : ByteArray := prog_11_method_44_code
def yX9_ones : MethodName := ⟨RX9, "ones", "(I)I"⟩
abbrev cX9_sells : ByteArray := prog_11_method_45_code
def yX9_sells : MethodName := ⟨RX9, "sells", "()V"⟩
abbrev cX9_yards : ByteArray := prog_11_method_46_code
def yX9_yards : MethodName := ⟨RX9, "yards", "()I"⟩
abbrev cX9_placeOf : ByteArray := prog_11_method_47_code
def yX9_placeOf : MethodName := ⟨RX9, "placeOf", "(I)I"⟩
abbrev cX9_setting : ByteArray := prog_11_method_48_code
def yX9_setting : MethodName := ⟨RX9, "setting", "(I)I"⟩
abbrev cX9_shading : ByteArray := prog_11_method_49_code
def yX9_shading : MethodName := ⟨RX9, "shading", "(I)I"⟩
abbrev cX9_wants : ByteArray := prog_11_method_50_code
def yX9_wants : MethodName := ⟨RX9, "wants", "(I)I"⟩
abbrev cX9_drips : ByteArray := prog_11_method_51_code
def yX9_drips : MethodName := ⟨RX9, "drips", "(I)I"⟩
abbrev cX9_seen : ByteArray := prog_11_method_52_code
def yX9_seen : MethodName := ⟨RX9, "seen", "(III)I"⟩
abbrev cX9_forget : ByteArray := prog_11_method_53_code
def yX9_forget : MethodName := ⟨RX9, "forget", "()I"⟩
abbrev cX9_isSo : ByteArray := prog_11_method_54_code
def yX9_isSo : MethodName := ⟨RX9, "isSo", "(I)Z"⟩
abbrev cX9_cows : ByteArray := prog_11_method_55_code
def yX9_cows : MethodName := ⟨RX9, "cows", "()I"⟩
abbrev cX9_colds : ByteArray := prog_11_method_56_code
def yX9_colds : MethodName := ⟨RX9, "colds", "()I"⟩
abbrev cX9_likely : ByteArray := prog_11_method_57_code
def yX9_likely : MethodName := ⟨RX9, "likely", "(IIII)I"⟩
abbrev cX9_turn : ByteArray := prog_11_method_58_code
def yX9_turn : MethodName := ⟨RX9, "turn", "(I)V"⟩
abbrev cX9_year : ByteArray := prog_11_method_59_code
def yX9_year : MethodName := ⟨RX9, "year", "(III)I"⟩
abbrev cX9_keep : ByteArray := prog_11_method_60_code
def yX9_keep : MethodName := ⟨RX9, "keep", "()I"⟩
abbrev cX9_back : ByteArray := prog_11_method_61_code
def yX9_back : MethodName := ⟨RX9, "back", "()I"⟩
abbrev cX9_count : ByteArray := prog_11_method_62_code
def yX9_count : MethodName := ⟨RX9, "count", "(I)I"⟩
def RJ6 : String := "java/lang/Integer"
def TJ6 : u_T := fun k => match k with
  | _ => ("", "", "", false)
def tyJ6 : Nat → FieldType := fun k => match k with
  | _ => .int
theorem nmJ6 : ∀ a, a < 0 → ∀ b, b < 0 → a ≠ b → (TJ6 a).2.1 ≠ (TJ6 b).2.1 := by decide +kernel
theorem tyJ6_ok : ∀ k, k < 0 → parseFieldDescriptor (TJ6 k).2.2.1 = some (tyJ6 k) := by decide +kernel
abbrev cJ6_bitCount_0f7a4 : ByteArray := prog_12_method_49_code
def yJ6_bitCount_0f7a4 : MethodName := ⟨RJ6, "bitCount", "(I)I"⟩
def RJ9 : String := "java/lang/Math"
def TJ9 : u_T := fun k => match k with
  | _ => ("", "", "", false)
def tyJ9 : Nat → FieldType := fun k => match k with
  | _ => .int
theorem nmJ9 : ∀ a, a < 0 → ∀ b, b < 0 → a ≠ b → (TJ9 a).2.1 ≠ (TJ9 b).2.1 := by decide +kernel
theorem tyJ9_ok : ∀ k, k < 0 → parseFieldDescriptor (TJ9 k).2.2.1 = some (tyJ9 k) := by decide +kernel
abbrev cJ9_max_7cf53 : ByteArray := prog_13_method_65_code
def yJ9_max_7cf53 : MethodName := ⟨RJ9, "max", "(II)I"⟩
abbrev cJ9_min_7cf53 : ByteArray := prog_13_method_69_code
def yJ9_min_7cf53 : MethodName := ⟨RJ9, "min", "(II)I"⟩
def RJ0 : String := "java/lang/String"
def TJ0 : u_T := fun k => match k with
  | _ => ("", "", "", false)
def tyJ0 : Nat → FieldType := fun k => match k with
  | _ => .int
theorem nmJ0 : ∀ a, a < 0 → ∀ b, b < 0 → a ≠ b → (TJ0 a).2.1 ≠ (TJ0 b).2.1 := by decide +kernel
theorem tyJ0_ok : ∀ k, k < 0 → parseFieldDescriptor (TJ0 k).2.2.1 = some (tyJ0 k) := by decide +kernel
abbrev cJ0_length_8abf5 : ByteArray := prog_14_method_54_code
def yJ0_length_8abf5 : MethodName := ⟨RJ0, "length", "()I"⟩
abbrev cJ0_charAt_5068e : ByteArray := prog_14_method_56_code
def yJ0_charAt_5068e : MethodName := ⟨RJ0, "charAt", "(I)C"⟩
abbrev cJ0_coder_7d493 : ByteArray := prog_14_method_152_code
def yJ0_coder_7d493 : MethodName := ⟨RJ0, "coder", "()B"⟩
abbrev cJ0_isLatin1_aae02 : ByteArray := prog_14_method_154_code
def yJ0_isLatin1_aae02 : MethodName := ⟨RJ0, "isLatin1", "()Z"⟩
abbrev cJ0_checkIndex_df160 : ByteArray := prog_14_method_155_code
def yJ0_checkIndex_df160 : MethodName := ⟨RJ0, "checkIndex", "(II)V"⟩
def RJ1 : String := "java/lang/StringLatin1"
def TJ1 : u_T := fun k => match k with
  | _ => ("", "", "", false)
def tyJ1 : Nat → FieldType := fun k => match k with
  | _ => .int
theorem nmJ1 : ∀ a, a < 0 → ∀ b, b < 0 → a ≠ b → (TJ1 a).2.1 ≠ (TJ1 b).2.1 := by decide +kernel
theorem tyJ1_ok : ∀ k, k < 0 → parseFieldDescriptor (TJ1 k).2.2.1 = some (tyJ1 k) := by decide +kernel
abbrev cJ1_charAt_3b067 : ByteArray := prog_15_method_2_code
def yJ1_charAt_3b067 : MethodName := ⟨RJ1, "charAt", "([BI)C"⟩
def RJ2 : String := "java/lang/StringUTF16"
def TJ2 : u_T := fun k => match k with
  | _ => ("", "", "", false)
def tyJ2 : Nat → FieldType := fun k => match k with
  | _ => .int
theorem nmJ2 : ∀ a, a < 0 → ∀ b, b < 0 → a ≠ b → (TJ2 a).2.1 ≠ (TJ2 b).2.1 := by decide +kernel
theorem tyJ2_ok : ∀ k, k < 0 → parseFieldDescriptor (TJ2 k).2.2.1 = some (tyJ2 k) := by decide +kernel
abbrev cJ2_getChar_3b067 : ByteArray := prog_16_method_5_code
def yJ2_getChar_3b067 : MethodName := ⟨RJ2, "getChar", "([BI)C"⟩
abbrev cJ2_length_9d52b : ByteArray := prog_16_method_6_code
def yJ2_length_9d52b : MethodName := ⟨RJ2, "length", "([B)I"⟩
abbrev cJ2_charAt_3b067 : ByteArray := prog_16_method_83_code
def yJ2_charAt_3b067 : MethodName := ⟨RJ2, "charAt", "([BI)C"⟩
abbrev cJ2_checkIndex_2214a : ByteArray := prog_16_method_91_code
def yJ2_checkIndex_2214a : MethodName := ⟨RJ2, "checkIndex", "(I[B)V"⟩
def RJ10 : String := "java/lang/System"
def TJ10 : u_T := fun k => match k with
  | _ => ("", "", "", false)
def tyJ10 : Nat → FieldType := fun k => match k with
  | _ => .int
theorem nmJ10 : ∀ a, a < 0 → ∀ b, b < 0 → a ≠ b → (TJ10 a).2.1 ≠ (TJ10 b).2.1 := by decide +kernel
theorem tyJ10_ok : ∀ k, k < 0 → parseFieldDescriptor (TJ10 k).2.2.1 = some (tyJ10 k) := by decide +kernel
def RJ3 : String := "jdk/internal/util/Preconditions"
def TJ3 : u_T := fun k => match k with
  | _ => ("", "", "", false)
def tyJ3 : Nat → FieldType := fun k => match k with
  | _ => .int
theorem nmJ3 : ∀ a, a < 0 → ∀ b, b < 0 → a ≠ b → (TJ3 a).2.1 ≠ (TJ3 b).2.1 := by decide +kernel
theorem tyJ3_ok : ∀ k, k < 0 → parseFieldDescriptor (TJ3 k).2.2.1 = some (tyJ3 k) := by decide +kernel
abbrev cJ3_checkIndex_8e157 : ByteArray := prog_18_method_11_code
def yJ3_checkIndex_8e157 : MethodName := ⟨RJ3, "checkIndex", "(IILjava/util/function/BiFunction;)I"⟩
def RL : String := "DewLoomsLaw"
abbrev cL_law : ByteArray := code
abbrev vwCl : List vw_C := [(RX0, TX0, 7), (RX1, TX1, 7), (RX2, TX2, 2), (RX3, TX3, 2), (RX4, TX4, 4), (RX5, TX5, 5), (RX6, TX6, 2), (RX7, TX7, 4), (RX8, TX8, 10), (RX9, TX9, 15)]
end
section
/-! THE LIGHT WALK. The whole system's cells lie from the address z on, one behind the other: cell id is at z + id. kd: what kind each is (0..9: the objects of vwCl; 10 char[], 11 int[], 12 DewLooms$Loom[], 13 DewLooms$Slope[]), nn: how long an array is. The memory is (n, I, Q): n cells are made, I id j is the j-th int (field or element) of cell id, Q id j the j-th reference (an id). -/
def kdL : List Nat := [8, 6, 10, 3, 11] ++ [5, 12, 11, 0, 0, 0, 0, 0, 0] ++ [5, 12, 11, 0, 0, 0, 0, 0, 0] ++ ([2, 13] ++ [5, 12, 11, 0, 0, 0, 0, 0, 0] ++ [5, 12, 11, 0, 0, 0, 0, 0, 0] ++ [5, 12, 11, 0, 0, 0, 0, 0, 0] ++ [5, 12, 11, 0, 0, 0, 0, 0, 0] ++ [5, 12, 11, 0, 0, 0, 0, 0, 0] ++ [5, 12, 11, 0, 0, 0, 0, 0, 0] ++ [5, 12, 11, 0, 0, 0, 0, 0, 0] ++ [5, 12, 11, 0, 0, 0, 0, 0, 0]) ++ ([2, 13] ++ [5, 12, 11, 0, 0, 0, 0, 0, 0] ++ [5, 12, 11, 0, 0, 0, 0, 0, 0]) ++ [4, 11, 11, 11] ++ [7, 11, 11] ++ ([1] ++ [5, 12, 11, 0, 0, 0, 0, 0, 0] ++ [11, 11]) ++ ([1] ++ [5, 12, 11, 0, 0, 0, 0, 0, 0] ++ [11, 11]) ++ [9, 11, 11, 11, 11, 11, 11, 11, 11, 11, 11]

def nnL : List Nat := [0, 0, 200, 0, 3] ++ [0, 6, 6, 0, 0, 0, 0, 0, 0] ++ [0, 6, 6, 0, 0, 0, 0, 0, 0] ++ ([0, 8] ++ [0, 6, 6, 0, 0, 0, 0, 0, 0] ++ [0, 6, 6, 0, 0, 0, 0, 0, 0] ++ [0, 6, 6, 0, 0, 0, 0, 0, 0] ++ [0, 6, 6, 0, 0, 0, 0, 0, 0] ++ [0, 6, 6, 0, 0, 0, 0, 0, 0] ++ [0, 6, 6, 0, 0, 0, 0, 0, 0] ++ [0, 6, 6, 0, 0, 0, 0, 0, 0] ++ [0, 6, 6, 0, 0, 0, 0, 0, 0]) ++ ([0, 2] ++ [0, 6, 6, 0, 0, 0, 0, 0, 0] ++ [0, 6, 6, 0, 0, 0, 0, 0, 0]) ++ [0, 6, 6, 6] ++ [0, 6, 6] ++ ([0] ++ [0, 6, 6, 0, 0, 0, 0, 0, 0] ++ [12, 12]) ++ ([0] ++ [0, 6, 6, 0, 0, 0, 0, 0, 0] ++ [12, 12]) ++ [0, 200, 41, 41, 6, 26, 208, 52, 6, 6, 26]
def kd (id : Nat) : Nat := kdL.getD id 99
def nn (id : Nat) : Nat := nnL.getD id 0
def nfL : List Nat := [7, 7, 2, 2, 4, 5, 2, 4, 10, 15]
def nf (k : Nat) : Nat := nfL.getD k 0
def isRL : List (List Bool) := [[false, false, false, false, false, false, false], [true, true, true, false, false, false, false], [true, false], [true, false], [true, true, true, false], [true, true, false, false, false], [true, false], [true, true, false, false], [true, true, true, true, true, true, true, true, true, true], [true, false, true, true, true, true, true, false, true, false, true, false, false, true, true]]
def isR (k j : Nat) : Bool := (isRL.getD k []).getD j false
abbrev MI : Type := Nat → Nat → Int32
abbrev MQ2 : Type := Nat → Nat → Option Nat
def flds (z : Nat) (I : MI) (Q : MQ2) (id : Nat) : List Value := (List.range (nf (kd id))).map (fun j => if isR (kd id) j then va_rf ((Q id j).map (fun r => z + r)) else .int (I id j))
def cel (cy : Nat → ClassId) (z : Nat) (I : MI) (Q : MQ2) (id : Nat) : va_E := if kd id < 10 then .inr (kd id, flds z I Q id) else if kd id < 12 then .inl (cy (kd id), nn id, .inl (I id)) else .inl (cy (kd id), nn id, .inr (.inr (.inr (.inr (fun j => (Q id j).map (fun r => z + r))))))
def pool (cy : Nat → ClassId) (z n : Nat) (I : MI) (Q : MQ2) : va_W := (List.range n).map (fun id => (z + id, cel cy z I Q id))
def tysOf (cy : Nat → ClassId) : List (ClassId × FieldType) := [(cy 10, .char), (cy 11, .int), (cy 12, .object "DewLooms$Loom"), (cy 13, .object "DewLooms$Slope")]
def up2 {α : Type} (I : Nat → Nat → α) (a j : Nat) (v : α) : Nat → Nat → α := fun b k => if b = a ∧ k = j then v else I b k
def setRow {α : Type} (I : Nat → Nat → α) (a : Nat) (f : Nat → α) : Nat → Nat → α := fun b k => if b = a then f k else I b k
theorem up2_same {α : Type} (I : Nat → Nat → α) (a j : Nat) (v : α) : up2 I a j v a j = v := by simp [up2]
theorem up2_ne {α : Type} {I : Nat → Nat → α} {a j b k : Nat} {v : α} (h : ¬ (b = a ∧ k = j)) : up2 I a j v b k = I b k := by simp only [up2, if_neg h]
theorem up2_row {α : Type} {I : Nat → Nat → α} {a j b : Nat} {v : α} (h : b ≠ a) : up2 I a j v b = I b := by funext k; exact up2_ne (fun e => h e.1)
theorem setRow_same {α : Type} (I : Nat → Nat → α) (a : Nat) (f : Nat → α) : setRow I a f a = f := by funext k; simp [setRow]
theorem setRow_ne {α : Type} {I : Nat → Nat → α} {a b : Nat} {f : Nat → α} (h : b ≠ a) : setRow I a f b = I b := by funext k; simp only [setRow, if_neg h]
theorem pool_get {cy : Nat → ClassId} {z n : Nat} {I : MI} {Q : MQ2} {id : Nat} (h : id < n) : (pool cy z n I Q)[id]? = some (z + id, cel cy z I Q id) := by
  unfold pool
  rw [List.getElem?_map, List.getElem?_range h]
  rfl
theorem pool_len {cy : Nat → ClassId} {z n : Nat} {I : MI} {Q : MQ2} : (pool cy z n I Q).length = n := by simp [pool]
theorem pool_at {cy : Nat → ClassId} {z n : Nat} {I : MI} {Q : MQ2} {k : Nat} {q : Nat × va_E} (h : (pool cy z n I Q)[k]? = some q) : k < n ∧ q = (z + k, cel cy z I Q k) := by
  have hk : k < n := by have := (List.getElem?_eq_some_iff.mp h).1; rwa [pool_len] at this
  rw [pool_get hk] at h
  exact ⟨hk, (Option.some.inj h).symm⟩
theorem pool_D {cy : Nat → ClassId} {z n : Nat} {I : MI} {Q : MQ2} : va_D (fun q : Nat => z ≤ q) (pool cy z n I Q) := by
  refine ⟨fun i j p q hp hq h => ?_, fun k q hk => ?_⟩
  · obtain ⟨-, rfl⟩ := pool_at hp
    obtain ⟨-, rfl⟩ := pool_at hq
    have h : z + i = z + j := h
    omega
  · obtain ⟨-, rfl⟩ := pool_at hk
    exact Nat.le_add_right z k
/-- one cell of the pool put: another memory -/
theorem pool_set {cy : Nat → ClassId} {z n : Nat} {I I' : MI} {Q Q' : MQ2} {id : Nat} {e : va_E} (h : id < n) (he : cel cy z I' Q' id = e) (ho : ∀ b, b ≠ id → cel cy z I' Q' b = cel cy z I Q b) : (pool cy z n I Q).set id (z + id, e) = pool cy z n I' Q' := by
  apply List.ext_getElem?
  intro k
  by_cases hk : k < n
  · rw [pool_get hk]
    by_cases e1 : k = id
    · subst e1
      rw [List.getElem?_set_self (by rw [pool_len]; exact hk), he]
    · rw [List.getElem?_set_ne (Ne.symm e1), pool_get hk, ho k e1]
  · rw [List.getElem?_eq_none (by rw [List.length_set, pool_len]; omega), List.getElem?_eq_none (by rw [pool_len]; omega)]
theorem pool_push {cy : Nat → ClassId} {z n : Nat} {I I' : MI} {Q Q' : MQ2} {e : va_E} (he : cel cy z I' Q' n = e) (ho : ∀ b, b < n → cel cy z I' Q' b = cel cy z I Q b) : pool cy z n I Q ++ [(z + n, e)] = pool cy z (n + 1) I' Q' := by
  unfold pool
  rw [List.range_succ, List.map_append]
  congr 1
  · apply List.map_congr_left
    intro b hb
    rw [ho b (List.mem_range.mp hb)]
  · simp [he]
theorem cel_cong {cy : Nat → ClassId} {z : Nat} {I I' : MI} {Q Q' : MQ2} {b : Nat} (h1 : I' b = I b) (h2 : Q' b = Q b) : cel cy z I' Q' b = cel cy z I Q b := by
  unfold cel flds
  rw [h1, h2]
theorem cel_o {cy : Nat → ClassId} {z : Nat} {I : MI} {Q : MQ2} {id k : Nat} (h : kd id = k) (hk : k < 10) : cel cy z I Q id = .inr (k, flds z I Q id) := by
  unfold cel
  rw [h, if_pos hk]
theorem cel_i {cy : Nat → ClassId} {z : Nat} {I : MI} {Q : MQ2} {id k : Nat} (h : kd id = k) (hk : k = 10 ∨ k = 11) : cel cy z I Q id = .inl (cy k, nn id, .inl (I id)) := by
  unfold cel
  rw [h, if_neg (by omega), if_pos (by omega)]
theorem cel_q {cy : Nat → ClassId} {z : Nat} {I : MI} {Q : MQ2} {id k : Nat} (h : kd id = k) (hk : k = 12 ∨ k = 13) : cel cy z I Q id = .inl (cy k, nn id, .inr (.inr (.inr (.inr (fun j => (Q id j).map (fun r => z + r)))))) := by
  unfold cel
  rw [h, if_neg (by omega), if_neg (by omega)]
theorem flds_get {z : Nat} {I : MI} {Q : MQ2} {id j : Nat} (h : j < nf (kd id)) : (flds z I Q id)[j]? = some (if isR (kd id) j then va_rf ((Q id j).map (fun r => z + r)) else .int (I id j)) := by
  unfold flds
  rw [List.getElem?_map, List.getElem?_range h]
  rfl
theorem flds_len {z : Nat} {I : MI} {Q : MQ2} {id : Nat} : (flds z I Q id).length = nf (kd id) := by simp [flds]
theorem flds_set {z : Nat} {I I' : MI} {Q Q' : MQ2} {id j : Nat} {v : Value} (h : j < nf (kd id)) (hv : (if isR (kd id) j then va_rf ((Q' id j).map (fun r => z + r)) else .int (I' id j)) = v) (hi : ∀ k, k ≠ j → I' id k = I id k) (hq : ∀ k, k ≠ j → Q' id k = Q id k) : flds z I' Q' id = (flds z I Q id).set j v := by
  apply List.ext_getElem?
  intro k
  by_cases hk : k < nf (kd id)
  · rw [flds_get hk]
    by_cases e1 : k = j
    · subst e1
      rw [List.getElem?_set_self (by rw [flds_len]; exact hk), hv]
    · rw [List.getElem?_set_ne (Ne.symm e1), flds_get hk, hi k e1, hq k e1]
  · rw [List.getElem?_eq_none (by rw [flds_len]; omega), List.getElem?_eq_none (by rw [List.length_set, flds_len]; omega)]
/-! the words -/
def wT : List Cond := lw_tbl.filter goodWord
theorem tw {w : Cond} (i : Nat) (h : lw_tbl[i]? = some w) (g : goodWord w = true) : w ∈ wT := List.mem_filter.mpr ⟨List.mem_of_getElem? h, g⟩
theorem wT_good {ws : List Cond} (h : ∀ w ∈ ws, w ∈ wT) : GoodIn wT ws := fun w hw => ⟨h w hw, good_of_word (List.mem_filter.mp (h w hw)).2⟩
/-! decode rows with the next place, and the branch's -/
def DR (cc : ByteArray) (pc : Nat) (i : Instr) (len q : Nat) : Prop := decode cc pc = .ok (i, len) ∧ pc + len = q
def DB (cc : ByteArray) (pc : Nat) (i : Instr) (len : Nat) (off : Int) (q t : Nat) : Prop := decode cc pc = .ok (i, len) ∧ pc + len = q ∧ (pc : Int) + off = (t : Int)
/-! locals by their places -/
def LVS (ls : Array Slot) (mL : Nat) (lv : List (Option Value)) : Prop := ls.size = mL ∧ lv_wf ls ∧ ∀ (i : Nat) (v : Value), lv[i]? = some (some v) → ls[i]? = some (.val v)
abbrev Ev : Type := Launch × va_G × (Nat → ClassId) × Nat
def evl (r : Ev) : Launch := r.1
def evD (r : Ev) : va_G := r.2.1
def evc (r : Ev) : Nat → ClassId := r.2.2.1
def evz (r : Ev) : Nat := r.2.2.2
/-- the world: the pool at the heap's end -/
def WD (r : Ev) (n : Nat) (I : MI) (Q : MQ2) (s : State) (H : Heap) : Prop := va_K (evD r) vwCl (tysOf (evc r)) s ∧ va_P (evD r) vwCl (pool (evc r) (evz r) n I Q) H
theorem WD.moved {r : Ev} {n : Nat} {I : MI} {Q : MQ2} {u U : State} {H : Heap} (hvm : u.vm.Alike U.vm) (h : WD r n I Q u H) : WD r n I Q U H := ⟨va_K.moved hvm h.1, h.2⟩

/-- the string constant and the statics of the JDK that String's methods read: facts of cells that lie below z -/
def fTxt : List Int32 := [108, 48, 44, 48, 44, 51, 59, 108, 49, 44, 50, 44, 50, 59, 108, 50, 44, 51, 44, 51, 59, 108, 51, 44, 53, 44, 52, 59, 108, 48, 44, 56, 44, 50, 59, 104, 51, 44, 48, 59, 104, 53, 44, 48, 59, 104, 50, 44, 49, 59, 104, 48, 44, 49, 59, 115, 51, 59, 109, 54, 59, 121, 53, 59]
def isNest (w : Cond) : Bool := match w with
  | .fieldLinkNest .. => true
  | .methodLinkNest .. => true
  | _ => false
def wN : List Cond := lw_tbl.filter isNest
theorem tn {w : Cond} (i : Nat) (h : lw_tbl[i]? = some w) (g : isNest w = true) : w ∈ wN := List.mem_filter.mpr ⟨List.mem_of_getElem? h, g⟩
theorem nest_tab {w : Cond} (h : isNest w = true) : w.onTables = true := by cases w <;> first | rfl | cases h
theorem nest_warm {w : Cond} (h : isNest w = true) {s U : State} (hW : s.WarmedH U.vm) (hZ : va_Nw w s) : va_Nw w U := by
  cases w <;> first | (cases h; done) | exact va_Nw.warmF hW hZ | exact va_Nw.warmM hW hZ
def ZS (r : Ev) (U : State) (H : Heap) : Prop := (∀ w ∈ wN, va_Nw w U) ∧ ∃ (adK adV : Nat → Nat), vk_S 1 [64] [fTxt] adK adV (fun q : Nat => evz r ≤ q) U H ∧ vk_R RX8 69 "l0,0,3;l1,2,2;l2,3,3;l3,5,4;l0,8,2;h3,0;h5,0;h2,1;h0,1;s3;m6;y5;" (adK 0) U ∧ va_Z "java/lang/String" "COMPACT_STRINGS" "Z" (.int 1) (fun q : Nat => evz r ≤ q) U H ∧ va_Zq "jdk/internal/util/Preconditions" "SIOOBE_FORMATTER" "Ljava/util/function/BiFunction;" (fun q : Nat => evz r ≤ q) U H

theorem ZS.goes {r : Ev} {s U : State} {H : Heap} {locs : List Loc} (h : ZS r s s.heap) (hS : va_S (fun q : Nat => evz r ≤ q) s.heap H locs) (hW : s.WarmedH U.vm) : ZS r U H := by
  obtain ⟨h0, adK, adV, h1, h2, h3, h4⟩ := h
  exact ⟨fun w hw => nest_warm (List.mem_filter.mp hw).2 hW (h0 w hw), adK, adV, (h1.kept hS.2.1).moved hW.alike, h2.warm hW, (h3.kept hS.2.1).moved hW.alike, (h4.kept hS.2.1).moved hW.alike⟩
/-- what stands in a frame -/
def XC (r : Ev) (d : Nat) (y : MethodName) (cc : ByteArray) (mr : Nat × Option FieldType) (p : Program) (s : State) (m : MethodId) (args : Array Value) (meth : Method) (c : Code) (R : Room) (mc ms : Nat) : Prop :=
  p.tables.exec = Jvm.exec ∧ c.code = cc ∧ c.maxLocals = mr.1 ∧ s.vm.findClass y.cls = some m.cls ∧ (∀ w ∈ wT, w.before args s = true) ∧ (y.name = "<init>" → meth.name = "<init>") ∧ evz r ≤ s.heap.size ∧ d ≤ R.frames ∧ 40 * d ≤ R.locals ∧ mc ≤ R.cells ∧ ms ≤ R.slots ∧ ZS r s s.heap
/-- a method's end: the answer -/
def RETS (cc : ByteArray) (ret : Option FieldType) (pc : Nat) (st : List Value) (v : Option Value) : Prop :=
  (decode cc pc = .ok (.ireturn, 1) ∧ ∃ (x : Int32) (ty : FieldType), st = [.int x] ∧ v = some (.int x) ∧ ret = some ty ∧ narrow ty (.int x) = .int x) ∨ (decode cc pc = .ok (.return_, 1) ∧ st = [] ∧ v = none ∧ ret = none) ∨ (decode cc pc = .ok (.areturn, 1) ∧ ∃ (a : Nat) (rt : FieldType), st = [.ref a] ∧ v = some (.ref a) ∧ ret = some rt ∧ ∃ nm, rt = .object nm)
abbrev Post : Type := Option Value → MI → MQ2 → Prop
/-- THE LIGHT WALK: from the place pc with the locals lv, the stack st, the memory (n, I, Q), the method comes to its end with an answer and a memory of which F holds; b: how many cells it makes still (just so many), how many slots at most -/
def X (r : Ev) (d : Nat) (y : MethodName) (cc : ByteArray) (mr : Nat × Option FieldType) (b : Nat × Nat) (pc : Nat) (lv : List (Option Value)) (st : List Value) (n : Nat) (I : MI) (Q : MQ2) (F : Post) : Prop :=
  ∀ (p : Program) (e : Env) (s : State) (m : MethodId) (args : Array Value) (below : List Frame) (meth : Method) (c : Code) (H : Heap) (locs : List Loc) (cells slots mc ms : Nat) (R : Room) (ls : Array Slot) (Qf : State → Prop),
    XC r d y cc mr p s m args meth c R mc ms → WD r n I Q s H → va_S (fun q : Nat => evz r ≤ q) s.heap H locs → LVS ls mr.1 lv → s.heap.size + cells = evz r + n ∧ cells + b.1 = mc → slots + b.2 ≤ ms →
    (∀ (pc' : Nat) (ls' : Array Slot) (st' : List Value) (H' : Heap) (locs' : List Loc) (v : Option Value) (I' : MI) (Q' : MQ2), RETS cc mr.2 pc' st' v → F v I' Q' → WD r (n + b.1) I' Q' s H' → va_S (fun q : Nat => evz r ≤ q) s.heap H' locs' → W p (evl r) e R s m args below meth c H' locs' mc ms Qf (F0 m pc' ls' st')) →
    W p (evl r) e R s m args below meth c H locs cells slots Qf (F0 m pc ls st)
/-- a method's contract -/
def CT (r : Ev) (d : Nat) (y : MethodName) (cc : ByteArray) (mr : Nat × Option FieldType) (b : Nat × Nat) (As : List Value) (n : Nat) (I : MI) (Q : MQ2) (F : Post) : Prop :=
  Met (evl r) y (.code y cc mr.1 mr.2 :: wT) { frames := d, cells := b.1, slots := b.2, locals := 40 * d } (va_Pc As (fun U => U.heap.size = evz r + n ∧ WD r n I Q U U.heap ∧ ZS r U U.heap)) (fun _ st oc t => (∃ (v : Option Value) (I' : MI) (Q' : MQ2), oc = .returned v ∧ F v I' Q' ∧ WD r (n + b.1) I' Q' t t.heap) ∧ va_F (fun q : Nat => evz r ≤ q) st t) b.1 b.2 (fun q : Nat => evz r ≤ q)

theorem x_iconst {r : Ev} {d : Nat} {y : MethodName} {cc : ByteArray} {mr : Nat × Option FieldType} {b : Nat × Nat} {pc q : Nat} {lv : List (Option Value)} {st : List Value} {n : Nat} {I : MI} {Q : MQ2} {F : Post} {z : Int} {v : Int32} (hd : DR cc pc (.iconst z) 1 q) (hv : Int32.ofInt z = v) (k : X r d y cc mr b q lv (.int v :: st) n I Q F) : X r d y cc mr b pc lv st n I Q F := by
  intro p e s m args below meth c H locs cells slots mc ms R ls Qf C hW hS hl h1 h2 fin
  obtain ⟨hd, rfl⟩ := hd
  exact lv_iconst C.1 C.2.1 hd hv (k _ _ _ _ _ _ _ _ _ _ _ _ _ _ _ _ _ C hW hS hl h1 h2 fin)
theorem x_bipush {r : Ev} {d : Nat} {y : MethodName} {cc : ByteArray} {mr : Nat × Option FieldType} {b : Nat × Nat} {pc q : Nat} {lv : List (Option Value)} {st : List Value} {n : Nat} {I : MI} {Q : MQ2} {F : Post} {z : Int} {v : Int32} (hd : DR cc pc (.bipush z) 2 q) (hv : (Int8.ofInt z).toInt32 = v) (k : X r d y cc mr b q lv (.int v :: st) n I Q F) : X r d y cc mr b pc lv st n I Q F := by
  intro p e s m args below meth c H locs cells slots mc ms R ls Qf C hW hS hl h1 h2 fin
  obtain ⟨hd, rfl⟩ := hd
  exact lv_bipush C.1 C.2.1 hd hv (k _ _ _ _ _ _ _ _ _ _ _ _ _ _ _ _ _ C hW hS hl h1 h2 fin)
theorem x_sipush {r : Ev} {d : Nat} {y : MethodName} {cc : ByteArray} {mr : Nat × Option FieldType} {b : Nat × Nat} {pc q : Nat} {lv : List (Option Value)} {st : List Value} {n : Nat} {I : MI} {Q : MQ2} {F : Post} {z : Int} {v : Int32} (hd : DR cc pc (.sipush z) 3 q) (hv : (Int16.ofInt z).toInt32 = v) (k : X r d y cc mr b q lv (.int v :: st) n I Q F) : X r d y cc mr b pc lv st n I Q F := by
  intro p e s m args below meth c H locs cells slots mc ms R ls Qf C hW hS hl h1 h2 fin
  obtain ⟨hd, rfl⟩ := hd
  exact lv_sipush C.1 C.2.1 hd hv (k _ _ _ _ _ _ _ _ _ _ _ _ _ _ _ _ _ C hW hS hl h1 h2 fin)
theorem x_lconst {r : Ev} {d : Nat} {y : MethodName} {cc : ByteArray} {mr : Nat × Option FieldType} {b : Nat × Nat} {pc q : Nat} {lv : List (Option Value)} {st : List Value} {n : Nat} {I : MI} {Q : MQ2} {F : Post} {z : Fin 2} {v : Int64} (hd : DR cc pc (.lconst z) 1 q) (hv : Int64.ofNat (z : Nat) = v) (k : X r d y cc mr b q lv (.long v :: st) n I Q F) : X r d y cc mr b pc lv st n I Q F := by
  intro p e s m args below meth c H locs cells slots mc ms R ls Qf C hW hS hl h1 h2 fin
  obtain ⟨hd, rfl⟩ := hd
  exact lv_lconst C.1 C.2.1 hd hv (k _ _ _ _ _ _ _ _ _ _ _ _ _ _ _ _ _ C hW hS hl h1 h2 fin)
theorem x_iadd {r : Ev} {d : Nat} {y : MethodName} {cc : ByteArray} {mr : Nat × Option FieldType} {b : Nat × Nat} {pc q : Nat} {lv : List (Option Value)} {st : List Value} {n : Nat} {I : MI} {Q : MQ2} {F : Post} {x x2 : Int32} (hd : DR cc pc (.iadd) 1 q)  (k : X r d y cc mr b q lv (.int (x + x2) :: st) n I Q F) : X r d y cc mr b pc lv (.int x2 :: .int x :: st) n I Q F := by
  intro p e s m args below meth c H locs cells slots mc ms R ls Qf C hW hS hl h1 h2 fin
  obtain ⟨hd, rfl⟩ := hd
  exact lv_iadd C.1 C.2.1 hd  (k _ _ _ _ _ _ _ _ _ _ _ _ _ _ _ _ _ C hW hS hl h1 h2 fin)
theorem x_isub {r : Ev} {d : Nat} {y : MethodName} {cc : ByteArray} {mr : Nat × Option FieldType} {b : Nat × Nat} {pc q : Nat} {lv : List (Option Value)} {st : List Value} {n : Nat} {I : MI} {Q : MQ2} {F : Post} {x x2 : Int32} (hd : DR cc pc (.isub) 1 q)  (k : X r d y cc mr b q lv (.int (x - x2) :: st) n I Q F) : X r d y cc mr b pc lv (.int x2 :: .int x :: st) n I Q F := by
  intro p e s m args below meth c H locs cells slots mc ms R ls Qf C hW hS hl h1 h2 fin
  obtain ⟨hd, rfl⟩ := hd
  exact lv_isub C.1 C.2.1 hd  (k _ _ _ _ _ _ _ _ _ _ _ _ _ _ _ _ _ C hW hS hl h1 h2 fin)
theorem x_imul {r : Ev} {d : Nat} {y : MethodName} {cc : ByteArray} {mr : Nat × Option FieldType} {b : Nat × Nat} {pc q : Nat} {lv : List (Option Value)} {st : List Value} {n : Nat} {I : MI} {Q : MQ2} {F : Post} {x x2 : Int32} (hd : DR cc pc (.imul) 1 q)  (k : X r d y cc mr b q lv (.int (x * x2) :: st) n I Q F) : X r d y cc mr b pc lv (.int x2 :: .int x :: st) n I Q F := by
  intro p e s m args below meth c H locs cells slots mc ms R ls Qf C hW hS hl h1 h2 fin
  obtain ⟨hd, rfl⟩ := hd
  exact lv_imul C.1 C.2.1 hd  (k _ _ _ _ _ _ _ _ _ _ _ _ _ _ _ _ _ C hW hS hl h1 h2 fin)
theorem x_iand {r : Ev} {d : Nat} {y : MethodName} {cc : ByteArray} {mr : Nat × Option FieldType} {b : Nat × Nat} {pc q : Nat} {lv : List (Option Value)} {st : List Value} {n : Nat} {I : MI} {Q : MQ2} {F : Post} {x x2 : Int32} (hd : DR cc pc (.iand) 1 q)  (k : X r d y cc mr b q lv (.int (x &&& x2) :: st) n I Q F) : X r d y cc mr b pc lv (.int x2 :: .int x :: st) n I Q F := by
  intro p e s m args below meth c H locs cells slots mc ms R ls Qf C hW hS hl h1 h2 fin
  obtain ⟨hd, rfl⟩ := hd
  exact lv_iand C.1 C.2.1 hd  (k _ _ _ _ _ _ _ _ _ _ _ _ _ _ _ _ _ C hW hS hl h1 h2 fin)
theorem x_ior {r : Ev} {d : Nat} {y : MethodName} {cc : ByteArray} {mr : Nat × Option FieldType} {b : Nat × Nat} {pc q : Nat} {lv : List (Option Value)} {st : List Value} {n : Nat} {I : MI} {Q : MQ2} {F : Post} {x x2 : Int32} (hd : DR cc pc (.ior) 1 q)  (k : X r d y cc mr b q lv (.int (x ||| x2) :: st) n I Q F) : X r d y cc mr b pc lv (.int x2 :: .int x :: st) n I Q F := by
  intro p e s m args below meth c H locs cells slots mc ms R ls Qf C hW hS hl h1 h2 fin
  obtain ⟨hd, rfl⟩ := hd
  exact lv_ior C.1 C.2.1 hd  (k _ _ _ _ _ _ _ _ _ _ _ _ _ _ _ _ _ C hW hS hl h1 h2 fin)
theorem x_ixor {r : Ev} {d : Nat} {y : MethodName} {cc : ByteArray} {mr : Nat × Option FieldType} {b : Nat × Nat} {pc q : Nat} {lv : List (Option Value)} {st : List Value} {n : Nat} {I : MI} {Q : MQ2} {F : Post} {x x2 : Int32} (hd : DR cc pc (.ixor) 1 q)  (k : X r d y cc mr b q lv (.int (x ^^^ x2) :: st) n I Q F) : X r d y cc mr b pc lv (.int x2 :: .int x :: st) n I Q F := by
  intro p e s m args below meth c H locs cells slots mc ms R ls Qf C hW hS hl h1 h2 fin
  obtain ⟨hd, rfl⟩ := hd
  exact lv_ixor C.1 C.2.1 hd  (k _ _ _ _ _ _ _ _ _ _ _ _ _ _ _ _ _ C hW hS hl h1 h2 fin)
theorem x_idiv {r : Ev} {d : Nat} {y : MethodName} {cc : ByteArray} {mr : Nat × Option FieldType} {b : Nat × Nat} {pc q : Nat} {lv : List (Option Value)} {st : List Value} {n : Nat} {I : MI} {Q : MQ2} {F : Post} {x x2 : Int32} (hd : DR cc pc (.idiv) 1 q) (h0 : ¬ x2 = 0) (k : X r d y cc mr b q lv (.int (x / x2) :: st) n I Q F) : X r d y cc mr b pc lv (.int x2 :: .int x :: st) n I Q F := by
  intro p e s m args below meth c H locs cells slots mc ms R ls Qf C hW hS hl h1 h2 fin
  obtain ⟨hd, rfl⟩ := hd
  exact lv_idiv C.1 C.2.1 hd h0 (k _ _ _ _ _ _ _ _ _ _ _ _ _ _ _ _ _ C hW hS hl h1 h2 fin)
theorem x_irem {r : Ev} {d : Nat} {y : MethodName} {cc : ByteArray} {mr : Nat × Option FieldType} {b : Nat × Nat} {pc q : Nat} {lv : List (Option Value)} {st : List Value} {n : Nat} {I : MI} {Q : MQ2} {F : Post} {x x2 : Int32} (hd : DR cc pc (.irem) 1 q) (h0 : ¬ x2 = 0) (k : X r d y cc mr b q lv (.int (x - x / x2 * x2) :: st) n I Q F) : X r d y cc mr b pc lv (.int x2 :: .int x :: st) n I Q F := by
  intro p e s m args below meth c H locs cells slots mc ms R ls Qf C hW hS hl h1 h2 fin
  obtain ⟨hd, rfl⟩ := hd
  exact lv_irem C.1 C.2.1 hd h0 (k _ _ _ _ _ _ _ _ _ _ _ _ _ _ _ _ _ C hW hS hl h1 h2 fin)
theorem x_ishl {r : Ev} {d : Nat} {y : MethodName} {cc : ByteArray} {mr : Nat × Option FieldType} {b : Nat × Nat} {pc q : Nat} {lv : List (Option Value)} {st : List Value} {n : Nat} {I : MI} {Q : MQ2} {F : Post} {x x2 : Int32} (hd : DR cc pc (.ishl) 1 q)  (k : X r d y cc mr b q lv (.int (x <<< (x2 &&& 31)) :: st) n I Q F) : X r d y cc mr b pc lv (.int x2 :: .int x :: st) n I Q F := by
  intro p e s m args below meth c H locs cells slots mc ms R ls Qf C hW hS hl h1 h2 fin
  obtain ⟨hd, rfl⟩ := hd
  exact lv_ishl C.1 C.2.1 hd  (k _ _ _ _ _ _ _ _ _ _ _ _ _ _ _ _ _ C hW hS hl h1 h2 fin)
theorem x_ishr {r : Ev} {d : Nat} {y : MethodName} {cc : ByteArray} {mr : Nat × Option FieldType} {b : Nat × Nat} {pc q : Nat} {lv : List (Option Value)} {st : List Value} {n : Nat} {I : MI} {Q : MQ2} {F : Post} {x x2 : Int32} (hd : DR cc pc (.ishr) 1 q)  (k : X r d y cc mr b q lv (.int (x >>> (x2 &&& 31)) :: st) n I Q F) : X r d y cc mr b pc lv (.int x2 :: .int x :: st) n I Q F := by
  intro p e s m args below meth c H locs cells slots mc ms R ls Qf C hW hS hl h1 h2 fin
  obtain ⟨hd, rfl⟩ := hd
  exact lv_ishr C.1 C.2.1 hd  (k _ _ _ _ _ _ _ _ _ _ _ _ _ _ _ _ _ C hW hS hl h1 h2 fin)
theorem x_iushr {r : Ev} {d : Nat} {y : MethodName} {cc : ByteArray} {mr : Nat × Option FieldType} {b : Nat × Nat} {pc q : Nat} {lv : List (Option Value)} {st : List Value} {n : Nat} {I : MI} {Q : MQ2} {F : Post} {x x2 : Int32} (hd : DR cc pc (.iushr) 1 q)  (k : X r d y cc mr b q lv (.int (x.toUInt32 >>> (x2.toUInt32 &&& Int32.toUInt32 31)).toInt32 :: st) n I Q F) : X r d y cc mr b pc lv (.int x2 :: .int x :: st) n I Q F := by
  intro p e s m args below meth c H locs cells slots mc ms R ls Qf C hW hS hl h1 h2 fin
  obtain ⟨hd, rfl⟩ := hd
  exact lv_iushr C.1 C.2.1 hd rfl (k _ _ _ _ _ _ _ _ _ _ _ _ _ _ _ _ _ C hW hS hl h1 h2 fin)
theorem x_ladd {r : Ev} {d : Nat} {y : MethodName} {cc : ByteArray} {mr : Nat × Option FieldType} {b : Nat × Nat} {pc q : Nat} {lv : List (Option Value)} {st : List Value} {n : Nat} {I : MI} {Q : MQ2} {F : Post} {x x2 : Int64} (hd : DR cc pc (.ladd) 1 q)  (k : X r d y cc mr b q lv (.long (x + x2) :: st) n I Q F) : X r d y cc mr b pc lv (.long x2 :: .long x :: st) n I Q F := by
  intro p e s m args below meth c H locs cells slots mc ms R ls Qf C hW hS hl h1 h2 fin
  obtain ⟨hd, rfl⟩ := hd
  exact lv_ladd C.1 C.2.1 hd  (k _ _ _ _ _ _ _ _ _ _ _ _ _ _ _ _ _ C hW hS hl h1 h2 fin)
theorem x_lsub {r : Ev} {d : Nat} {y : MethodName} {cc : ByteArray} {mr : Nat × Option FieldType} {b : Nat × Nat} {pc q : Nat} {lv : List (Option Value)} {st : List Value} {n : Nat} {I : MI} {Q : MQ2} {F : Post} {x x2 : Int64} (hd : DR cc pc (.lsub) 1 q)  (k : X r d y cc mr b q lv (.long (x - x2) :: st) n I Q F) : X r d y cc mr b pc lv (.long x2 :: .long x :: st) n I Q F := by
  intro p e s m args below meth c H locs cells slots mc ms R ls Qf C hW hS hl h1 h2 fin
  obtain ⟨hd, rfl⟩ := hd
  exact lv_lsub C.1 C.2.1 hd  (k _ _ _ _ _ _ _ _ _ _ _ _ _ _ _ _ _ C hW hS hl h1 h2 fin)
theorem x_lmul {r : Ev} {d : Nat} {y : MethodName} {cc : ByteArray} {mr : Nat × Option FieldType} {b : Nat × Nat} {pc q : Nat} {lv : List (Option Value)} {st : List Value} {n : Nat} {I : MI} {Q : MQ2} {F : Post} {x x2 : Int64} (hd : DR cc pc (.lmul) 1 q)  (k : X r d y cc mr b q lv (.long (x * x2) :: st) n I Q F) : X r d y cc mr b pc lv (.long x2 :: .long x :: st) n I Q F := by
  intro p e s m args below meth c H locs cells slots mc ms R ls Qf C hW hS hl h1 h2 fin
  obtain ⟨hd, rfl⟩ := hd
  exact lv_lmul C.1 C.2.1 hd  (k _ _ _ _ _ _ _ _ _ _ _ _ _ _ _ _ _ C hW hS hl h1 h2 fin)
theorem x_ldiv {r : Ev} {d : Nat} {y : MethodName} {cc : ByteArray} {mr : Nat × Option FieldType} {b : Nat × Nat} {pc q : Nat} {lv : List (Option Value)} {st : List Value} {n : Nat} {I : MI} {Q : MQ2} {F : Post} {x x2 : Int64} (hd : DR cc pc (.ldiv) 1 q) (h0 : ¬ x2 = 0) (k : X r d y cc mr b q lv (.long (x / x2) :: st) n I Q F) : X r d y cc mr b pc lv (.long x2 :: .long x :: st) n I Q F := by
  intro p e s m args below meth c H locs cells slots mc ms R ls Qf C hW hS hl h1 h2 fin
  obtain ⟨hd, rfl⟩ := hd
  exact lv_ldiv C.1 C.2.1 hd h0 (k _ _ _ _ _ _ _ _ _ _ _ _ _ _ _ _ _ C hW hS hl h1 h2 fin)
theorem x_lrem {r : Ev} {d : Nat} {y : MethodName} {cc : ByteArray} {mr : Nat × Option FieldType} {b : Nat × Nat} {pc q : Nat} {lv : List (Option Value)} {st : List Value} {n : Nat} {I : MI} {Q : MQ2} {F : Post} {x x2 : Int64} (hd : DR cc pc (.lrem) 1 q) (h0 : ¬ x2 = 0) (k : X r d y cc mr b q lv (.long (x - x / x2 * x2) :: st) n I Q F) : X r d y cc mr b pc lv (.long x2 :: .long x :: st) n I Q F := by
  intro p e s m args below meth c H locs cells slots mc ms R ls Qf C hW hS hl h1 h2 fin
  obtain ⟨hd, rfl⟩ := hd
  exact lv_lrem C.1 C.2.1 hd h0 (k _ _ _ _ _ _ _ _ _ _ _ _ _ _ _ _ _ C hW hS hl h1 h2 fin)
theorem x_i2l {r : Ev} {d : Nat} {y : MethodName} {cc : ByteArray} {mr : Nat × Option FieldType} {b : Nat × Nat} {pc q : Nat} {lv : List (Option Value)} {st : List Value} {n : Nat} {I : MI} {Q : MQ2} {F : Post} {x : Int32} (hd : DR cc pc (.i2l) 1 q)  (k : X r d y cc mr b q lv (.long x.toInt64 :: st) n I Q F) : X r d y cc mr b pc lv (.int x :: st) n I Q F := by
  intro p e s m args below meth c H locs cells slots mc ms R ls Qf C hW hS hl h1 h2 fin
  obtain ⟨hd, rfl⟩ := hd
  exact lv_i2l C.1 C.2.1 hd rfl (k _ _ _ _ _ _ _ _ _ _ _ _ _ _ _ _ _ C hW hS hl h1 h2 fin)
theorem x_l2i {r : Ev} {d : Nat} {y : MethodName} {cc : ByteArray} {mr : Nat × Option FieldType} {b : Nat × Nat} {pc q : Nat} {lv : List (Option Value)} {st : List Value} {n : Nat} {I : MI} {Q : MQ2} {F : Post} {x : Int64} (hd : DR cc pc (.l2i) 1 q)  (k : X r d y cc mr b q lv (.int x.toInt32 :: st) n I Q F) : X r d y cc mr b pc lv (.long x :: st) n I Q F := by
  intro p e s m args below meth c H locs cells slots mc ms R ls Qf C hW hS hl h1 h2 fin
  obtain ⟨hd, rfl⟩ := hd
  exact lv_l2i C.1 C.2.1 hd rfl (k _ _ _ _ _ _ _ _ _ _ _ _ _ _ _ _ _ C hW hS hl h1 h2 fin)
theorem x_i2c {r : Ev} {d : Nat} {y : MethodName} {cc : ByteArray} {mr : Nat × Option FieldType} {b : Nat × Nat} {pc q : Nat} {lv : List (Option Value)} {st : List Value} {n : Nat} {I : MI} {Q : MQ2} {F : Post} {x v : Int32} (hd : DR cc pc (.i2c) 1 q) (hv : (x.toUInt32 % 65536).toInt32 = v) (k : X r d y cc mr b q lv (.int v :: st) n I Q F) : X r d y cc mr b pc lv (.int x :: st) n I Q F := by
  intro p e s m args below meth c H locs cells slots mc ms R ls Qf C hW hS hl h1 h2 fin
  obtain ⟨hd, rfl⟩ := hd
  exact lv_i2c C.1 C.2.1 hd hv (k _ _ _ _ _ _ _ _ _ _ _ _ _ _ _ _ _ C hW hS hl h1 h2 fin)
theorem x_dup_int {r : Ev} {d : Nat} {y : MethodName} {cc : ByteArray} {mr : Nat × Option FieldType} {b : Nat × Nat} {pc q : Nat} {lv : List (Option Value)} {st : List Value} {n : Nat} {I : MI} {Q : MQ2} {F : Post} {x : Int32} (hd : DR cc pc (.dup) 1 q)  (k : X r d y cc mr b q lv (.int x :: .int x :: st) n I Q F) : X r d y cc mr b pc lv (.int x :: st) n I Q F := by
  intro p e s m args below meth c H locs cells slots mc ms R ls Qf C hW hS hl h1 h2 fin
  obtain ⟨hd, rfl⟩ := hd
  exact lv_dup C.1 C.2.1 hd rfl (k _ _ _ _ _ _ _ _ _ _ _ _ _ _ _ _ _ C hW hS hl h1 h2 fin)
theorem x_pop_int {r : Ev} {d : Nat} {y : MethodName} {cc : ByteArray} {mr : Nat × Option FieldType} {b : Nat × Nat} {pc q : Nat} {lv : List (Option Value)} {st : List Value} {n : Nat} {I : MI} {Q : MQ2} {F : Post} {x : Int32} (hd : DR cc pc (.pop) 1 q)  (k : X r d y cc mr b q lv st n I Q F) : X r d y cc mr b pc lv (.int x :: st) n I Q F := by
  intro p e s m args below meth c H locs cells slots mc ms R ls Qf C hW hS hl h1 h2 fin
  obtain ⟨hd, rfl⟩ := hd
  exact lv_pop C.1 C.2.1 hd rfl (k _ _ _ _ _ _ _ _ _ _ _ _ _ _ _ _ _ C hW hS hl h1 h2 fin)
theorem x_dup_ref {r : Ev} {d : Nat} {y : MethodName} {cc : ByteArray} {mr : Nat × Option FieldType} {b : Nat × Nat} {pc q : Nat} {lv : List (Option Value)} {st : List Value} {n : Nat} {I : MI} {Q : MQ2} {F : Post} {x : Nat} (hd : DR cc pc (.dup) 1 q)  (k : X r d y cc mr b q lv (.ref x :: .ref x :: st) n I Q F) : X r d y cc mr b pc lv (.ref x :: st) n I Q F := by
  intro p e s m args below meth c H locs cells slots mc ms R ls Qf C hW hS hl h1 h2 fin
  obtain ⟨hd, rfl⟩ := hd
  exact lv_dup C.1 C.2.1 hd rfl (k _ _ _ _ _ _ _ _ _ _ _ _ _ _ _ _ _ C hW hS hl h1 h2 fin)
theorem x_pop_ref {r : Ev} {d : Nat} {y : MethodName} {cc : ByteArray} {mr : Nat × Option FieldType} {b : Nat × Nat} {pc q : Nat} {lv : List (Option Value)} {st : List Value} {n : Nat} {I : MI} {Q : MQ2} {F : Post} {x : Nat} (hd : DR cc pc (.pop) 1 q)  (k : X r d y cc mr b q lv st n I Q F) : X r d y cc mr b pc lv (.ref x :: st) n I Q F := by
  intro p e s m args below meth c H locs cells slots mc ms R ls Qf C hW hS hl h1 h2 fin
  obtain ⟨hd, rfl⟩ := hd
  exact lv_pop C.1 C.2.1 hd rfl (k _ _ _ _ _ _ _ _ _ _ _ _ _ _ _ _ _ C hW hS hl h1 h2 fin)
theorem x_dup2 {r : Ev} {d : Nat} {y : MethodName} {cc : ByteArray} {mr : Nat × Option FieldType} {b : Nat × Nat} {pc q : Nat} {lv : List (Option Value)} {st : List Value} {n : Nat} {I : MI} {Q : MQ2} {F : Post} {x2 : Int32} {x : Nat} (hd : DR cc pc (.dup2) 1 q)  (k : X r d y cc mr b q lv (.int x2 :: .ref x :: .int x2 :: .ref x :: st) n I Q F) : X r d y cc mr b pc lv (.int x2 :: .ref x :: st) n I Q F := by
  intro p e s m args below meth c H locs cells slots mc ms R ls Qf C hW hS hl h1 h2 fin
  obtain ⟨hd, rfl⟩ := hd
  exact lv_dup2_11 C.1 C.2.1 hd rfl rfl (k _ _ _ _ _ _ _ _ _ _ _ _ _ _ _ _ _ C hW hS hl h1 h2 fin)
theorem x_dup_x1 {r : Ev} {d : Nat} {y : MethodName} {cc : ByteArray} {mr : Nat × Option FieldType} {b : Nat × Nat} {pc q : Nat} {lv : List (Option Value)} {st : List Value} {n : Nat} {I : MI} {Q : MQ2} {F : Post} {x2 : Int32} {x : Nat} (hd : DR cc pc (.dup_x1) 1 q)  (k : X r d y cc mr b q lv (.int x2 :: .ref x :: .int x2 :: st) n I Q F) : X r d y cc mr b pc lv (.int x2 :: .ref x :: st) n I Q F := by
  intro p e s m args below meth c H locs cells slots mc ms R ls Qf C hW hS hl h1 h2 fin
  obtain ⟨hd, rfl⟩ := hd
  exact lv_dup_x1 C.1 C.2.1 hd rfl rfl (k _ _ _ _ _ _ _ _ _ _ _ _ _ _ _ _ _ C hW hS hl h1 h2 fin)
theorem x_goto {r : Ev} {d : Nat} {y : MethodName} {cc : ByteArray} {mr : Nat × Option FieldType} {b : Nat × Nat} {pc q : Nat} {lv : List (Option Value)} {st : List Value} {n : Nat} {I : MI} {Q : MQ2} {F : Post} {off : Int} {t : Nat} (hd : DB cc pc (.goto off) 3 off q t) (k : X r d y cc mr b t lv st n I Q F) : X r d y cc mr b pc lv st n I Q F := by
  intro p e s m args below meth c H locs cells slots mc ms R ls Qf C hW hS hl h1 h2 fin
  obtain ⟨hd, -, ht⟩ := hd
  exact lv_goto C.1 C.2.1 hd ht (k _ _ _ _ _ _ _ _ _ _ _ _ _ _ _ _ _ C hW hS hl h1 h2 fin)
theorem x_if_eq {r : Ev} {d : Nat} {y : MethodName} {cc : ByteArray} {mr : Nat × Option FieldType} {b : Nat × Nat} {pc q : Nat} {lv : List (Option Value)} {st : List Value} {n : Nat} {I : MI} {Q : MQ2} {F : Post} {x : Int32} {off : Int} {t : Nat} (hd : DB cc pc (.ifCond .eq off) 3 off q t) (kt : x = 0 → X r d y cc mr b t lv st n I Q F) (kf : ¬ x = 0 → X r d y cc mr b q lv st n I Q F) : X r d y cc mr b pc lv (.int x :: st) n I Q F := by
  intro p e s m args below meth c H locs cells slots mc ms R ls Qf C hW hS hl h1 h2 fin
  obtain ⟨hd, rfl, ht⟩ := hd
  exact lv_if_eq C.1 C.2.1 hd ht (fun h => kt h _ _ _ _ _ _ _ _ _ _ _ _ _ _ _ _ _ C hW hS hl h1 h2 fin) (fun h => kf h _ _ _ _ _ _ _ _ _ _ _ _ _ _ _ _ _ C hW hS hl h1 h2 fin)
theorem x_icmp_eq {r : Ev} {d : Nat} {y : MethodName} {cc : ByteArray} {mr : Nat × Option FieldType} {b : Nat × Nat} {pc q : Nat} {lv : List (Option Value)} {st : List Value} {n : Nat} {I : MI} {Q : MQ2} {F : Post} {x x2 : Int32} {off : Int} {t : Nat} (hd : DB cc pc (.if_icmp .eq off) 3 off q t) (kt : x = x2 → X r d y cc mr b t lv st n I Q F) (kf : ¬ x = x2 → X r d y cc mr b q lv st n I Q F) : X r d y cc mr b pc lv (.int x2 :: .int x :: st) n I Q F := by
  intro p e s m args below meth c H locs cells slots mc ms R ls Qf C hW hS hl h1 h2 fin
  obtain ⟨hd, rfl, ht⟩ := hd
  exact lv_icmp_eq C.1 C.2.1 hd ht (fun h => kt h _ _ _ _ _ _ _ _ _ _ _ _ _ _ _ _ _ C hW hS hl h1 h2 fin) (fun h => kf h _ _ _ _ _ _ _ _ _ _ _ _ _ _ _ _ _ C hW hS hl h1 h2 fin)
theorem x_if_ne {r : Ev} {d : Nat} {y : MethodName} {cc : ByteArray} {mr : Nat × Option FieldType} {b : Nat × Nat} {pc q : Nat} {lv : List (Option Value)} {st : List Value} {n : Nat} {I : MI} {Q : MQ2} {F : Post} {x : Int32} {off : Int} {t : Nat} (hd : DB cc pc (.ifCond .ne off) 3 off q t) (kt : ¬ x = 0 → X r d y cc mr b t lv st n I Q F) (kf : x = 0 → X r d y cc mr b q lv st n I Q F) : X r d y cc mr b pc lv (.int x :: st) n I Q F := by
  intro p e s m args below meth c H locs cells slots mc ms R ls Qf C hW hS hl h1 h2 fin
  obtain ⟨hd, rfl, ht⟩ := hd
  exact lv_if_ne C.1 C.2.1 hd ht (fun h => kt h _ _ _ _ _ _ _ _ _ _ _ _ _ _ _ _ _ C hW hS hl h1 h2 fin) (fun h => kf h _ _ _ _ _ _ _ _ _ _ _ _ _ _ _ _ _ C hW hS hl h1 h2 fin)
theorem x_icmp_ne {r : Ev} {d : Nat} {y : MethodName} {cc : ByteArray} {mr : Nat × Option FieldType} {b : Nat × Nat} {pc q : Nat} {lv : List (Option Value)} {st : List Value} {n : Nat} {I : MI} {Q : MQ2} {F : Post} {x x2 : Int32} {off : Int} {t : Nat} (hd : DB cc pc (.if_icmp .ne off) 3 off q t) (kt : ¬ x = x2 → X r d y cc mr b t lv st n I Q F) (kf : x = x2 → X r d y cc mr b q lv st n I Q F) : X r d y cc mr b pc lv (.int x2 :: .int x :: st) n I Q F := by
  intro p e s m args below meth c H locs cells slots mc ms R ls Qf C hW hS hl h1 h2 fin
  obtain ⟨hd, rfl, ht⟩ := hd
  exact lv_icmp_ne C.1 C.2.1 hd ht (fun h => kt h _ _ _ _ _ _ _ _ _ _ _ _ _ _ _ _ _ C hW hS hl h1 h2 fin) (fun h => kf h _ _ _ _ _ _ _ _ _ _ _ _ _ _ _ _ _ C hW hS hl h1 h2 fin)
theorem x_if_lt {r : Ev} {d : Nat} {y : MethodName} {cc : ByteArray} {mr : Nat × Option FieldType} {b : Nat × Nat} {pc q : Nat} {lv : List (Option Value)} {st : List Value} {n : Nat} {I : MI} {Q : MQ2} {F : Post} {x : Int32} {off : Int} {t : Nat} (hd : DB cc pc (.ifCond .lt off) 3 off q t) (kt : x < 0 → X r d y cc mr b t lv st n I Q F) (kf : ¬ x < 0 → X r d y cc mr b q lv st n I Q F) : X r d y cc mr b pc lv (.int x :: st) n I Q F := by
  intro p e s m args below meth c H locs cells slots mc ms R ls Qf C hW hS hl h1 h2 fin
  obtain ⟨hd, rfl, ht⟩ := hd
  exact lv_if_lt C.1 C.2.1 hd ht (fun h => kt h _ _ _ _ _ _ _ _ _ _ _ _ _ _ _ _ _ C hW hS hl h1 h2 fin) (fun h => kf h _ _ _ _ _ _ _ _ _ _ _ _ _ _ _ _ _ C hW hS hl h1 h2 fin)
theorem x_icmp_lt {r : Ev} {d : Nat} {y : MethodName} {cc : ByteArray} {mr : Nat × Option FieldType} {b : Nat × Nat} {pc q : Nat} {lv : List (Option Value)} {st : List Value} {n : Nat} {I : MI} {Q : MQ2} {F : Post} {x x2 : Int32} {off : Int} {t : Nat} (hd : DB cc pc (.if_icmp .lt off) 3 off q t) (kt : x < x2 → X r d y cc mr b t lv st n I Q F) (kf : ¬ x < x2 → X r d y cc mr b q lv st n I Q F) : X r d y cc mr b pc lv (.int x2 :: .int x :: st) n I Q F := by
  intro p e s m args below meth c H locs cells slots mc ms R ls Qf C hW hS hl h1 h2 fin
  obtain ⟨hd, rfl, ht⟩ := hd
  exact lv_icmp_lt C.1 C.2.1 hd ht (fun h => kt h _ _ _ _ _ _ _ _ _ _ _ _ _ _ _ _ _ C hW hS hl h1 h2 fin) (fun h => kf h _ _ _ _ _ _ _ _ _ _ _ _ _ _ _ _ _ C hW hS hl h1 h2 fin)
theorem x_if_ge {r : Ev} {d : Nat} {y : MethodName} {cc : ByteArray} {mr : Nat × Option FieldType} {b : Nat × Nat} {pc q : Nat} {lv : List (Option Value)} {st : List Value} {n : Nat} {I : MI} {Q : MQ2} {F : Post} {x : Int32} {off : Int} {t : Nat} (hd : DB cc pc (.ifCond .ge off) 3 off q t) (kt : 0 ≤ x → X r d y cc mr b t lv st n I Q F) (kf : ¬ 0 ≤ x → X r d y cc mr b q lv st n I Q F) : X r d y cc mr b pc lv (.int x :: st) n I Q F := by
  intro p e s m args below meth c H locs cells slots mc ms R ls Qf C hW hS hl h1 h2 fin
  obtain ⟨hd, rfl, ht⟩ := hd
  exact lv_if_ge C.1 C.2.1 hd ht (fun h => kt h _ _ _ _ _ _ _ _ _ _ _ _ _ _ _ _ _ C hW hS hl h1 h2 fin) (fun h => kf h _ _ _ _ _ _ _ _ _ _ _ _ _ _ _ _ _ C hW hS hl h1 h2 fin)
theorem x_icmp_ge {r : Ev} {d : Nat} {y : MethodName} {cc : ByteArray} {mr : Nat × Option FieldType} {b : Nat × Nat} {pc q : Nat} {lv : List (Option Value)} {st : List Value} {n : Nat} {I : MI} {Q : MQ2} {F : Post} {x x2 : Int32} {off : Int} {t : Nat} (hd : DB cc pc (.if_icmp .ge off) 3 off q t) (kt : x2 ≤ x → X r d y cc mr b t lv st n I Q F) (kf : ¬ x2 ≤ x → X r d y cc mr b q lv st n I Q F) : X r d y cc mr b pc lv (.int x2 :: .int x :: st) n I Q F := by
  intro p e s m args below meth c H locs cells slots mc ms R ls Qf C hW hS hl h1 h2 fin
  obtain ⟨hd, rfl, ht⟩ := hd
  exact lv_icmp_ge C.1 C.2.1 hd ht (fun h => kt h _ _ _ _ _ _ _ _ _ _ _ _ _ _ _ _ _ C hW hS hl h1 h2 fin) (fun h => kf h _ _ _ _ _ _ _ _ _ _ _ _ _ _ _ _ _ C hW hS hl h1 h2 fin)
theorem x_if_gt {r : Ev} {d : Nat} {y : MethodName} {cc : ByteArray} {mr : Nat × Option FieldType} {b : Nat × Nat} {pc q : Nat} {lv : List (Option Value)} {st : List Value} {n : Nat} {I : MI} {Q : MQ2} {F : Post} {x : Int32} {off : Int} {t : Nat} (hd : DB cc pc (.ifCond .gt off) 3 off q t) (kt : 0 < x → X r d y cc mr b t lv st n I Q F) (kf : ¬ 0 < x → X r d y cc mr b q lv st n I Q F) : X r d y cc mr b pc lv (.int x :: st) n I Q F := by
  intro p e s m args below meth c H locs cells slots mc ms R ls Qf C hW hS hl h1 h2 fin
  obtain ⟨hd, rfl, ht⟩ := hd
  exact lv_if_gt C.1 C.2.1 hd ht (fun h => kt h _ _ _ _ _ _ _ _ _ _ _ _ _ _ _ _ _ C hW hS hl h1 h2 fin) (fun h => kf h _ _ _ _ _ _ _ _ _ _ _ _ _ _ _ _ _ C hW hS hl h1 h2 fin)
theorem x_icmp_gt {r : Ev} {d : Nat} {y : MethodName} {cc : ByteArray} {mr : Nat × Option FieldType} {b : Nat × Nat} {pc q : Nat} {lv : List (Option Value)} {st : List Value} {n : Nat} {I : MI} {Q : MQ2} {F : Post} {x x2 : Int32} {off : Int} {t : Nat} (hd : DB cc pc (.if_icmp .gt off) 3 off q t) (kt : x2 < x → X r d y cc mr b t lv st n I Q F) (kf : ¬ x2 < x → X r d y cc mr b q lv st n I Q F) : X r d y cc mr b pc lv (.int x2 :: .int x :: st) n I Q F := by
  intro p e s m args below meth c H locs cells slots mc ms R ls Qf C hW hS hl h1 h2 fin
  obtain ⟨hd, rfl, ht⟩ := hd
  exact lv_icmp_gt C.1 C.2.1 hd ht (fun h => kt h _ _ _ _ _ _ _ _ _ _ _ _ _ _ _ _ _ C hW hS hl h1 h2 fin) (fun h => kf h _ _ _ _ _ _ _ _ _ _ _ _ _ _ _ _ _ C hW hS hl h1 h2 fin)
theorem x_if_le {r : Ev} {d : Nat} {y : MethodName} {cc : ByteArray} {mr : Nat × Option FieldType} {b : Nat × Nat} {pc q : Nat} {lv : List (Option Value)} {st : List Value} {n : Nat} {I : MI} {Q : MQ2} {F : Post} {x : Int32} {off : Int} {t : Nat} (hd : DB cc pc (.ifCond .le off) 3 off q t) (kt : x ≤ 0 → X r d y cc mr b t lv st n I Q F) (kf : ¬ x ≤ 0 → X r d y cc mr b q lv st n I Q F) : X r d y cc mr b pc lv (.int x :: st) n I Q F := by
  intro p e s m args below meth c H locs cells slots mc ms R ls Qf C hW hS hl h1 h2 fin
  obtain ⟨hd, rfl, ht⟩ := hd
  exact lv_if_le C.1 C.2.1 hd ht (fun h => kt h _ _ _ _ _ _ _ _ _ _ _ _ _ _ _ _ _ C hW hS hl h1 h2 fin) (fun h => kf h _ _ _ _ _ _ _ _ _ _ _ _ _ _ _ _ _ C hW hS hl h1 h2 fin)
theorem x_icmp_le {r : Ev} {d : Nat} {y : MethodName} {cc : ByteArray} {mr : Nat × Option FieldType} {b : Nat × Nat} {pc q : Nat} {lv : List (Option Value)} {st : List Value} {n : Nat} {I : MI} {Q : MQ2} {F : Post} {x x2 : Int32} {off : Int} {t : Nat} (hd : DB cc pc (.if_icmp .le off) 3 off q t) (kt : x ≤ x2 → X r d y cc mr b t lv st n I Q F) (kf : ¬ x ≤ x2 → X r d y cc mr b q lv st n I Q F) : X r d y cc mr b pc lv (.int x2 :: .int x :: st) n I Q F := by
  intro p e s m args below meth c H locs cells slots mc ms R ls Qf C hW hS hl h1 h2 fin
  obtain ⟨hd, rfl, ht⟩ := hd
  exact lv_icmp_le C.1 C.2.1 hd ht (fun h => kt h _ _ _ _ _ _ _ _ _ _ _ _ _ _ _ _ _ C hW hS hl h1 h2 fin) (fun h => kf h _ _ _ _ _ _ _ _ _ _ _ _ _ _ _ _ _ C hW hS hl h1 h2 fin)
theorem x_iload_0 {r : Ev} {d : Nat} {y : MethodName} {cc : ByteArray} {mr : Nat × Option FieldType} {b : Nat × Nat} {pc q : Nat} {st : List Value} {n : Nat} {I : MI} {Q : MQ2} {F : Post} {t : List (Option Value)} {x : Int32} (hd : DR cc pc (.iload_n 0) 1 q) (k : X r d y cc mr b q (some (.int x) :: t) (.int x :: st) n I Q F) : X r d y cc mr b pc (some (.int x) :: t) st n I Q F := by
  intro p e s m args below meth c H locs cells slots mc ms R ls Qf C hW hS hl h1 h2 fin
  obtain ⟨hd, rfl⟩ := hd
  exact lv_iload_n C.1 C.2.1 hd rfl (hl.2.2 0 _ rfl) (k _ _ _ _ _ _ _ _ _ _ _ _ _ _ _ _ _ C hW hS hl h1 h2 fin)
theorem x_aload_0 {r : Ev} {d : Nat} {y : MethodName} {cc : ByteArray} {mr : Nat × Option FieldType} {b : Nat × Nat} {pc q : Nat} {st : List Value} {n : Nat} {I : MI} {Q : MQ2} {F : Post} {t : List (Option Value)} {x : Nat} (hd : DR cc pc (.aload_n 0) 1 q) (k : X r d y cc mr b q (some (.ref x) :: t) (.ref x :: st) n I Q F) : X r d y cc mr b pc (some (.ref x) :: t) st n I Q F := by
  intro p e s m args below meth c H locs cells slots mc ms R ls Qf C hW hS hl h1 h2 fin
  obtain ⟨hd, rfl⟩ := hd
  exact lv_aload_n C.1 C.2.1 hd rfl (hl.2.2 0 _ rfl) (k _ _ _ _ _ _ _ _ _ _ _ _ _ _ _ _ _ C hW hS hl h1 h2 fin)
theorem x_lload_0 {r : Ev} {d : Nat} {y : MethodName} {cc : ByteArray} {mr : Nat × Option FieldType} {b : Nat × Nat} {pc q : Nat} {st : List Value} {n : Nat} {I : MI} {Q : MQ2} {F : Post} {t : List (Option Value)} {x : Int64} (hd : DR cc pc (.lload_n 0) 1 q) (k : X r d y cc mr b q (some (.long x) :: t) (.long x :: st) n I Q F) : X r d y cc mr b pc (some (.long x) :: t) st n I Q F := by
  intro p e s m args below meth c H locs cells slots mc ms R ls Qf C hW hS hl h1 h2 fin
  obtain ⟨hd, rfl⟩ := hd
  exact lv_lload_n C.1 C.2.1 hd rfl (hl.2.2 0 _ rfl) (k _ _ _ _ _ _ _ _ _ _ _ _ _ _ _ _ _ C hW hS hl h1 h2 fin)
theorem x_iload_1 {r : Ev} {d : Nat} {y : MethodName} {cc : ByteArray} {mr : Nat × Option FieldType} {b : Nat × Nat} {pc q : Nat} {st : List Value} {n : Nat} {I : MI} {Q : MQ2} {F : Post} {a0 : Option Value} {t : List (Option Value)} {x : Int32} (hd : DR cc pc (.iload_n 1) 1 q) (k : X r d y cc mr b q (a0 :: some (.int x) :: t) (.int x :: st) n I Q F) : X r d y cc mr b pc (a0 :: some (.int x) :: t) st n I Q F := by
  intro p e s m args below meth c H locs cells slots mc ms R ls Qf C hW hS hl h1 h2 fin
  obtain ⟨hd, rfl⟩ := hd
  exact lv_iload_n C.1 C.2.1 hd rfl (hl.2.2 1 _ rfl) (k _ _ _ _ _ _ _ _ _ _ _ _ _ _ _ _ _ C hW hS hl h1 h2 fin)
theorem x_aload_1 {r : Ev} {d : Nat} {y : MethodName} {cc : ByteArray} {mr : Nat × Option FieldType} {b : Nat × Nat} {pc q : Nat} {st : List Value} {n : Nat} {I : MI} {Q : MQ2} {F : Post} {a0 : Option Value} {t : List (Option Value)} {x : Nat} (hd : DR cc pc (.aload_n 1) 1 q) (k : X r d y cc mr b q (a0 :: some (.ref x) :: t) (.ref x :: st) n I Q F) : X r d y cc mr b pc (a0 :: some (.ref x) :: t) st n I Q F := by
  intro p e s m args below meth c H locs cells slots mc ms R ls Qf C hW hS hl h1 h2 fin
  obtain ⟨hd, rfl⟩ := hd
  exact lv_aload_n C.1 C.2.1 hd rfl (hl.2.2 1 _ rfl) (k _ _ _ _ _ _ _ _ _ _ _ _ _ _ _ _ _ C hW hS hl h1 h2 fin)
theorem x_lload_1 {r : Ev} {d : Nat} {y : MethodName} {cc : ByteArray} {mr : Nat × Option FieldType} {b : Nat × Nat} {pc q : Nat} {st : List Value} {n : Nat} {I : MI} {Q : MQ2} {F : Post} {a0 : Option Value} {t : List (Option Value)} {x : Int64} (hd : DR cc pc (.lload_n 1) 1 q) (k : X r d y cc mr b q (a0 :: some (.long x) :: t) (.long x :: st) n I Q F) : X r d y cc mr b pc (a0 :: some (.long x) :: t) st n I Q F := by
  intro p e s m args below meth c H locs cells slots mc ms R ls Qf C hW hS hl h1 h2 fin
  obtain ⟨hd, rfl⟩ := hd
  exact lv_lload_n C.1 C.2.1 hd rfl (hl.2.2 1 _ rfl) (k _ _ _ _ _ _ _ _ _ _ _ _ _ _ _ _ _ C hW hS hl h1 h2 fin)
theorem x_iload_2 {r : Ev} {d : Nat} {y : MethodName} {cc : ByteArray} {mr : Nat × Option FieldType} {b : Nat × Nat} {pc q : Nat} {st : List Value} {n : Nat} {I : MI} {Q : MQ2} {F : Post} {a0 a1 : Option Value} {t : List (Option Value)} {x : Int32} (hd : DR cc pc (.iload_n 2) 1 q) (k : X r d y cc mr b q (a0 :: a1 :: some (.int x) :: t) (.int x :: st) n I Q F) : X r d y cc mr b pc (a0 :: a1 :: some (.int x) :: t) st n I Q F := by
  intro p e s m args below meth c H locs cells slots mc ms R ls Qf C hW hS hl h1 h2 fin
  obtain ⟨hd, rfl⟩ := hd
  exact lv_iload_n C.1 C.2.1 hd rfl (hl.2.2 2 _ rfl) (k _ _ _ _ _ _ _ _ _ _ _ _ _ _ _ _ _ C hW hS hl h1 h2 fin)
theorem x_aload_2 {r : Ev} {d : Nat} {y : MethodName} {cc : ByteArray} {mr : Nat × Option FieldType} {b : Nat × Nat} {pc q : Nat} {st : List Value} {n : Nat} {I : MI} {Q : MQ2} {F : Post} {a0 a1 : Option Value} {t : List (Option Value)} {x : Nat} (hd : DR cc pc (.aload_n 2) 1 q) (k : X r d y cc mr b q (a0 :: a1 :: some (.ref x) :: t) (.ref x :: st) n I Q F) : X r d y cc mr b pc (a0 :: a1 :: some (.ref x) :: t) st n I Q F := by
  intro p e s m args below meth c H locs cells slots mc ms R ls Qf C hW hS hl h1 h2 fin
  obtain ⟨hd, rfl⟩ := hd
  exact lv_aload_n C.1 C.2.1 hd rfl (hl.2.2 2 _ rfl) (k _ _ _ _ _ _ _ _ _ _ _ _ _ _ _ _ _ C hW hS hl h1 h2 fin)
theorem x_lload_2 {r : Ev} {d : Nat} {y : MethodName} {cc : ByteArray} {mr : Nat × Option FieldType} {b : Nat × Nat} {pc q : Nat} {st : List Value} {n : Nat} {I : MI} {Q : MQ2} {F : Post} {a0 a1 : Option Value} {t : List (Option Value)} {x : Int64} (hd : DR cc pc (.lload_n 2) 1 q) (k : X r d y cc mr b q (a0 :: a1 :: some (.long x) :: t) (.long x :: st) n I Q F) : X r d y cc mr b pc (a0 :: a1 :: some (.long x) :: t) st n I Q F := by
  intro p e s m args below meth c H locs cells slots mc ms R ls Qf C hW hS hl h1 h2 fin
  obtain ⟨hd, rfl⟩ := hd
  exact lv_lload_n C.1 C.2.1 hd rfl (hl.2.2 2 _ rfl) (k _ _ _ _ _ _ _ _ _ _ _ _ _ _ _ _ _ C hW hS hl h1 h2 fin)
theorem x_iload_3 {r : Ev} {d : Nat} {y : MethodName} {cc : ByteArray} {mr : Nat × Option FieldType} {b : Nat × Nat} {pc q : Nat} {st : List Value} {n : Nat} {I : MI} {Q : MQ2} {F : Post} {a0 a1 a2 : Option Value} {t : List (Option Value)} {x : Int32} (hd : DR cc pc (.iload_n 3) 1 q) (k : X r d y cc mr b q (a0 :: a1 :: a2 :: some (.int x) :: t) (.int x :: st) n I Q F) : X r d y cc mr b pc (a0 :: a1 :: a2 :: some (.int x) :: t) st n I Q F := by
  intro p e s m args below meth c H locs cells slots mc ms R ls Qf C hW hS hl h1 h2 fin
  obtain ⟨hd, rfl⟩ := hd
  exact lv_iload_n C.1 C.2.1 hd rfl (hl.2.2 3 _ rfl) (k _ _ _ _ _ _ _ _ _ _ _ _ _ _ _ _ _ C hW hS hl h1 h2 fin)
theorem x_aload_3 {r : Ev} {d : Nat} {y : MethodName} {cc : ByteArray} {mr : Nat × Option FieldType} {b : Nat × Nat} {pc q : Nat} {st : List Value} {n : Nat} {I : MI} {Q : MQ2} {F : Post} {a0 a1 a2 : Option Value} {t : List (Option Value)} {x : Nat} (hd : DR cc pc (.aload_n 3) 1 q) (k : X r d y cc mr b q (a0 :: a1 :: a2 :: some (.ref x) :: t) (.ref x :: st) n I Q F) : X r d y cc mr b pc (a0 :: a1 :: a2 :: some (.ref x) :: t) st n I Q F := by
  intro p e s m args below meth c H locs cells slots mc ms R ls Qf C hW hS hl h1 h2 fin
  obtain ⟨hd, rfl⟩ := hd
  exact lv_aload_n C.1 C.2.1 hd rfl (hl.2.2 3 _ rfl) (k _ _ _ _ _ _ _ _ _ _ _ _ _ _ _ _ _ C hW hS hl h1 h2 fin)
theorem x_lload_3 {r : Ev} {d : Nat} {y : MethodName} {cc : ByteArray} {mr : Nat × Option FieldType} {b : Nat × Nat} {pc q : Nat} {st : List Value} {n : Nat} {I : MI} {Q : MQ2} {F : Post} {a0 a1 a2 : Option Value} {t : List (Option Value)} {x : Int64} (hd : DR cc pc (.lload_n 3) 1 q) (k : X r d y cc mr b q (a0 :: a1 :: a2 :: some (.long x) :: t) (.long x :: st) n I Q F) : X r d y cc mr b pc (a0 :: a1 :: a2 :: some (.long x) :: t) st n I Q F := by
  intro p e s m args below meth c H locs cells slots mc ms R ls Qf C hW hS hl h1 h2 fin
  obtain ⟨hd, rfl⟩ := hd
  exact lv_lload_n C.1 C.2.1 hd rfl (hl.2.2 3 _ rfl) (k _ _ _ _ _ _ _ _ _ _ _ _ _ _ _ _ _ C hW hS hl h1 h2 fin)
theorem x_iload_4 {r : Ev} {d : Nat} {y : MethodName} {cc : ByteArray} {mr : Nat × Option FieldType} {b : Nat × Nat} {pc q : Nat} {st : List Value} {n : Nat} {I : MI} {Q : MQ2} {F : Post} {a0 a1 a2 a3 : Option Value} {t : List (Option Value)} {x : Int32} (hd : DR cc pc (.iload 4) 2 q) (k : X r d y cc mr b q (a0 :: a1 :: a2 :: a3 :: some (.int x) :: t) (.int x :: st) n I Q F) : X r d y cc mr b pc (a0 :: a1 :: a2 :: a3 :: some (.int x) :: t) st n I Q F := by
  intro p e s m args below meth c H locs cells slots mc ms R ls Qf C hW hS hl h1 h2 fin
  obtain ⟨hd, rfl⟩ := hd
  exact lv_iload C.1 C.2.1 hd (hl.2.2 4 _ rfl) (k _ _ _ _ _ _ _ _ _ _ _ _ _ _ _ _ _ C hW hS hl h1 h2 fin)
theorem x_aload_4 {r : Ev} {d : Nat} {y : MethodName} {cc : ByteArray} {mr : Nat × Option FieldType} {b : Nat × Nat} {pc q : Nat} {st : List Value} {n : Nat} {I : MI} {Q : MQ2} {F : Post} {a0 a1 a2 a3 : Option Value} {t : List (Option Value)} {x : Nat} (hd : DR cc pc (.aload 4) 2 q) (k : X r d y cc mr b q (a0 :: a1 :: a2 :: a3 :: some (.ref x) :: t) (.ref x :: st) n I Q F) : X r d y cc mr b pc (a0 :: a1 :: a2 :: a3 :: some (.ref x) :: t) st n I Q F := by
  intro p e s m args below meth c H locs cells slots mc ms R ls Qf C hW hS hl h1 h2 fin
  obtain ⟨hd, rfl⟩ := hd
  exact lv_aload C.1 C.2.1 hd (hl.2.2 4 _ rfl) (k _ _ _ _ _ _ _ _ _ _ _ _ _ _ _ _ _ C hW hS hl h1 h2 fin)
theorem x_lload_4 {r : Ev} {d : Nat} {y : MethodName} {cc : ByteArray} {mr : Nat × Option FieldType} {b : Nat × Nat} {pc q : Nat} {st : List Value} {n : Nat} {I : MI} {Q : MQ2} {F : Post} {a0 a1 a2 a3 : Option Value} {t : List (Option Value)} {x : Int64} (hd : DR cc pc (.lload 4) 2 q) (k : X r d y cc mr b q (a0 :: a1 :: a2 :: a3 :: some (.long x) :: t) (.long x :: st) n I Q F) : X r d y cc mr b pc (a0 :: a1 :: a2 :: a3 :: some (.long x) :: t) st n I Q F := by
  intro p e s m args below meth c H locs cells slots mc ms R ls Qf C hW hS hl h1 h2 fin
  obtain ⟨hd, rfl⟩ := hd
  exact lv_lload C.1 C.2.1 hd (hl.2.2 4 _ rfl) (k _ _ _ _ _ _ _ _ _ _ _ _ _ _ _ _ _ C hW hS hl h1 h2 fin)
theorem x_iload_5 {r : Ev} {d : Nat} {y : MethodName} {cc : ByteArray} {mr : Nat × Option FieldType} {b : Nat × Nat} {pc q : Nat} {st : List Value} {n : Nat} {I : MI} {Q : MQ2} {F : Post} {a0 a1 a2 a3 a4 : Option Value} {t : List (Option Value)} {x : Int32} (hd : DR cc pc (.iload 5) 2 q) (k : X r d y cc mr b q (a0 :: a1 :: a2 :: a3 :: a4 :: some (.int x) :: t) (.int x :: st) n I Q F) : X r d y cc mr b pc (a0 :: a1 :: a2 :: a3 :: a4 :: some (.int x) :: t) st n I Q F := by
  intro p e s m args below meth c H locs cells slots mc ms R ls Qf C hW hS hl h1 h2 fin
  obtain ⟨hd, rfl⟩ := hd
  exact lv_iload C.1 C.2.1 hd (hl.2.2 5 _ rfl) (k _ _ _ _ _ _ _ _ _ _ _ _ _ _ _ _ _ C hW hS hl h1 h2 fin)
theorem x_aload_5 {r : Ev} {d : Nat} {y : MethodName} {cc : ByteArray} {mr : Nat × Option FieldType} {b : Nat × Nat} {pc q : Nat} {st : List Value} {n : Nat} {I : MI} {Q : MQ2} {F : Post} {a0 a1 a2 a3 a4 : Option Value} {t : List (Option Value)} {x : Nat} (hd : DR cc pc (.aload 5) 2 q) (k : X r d y cc mr b q (a0 :: a1 :: a2 :: a3 :: a4 :: some (.ref x) :: t) (.ref x :: st) n I Q F) : X r d y cc mr b pc (a0 :: a1 :: a2 :: a3 :: a4 :: some (.ref x) :: t) st n I Q F := by
  intro p e s m args below meth c H locs cells slots mc ms R ls Qf C hW hS hl h1 h2 fin
  obtain ⟨hd, rfl⟩ := hd
  exact lv_aload C.1 C.2.1 hd (hl.2.2 5 _ rfl) (k _ _ _ _ _ _ _ _ _ _ _ _ _ _ _ _ _ C hW hS hl h1 h2 fin)
theorem x_lload_5 {r : Ev} {d : Nat} {y : MethodName} {cc : ByteArray} {mr : Nat × Option FieldType} {b : Nat × Nat} {pc q : Nat} {st : List Value} {n : Nat} {I : MI} {Q : MQ2} {F : Post} {a0 a1 a2 a3 a4 : Option Value} {t : List (Option Value)} {x : Int64} (hd : DR cc pc (.lload 5) 2 q) (k : X r d y cc mr b q (a0 :: a1 :: a2 :: a3 :: a4 :: some (.long x) :: t) (.long x :: st) n I Q F) : X r d y cc mr b pc (a0 :: a1 :: a2 :: a3 :: a4 :: some (.long x) :: t) st n I Q F := by
  intro p e s m args below meth c H locs cells slots mc ms R ls Qf C hW hS hl h1 h2 fin
  obtain ⟨hd, rfl⟩ := hd
  exact lv_lload C.1 C.2.1 hd (hl.2.2 5 _ rfl) (k _ _ _ _ _ _ _ _ _ _ _ _ _ _ _ _ _ C hW hS hl h1 h2 fin)
theorem x_iload_6 {r : Ev} {d : Nat} {y : MethodName} {cc : ByteArray} {mr : Nat × Option FieldType} {b : Nat × Nat} {pc q : Nat} {st : List Value} {n : Nat} {I : MI} {Q : MQ2} {F : Post} {a0 a1 a2 a3 a4 a5 : Option Value} {t : List (Option Value)} {x : Int32} (hd : DR cc pc (.iload 6) 2 q) (k : X r d y cc mr b q (a0 :: a1 :: a2 :: a3 :: a4 :: a5 :: some (.int x) :: t) (.int x :: st) n I Q F) : X r d y cc mr b pc (a0 :: a1 :: a2 :: a3 :: a4 :: a5 :: some (.int x) :: t) st n I Q F := by
  intro p e s m args below meth c H locs cells slots mc ms R ls Qf C hW hS hl h1 h2 fin
  obtain ⟨hd, rfl⟩ := hd
  exact lv_iload C.1 C.2.1 hd (hl.2.2 6 _ rfl) (k _ _ _ _ _ _ _ _ _ _ _ _ _ _ _ _ _ C hW hS hl h1 h2 fin)
theorem x_aload_6 {r : Ev} {d : Nat} {y : MethodName} {cc : ByteArray} {mr : Nat × Option FieldType} {b : Nat × Nat} {pc q : Nat} {st : List Value} {n : Nat} {I : MI} {Q : MQ2} {F : Post} {a0 a1 a2 a3 a4 a5 : Option Value} {t : List (Option Value)} {x : Nat} (hd : DR cc pc (.aload 6) 2 q) (k : X r d y cc mr b q (a0 :: a1 :: a2 :: a3 :: a4 :: a5 :: some (.ref x) :: t) (.ref x :: st) n I Q F) : X r d y cc mr b pc (a0 :: a1 :: a2 :: a3 :: a4 :: a5 :: some (.ref x) :: t) st n I Q F := by
  intro p e s m args below meth c H locs cells slots mc ms R ls Qf C hW hS hl h1 h2 fin
  obtain ⟨hd, rfl⟩ := hd
  exact lv_aload C.1 C.2.1 hd (hl.2.2 6 _ rfl) (k _ _ _ _ _ _ _ _ _ _ _ _ _ _ _ _ _ C hW hS hl h1 h2 fin)
theorem x_lload_6 {r : Ev} {d : Nat} {y : MethodName} {cc : ByteArray} {mr : Nat × Option FieldType} {b : Nat × Nat} {pc q : Nat} {st : List Value} {n : Nat} {I : MI} {Q : MQ2} {F : Post} {a0 a1 a2 a3 a4 a5 : Option Value} {t : List (Option Value)} {x : Int64} (hd : DR cc pc (.lload 6) 2 q) (k : X r d y cc mr b q (a0 :: a1 :: a2 :: a3 :: a4 :: a5 :: some (.long x) :: t) (.long x :: st) n I Q F) : X r d y cc mr b pc (a0 :: a1 :: a2 :: a3 :: a4 :: a5 :: some (.long x) :: t) st n I Q F := by
  intro p e s m args below meth c H locs cells slots mc ms R ls Qf C hW hS hl h1 h2 fin
  obtain ⟨hd, rfl⟩ := hd
  exact lv_lload C.1 C.2.1 hd (hl.2.2 6 _ rfl) (k _ _ _ _ _ _ _ _ _ _ _ _ _ _ _ _ _ C hW hS hl h1 h2 fin)
theorem x_iload_7 {r : Ev} {d : Nat} {y : MethodName} {cc : ByteArray} {mr : Nat × Option FieldType} {b : Nat × Nat} {pc q : Nat} {st : List Value} {n : Nat} {I : MI} {Q : MQ2} {F : Post} {a0 a1 a2 a3 a4 a5 a6 : Option Value} {t : List (Option Value)} {x : Int32} (hd : DR cc pc (.iload 7) 2 q) (k : X r d y cc mr b q (a0 :: a1 :: a2 :: a3 :: a4 :: a5 :: a6 :: some (.int x) :: t) (.int x :: st) n I Q F) : X r d y cc mr b pc (a0 :: a1 :: a2 :: a3 :: a4 :: a5 :: a6 :: some (.int x) :: t) st n I Q F := by
  intro p e s m args below meth c H locs cells slots mc ms R ls Qf C hW hS hl h1 h2 fin
  obtain ⟨hd, rfl⟩ := hd
  exact lv_iload C.1 C.2.1 hd (hl.2.2 7 _ rfl) (k _ _ _ _ _ _ _ _ _ _ _ _ _ _ _ _ _ C hW hS hl h1 h2 fin)
theorem x_aload_7 {r : Ev} {d : Nat} {y : MethodName} {cc : ByteArray} {mr : Nat × Option FieldType} {b : Nat × Nat} {pc q : Nat} {st : List Value} {n : Nat} {I : MI} {Q : MQ2} {F : Post} {a0 a1 a2 a3 a4 a5 a6 : Option Value} {t : List (Option Value)} {x : Nat} (hd : DR cc pc (.aload 7) 2 q) (k : X r d y cc mr b q (a0 :: a1 :: a2 :: a3 :: a4 :: a5 :: a6 :: some (.ref x) :: t) (.ref x :: st) n I Q F) : X r d y cc mr b pc (a0 :: a1 :: a2 :: a3 :: a4 :: a5 :: a6 :: some (.ref x) :: t) st n I Q F := by
  intro p e s m args below meth c H locs cells slots mc ms R ls Qf C hW hS hl h1 h2 fin
  obtain ⟨hd, rfl⟩ := hd
  exact lv_aload C.1 C.2.1 hd (hl.2.2 7 _ rfl) (k _ _ _ _ _ _ _ _ _ _ _ _ _ _ _ _ _ C hW hS hl h1 h2 fin)
theorem x_lload_7 {r : Ev} {d : Nat} {y : MethodName} {cc : ByteArray} {mr : Nat × Option FieldType} {b : Nat × Nat} {pc q : Nat} {st : List Value} {n : Nat} {I : MI} {Q : MQ2} {F : Post} {a0 a1 a2 a3 a4 a5 a6 : Option Value} {t : List (Option Value)} {x : Int64} (hd : DR cc pc (.lload 7) 2 q) (k : X r d y cc mr b q (a0 :: a1 :: a2 :: a3 :: a4 :: a5 :: a6 :: some (.long x) :: t) (.long x :: st) n I Q F) : X r d y cc mr b pc (a0 :: a1 :: a2 :: a3 :: a4 :: a5 :: a6 :: some (.long x) :: t) st n I Q F := by
  intro p e s m args below meth c H locs cells slots mc ms R ls Qf C hW hS hl h1 h2 fin
  obtain ⟨hd, rfl⟩ := hd
  exact lv_lload C.1 C.2.1 hd (hl.2.2 7 _ rfl) (k _ _ _ _ _ _ _ _ _ _ _ _ _ _ _ _ _ C hW hS hl h1 h2 fin)
theorem x_iload_8 {r : Ev} {d : Nat} {y : MethodName} {cc : ByteArray} {mr : Nat × Option FieldType} {b : Nat × Nat} {pc q : Nat} {st : List Value} {n : Nat} {I : MI} {Q : MQ2} {F : Post} {a0 a1 a2 a3 a4 a5 a6 a7 : Option Value} {t : List (Option Value)} {x : Int32} (hd : DR cc pc (.iload 8) 2 q) (k : X r d y cc mr b q (a0 :: a1 :: a2 :: a3 :: a4 :: a5 :: a6 :: a7 :: some (.int x) :: t) (.int x :: st) n I Q F) : X r d y cc mr b pc (a0 :: a1 :: a2 :: a3 :: a4 :: a5 :: a6 :: a7 :: some (.int x) :: t) st n I Q F := by
  intro p e s m args below meth c H locs cells slots mc ms R ls Qf C hW hS hl h1 h2 fin
  obtain ⟨hd, rfl⟩ := hd
  exact lv_iload C.1 C.2.1 hd (hl.2.2 8 _ rfl) (k _ _ _ _ _ _ _ _ _ _ _ _ _ _ _ _ _ C hW hS hl h1 h2 fin)
theorem x_aload_8 {r : Ev} {d : Nat} {y : MethodName} {cc : ByteArray} {mr : Nat × Option FieldType} {b : Nat × Nat} {pc q : Nat} {st : List Value} {n : Nat} {I : MI} {Q : MQ2} {F : Post} {a0 a1 a2 a3 a4 a5 a6 a7 : Option Value} {t : List (Option Value)} {x : Nat} (hd : DR cc pc (.aload 8) 2 q) (k : X r d y cc mr b q (a0 :: a1 :: a2 :: a3 :: a4 :: a5 :: a6 :: a7 :: some (.ref x) :: t) (.ref x :: st) n I Q F) : X r d y cc mr b pc (a0 :: a1 :: a2 :: a3 :: a4 :: a5 :: a6 :: a7 :: some (.ref x) :: t) st n I Q F := by
  intro p e s m args below meth c H locs cells slots mc ms R ls Qf C hW hS hl h1 h2 fin
  obtain ⟨hd, rfl⟩ := hd
  exact lv_aload C.1 C.2.1 hd (hl.2.2 8 _ rfl) (k _ _ _ _ _ _ _ _ _ _ _ _ _ _ _ _ _ C hW hS hl h1 h2 fin)
theorem x_lload_8 {r : Ev} {d : Nat} {y : MethodName} {cc : ByteArray} {mr : Nat × Option FieldType} {b : Nat × Nat} {pc q : Nat} {st : List Value} {n : Nat} {I : MI} {Q : MQ2} {F : Post} {a0 a1 a2 a3 a4 a5 a6 a7 : Option Value} {t : List (Option Value)} {x : Int64} (hd : DR cc pc (.lload 8) 2 q) (k : X r d y cc mr b q (a0 :: a1 :: a2 :: a3 :: a4 :: a5 :: a6 :: a7 :: some (.long x) :: t) (.long x :: st) n I Q F) : X r d y cc mr b pc (a0 :: a1 :: a2 :: a3 :: a4 :: a5 :: a6 :: a7 :: some (.long x) :: t) st n I Q F := by
  intro p e s m args below meth c H locs cells slots mc ms R ls Qf C hW hS hl h1 h2 fin
  obtain ⟨hd, rfl⟩ := hd
  exact lv_lload C.1 C.2.1 hd (hl.2.2 8 _ rfl) (k _ _ _ _ _ _ _ _ _ _ _ _ _ _ _ _ _ C hW hS hl h1 h2 fin)
theorem x_iload_9 {r : Ev} {d : Nat} {y : MethodName} {cc : ByteArray} {mr : Nat × Option FieldType} {b : Nat × Nat} {pc q : Nat} {st : List Value} {n : Nat} {I : MI} {Q : MQ2} {F : Post} {a0 a1 a2 a3 a4 a5 a6 a7 a8 : Option Value} {t : List (Option Value)} {x : Int32} (hd : DR cc pc (.iload 9) 2 q) (k : X r d y cc mr b q (a0 :: a1 :: a2 :: a3 :: a4 :: a5 :: a6 :: a7 :: a8 :: some (.int x) :: t) (.int x :: st) n I Q F) : X r d y cc mr b pc (a0 :: a1 :: a2 :: a3 :: a4 :: a5 :: a6 :: a7 :: a8 :: some (.int x) :: t) st n I Q F := by
  intro p e s m args below meth c H locs cells slots mc ms R ls Qf C hW hS hl h1 h2 fin
  obtain ⟨hd, rfl⟩ := hd
  exact lv_iload C.1 C.2.1 hd (hl.2.2 9 _ rfl) (k _ _ _ _ _ _ _ _ _ _ _ _ _ _ _ _ _ C hW hS hl h1 h2 fin)
theorem x_aload_9 {r : Ev} {d : Nat} {y : MethodName} {cc : ByteArray} {mr : Nat × Option FieldType} {b : Nat × Nat} {pc q : Nat} {st : List Value} {n : Nat} {I : MI} {Q : MQ2} {F : Post} {a0 a1 a2 a3 a4 a5 a6 a7 a8 : Option Value} {t : List (Option Value)} {x : Nat} (hd : DR cc pc (.aload 9) 2 q) (k : X r d y cc mr b q (a0 :: a1 :: a2 :: a3 :: a4 :: a5 :: a6 :: a7 :: a8 :: some (.ref x) :: t) (.ref x :: st) n I Q F) : X r d y cc mr b pc (a0 :: a1 :: a2 :: a3 :: a4 :: a5 :: a6 :: a7 :: a8 :: some (.ref x) :: t) st n I Q F := by
  intro p e s m args below meth c H locs cells slots mc ms R ls Qf C hW hS hl h1 h2 fin
  obtain ⟨hd, rfl⟩ := hd
  exact lv_aload C.1 C.2.1 hd (hl.2.2 9 _ rfl) (k _ _ _ _ _ _ _ _ _ _ _ _ _ _ _ _ _ C hW hS hl h1 h2 fin)
theorem x_lload_9 {r : Ev} {d : Nat} {y : MethodName} {cc : ByteArray} {mr : Nat × Option FieldType} {b : Nat × Nat} {pc q : Nat} {st : List Value} {n : Nat} {I : MI} {Q : MQ2} {F : Post} {a0 a1 a2 a3 a4 a5 a6 a7 a8 : Option Value} {t : List (Option Value)} {x : Int64} (hd : DR cc pc (.lload 9) 2 q) (k : X r d y cc mr b q (a0 :: a1 :: a2 :: a3 :: a4 :: a5 :: a6 :: a7 :: a8 :: some (.long x) :: t) (.long x :: st) n I Q F) : X r d y cc mr b pc (a0 :: a1 :: a2 :: a3 :: a4 :: a5 :: a6 :: a7 :: a8 :: some (.long x) :: t) st n I Q F := by
  intro p e s m args below meth c H locs cells slots mc ms R ls Qf C hW hS hl h1 h2 fin
  obtain ⟨hd, rfl⟩ := hd
  exact lv_lload C.1 C.2.1 hd (hl.2.2 9 _ rfl) (k _ _ _ _ _ _ _ _ _ _ _ _ _ _ _ _ _ C hW hS hl h1 h2 fin)
theorem x_iload_10 {r : Ev} {d : Nat} {y : MethodName} {cc : ByteArray} {mr : Nat × Option FieldType} {b : Nat × Nat} {pc q : Nat} {st : List Value} {n : Nat} {I : MI} {Q : MQ2} {F : Post} {a0 a1 a2 a3 a4 a5 a6 a7 a8 a9 : Option Value} {t : List (Option Value)} {x : Int32} (hd : DR cc pc (.iload 10) 2 q) (k : X r d y cc mr b q (a0 :: a1 :: a2 :: a3 :: a4 :: a5 :: a6 :: a7 :: a8 :: a9 :: some (.int x) :: t) (.int x :: st) n I Q F) : X r d y cc mr b pc (a0 :: a1 :: a2 :: a3 :: a4 :: a5 :: a6 :: a7 :: a8 :: a9 :: some (.int x) :: t) st n I Q F := by
  intro p e s m args below meth c H locs cells slots mc ms R ls Qf C hW hS hl h1 h2 fin
  obtain ⟨hd, rfl⟩ := hd
  exact lv_iload C.1 C.2.1 hd (hl.2.2 10 _ rfl) (k _ _ _ _ _ _ _ _ _ _ _ _ _ _ _ _ _ C hW hS hl h1 h2 fin)
theorem x_aload_10 {r : Ev} {d : Nat} {y : MethodName} {cc : ByteArray} {mr : Nat × Option FieldType} {b : Nat × Nat} {pc q : Nat} {st : List Value} {n : Nat} {I : MI} {Q : MQ2} {F : Post} {a0 a1 a2 a3 a4 a5 a6 a7 a8 a9 : Option Value} {t : List (Option Value)} {x : Nat} (hd : DR cc pc (.aload 10) 2 q) (k : X r d y cc mr b q (a0 :: a1 :: a2 :: a3 :: a4 :: a5 :: a6 :: a7 :: a8 :: a9 :: some (.ref x) :: t) (.ref x :: st) n I Q F) : X r d y cc mr b pc (a0 :: a1 :: a2 :: a3 :: a4 :: a5 :: a6 :: a7 :: a8 :: a9 :: some (.ref x) :: t) st n I Q F := by
  intro p e s m args below meth c H locs cells slots mc ms R ls Qf C hW hS hl h1 h2 fin
  obtain ⟨hd, rfl⟩ := hd
  exact lv_aload C.1 C.2.1 hd (hl.2.2 10 _ rfl) (k _ _ _ _ _ _ _ _ _ _ _ _ _ _ _ _ _ C hW hS hl h1 h2 fin)
theorem x_lload_10 {r : Ev} {d : Nat} {y : MethodName} {cc : ByteArray} {mr : Nat × Option FieldType} {b : Nat × Nat} {pc q : Nat} {st : List Value} {n : Nat} {I : MI} {Q : MQ2} {F : Post} {a0 a1 a2 a3 a4 a5 a6 a7 a8 a9 : Option Value} {t : List (Option Value)} {x : Int64} (hd : DR cc pc (.lload 10) 2 q) (k : X r d y cc mr b q (a0 :: a1 :: a2 :: a3 :: a4 :: a5 :: a6 :: a7 :: a8 :: a9 :: some (.long x) :: t) (.long x :: st) n I Q F) : X r d y cc mr b pc (a0 :: a1 :: a2 :: a3 :: a4 :: a5 :: a6 :: a7 :: a8 :: a9 :: some (.long x) :: t) st n I Q F := by
  intro p e s m args below meth c H locs cells slots mc ms R ls Qf C hW hS hl h1 h2 fin
  obtain ⟨hd, rfl⟩ := hd
  exact lv_lload C.1 C.2.1 hd (hl.2.2 10 _ rfl) (k _ _ _ _ _ _ _ _ _ _ _ _ _ _ _ _ _ C hW hS hl h1 h2 fin)
theorem x_iload_11 {r : Ev} {d : Nat} {y : MethodName} {cc : ByteArray} {mr : Nat × Option FieldType} {b : Nat × Nat} {pc q : Nat} {st : List Value} {n : Nat} {I : MI} {Q : MQ2} {F : Post} {a0 a1 a2 a3 a4 a5 a6 a7 a8 a9 a10 : Option Value} {t : List (Option Value)} {x : Int32} (hd : DR cc pc (.iload 11) 2 q) (k : X r d y cc mr b q (a0 :: a1 :: a2 :: a3 :: a4 :: a5 :: a6 :: a7 :: a8 :: a9 :: a10 :: some (.int x) :: t) (.int x :: st) n I Q F) : X r d y cc mr b pc (a0 :: a1 :: a2 :: a3 :: a4 :: a5 :: a6 :: a7 :: a8 :: a9 :: a10 :: some (.int x) :: t) st n I Q F := by
  intro p e s m args below meth c H locs cells slots mc ms R ls Qf C hW hS hl h1 h2 fin
  obtain ⟨hd, rfl⟩ := hd
  exact lv_iload C.1 C.2.1 hd (hl.2.2 11 _ rfl) (k _ _ _ _ _ _ _ _ _ _ _ _ _ _ _ _ _ C hW hS hl h1 h2 fin)
theorem x_aload_11 {r : Ev} {d : Nat} {y : MethodName} {cc : ByteArray} {mr : Nat × Option FieldType} {b : Nat × Nat} {pc q : Nat} {st : List Value} {n : Nat} {I : MI} {Q : MQ2} {F : Post} {a0 a1 a2 a3 a4 a5 a6 a7 a8 a9 a10 : Option Value} {t : List (Option Value)} {x : Nat} (hd : DR cc pc (.aload 11) 2 q) (k : X r d y cc mr b q (a0 :: a1 :: a2 :: a3 :: a4 :: a5 :: a6 :: a7 :: a8 :: a9 :: a10 :: some (.ref x) :: t) (.ref x :: st) n I Q F) : X r d y cc mr b pc (a0 :: a1 :: a2 :: a3 :: a4 :: a5 :: a6 :: a7 :: a8 :: a9 :: a10 :: some (.ref x) :: t) st n I Q F := by
  intro p e s m args below meth c H locs cells slots mc ms R ls Qf C hW hS hl h1 h2 fin
  obtain ⟨hd, rfl⟩ := hd
  exact lv_aload C.1 C.2.1 hd (hl.2.2 11 _ rfl) (k _ _ _ _ _ _ _ _ _ _ _ _ _ _ _ _ _ C hW hS hl h1 h2 fin)
theorem x_lload_11 {r : Ev} {d : Nat} {y : MethodName} {cc : ByteArray} {mr : Nat × Option FieldType} {b : Nat × Nat} {pc q : Nat} {st : List Value} {n : Nat} {I : MI} {Q : MQ2} {F : Post} {a0 a1 a2 a3 a4 a5 a6 a7 a8 a9 a10 : Option Value} {t : List (Option Value)} {x : Int64} (hd : DR cc pc (.lload 11) 2 q) (k : X r d y cc mr b q (a0 :: a1 :: a2 :: a3 :: a4 :: a5 :: a6 :: a7 :: a8 :: a9 :: a10 :: some (.long x) :: t) (.long x :: st) n I Q F) : X r d y cc mr b pc (a0 :: a1 :: a2 :: a3 :: a4 :: a5 :: a6 :: a7 :: a8 :: a9 :: a10 :: some (.long x) :: t) st n I Q F := by
  intro p e s m args below meth c H locs cells slots mc ms R ls Qf C hW hS hl h1 h2 fin
  obtain ⟨hd, rfl⟩ := hd
  exact lv_lload C.1 C.2.1 hd (hl.2.2 11 _ rfl) (k _ _ _ _ _ _ _ _ _ _ _ _ _ _ _ _ _ C hW hS hl h1 h2 fin)
theorem x_iload_12 {r : Ev} {d : Nat} {y : MethodName} {cc : ByteArray} {mr : Nat × Option FieldType} {b : Nat × Nat} {pc q : Nat} {st : List Value} {n : Nat} {I : MI} {Q : MQ2} {F : Post} {a0 a1 a2 a3 a4 a5 a6 a7 a8 a9 a10 a11 : Option Value} {t : List (Option Value)} {x : Int32} (hd : DR cc pc (.iload 12) 2 q) (k : X r d y cc mr b q (a0 :: a1 :: a2 :: a3 :: a4 :: a5 :: a6 :: a7 :: a8 :: a9 :: a10 :: a11 :: some (.int x) :: t) (.int x :: st) n I Q F) : X r d y cc mr b pc (a0 :: a1 :: a2 :: a3 :: a4 :: a5 :: a6 :: a7 :: a8 :: a9 :: a10 :: a11 :: some (.int x) :: t) st n I Q F := by
  intro p e s m args below meth c H locs cells slots mc ms R ls Qf C hW hS hl h1 h2 fin
  obtain ⟨hd, rfl⟩ := hd
  exact lv_iload C.1 C.2.1 hd (hl.2.2 12 _ rfl) (k _ _ _ _ _ _ _ _ _ _ _ _ _ _ _ _ _ C hW hS hl h1 h2 fin)
theorem x_aload_12 {r : Ev} {d : Nat} {y : MethodName} {cc : ByteArray} {mr : Nat × Option FieldType} {b : Nat × Nat} {pc q : Nat} {st : List Value} {n : Nat} {I : MI} {Q : MQ2} {F : Post} {a0 a1 a2 a3 a4 a5 a6 a7 a8 a9 a10 a11 : Option Value} {t : List (Option Value)} {x : Nat} (hd : DR cc pc (.aload 12) 2 q) (k : X r d y cc mr b q (a0 :: a1 :: a2 :: a3 :: a4 :: a5 :: a6 :: a7 :: a8 :: a9 :: a10 :: a11 :: some (.ref x) :: t) (.ref x :: st) n I Q F) : X r d y cc mr b pc (a0 :: a1 :: a2 :: a3 :: a4 :: a5 :: a6 :: a7 :: a8 :: a9 :: a10 :: a11 :: some (.ref x) :: t) st n I Q F := by
  intro p e s m args below meth c H locs cells slots mc ms R ls Qf C hW hS hl h1 h2 fin
  obtain ⟨hd, rfl⟩ := hd
  exact lv_aload C.1 C.2.1 hd (hl.2.2 12 _ rfl) (k _ _ _ _ _ _ _ _ _ _ _ _ _ _ _ _ _ C hW hS hl h1 h2 fin)
theorem x_lload_12 {r : Ev} {d : Nat} {y : MethodName} {cc : ByteArray} {mr : Nat × Option FieldType} {b : Nat × Nat} {pc q : Nat} {st : List Value} {n : Nat} {I : MI} {Q : MQ2} {F : Post} {a0 a1 a2 a3 a4 a5 a6 a7 a8 a9 a10 a11 : Option Value} {t : List (Option Value)} {x : Int64} (hd : DR cc pc (.lload 12) 2 q) (k : X r d y cc mr b q (a0 :: a1 :: a2 :: a3 :: a4 :: a5 :: a6 :: a7 :: a8 :: a9 :: a10 :: a11 :: some (.long x) :: t) (.long x :: st) n I Q F) : X r d y cc mr b pc (a0 :: a1 :: a2 :: a3 :: a4 :: a5 :: a6 :: a7 :: a8 :: a9 :: a10 :: a11 :: some (.long x) :: t) st n I Q F := by
  intro p e s m args below meth c H locs cells slots mc ms R ls Qf C hW hS hl h1 h2 fin
  obtain ⟨hd, rfl⟩ := hd
  exact lv_lload C.1 C.2.1 hd (hl.2.2 12 _ rfl) (k _ _ _ _ _ _ _ _ _ _ _ _ _ _ _ _ _ C hW hS hl h1 h2 fin)
theorem lvs_list {ls : Array Slot} {mL : Nat} {lv : List (Option Value)} (h : LVS ls mL lv) : lv_has ls mL ((List.range lv.length).filterMap (fun i => (lv.getD i none).map (fun v => (i, v)))) := by
  refine ⟨h.1, h.2.1, fun q hq => ?_⟩
  obtain ⟨i, hi, he⟩ := List.mem_filterMap.mp hq
  cases hv : lv.getD i none with
  | none => rw [hv] at he; cases he
  | some v =>
    rw [hv] at he
    cases he
    refine h.2.2 i v ?_
    have hl := List.mem_range.mp hi
    rw [List.getD_eq_getElem?_getD, List.getElem?_eq_getElem hl] at hv
    rw [List.getElem?_eq_getElem hl]
    exact congrArg some hv
def okst (lv : List (Option Value)) (i : Nat) : Bool := match i with
  | 0 => true
  | k + 1 => match lv.getD k none with
    | some v => !(v.category == 2)
    | none => true
theorem lvs_mem {lv : List (Option Value)} {i : Nat} {v : Value} (h : lv[i]? = some (some v)) : (i, v) ∈ (List.range lv.length).filterMap (fun i => (lv.getD i none).map (fun v => (i, v))) := by
  refine List.mem_filterMap.mpr ⟨i, List.mem_range.mpr (List.getElem?_eq_some_iff.mp h).1, ?_⟩
  rw [List.getD_eq_getElem?_getD, h]
  rfl
theorem lvs_put {ls' : Array Slot} {mL i : Nat} {v : Value} {lv : List (Option Value)} (hs : lv_has ls' mL ((i, v) :: ((List.range lv.length).filterMap (fun i => (lv.getD i none).map (fun v => (i, v)))).filter (fun q => !(q.1 == i) && !(q.1 + 1 == i && q.2.category == 2)))) (ho : okst lv i = true) : LVS ls' mL (lv.set i (some v)) := by
  refine ⟨hs.1, hs.2.1, fun j u hj => ?_⟩
  by_cases e : j = i
  · subst e
    have hl : j < lv.length := by have := (List.getElem?_eq_some_iff.mp hj).1; rwa [List.length_set] at this
    rw [List.getElem?_set_self hl] at hj
    have e3 := Option.some.inj (Option.some.inj hj)
    rw [← e3]
    exact hs.2.2 (j, v) List.mem_cons_self
  · rw [List.getElem?_set_ne (Ne.symm e)] at hj
    refine hs.2.2 (j, u) (List.mem_cons_of_mem _ (List.mem_filter.mpr ⟨lvs_mem hj, ?_⟩))
    have h1 : (j == i) = false := by simpa using e
    by_cases e2 : j + 1 = i
    · subst e2
      have h3 : okst lv (j + 1) = !(u.category == 2) := by
        simp only [okst, List.getD_eq_getElem?_getD, hj, Option.getD_some]
      rw [h3] at ho
      simp only [h1, Bool.not_false, Bool.true_and, beq_self_eq_true]
      exact ho
    · have h2 : (j + 1 == i) = false := by simpa using e2
      simp [h1, h2]
theorem lvs_putL {ls' : Array Slot} {mL i : Nat} {v : Value} {lv : List (Option Value)} (hs : lv_has ls' mL ((i, v) :: ((List.range lv.length).filterMap (fun i => (lv.getD i none).map (fun v => (i, v)))).filter (fun q => !(q.1 == i) && (!(q.1 == i + 1) && !(q.1 + 1 == i && q.2.category == 2))))) (ho : okst lv i = true) : LVS ls' mL ((lv.set i (some v)).set (i + 1) none) := by
  refine ⟨hs.1, hs.2.1, fun j u hj => ?_⟩
  by_cases e9 : j = i + 1
  · subst e9
    have hl : i + 1 < ((lv.set i (some v)).set (i + 1) none).length := (List.getElem?_eq_some_iff.mp hj).1
    rw [List.length_set] at hl
    rw [List.getElem?_set_self hl] at hj
    cases hj
  rw [List.getElem?_set_ne (Ne.symm e9)] at hj
  by_cases e : j = i
  · subst e
    have hl : j < lv.length := by have := (List.getElem?_eq_some_iff.mp hj).1; rwa [List.length_set] at this
    rw [List.getElem?_set_self hl] at hj
    have e3 := Option.some.inj (Option.some.inj hj)
    rw [← e3]
    exact hs.2.2 (j, v) List.mem_cons_self
  · rw [List.getElem?_set_ne (Ne.symm e)] at hj
    refine hs.2.2 (j, u) (List.mem_cons_of_mem _ (List.mem_filter.mpr ⟨lvs_mem hj, ?_⟩))
    have h1 : (j == i) = false := by simpa using e
    have h9 : (j == i + 1) = false := by simpa using e9
    by_cases e2 : j + 1 = i
    · subst e2
      have h3 : okst lv (j + 1) = !(u.category == 2) := by
        simp only [okst, List.getD_eq_getElem?_getD, hj, Option.getD_some]
      rw [h3] at ho
      simp only [h1, h9, Bool.not_false, Bool.true_and, beq_self_eq_true]
      exact ho
    · have h2 : (j + 1 == i) = false := by simpa using e2
      simp [h1, h2, h9]
theorem x_istore_0 {r : Ev} {d : Nat} {y : MethodName} {cc : ByteArray} {mr : Nat × Option FieldType} {b : Nat × Nat} {pc q : Nat} {st : List Value} {n : Nat} {I : MI} {Q : MQ2} {F : Post} {a0 : Option Value} {t : List (Option Value)} {x : Int32} (hd : DR cc pc (.istore_n 0) 1 q) (hn : Nat.ble (0 + 1) mr.1 = true) (ho : okst (a0 :: t) 0 = true) (k : X r d y cc mr b q (some (.int x) :: t) st n I Q F) : X r d y cc mr b pc (a0 :: t) (.int x :: st) n I Q F := by
  intro p e s m args below meth c H locs cells slots mc ms R ls Qf C hW hS hl h1 h2 fin
  obtain ⟨hd, rfl⟩ := hd
  exact lv_istore_n C.1 C.2.1 hd rfl (lvs_list hl) (Nat.le_of_ble_eq_true hn) rfl (fun ls' hs => k _ _ _ _ _ _ _ _ _ _ _ _ _ _ _ _ _ C hW hS (lvs_put hs ho) h1 h2 fin)
theorem x_astore_0 {r : Ev} {d : Nat} {y : MethodName} {cc : ByteArray} {mr : Nat × Option FieldType} {b : Nat × Nat} {pc q : Nat} {st : List Value} {n : Nat} {I : MI} {Q : MQ2} {F : Post} {a0 : Option Value} {t : List (Option Value)} {x : Nat} (hd : DR cc pc (.astore_n 0) 1 q) (hn : Nat.ble (0 + 1) mr.1 = true) (ho : okst (a0 :: t) 0 = true) (k : X r d y cc mr b q (some (.ref x) :: t) st n I Q F) : X r d y cc mr b pc (a0 :: t) (.ref x :: st) n I Q F := by
  intro p e s m args below meth c H locs cells slots mc ms R ls Qf C hW hS hl h1 h2 fin
  obtain ⟨hd, rfl⟩ := hd
  exact lv_astore_n C.1 C.2.1 hd rfl (lvs_list hl) (Nat.le_of_ble_eq_true hn) rfl (fun ls' hs => k _ _ _ _ _ _ _ _ _ _ _ _ _ _ _ _ _ C hW hS (lvs_put hs ho) h1 h2 fin)
theorem x_iinc_0 {r : Ev} {d : Nat} {y : MethodName} {cc : ByteArray} {mr : Nat × Option FieldType} {b : Nat × Nat} {pc q : Nat} {st : List Value} {n : Nat} {I : MI} {Q : MQ2} {F : Post} {t : List (Option Value)} {x v : Int32} {z : Int} (hd : DR cc pc (.iinc 0 z) 3 q) (hv : x + Int32.ofInt z = v) (hn : Nat.ble (0 + 1) mr.1 = true) (ho : okst (some (.int x) :: t) 0 = true) (k : X r d y cc mr b q (some (.int v) :: t) st n I Q F) : X r d y cc mr b pc (some (.int x) :: t) st n I Q F := by
  intro p e s m args below meth c H locs cells slots mc ms R ls Qf C hW hS hl h1 h2 fin
  obtain ⟨hd, rfl⟩ := hd
  obtain ⟨j, hj⟩ := List.getElem?_of_mem (lvs_mem (lv := (some (.int x) :: t)) (i := 0) (v := .int x) rfl)
  exact lv_iinc C.1 C.2.1 hd (lvs_list hl) hj hv (Nat.le_of_ble_eq_true hn) rfl (fun ls' hs => k _ _ _ _ _ _ _ _ _ _ _ _ _ _ _ _ _ C hW hS (lvs_put hs ho) h1 h2 fin)
theorem x_istore_1 {r : Ev} {d : Nat} {y : MethodName} {cc : ByteArray} {mr : Nat × Option FieldType} {b : Nat × Nat} {pc q : Nat} {st : List Value} {n : Nat} {I : MI} {Q : MQ2} {F : Post} {a0 a1 : Option Value} {t : List (Option Value)} {x : Int32} (hd : DR cc pc (.istore_n 1) 1 q) (hn : Nat.ble (1 + 1) mr.1 = true) (ho : okst (a0 :: a1 :: t) 1 = true) (k : X r d y cc mr b q (a0 :: some (.int x) :: t) st n I Q F) : X r d y cc mr b pc (a0 :: a1 :: t) (.int x :: st) n I Q F := by
  intro p e s m args below meth c H locs cells slots mc ms R ls Qf C hW hS hl h1 h2 fin
  obtain ⟨hd, rfl⟩ := hd
  exact lv_istore_n C.1 C.2.1 hd rfl (lvs_list hl) (Nat.le_of_ble_eq_true hn) rfl (fun ls' hs => k _ _ _ _ _ _ _ _ _ _ _ _ _ _ _ _ _ C hW hS (lvs_put hs ho) h1 h2 fin)
theorem x_astore_1 {r : Ev} {d : Nat} {y : MethodName} {cc : ByteArray} {mr : Nat × Option FieldType} {b : Nat × Nat} {pc q : Nat} {st : List Value} {n : Nat} {I : MI} {Q : MQ2} {F : Post} {a0 a1 : Option Value} {t : List (Option Value)} {x : Nat} (hd : DR cc pc (.astore_n 1) 1 q) (hn : Nat.ble (1 + 1) mr.1 = true) (ho : okst (a0 :: a1 :: t) 1 = true) (k : X r d y cc mr b q (a0 :: some (.ref x) :: t) st n I Q F) : X r d y cc mr b pc (a0 :: a1 :: t) (.ref x :: st) n I Q F := by
  intro p e s m args below meth c H locs cells slots mc ms R ls Qf C hW hS hl h1 h2 fin
  obtain ⟨hd, rfl⟩ := hd
  exact lv_astore_n C.1 C.2.1 hd rfl (lvs_list hl) (Nat.le_of_ble_eq_true hn) rfl (fun ls' hs => k _ _ _ _ _ _ _ _ _ _ _ _ _ _ _ _ _ C hW hS (lvs_put hs ho) h1 h2 fin)
theorem x_iinc_1 {r : Ev} {d : Nat} {y : MethodName} {cc : ByteArray} {mr : Nat × Option FieldType} {b : Nat × Nat} {pc q : Nat} {st : List Value} {n : Nat} {I : MI} {Q : MQ2} {F : Post} {a0 : Option Value} {t : List (Option Value)} {x v : Int32} {z : Int} (hd : DR cc pc (.iinc 1 z) 3 q) (hv : x + Int32.ofInt z = v) (hn : Nat.ble (1 + 1) mr.1 = true) (ho : okst (a0 :: some (.int x) :: t) 1 = true) (k : X r d y cc mr b q (a0 :: some (.int v) :: t) st n I Q F) : X r d y cc mr b pc (a0 :: some (.int x) :: t) st n I Q F := by
  intro p e s m args below meth c H locs cells slots mc ms R ls Qf C hW hS hl h1 h2 fin
  obtain ⟨hd, rfl⟩ := hd
  obtain ⟨j, hj⟩ := List.getElem?_of_mem (lvs_mem (lv := (a0 :: some (.int x) :: t)) (i := 1) (v := .int x) rfl)
  exact lv_iinc C.1 C.2.1 hd (lvs_list hl) hj hv (Nat.le_of_ble_eq_true hn) rfl (fun ls' hs => k _ _ _ _ _ _ _ _ _ _ _ _ _ _ _ _ _ C hW hS (lvs_put hs ho) h1 h2 fin)
theorem x_istore_2 {r : Ev} {d : Nat} {y : MethodName} {cc : ByteArray} {mr : Nat × Option FieldType} {b : Nat × Nat} {pc q : Nat} {st : List Value} {n : Nat} {I : MI} {Q : MQ2} {F : Post} {a0 a1 a2 : Option Value} {t : List (Option Value)} {x : Int32} (hd : DR cc pc (.istore_n 2) 1 q) (hn : Nat.ble (2 + 1) mr.1 = true) (ho : okst (a0 :: a1 :: a2 :: t) 2 = true) (k : X r d y cc mr b q (a0 :: a1 :: some (.int x) :: t) st n I Q F) : X r d y cc mr b pc (a0 :: a1 :: a2 :: t) (.int x :: st) n I Q F := by
  intro p e s m args below meth c H locs cells slots mc ms R ls Qf C hW hS hl h1 h2 fin
  obtain ⟨hd, rfl⟩ := hd
  exact lv_istore_n C.1 C.2.1 hd rfl (lvs_list hl) (Nat.le_of_ble_eq_true hn) rfl (fun ls' hs => k _ _ _ _ _ _ _ _ _ _ _ _ _ _ _ _ _ C hW hS (lvs_put hs ho) h1 h2 fin)
theorem x_astore_2 {r : Ev} {d : Nat} {y : MethodName} {cc : ByteArray} {mr : Nat × Option FieldType} {b : Nat × Nat} {pc q : Nat} {st : List Value} {n : Nat} {I : MI} {Q : MQ2} {F : Post} {a0 a1 a2 : Option Value} {t : List (Option Value)} {x : Nat} (hd : DR cc pc (.astore_n 2) 1 q) (hn : Nat.ble (2 + 1) mr.1 = true) (ho : okst (a0 :: a1 :: a2 :: t) 2 = true) (k : X r d y cc mr b q (a0 :: a1 :: some (.ref x) :: t) st n I Q F) : X r d y cc mr b pc (a0 :: a1 :: a2 :: t) (.ref x :: st) n I Q F := by
  intro p e s m args below meth c H locs cells slots mc ms R ls Qf C hW hS hl h1 h2 fin
  obtain ⟨hd, rfl⟩ := hd
  exact lv_astore_n C.1 C.2.1 hd rfl (lvs_list hl) (Nat.le_of_ble_eq_true hn) rfl (fun ls' hs => k _ _ _ _ _ _ _ _ _ _ _ _ _ _ _ _ _ C hW hS (lvs_put hs ho) h1 h2 fin)
theorem x_iinc_2 {r : Ev} {d : Nat} {y : MethodName} {cc : ByteArray} {mr : Nat × Option FieldType} {b : Nat × Nat} {pc q : Nat} {st : List Value} {n : Nat} {I : MI} {Q : MQ2} {F : Post} {a0 a1 : Option Value} {t : List (Option Value)} {x v : Int32} {z : Int} (hd : DR cc pc (.iinc 2 z) 3 q) (hv : x + Int32.ofInt z = v) (hn : Nat.ble (2 + 1) mr.1 = true) (ho : okst (a0 :: a1 :: some (.int x) :: t) 2 = true) (k : X r d y cc mr b q (a0 :: a1 :: some (.int v) :: t) st n I Q F) : X r d y cc mr b pc (a0 :: a1 :: some (.int x) :: t) st n I Q F := by
  intro p e s m args below meth c H locs cells slots mc ms R ls Qf C hW hS hl h1 h2 fin
  obtain ⟨hd, rfl⟩ := hd
  obtain ⟨j, hj⟩ := List.getElem?_of_mem (lvs_mem (lv := (a0 :: a1 :: some (.int x) :: t)) (i := 2) (v := .int x) rfl)
  exact lv_iinc C.1 C.2.1 hd (lvs_list hl) hj hv (Nat.le_of_ble_eq_true hn) rfl (fun ls' hs => k _ _ _ _ _ _ _ _ _ _ _ _ _ _ _ _ _ C hW hS (lvs_put hs ho) h1 h2 fin)
theorem x_istore_3 {r : Ev} {d : Nat} {y : MethodName} {cc : ByteArray} {mr : Nat × Option FieldType} {b : Nat × Nat} {pc q : Nat} {st : List Value} {n : Nat} {I : MI} {Q : MQ2} {F : Post} {a0 a1 a2 a3 : Option Value} {t : List (Option Value)} {x : Int32} (hd : DR cc pc (.istore_n 3) 1 q) (hn : Nat.ble (3 + 1) mr.1 = true) (ho : okst (a0 :: a1 :: a2 :: a3 :: t) 3 = true) (k : X r d y cc mr b q (a0 :: a1 :: a2 :: some (.int x) :: t) st n I Q F) : X r d y cc mr b pc (a0 :: a1 :: a2 :: a3 :: t) (.int x :: st) n I Q F := by
  intro p e s m args below meth c H locs cells slots mc ms R ls Qf C hW hS hl h1 h2 fin
  obtain ⟨hd, rfl⟩ := hd
  exact lv_istore_n C.1 C.2.1 hd rfl (lvs_list hl) (Nat.le_of_ble_eq_true hn) rfl (fun ls' hs => k _ _ _ _ _ _ _ _ _ _ _ _ _ _ _ _ _ C hW hS (lvs_put hs ho) h1 h2 fin)
theorem x_astore_3 {r : Ev} {d : Nat} {y : MethodName} {cc : ByteArray} {mr : Nat × Option FieldType} {b : Nat × Nat} {pc q : Nat} {st : List Value} {n : Nat} {I : MI} {Q : MQ2} {F : Post} {a0 a1 a2 a3 : Option Value} {t : List (Option Value)} {x : Nat} (hd : DR cc pc (.astore_n 3) 1 q) (hn : Nat.ble (3 + 1) mr.1 = true) (ho : okst (a0 :: a1 :: a2 :: a3 :: t) 3 = true) (k : X r d y cc mr b q (a0 :: a1 :: a2 :: some (.ref x) :: t) st n I Q F) : X r d y cc mr b pc (a0 :: a1 :: a2 :: a3 :: t) (.ref x :: st) n I Q F := by
  intro p e s m args below meth c H locs cells slots mc ms R ls Qf C hW hS hl h1 h2 fin
  obtain ⟨hd, rfl⟩ := hd
  exact lv_astore_n C.1 C.2.1 hd rfl (lvs_list hl) (Nat.le_of_ble_eq_true hn) rfl (fun ls' hs => k _ _ _ _ _ _ _ _ _ _ _ _ _ _ _ _ _ C hW hS (lvs_put hs ho) h1 h2 fin)
theorem x_iinc_3 {r : Ev} {d : Nat} {y : MethodName} {cc : ByteArray} {mr : Nat × Option FieldType} {b : Nat × Nat} {pc q : Nat} {st : List Value} {n : Nat} {I : MI} {Q : MQ2} {F : Post} {a0 a1 a2 : Option Value} {t : List (Option Value)} {x v : Int32} {z : Int} (hd : DR cc pc (.iinc 3 z) 3 q) (hv : x + Int32.ofInt z = v) (hn : Nat.ble (3 + 1) mr.1 = true) (ho : okst (a0 :: a1 :: a2 :: some (.int x) :: t) 3 = true) (k : X r d y cc mr b q (a0 :: a1 :: a2 :: some (.int v) :: t) st n I Q F) : X r d y cc mr b pc (a0 :: a1 :: a2 :: some (.int x) :: t) st n I Q F := by
  intro p e s m args below meth c H locs cells slots mc ms R ls Qf C hW hS hl h1 h2 fin
  obtain ⟨hd, rfl⟩ := hd
  obtain ⟨j, hj⟩ := List.getElem?_of_mem (lvs_mem (lv := (a0 :: a1 :: a2 :: some (.int x) :: t)) (i := 3) (v := .int x) rfl)
  exact lv_iinc C.1 C.2.1 hd (lvs_list hl) hj hv (Nat.le_of_ble_eq_true hn) rfl (fun ls' hs => k _ _ _ _ _ _ _ _ _ _ _ _ _ _ _ _ _ C hW hS (lvs_put hs ho) h1 h2 fin)
theorem x_istore_4 {r : Ev} {d : Nat} {y : MethodName} {cc : ByteArray} {mr : Nat × Option FieldType} {b : Nat × Nat} {pc q : Nat} {st : List Value} {n : Nat} {I : MI} {Q : MQ2} {F : Post} {a0 a1 a2 a3 a4 : Option Value} {t : List (Option Value)} {x : Int32} (hd : DR cc pc (.istore 4) 2 q) (hn : Nat.ble (4 + 1) mr.1 = true) (ho : okst (a0 :: a1 :: a2 :: a3 :: a4 :: t) 4 = true) (k : X r d y cc mr b q (a0 :: a1 :: a2 :: a3 :: some (.int x) :: t) st n I Q F) : X r d y cc mr b pc (a0 :: a1 :: a2 :: a3 :: a4 :: t) (.int x :: st) n I Q F := by
  intro p e s m args below meth c H locs cells slots mc ms R ls Qf C hW hS hl h1 h2 fin
  obtain ⟨hd, rfl⟩ := hd
  exact lv_istore C.1 C.2.1 hd (lvs_list hl) (Nat.le_of_ble_eq_true hn) rfl (fun ls' hs => k _ _ _ _ _ _ _ _ _ _ _ _ _ _ _ _ _ C hW hS (lvs_put hs ho) h1 h2 fin)
theorem x_astore_4 {r : Ev} {d : Nat} {y : MethodName} {cc : ByteArray} {mr : Nat × Option FieldType} {b : Nat × Nat} {pc q : Nat} {st : List Value} {n : Nat} {I : MI} {Q : MQ2} {F : Post} {a0 a1 a2 a3 a4 : Option Value} {t : List (Option Value)} {x : Nat} (hd : DR cc pc (.astore 4) 2 q) (hn : Nat.ble (4 + 1) mr.1 = true) (ho : okst (a0 :: a1 :: a2 :: a3 :: a4 :: t) 4 = true) (k : X r d y cc mr b q (a0 :: a1 :: a2 :: a3 :: some (.ref x) :: t) st n I Q F) : X r d y cc mr b pc (a0 :: a1 :: a2 :: a3 :: a4 :: t) (.ref x :: st) n I Q F := by
  intro p e s m args below meth c H locs cells slots mc ms R ls Qf C hW hS hl h1 h2 fin
  obtain ⟨hd, rfl⟩ := hd
  exact lv_astore C.1 C.2.1 hd (lvs_list hl) (Nat.le_of_ble_eq_true hn) rfl (fun ls' hs => k _ _ _ _ _ _ _ _ _ _ _ _ _ _ _ _ _ C hW hS (lvs_put hs ho) h1 h2 fin)
theorem x_iinc_4 {r : Ev} {d : Nat} {y : MethodName} {cc : ByteArray} {mr : Nat × Option FieldType} {b : Nat × Nat} {pc q : Nat} {st : List Value} {n : Nat} {I : MI} {Q : MQ2} {F : Post} {a0 a1 a2 a3 : Option Value} {t : List (Option Value)} {x v : Int32} {z : Int} (hd : DR cc pc (.iinc 4 z) 3 q) (hv : x + Int32.ofInt z = v) (hn : Nat.ble (4 + 1) mr.1 = true) (ho : okst (a0 :: a1 :: a2 :: a3 :: some (.int x) :: t) 4 = true) (k : X r d y cc mr b q (a0 :: a1 :: a2 :: a3 :: some (.int v) :: t) st n I Q F) : X r d y cc mr b pc (a0 :: a1 :: a2 :: a3 :: some (.int x) :: t) st n I Q F := by
  intro p e s m args below meth c H locs cells slots mc ms R ls Qf C hW hS hl h1 h2 fin
  obtain ⟨hd, rfl⟩ := hd
  obtain ⟨j, hj⟩ := List.getElem?_of_mem (lvs_mem (lv := (a0 :: a1 :: a2 :: a3 :: some (.int x) :: t)) (i := 4) (v := .int x) rfl)
  exact lv_iinc C.1 C.2.1 hd (lvs_list hl) hj hv (Nat.le_of_ble_eq_true hn) rfl (fun ls' hs => k _ _ _ _ _ _ _ _ _ _ _ _ _ _ _ _ _ C hW hS (lvs_put hs ho) h1 h2 fin)
theorem x_istore_5 {r : Ev} {d : Nat} {y : MethodName} {cc : ByteArray} {mr : Nat × Option FieldType} {b : Nat × Nat} {pc q : Nat} {st : List Value} {n : Nat} {I : MI} {Q : MQ2} {F : Post} {a0 a1 a2 a3 a4 a5 : Option Value} {t : List (Option Value)} {x : Int32} (hd : DR cc pc (.istore 5) 2 q) (hn : Nat.ble (5 + 1) mr.1 = true) (ho : okst (a0 :: a1 :: a2 :: a3 :: a4 :: a5 :: t) 5 = true) (k : X r d y cc mr b q (a0 :: a1 :: a2 :: a3 :: a4 :: some (.int x) :: t) st n I Q F) : X r d y cc mr b pc (a0 :: a1 :: a2 :: a3 :: a4 :: a5 :: t) (.int x :: st) n I Q F := by
  intro p e s m args below meth c H locs cells slots mc ms R ls Qf C hW hS hl h1 h2 fin
  obtain ⟨hd, rfl⟩ := hd
  exact lv_istore C.1 C.2.1 hd (lvs_list hl) (Nat.le_of_ble_eq_true hn) rfl (fun ls' hs => k _ _ _ _ _ _ _ _ _ _ _ _ _ _ _ _ _ C hW hS (lvs_put hs ho) h1 h2 fin)
theorem x_astore_5 {r : Ev} {d : Nat} {y : MethodName} {cc : ByteArray} {mr : Nat × Option FieldType} {b : Nat × Nat} {pc q : Nat} {st : List Value} {n : Nat} {I : MI} {Q : MQ2} {F : Post} {a0 a1 a2 a3 a4 a5 : Option Value} {t : List (Option Value)} {x : Nat} (hd : DR cc pc (.astore 5) 2 q) (hn : Nat.ble (5 + 1) mr.1 = true) (ho : okst (a0 :: a1 :: a2 :: a3 :: a4 :: a5 :: t) 5 = true) (k : X r d y cc mr b q (a0 :: a1 :: a2 :: a3 :: a4 :: some (.ref x) :: t) st n I Q F) : X r d y cc mr b pc (a0 :: a1 :: a2 :: a3 :: a4 :: a5 :: t) (.ref x :: st) n I Q F := by
  intro p e s m args below meth c H locs cells slots mc ms R ls Qf C hW hS hl h1 h2 fin
  obtain ⟨hd, rfl⟩ := hd
  exact lv_astore C.1 C.2.1 hd (lvs_list hl) (Nat.le_of_ble_eq_true hn) rfl (fun ls' hs => k _ _ _ _ _ _ _ _ _ _ _ _ _ _ _ _ _ C hW hS (lvs_put hs ho) h1 h2 fin)
theorem x_iinc_5 {r : Ev} {d : Nat} {y : MethodName} {cc : ByteArray} {mr : Nat × Option FieldType} {b : Nat × Nat} {pc q : Nat} {st : List Value} {n : Nat} {I : MI} {Q : MQ2} {F : Post} {a0 a1 a2 a3 a4 : Option Value} {t : List (Option Value)} {x v : Int32} {z : Int} (hd : DR cc pc (.iinc 5 z) 3 q) (hv : x + Int32.ofInt z = v) (hn : Nat.ble (5 + 1) mr.1 = true) (ho : okst (a0 :: a1 :: a2 :: a3 :: a4 :: some (.int x) :: t) 5 = true) (k : X r d y cc mr b q (a0 :: a1 :: a2 :: a3 :: a4 :: some (.int v) :: t) st n I Q F) : X r d y cc mr b pc (a0 :: a1 :: a2 :: a3 :: a4 :: some (.int x) :: t) st n I Q F := by
  intro p e s m args below meth c H locs cells slots mc ms R ls Qf C hW hS hl h1 h2 fin
  obtain ⟨hd, rfl⟩ := hd
  obtain ⟨j, hj⟩ := List.getElem?_of_mem (lvs_mem (lv := (a0 :: a1 :: a2 :: a3 :: a4 :: some (.int x) :: t)) (i := 5) (v := .int x) rfl)
  exact lv_iinc C.1 C.2.1 hd (lvs_list hl) hj hv (Nat.le_of_ble_eq_true hn) rfl (fun ls' hs => k _ _ _ _ _ _ _ _ _ _ _ _ _ _ _ _ _ C hW hS (lvs_put hs ho) h1 h2 fin)
theorem x_istore_6 {r : Ev} {d : Nat} {y : MethodName} {cc : ByteArray} {mr : Nat × Option FieldType} {b : Nat × Nat} {pc q : Nat} {st : List Value} {n : Nat} {I : MI} {Q : MQ2} {F : Post} {a0 a1 a2 a3 a4 a5 a6 : Option Value} {t : List (Option Value)} {x : Int32} (hd : DR cc pc (.istore 6) 2 q) (hn : Nat.ble (6 + 1) mr.1 = true) (ho : okst (a0 :: a1 :: a2 :: a3 :: a4 :: a5 :: a6 :: t) 6 = true) (k : X r d y cc mr b q (a0 :: a1 :: a2 :: a3 :: a4 :: a5 :: some (.int x) :: t) st n I Q F) : X r d y cc mr b pc (a0 :: a1 :: a2 :: a3 :: a4 :: a5 :: a6 :: t) (.int x :: st) n I Q F := by
  intro p e s m args below meth c H locs cells slots mc ms R ls Qf C hW hS hl h1 h2 fin
  obtain ⟨hd, rfl⟩ := hd
  exact lv_istore C.1 C.2.1 hd (lvs_list hl) (Nat.le_of_ble_eq_true hn) rfl (fun ls' hs => k _ _ _ _ _ _ _ _ _ _ _ _ _ _ _ _ _ C hW hS (lvs_put hs ho) h1 h2 fin)
theorem x_astore_6 {r : Ev} {d : Nat} {y : MethodName} {cc : ByteArray} {mr : Nat × Option FieldType} {b : Nat × Nat} {pc q : Nat} {st : List Value} {n : Nat} {I : MI} {Q : MQ2} {F : Post} {a0 a1 a2 a3 a4 a5 a6 : Option Value} {t : List (Option Value)} {x : Nat} (hd : DR cc pc (.astore 6) 2 q) (hn : Nat.ble (6 + 1) mr.1 = true) (ho : okst (a0 :: a1 :: a2 :: a3 :: a4 :: a5 :: a6 :: t) 6 = true) (k : X r d y cc mr b q (a0 :: a1 :: a2 :: a3 :: a4 :: a5 :: some (.ref x) :: t) st n I Q F) : X r d y cc mr b pc (a0 :: a1 :: a2 :: a3 :: a4 :: a5 :: a6 :: t) (.ref x :: st) n I Q F := by
  intro p e s m args below meth c H locs cells slots mc ms R ls Qf C hW hS hl h1 h2 fin
  obtain ⟨hd, rfl⟩ := hd
  exact lv_astore C.1 C.2.1 hd (lvs_list hl) (Nat.le_of_ble_eq_true hn) rfl (fun ls' hs => k _ _ _ _ _ _ _ _ _ _ _ _ _ _ _ _ _ C hW hS (lvs_put hs ho) h1 h2 fin)
theorem x_iinc_6 {r : Ev} {d : Nat} {y : MethodName} {cc : ByteArray} {mr : Nat × Option FieldType} {b : Nat × Nat} {pc q : Nat} {st : List Value} {n : Nat} {I : MI} {Q : MQ2} {F : Post} {a0 a1 a2 a3 a4 a5 : Option Value} {t : List (Option Value)} {x v : Int32} {z : Int} (hd : DR cc pc (.iinc 6 z) 3 q) (hv : x + Int32.ofInt z = v) (hn : Nat.ble (6 + 1) mr.1 = true) (ho : okst (a0 :: a1 :: a2 :: a3 :: a4 :: a5 :: some (.int x) :: t) 6 = true) (k : X r d y cc mr b q (a0 :: a1 :: a2 :: a3 :: a4 :: a5 :: some (.int v) :: t) st n I Q F) : X r d y cc mr b pc (a0 :: a1 :: a2 :: a3 :: a4 :: a5 :: some (.int x) :: t) st n I Q F := by
  intro p e s m args below meth c H locs cells slots mc ms R ls Qf C hW hS hl h1 h2 fin
  obtain ⟨hd, rfl⟩ := hd
  obtain ⟨j, hj⟩ := List.getElem?_of_mem (lvs_mem (lv := (a0 :: a1 :: a2 :: a3 :: a4 :: a5 :: some (.int x) :: t)) (i := 6) (v := .int x) rfl)
  exact lv_iinc C.1 C.2.1 hd (lvs_list hl) hj hv (Nat.le_of_ble_eq_true hn) rfl (fun ls' hs => k _ _ _ _ _ _ _ _ _ _ _ _ _ _ _ _ _ C hW hS (lvs_put hs ho) h1 h2 fin)
theorem x_istore_7 {r : Ev} {d : Nat} {y : MethodName} {cc : ByteArray} {mr : Nat × Option FieldType} {b : Nat × Nat} {pc q : Nat} {st : List Value} {n : Nat} {I : MI} {Q : MQ2} {F : Post} {a0 a1 a2 a3 a4 a5 a6 a7 : Option Value} {t : List (Option Value)} {x : Int32} (hd : DR cc pc (.istore 7) 2 q) (hn : Nat.ble (7 + 1) mr.1 = true) (ho : okst (a0 :: a1 :: a2 :: a3 :: a4 :: a5 :: a6 :: a7 :: t) 7 = true) (k : X r d y cc mr b q (a0 :: a1 :: a2 :: a3 :: a4 :: a5 :: a6 :: some (.int x) :: t) st n I Q F) : X r d y cc mr b pc (a0 :: a1 :: a2 :: a3 :: a4 :: a5 :: a6 :: a7 :: t) (.int x :: st) n I Q F := by
  intro p e s m args below meth c H locs cells slots mc ms R ls Qf C hW hS hl h1 h2 fin
  obtain ⟨hd, rfl⟩ := hd
  exact lv_istore C.1 C.2.1 hd (lvs_list hl) (Nat.le_of_ble_eq_true hn) rfl (fun ls' hs => k _ _ _ _ _ _ _ _ _ _ _ _ _ _ _ _ _ C hW hS (lvs_put hs ho) h1 h2 fin)
theorem x_astore_7 {r : Ev} {d : Nat} {y : MethodName} {cc : ByteArray} {mr : Nat × Option FieldType} {b : Nat × Nat} {pc q : Nat} {st : List Value} {n : Nat} {I : MI} {Q : MQ2} {F : Post} {a0 a1 a2 a3 a4 a5 a6 a7 : Option Value} {t : List (Option Value)} {x : Nat} (hd : DR cc pc (.astore 7) 2 q) (hn : Nat.ble (7 + 1) mr.1 = true) (ho : okst (a0 :: a1 :: a2 :: a3 :: a4 :: a5 :: a6 :: a7 :: t) 7 = true) (k : X r d y cc mr b q (a0 :: a1 :: a2 :: a3 :: a4 :: a5 :: a6 :: some (.ref x) :: t) st n I Q F) : X r d y cc mr b pc (a0 :: a1 :: a2 :: a3 :: a4 :: a5 :: a6 :: a7 :: t) (.ref x :: st) n I Q F := by
  intro p e s m args below meth c H locs cells slots mc ms R ls Qf C hW hS hl h1 h2 fin
  obtain ⟨hd, rfl⟩ := hd
  exact lv_astore C.1 C.2.1 hd (lvs_list hl) (Nat.le_of_ble_eq_true hn) rfl (fun ls' hs => k _ _ _ _ _ _ _ _ _ _ _ _ _ _ _ _ _ C hW hS (lvs_put hs ho) h1 h2 fin)
theorem x_iinc_7 {r : Ev} {d : Nat} {y : MethodName} {cc : ByteArray} {mr : Nat × Option FieldType} {b : Nat × Nat} {pc q : Nat} {st : List Value} {n : Nat} {I : MI} {Q : MQ2} {F : Post} {a0 a1 a2 a3 a4 a5 a6 : Option Value} {t : List (Option Value)} {x v : Int32} {z : Int} (hd : DR cc pc (.iinc 7 z) 3 q) (hv : x + Int32.ofInt z = v) (hn : Nat.ble (7 + 1) mr.1 = true) (ho : okst (a0 :: a1 :: a2 :: a3 :: a4 :: a5 :: a6 :: some (.int x) :: t) 7 = true) (k : X r d y cc mr b q (a0 :: a1 :: a2 :: a3 :: a4 :: a5 :: a6 :: some (.int v) :: t) st n I Q F) : X r d y cc mr b pc (a0 :: a1 :: a2 :: a3 :: a4 :: a5 :: a6 :: some (.int x) :: t) st n I Q F := by
  intro p e s m args below meth c H locs cells slots mc ms R ls Qf C hW hS hl h1 h2 fin
  obtain ⟨hd, rfl⟩ := hd
  obtain ⟨j, hj⟩ := List.getElem?_of_mem (lvs_mem (lv := (a0 :: a1 :: a2 :: a3 :: a4 :: a5 :: a6 :: some (.int x) :: t)) (i := 7) (v := .int x) rfl)
  exact lv_iinc C.1 C.2.1 hd (lvs_list hl) hj hv (Nat.le_of_ble_eq_true hn) rfl (fun ls' hs => k _ _ _ _ _ _ _ _ _ _ _ _ _ _ _ _ _ C hW hS (lvs_put hs ho) h1 h2 fin)
theorem x_istore_8 {r : Ev} {d : Nat} {y : MethodName} {cc : ByteArray} {mr : Nat × Option FieldType} {b : Nat × Nat} {pc q : Nat} {st : List Value} {n : Nat} {I : MI} {Q : MQ2} {F : Post} {a0 a1 a2 a3 a4 a5 a6 a7 a8 : Option Value} {t : List (Option Value)} {x : Int32} (hd : DR cc pc (.istore 8) 2 q) (hn : Nat.ble (8 + 1) mr.1 = true) (ho : okst (a0 :: a1 :: a2 :: a3 :: a4 :: a5 :: a6 :: a7 :: a8 :: t) 8 = true) (k : X r d y cc mr b q (a0 :: a1 :: a2 :: a3 :: a4 :: a5 :: a6 :: a7 :: some (.int x) :: t) st n I Q F) : X r d y cc mr b pc (a0 :: a1 :: a2 :: a3 :: a4 :: a5 :: a6 :: a7 :: a8 :: t) (.int x :: st) n I Q F := by
  intro p e s m args below meth c H locs cells slots mc ms R ls Qf C hW hS hl h1 h2 fin
  obtain ⟨hd, rfl⟩ := hd
  exact lv_istore C.1 C.2.1 hd (lvs_list hl) (Nat.le_of_ble_eq_true hn) rfl (fun ls' hs => k _ _ _ _ _ _ _ _ _ _ _ _ _ _ _ _ _ C hW hS (lvs_put hs ho) h1 h2 fin)
theorem x_astore_8 {r : Ev} {d : Nat} {y : MethodName} {cc : ByteArray} {mr : Nat × Option FieldType} {b : Nat × Nat} {pc q : Nat} {st : List Value} {n : Nat} {I : MI} {Q : MQ2} {F : Post} {a0 a1 a2 a3 a4 a5 a6 a7 a8 : Option Value} {t : List (Option Value)} {x : Nat} (hd : DR cc pc (.astore 8) 2 q) (hn : Nat.ble (8 + 1) mr.1 = true) (ho : okst (a0 :: a1 :: a2 :: a3 :: a4 :: a5 :: a6 :: a7 :: a8 :: t) 8 = true) (k : X r d y cc mr b q (a0 :: a1 :: a2 :: a3 :: a4 :: a5 :: a6 :: a7 :: some (.ref x) :: t) st n I Q F) : X r d y cc mr b pc (a0 :: a1 :: a2 :: a3 :: a4 :: a5 :: a6 :: a7 :: a8 :: t) (.ref x :: st) n I Q F := by
  intro p e s m args below meth c H locs cells slots mc ms R ls Qf C hW hS hl h1 h2 fin
  obtain ⟨hd, rfl⟩ := hd
  exact lv_astore C.1 C.2.1 hd (lvs_list hl) (Nat.le_of_ble_eq_true hn) rfl (fun ls' hs => k _ _ _ _ _ _ _ _ _ _ _ _ _ _ _ _ _ C hW hS (lvs_put hs ho) h1 h2 fin)
theorem x_iinc_8 {r : Ev} {d : Nat} {y : MethodName} {cc : ByteArray} {mr : Nat × Option FieldType} {b : Nat × Nat} {pc q : Nat} {st : List Value} {n : Nat} {I : MI} {Q : MQ2} {F : Post} {a0 a1 a2 a3 a4 a5 a6 a7 : Option Value} {t : List (Option Value)} {x v : Int32} {z : Int} (hd : DR cc pc (.iinc 8 z) 3 q) (hv : x + Int32.ofInt z = v) (hn : Nat.ble (8 + 1) mr.1 = true) (ho : okst (a0 :: a1 :: a2 :: a3 :: a4 :: a5 :: a6 :: a7 :: some (.int x) :: t) 8 = true) (k : X r d y cc mr b q (a0 :: a1 :: a2 :: a3 :: a4 :: a5 :: a6 :: a7 :: some (.int v) :: t) st n I Q F) : X r d y cc mr b pc (a0 :: a1 :: a2 :: a3 :: a4 :: a5 :: a6 :: a7 :: some (.int x) :: t) st n I Q F := by
  intro p e s m args below meth c H locs cells slots mc ms R ls Qf C hW hS hl h1 h2 fin
  obtain ⟨hd, rfl⟩ := hd
  obtain ⟨j, hj⟩ := List.getElem?_of_mem (lvs_mem (lv := (a0 :: a1 :: a2 :: a3 :: a4 :: a5 :: a6 :: a7 :: some (.int x) :: t)) (i := 8) (v := .int x) rfl)
  exact lv_iinc C.1 C.2.1 hd (lvs_list hl) hj hv (Nat.le_of_ble_eq_true hn) rfl (fun ls' hs => k _ _ _ _ _ _ _ _ _ _ _ _ _ _ _ _ _ C hW hS (lvs_put hs ho) h1 h2 fin)
theorem x_istore_9 {r : Ev} {d : Nat} {y : MethodName} {cc : ByteArray} {mr : Nat × Option FieldType} {b : Nat × Nat} {pc q : Nat} {st : List Value} {n : Nat} {I : MI} {Q : MQ2} {F : Post} {a0 a1 a2 a3 a4 a5 a6 a7 a8 a9 : Option Value} {t : List (Option Value)} {x : Int32} (hd : DR cc pc (.istore 9) 2 q) (hn : Nat.ble (9 + 1) mr.1 = true) (ho : okst (a0 :: a1 :: a2 :: a3 :: a4 :: a5 :: a6 :: a7 :: a8 :: a9 :: t) 9 = true) (k : X r d y cc mr b q (a0 :: a1 :: a2 :: a3 :: a4 :: a5 :: a6 :: a7 :: a8 :: some (.int x) :: t) st n I Q F) : X r d y cc mr b pc (a0 :: a1 :: a2 :: a3 :: a4 :: a5 :: a6 :: a7 :: a8 :: a9 :: t) (.int x :: st) n I Q F := by
  intro p e s m args below meth c H locs cells slots mc ms R ls Qf C hW hS hl h1 h2 fin
  obtain ⟨hd, rfl⟩ := hd
  exact lv_istore C.1 C.2.1 hd (lvs_list hl) (Nat.le_of_ble_eq_true hn) rfl (fun ls' hs => k _ _ _ _ _ _ _ _ _ _ _ _ _ _ _ _ _ C hW hS (lvs_put hs ho) h1 h2 fin)
theorem x_astore_9 {r : Ev} {d : Nat} {y : MethodName} {cc : ByteArray} {mr : Nat × Option FieldType} {b : Nat × Nat} {pc q : Nat} {st : List Value} {n : Nat} {I : MI} {Q : MQ2} {F : Post} {a0 a1 a2 a3 a4 a5 a6 a7 a8 a9 : Option Value} {t : List (Option Value)} {x : Nat} (hd : DR cc pc (.astore 9) 2 q) (hn : Nat.ble (9 + 1) mr.1 = true) (ho : okst (a0 :: a1 :: a2 :: a3 :: a4 :: a5 :: a6 :: a7 :: a8 :: a9 :: t) 9 = true) (k : X r d y cc mr b q (a0 :: a1 :: a2 :: a3 :: a4 :: a5 :: a6 :: a7 :: a8 :: some (.ref x) :: t) st n I Q F) : X r d y cc mr b pc (a0 :: a1 :: a2 :: a3 :: a4 :: a5 :: a6 :: a7 :: a8 :: a9 :: t) (.ref x :: st) n I Q F := by
  intro p e s m args below meth c H locs cells slots mc ms R ls Qf C hW hS hl h1 h2 fin
  obtain ⟨hd, rfl⟩ := hd
  exact lv_astore C.1 C.2.1 hd (lvs_list hl) (Nat.le_of_ble_eq_true hn) rfl (fun ls' hs => k _ _ _ _ _ _ _ _ _ _ _ _ _ _ _ _ _ C hW hS (lvs_put hs ho) h1 h2 fin)
theorem x_iinc_9 {r : Ev} {d : Nat} {y : MethodName} {cc : ByteArray} {mr : Nat × Option FieldType} {b : Nat × Nat} {pc q : Nat} {st : List Value} {n : Nat} {I : MI} {Q : MQ2} {F : Post} {a0 a1 a2 a3 a4 a5 a6 a7 a8 : Option Value} {t : List (Option Value)} {x v : Int32} {z : Int} (hd : DR cc pc (.iinc 9 z) 3 q) (hv : x + Int32.ofInt z = v) (hn : Nat.ble (9 + 1) mr.1 = true) (ho : okst (a0 :: a1 :: a2 :: a3 :: a4 :: a5 :: a6 :: a7 :: a8 :: some (.int x) :: t) 9 = true) (k : X r d y cc mr b q (a0 :: a1 :: a2 :: a3 :: a4 :: a5 :: a6 :: a7 :: a8 :: some (.int v) :: t) st n I Q F) : X r d y cc mr b pc (a0 :: a1 :: a2 :: a3 :: a4 :: a5 :: a6 :: a7 :: a8 :: some (.int x) :: t) st n I Q F := by
  intro p e s m args below meth c H locs cells slots mc ms R ls Qf C hW hS hl h1 h2 fin
  obtain ⟨hd, rfl⟩ := hd
  obtain ⟨j, hj⟩ := List.getElem?_of_mem (lvs_mem (lv := (a0 :: a1 :: a2 :: a3 :: a4 :: a5 :: a6 :: a7 :: a8 :: some (.int x) :: t)) (i := 9) (v := .int x) rfl)
  exact lv_iinc C.1 C.2.1 hd (lvs_list hl) hj hv (Nat.le_of_ble_eq_true hn) rfl (fun ls' hs => k _ _ _ _ _ _ _ _ _ _ _ _ _ _ _ _ _ C hW hS (lvs_put hs ho) h1 h2 fin)
theorem x_istore_10 {r : Ev} {d : Nat} {y : MethodName} {cc : ByteArray} {mr : Nat × Option FieldType} {b : Nat × Nat} {pc q : Nat} {st : List Value} {n : Nat} {I : MI} {Q : MQ2} {F : Post} {a0 a1 a2 a3 a4 a5 a6 a7 a8 a9 a10 : Option Value} {t : List (Option Value)} {x : Int32} (hd : DR cc pc (.istore 10) 2 q) (hn : Nat.ble (10 + 1) mr.1 = true) (ho : okst (a0 :: a1 :: a2 :: a3 :: a4 :: a5 :: a6 :: a7 :: a8 :: a9 :: a10 :: t) 10 = true) (k : X r d y cc mr b q (a0 :: a1 :: a2 :: a3 :: a4 :: a5 :: a6 :: a7 :: a8 :: a9 :: some (.int x) :: t) st n I Q F) : X r d y cc mr b pc (a0 :: a1 :: a2 :: a3 :: a4 :: a5 :: a6 :: a7 :: a8 :: a9 :: a10 :: t) (.int x :: st) n I Q F := by
  intro p e s m args below meth c H locs cells slots mc ms R ls Qf C hW hS hl h1 h2 fin
  obtain ⟨hd, rfl⟩ := hd
  exact lv_istore C.1 C.2.1 hd (lvs_list hl) (Nat.le_of_ble_eq_true hn) rfl (fun ls' hs => k _ _ _ _ _ _ _ _ _ _ _ _ _ _ _ _ _ C hW hS (lvs_put hs ho) h1 h2 fin)
theorem x_astore_10 {r : Ev} {d : Nat} {y : MethodName} {cc : ByteArray} {mr : Nat × Option FieldType} {b : Nat × Nat} {pc q : Nat} {st : List Value} {n : Nat} {I : MI} {Q : MQ2} {F : Post} {a0 a1 a2 a3 a4 a5 a6 a7 a8 a9 a10 : Option Value} {t : List (Option Value)} {x : Nat} (hd : DR cc pc (.astore 10) 2 q) (hn : Nat.ble (10 + 1) mr.1 = true) (ho : okst (a0 :: a1 :: a2 :: a3 :: a4 :: a5 :: a6 :: a7 :: a8 :: a9 :: a10 :: t) 10 = true) (k : X r d y cc mr b q (a0 :: a1 :: a2 :: a3 :: a4 :: a5 :: a6 :: a7 :: a8 :: a9 :: some (.ref x) :: t) st n I Q F) : X r d y cc mr b pc (a0 :: a1 :: a2 :: a3 :: a4 :: a5 :: a6 :: a7 :: a8 :: a9 :: a10 :: t) (.ref x :: st) n I Q F := by
  intro p e s m args below meth c H locs cells slots mc ms R ls Qf C hW hS hl h1 h2 fin
  obtain ⟨hd, rfl⟩ := hd
  exact lv_astore C.1 C.2.1 hd (lvs_list hl) (Nat.le_of_ble_eq_true hn) rfl (fun ls' hs => k _ _ _ _ _ _ _ _ _ _ _ _ _ _ _ _ _ C hW hS (lvs_put hs ho) h1 h2 fin)
theorem x_iinc_10 {r : Ev} {d : Nat} {y : MethodName} {cc : ByteArray} {mr : Nat × Option FieldType} {b : Nat × Nat} {pc q : Nat} {st : List Value} {n : Nat} {I : MI} {Q : MQ2} {F : Post} {a0 a1 a2 a3 a4 a5 a6 a7 a8 a9 : Option Value} {t : List (Option Value)} {x v : Int32} {z : Int} (hd : DR cc pc (.iinc 10 z) 3 q) (hv : x + Int32.ofInt z = v) (hn : Nat.ble (10 + 1) mr.1 = true) (ho : okst (a0 :: a1 :: a2 :: a3 :: a4 :: a5 :: a6 :: a7 :: a8 :: a9 :: some (.int x) :: t) 10 = true) (k : X r d y cc mr b q (a0 :: a1 :: a2 :: a3 :: a4 :: a5 :: a6 :: a7 :: a8 :: a9 :: some (.int v) :: t) st n I Q F) : X r d y cc mr b pc (a0 :: a1 :: a2 :: a3 :: a4 :: a5 :: a6 :: a7 :: a8 :: a9 :: some (.int x) :: t) st n I Q F := by
  intro p e s m args below meth c H locs cells slots mc ms R ls Qf C hW hS hl h1 h2 fin
  obtain ⟨hd, rfl⟩ := hd
  obtain ⟨j, hj⟩ := List.getElem?_of_mem (lvs_mem (lv := (a0 :: a1 :: a2 :: a3 :: a4 :: a5 :: a6 :: a7 :: a8 :: a9 :: some (.int x) :: t)) (i := 10) (v := .int x) rfl)
  exact lv_iinc C.1 C.2.1 hd (lvs_list hl) hj hv (Nat.le_of_ble_eq_true hn) rfl (fun ls' hs => k _ _ _ _ _ _ _ _ _ _ _ _ _ _ _ _ _ C hW hS (lvs_put hs ho) h1 h2 fin)
theorem x_istore_11 {r : Ev} {d : Nat} {y : MethodName} {cc : ByteArray} {mr : Nat × Option FieldType} {b : Nat × Nat} {pc q : Nat} {st : List Value} {n : Nat} {I : MI} {Q : MQ2} {F : Post} {a0 a1 a2 a3 a4 a5 a6 a7 a8 a9 a10 a11 : Option Value} {t : List (Option Value)} {x : Int32} (hd : DR cc pc (.istore 11) 2 q) (hn : Nat.ble (11 + 1) mr.1 = true) (ho : okst (a0 :: a1 :: a2 :: a3 :: a4 :: a5 :: a6 :: a7 :: a8 :: a9 :: a10 :: a11 :: t) 11 = true) (k : X r d y cc mr b q (a0 :: a1 :: a2 :: a3 :: a4 :: a5 :: a6 :: a7 :: a8 :: a9 :: a10 :: some (.int x) :: t) st n I Q F) : X r d y cc mr b pc (a0 :: a1 :: a2 :: a3 :: a4 :: a5 :: a6 :: a7 :: a8 :: a9 :: a10 :: a11 :: t) (.int x :: st) n I Q F := by
  intro p e s m args below meth c H locs cells slots mc ms R ls Qf C hW hS hl h1 h2 fin
  obtain ⟨hd, rfl⟩ := hd
  exact lv_istore C.1 C.2.1 hd (lvs_list hl) (Nat.le_of_ble_eq_true hn) rfl (fun ls' hs => k _ _ _ _ _ _ _ _ _ _ _ _ _ _ _ _ _ C hW hS (lvs_put hs ho) h1 h2 fin)
theorem x_astore_11 {r : Ev} {d : Nat} {y : MethodName} {cc : ByteArray} {mr : Nat × Option FieldType} {b : Nat × Nat} {pc q : Nat} {st : List Value} {n : Nat} {I : MI} {Q : MQ2} {F : Post} {a0 a1 a2 a3 a4 a5 a6 a7 a8 a9 a10 a11 : Option Value} {t : List (Option Value)} {x : Nat} (hd : DR cc pc (.astore 11) 2 q) (hn : Nat.ble (11 + 1) mr.1 = true) (ho : okst (a0 :: a1 :: a2 :: a3 :: a4 :: a5 :: a6 :: a7 :: a8 :: a9 :: a10 :: a11 :: t) 11 = true) (k : X r d y cc mr b q (a0 :: a1 :: a2 :: a3 :: a4 :: a5 :: a6 :: a7 :: a8 :: a9 :: a10 :: some (.ref x) :: t) st n I Q F) : X r d y cc mr b pc (a0 :: a1 :: a2 :: a3 :: a4 :: a5 :: a6 :: a7 :: a8 :: a9 :: a10 :: a11 :: t) (.ref x :: st) n I Q F := by
  intro p e s m args below meth c H locs cells slots mc ms R ls Qf C hW hS hl h1 h2 fin
  obtain ⟨hd, rfl⟩ := hd
  exact lv_astore C.1 C.2.1 hd (lvs_list hl) (Nat.le_of_ble_eq_true hn) rfl (fun ls' hs => k _ _ _ _ _ _ _ _ _ _ _ _ _ _ _ _ _ C hW hS (lvs_put hs ho) h1 h2 fin)
theorem x_iinc_11 {r : Ev} {d : Nat} {y : MethodName} {cc : ByteArray} {mr : Nat × Option FieldType} {b : Nat × Nat} {pc q : Nat} {st : List Value} {n : Nat} {I : MI} {Q : MQ2} {F : Post} {a0 a1 a2 a3 a4 a5 a6 a7 a8 a9 a10 : Option Value} {t : List (Option Value)} {x v : Int32} {z : Int} (hd : DR cc pc (.iinc 11 z) 3 q) (hv : x + Int32.ofInt z = v) (hn : Nat.ble (11 + 1) mr.1 = true) (ho : okst (a0 :: a1 :: a2 :: a3 :: a4 :: a5 :: a6 :: a7 :: a8 :: a9 :: a10 :: some (.int x) :: t) 11 = true) (k : X r d y cc mr b q (a0 :: a1 :: a2 :: a3 :: a4 :: a5 :: a6 :: a7 :: a8 :: a9 :: a10 :: some (.int v) :: t) st n I Q F) : X r d y cc mr b pc (a0 :: a1 :: a2 :: a3 :: a4 :: a5 :: a6 :: a7 :: a8 :: a9 :: a10 :: some (.int x) :: t) st n I Q F := by
  intro p e s m args below meth c H locs cells slots mc ms R ls Qf C hW hS hl h1 h2 fin
  obtain ⟨hd, rfl⟩ := hd
  obtain ⟨j, hj⟩ := List.getElem?_of_mem (lvs_mem (lv := (a0 :: a1 :: a2 :: a3 :: a4 :: a5 :: a6 :: a7 :: a8 :: a9 :: a10 :: some (.int x) :: t)) (i := 11) (v := .int x) rfl)
  exact lv_iinc C.1 C.2.1 hd (lvs_list hl) hj hv (Nat.le_of_ble_eq_true hn) rfl (fun ls' hs => k _ _ _ _ _ _ _ _ _ _ _ _ _ _ _ _ _ C hW hS (lvs_put hs ho) h1 h2 fin)
theorem x_istore_12 {r : Ev} {d : Nat} {y : MethodName} {cc : ByteArray} {mr : Nat × Option FieldType} {b : Nat × Nat} {pc q : Nat} {st : List Value} {n : Nat} {I : MI} {Q : MQ2} {F : Post} {a0 a1 a2 a3 a4 a5 a6 a7 a8 a9 a10 a11 a12 : Option Value} {t : List (Option Value)} {x : Int32} (hd : DR cc pc (.istore 12) 2 q) (hn : Nat.ble (12 + 1) mr.1 = true) (ho : okst (a0 :: a1 :: a2 :: a3 :: a4 :: a5 :: a6 :: a7 :: a8 :: a9 :: a10 :: a11 :: a12 :: t) 12 = true) (k : X r d y cc mr b q (a0 :: a1 :: a2 :: a3 :: a4 :: a5 :: a6 :: a7 :: a8 :: a9 :: a10 :: a11 :: some (.int x) :: t) st n I Q F) : X r d y cc mr b pc (a0 :: a1 :: a2 :: a3 :: a4 :: a5 :: a6 :: a7 :: a8 :: a9 :: a10 :: a11 :: a12 :: t) (.int x :: st) n I Q F := by
  intro p e s m args below meth c H locs cells slots mc ms R ls Qf C hW hS hl h1 h2 fin
  obtain ⟨hd, rfl⟩ := hd
  exact lv_istore C.1 C.2.1 hd (lvs_list hl) (Nat.le_of_ble_eq_true hn) rfl (fun ls' hs => k _ _ _ _ _ _ _ _ _ _ _ _ _ _ _ _ _ C hW hS (lvs_put hs ho) h1 h2 fin)
theorem x_astore_12 {r : Ev} {d : Nat} {y : MethodName} {cc : ByteArray} {mr : Nat × Option FieldType} {b : Nat × Nat} {pc q : Nat} {st : List Value} {n : Nat} {I : MI} {Q : MQ2} {F : Post} {a0 a1 a2 a3 a4 a5 a6 a7 a8 a9 a10 a11 a12 : Option Value} {t : List (Option Value)} {x : Nat} (hd : DR cc pc (.astore 12) 2 q) (hn : Nat.ble (12 + 1) mr.1 = true) (ho : okst (a0 :: a1 :: a2 :: a3 :: a4 :: a5 :: a6 :: a7 :: a8 :: a9 :: a10 :: a11 :: a12 :: t) 12 = true) (k : X r d y cc mr b q (a0 :: a1 :: a2 :: a3 :: a4 :: a5 :: a6 :: a7 :: a8 :: a9 :: a10 :: a11 :: some (.ref x) :: t) st n I Q F) : X r d y cc mr b pc (a0 :: a1 :: a2 :: a3 :: a4 :: a5 :: a6 :: a7 :: a8 :: a9 :: a10 :: a11 :: a12 :: t) (.ref x :: st) n I Q F := by
  intro p e s m args below meth c H locs cells slots mc ms R ls Qf C hW hS hl h1 h2 fin
  obtain ⟨hd, rfl⟩ := hd
  exact lv_astore C.1 C.2.1 hd (lvs_list hl) (Nat.le_of_ble_eq_true hn) rfl (fun ls' hs => k _ _ _ _ _ _ _ _ _ _ _ _ _ _ _ _ _ C hW hS (lvs_put hs ho) h1 h2 fin)
theorem x_iinc_12 {r : Ev} {d : Nat} {y : MethodName} {cc : ByteArray} {mr : Nat × Option FieldType} {b : Nat × Nat} {pc q : Nat} {st : List Value} {n : Nat} {I : MI} {Q : MQ2} {F : Post} {a0 a1 a2 a3 a4 a5 a6 a7 a8 a9 a10 a11 : Option Value} {t : List (Option Value)} {x v : Int32} {z : Int} (hd : DR cc pc (.iinc 12 z) 3 q) (hv : x + Int32.ofInt z = v) (hn : Nat.ble (12 + 1) mr.1 = true) (ho : okst (a0 :: a1 :: a2 :: a3 :: a4 :: a5 :: a6 :: a7 :: a8 :: a9 :: a10 :: a11 :: some (.int x) :: t) 12 = true) (k : X r d y cc mr b q (a0 :: a1 :: a2 :: a3 :: a4 :: a5 :: a6 :: a7 :: a8 :: a9 :: a10 :: a11 :: some (.int v) :: t) st n I Q F) : X r d y cc mr b pc (a0 :: a1 :: a2 :: a3 :: a4 :: a5 :: a6 :: a7 :: a8 :: a9 :: a10 :: a11 :: some (.int x) :: t) st n I Q F := by
  intro p e s m args below meth c H locs cells slots mc ms R ls Qf C hW hS hl h1 h2 fin
  obtain ⟨hd, rfl⟩ := hd
  obtain ⟨j, hj⟩ := List.getElem?_of_mem (lvs_mem (lv := (a0 :: a1 :: a2 :: a3 :: a4 :: a5 :: a6 :: a7 :: a8 :: a9 :: a10 :: a11 :: some (.int x) :: t)) (i := 12) (v := .int x) rfl)
  exact lv_iinc C.1 C.2.1 hd (lvs_list hl) hj hv (Nat.le_of_ble_eq_true hn) rfl (fun ls' hs => k _ _ _ _ _ _ _ _ _ _ _ _ _ _ _ _ _ C hW hS (lvs_put hs ho) h1 h2 fin)
theorem x_lstore_0 {r : Ev} {d : Nat} {y : MethodName} {cc : ByteArray} {mr : Nat × Option FieldType} {b : Nat × Nat} {pc q : Nat} {st : List Value} {n : Nat} {I : MI} {Q : MQ2} {F : Post} {a0 a1 : Option Value} {t : List (Option Value)} {x : Int64} (hd : DR cc pc (.lstore_n 0) 1 q) (hn : Nat.ble (0 + 2) mr.1 = true) (ho : okst (a0 :: a1 :: t) 0 = true) (k : X r d y cc mr b q (some (.long x) :: none :: t) st n I Q F) : X r d y cc mr b pc (a0 :: a1 :: t) (.long x :: st) n I Q F := by
  intro p e s m args below meth c H locs cells slots mc ms R ls Qf C hW hS hl h1 h2 fin
  obtain ⟨hd, rfl⟩ := hd
  exact lv_lstore_n C.1 C.2.1 hd rfl (lvs_list hl) (Nat.le_of_ble_eq_true hn) rfl (fun ls' hs => k _ _ _ _ _ _ _ _ _ _ _ _ _ _ _ _ _ C hW hS (lvs_putL hs ho) h1 h2 fin)
theorem x_lstore_1 {r : Ev} {d : Nat} {y : MethodName} {cc : ByteArray} {mr : Nat × Option FieldType} {b : Nat × Nat} {pc q : Nat} {st : List Value} {n : Nat} {I : MI} {Q : MQ2} {F : Post} {a0 a1 a2 : Option Value} {t : List (Option Value)} {x : Int64} (hd : DR cc pc (.lstore_n 1) 1 q) (hn : Nat.ble (1 + 2) mr.1 = true) (ho : okst (a0 :: a1 :: a2 :: t) 1 = true) (k : X r d y cc mr b q (a0 :: some (.long x) :: none :: t) st n I Q F) : X r d y cc mr b pc (a0 :: a1 :: a2 :: t) (.long x :: st) n I Q F := by
  intro p e s m args below meth c H locs cells slots mc ms R ls Qf C hW hS hl h1 h2 fin
  obtain ⟨hd, rfl⟩ := hd
  exact lv_lstore_n C.1 C.2.1 hd rfl (lvs_list hl) (Nat.le_of_ble_eq_true hn) rfl (fun ls' hs => k _ _ _ _ _ _ _ _ _ _ _ _ _ _ _ _ _ C hW hS (lvs_putL hs ho) h1 h2 fin)
theorem x_lstore_2 {r : Ev} {d : Nat} {y : MethodName} {cc : ByteArray} {mr : Nat × Option FieldType} {b : Nat × Nat} {pc q : Nat} {st : List Value} {n : Nat} {I : MI} {Q : MQ2} {F : Post} {a0 a1 a2 a3 : Option Value} {t : List (Option Value)} {x : Int64} (hd : DR cc pc (.lstore_n 2) 1 q) (hn : Nat.ble (2 + 2) mr.1 = true) (ho : okst (a0 :: a1 :: a2 :: a3 :: t) 2 = true) (k : X r d y cc mr b q (a0 :: a1 :: some (.long x) :: none :: t) st n I Q F) : X r d y cc mr b pc (a0 :: a1 :: a2 :: a3 :: t) (.long x :: st) n I Q F := by
  intro p e s m args below meth c H locs cells slots mc ms R ls Qf C hW hS hl h1 h2 fin
  obtain ⟨hd, rfl⟩ := hd
  exact lv_lstore_n C.1 C.2.1 hd rfl (lvs_list hl) (Nat.le_of_ble_eq_true hn) rfl (fun ls' hs => k _ _ _ _ _ _ _ _ _ _ _ _ _ _ _ _ _ C hW hS (lvs_putL hs ho) h1 h2 fin)
theorem x_lstore_3 {r : Ev} {d : Nat} {y : MethodName} {cc : ByteArray} {mr : Nat × Option FieldType} {b : Nat × Nat} {pc q : Nat} {st : List Value} {n : Nat} {I : MI} {Q : MQ2} {F : Post} {a0 a1 a2 a3 a4 : Option Value} {t : List (Option Value)} {x : Int64} (hd : DR cc pc (.lstore_n 3) 1 q) (hn : Nat.ble (3 + 2) mr.1 = true) (ho : okst (a0 :: a1 :: a2 :: a3 :: a4 :: t) 3 = true) (k : X r d y cc mr b q (a0 :: a1 :: a2 :: some (.long x) :: none :: t) st n I Q F) : X r d y cc mr b pc (a0 :: a1 :: a2 :: a3 :: a4 :: t) (.long x :: st) n I Q F := by
  intro p e s m args below meth c H locs cells slots mc ms R ls Qf C hW hS hl h1 h2 fin
  obtain ⟨hd, rfl⟩ := hd
  exact lv_lstore_n C.1 C.2.1 hd rfl (lvs_list hl) (Nat.le_of_ble_eq_true hn) rfl (fun ls' hs => k _ _ _ _ _ _ _ _ _ _ _ _ _ _ _ _ _ C hW hS (lvs_putL hs ho) h1 h2 fin)
theorem x_lstore_4 {r : Ev} {d : Nat} {y : MethodName} {cc : ByteArray} {mr : Nat × Option FieldType} {b : Nat × Nat} {pc q : Nat} {st : List Value} {n : Nat} {I : MI} {Q : MQ2} {F : Post} {a0 a1 a2 a3 a4 a5 : Option Value} {t : List (Option Value)} {x : Int64} (hd : DR cc pc (.lstore 4) 2 q) (hn : Nat.ble (4 + 2) mr.1 = true) (ho : okst (a0 :: a1 :: a2 :: a3 :: a4 :: a5 :: t) 4 = true) (k : X r d y cc mr b q (a0 :: a1 :: a2 :: a3 :: some (.long x) :: none :: t) st n I Q F) : X r d y cc mr b pc (a0 :: a1 :: a2 :: a3 :: a4 :: a5 :: t) (.long x :: st) n I Q F := by
  intro p e s m args below meth c H locs cells slots mc ms R ls Qf C hW hS hl h1 h2 fin
  obtain ⟨hd, rfl⟩ := hd
  exact lv_lstore C.1 C.2.1 hd (lvs_list hl) (Nat.le_of_ble_eq_true hn) rfl (fun ls' hs => k _ _ _ _ _ _ _ _ _ _ _ _ _ _ _ _ _ C hW hS (lvs_putL hs ho) h1 h2 fin)
theorem x_lstore_5 {r : Ev} {d : Nat} {y : MethodName} {cc : ByteArray} {mr : Nat × Option FieldType} {b : Nat × Nat} {pc q : Nat} {st : List Value} {n : Nat} {I : MI} {Q : MQ2} {F : Post} {a0 a1 a2 a3 a4 a5 a6 : Option Value} {t : List (Option Value)} {x : Int64} (hd : DR cc pc (.lstore 5) 2 q) (hn : Nat.ble (5 + 2) mr.1 = true) (ho : okst (a0 :: a1 :: a2 :: a3 :: a4 :: a5 :: a6 :: t) 5 = true) (k : X r d y cc mr b q (a0 :: a1 :: a2 :: a3 :: a4 :: some (.long x) :: none :: t) st n I Q F) : X r d y cc mr b pc (a0 :: a1 :: a2 :: a3 :: a4 :: a5 :: a6 :: t) (.long x :: st) n I Q F := by
  intro p e s m args below meth c H locs cells slots mc ms R ls Qf C hW hS hl h1 h2 fin
  obtain ⟨hd, rfl⟩ := hd
  exact lv_lstore C.1 C.2.1 hd (lvs_list hl) (Nat.le_of_ble_eq_true hn) rfl (fun ls' hs => k _ _ _ _ _ _ _ _ _ _ _ _ _ _ _ _ _ C hW hS (lvs_putL hs ho) h1 h2 fin)
theorem x_lstore_6 {r : Ev} {d : Nat} {y : MethodName} {cc : ByteArray} {mr : Nat × Option FieldType} {b : Nat × Nat} {pc q : Nat} {st : List Value} {n : Nat} {I : MI} {Q : MQ2} {F : Post} {a0 a1 a2 a3 a4 a5 a6 a7 : Option Value} {t : List (Option Value)} {x : Int64} (hd : DR cc pc (.lstore 6) 2 q) (hn : Nat.ble (6 + 2) mr.1 = true) (ho : okst (a0 :: a1 :: a2 :: a3 :: a4 :: a5 :: a6 :: a7 :: t) 6 = true) (k : X r d y cc mr b q (a0 :: a1 :: a2 :: a3 :: a4 :: a5 :: some (.long x) :: none :: t) st n I Q F) : X r d y cc mr b pc (a0 :: a1 :: a2 :: a3 :: a4 :: a5 :: a6 :: a7 :: t) (.long x :: st) n I Q F := by
  intro p e s m args below meth c H locs cells slots mc ms R ls Qf C hW hS hl h1 h2 fin
  obtain ⟨hd, rfl⟩ := hd
  exact lv_lstore C.1 C.2.1 hd (lvs_list hl) (Nat.le_of_ble_eq_true hn) rfl (fun ls' hs => k _ _ _ _ _ _ _ _ _ _ _ _ _ _ _ _ _ C hW hS (lvs_putL hs ho) h1 h2 fin)
theorem x_lstore_7 {r : Ev} {d : Nat} {y : MethodName} {cc : ByteArray} {mr : Nat × Option FieldType} {b : Nat × Nat} {pc q : Nat} {st : List Value} {n : Nat} {I : MI} {Q : MQ2} {F : Post} {a0 a1 a2 a3 a4 a5 a6 a7 a8 : Option Value} {t : List (Option Value)} {x : Int64} (hd : DR cc pc (.lstore 7) 2 q) (hn : Nat.ble (7 + 2) mr.1 = true) (ho : okst (a0 :: a1 :: a2 :: a3 :: a4 :: a5 :: a6 :: a7 :: a8 :: t) 7 = true) (k : X r d y cc mr b q (a0 :: a1 :: a2 :: a3 :: a4 :: a5 :: a6 :: some (.long x) :: none :: t) st n I Q F) : X r d y cc mr b pc (a0 :: a1 :: a2 :: a3 :: a4 :: a5 :: a6 :: a7 :: a8 :: t) (.long x :: st) n I Q F := by
  intro p e s m args below meth c H locs cells slots mc ms R ls Qf C hW hS hl h1 h2 fin
  obtain ⟨hd, rfl⟩ := hd
  exact lv_lstore C.1 C.2.1 hd (lvs_list hl) (Nat.le_of_ble_eq_true hn) rfl (fun ls' hs => k _ _ _ _ _ _ _ _ _ _ _ _ _ _ _ _ _ C hW hS (lvs_putL hs ho) h1 h2 fin)
theorem x_lstore_8 {r : Ev} {d : Nat} {y : MethodName} {cc : ByteArray} {mr : Nat × Option FieldType} {b : Nat × Nat} {pc q : Nat} {st : List Value} {n : Nat} {I : MI} {Q : MQ2} {F : Post} {a0 a1 a2 a3 a4 a5 a6 a7 a8 a9 : Option Value} {t : List (Option Value)} {x : Int64} (hd : DR cc pc (.lstore 8) 2 q) (hn : Nat.ble (8 + 2) mr.1 = true) (ho : okst (a0 :: a1 :: a2 :: a3 :: a4 :: a5 :: a6 :: a7 :: a8 :: a9 :: t) 8 = true) (k : X r d y cc mr b q (a0 :: a1 :: a2 :: a3 :: a4 :: a5 :: a6 :: a7 :: some (.long x) :: none :: t) st n I Q F) : X r d y cc mr b pc (a0 :: a1 :: a2 :: a3 :: a4 :: a5 :: a6 :: a7 :: a8 :: a9 :: t) (.long x :: st) n I Q F := by
  intro p e s m args below meth c H locs cells slots mc ms R ls Qf C hW hS hl h1 h2 fin
  obtain ⟨hd, rfl⟩ := hd
  exact lv_lstore C.1 C.2.1 hd (lvs_list hl) (Nat.le_of_ble_eq_true hn) rfl (fun ls' hs => k _ _ _ _ _ _ _ _ _ _ _ _ _ _ _ _ _ C hW hS (lvs_putL hs ho) h1 h2 fin)
theorem x_lstore_9 {r : Ev} {d : Nat} {y : MethodName} {cc : ByteArray} {mr : Nat × Option FieldType} {b : Nat × Nat} {pc q : Nat} {st : List Value} {n : Nat} {I : MI} {Q : MQ2} {F : Post} {a0 a1 a2 a3 a4 a5 a6 a7 a8 a9 a10 : Option Value} {t : List (Option Value)} {x : Int64} (hd : DR cc pc (.lstore 9) 2 q) (hn : Nat.ble (9 + 2) mr.1 = true) (ho : okst (a0 :: a1 :: a2 :: a3 :: a4 :: a5 :: a6 :: a7 :: a8 :: a9 :: a10 :: t) 9 = true) (k : X r d y cc mr b q (a0 :: a1 :: a2 :: a3 :: a4 :: a5 :: a6 :: a7 :: a8 :: some (.long x) :: none :: t) st n I Q F) : X r d y cc mr b pc (a0 :: a1 :: a2 :: a3 :: a4 :: a5 :: a6 :: a7 :: a8 :: a9 :: a10 :: t) (.long x :: st) n I Q F := by
  intro p e s m args below meth c H locs cells slots mc ms R ls Qf C hW hS hl h1 h2 fin
  obtain ⟨hd, rfl⟩ := hd
  exact lv_lstore C.1 C.2.1 hd (lvs_list hl) (Nat.le_of_ble_eq_true hn) rfl (fun ls' hs => k _ _ _ _ _ _ _ _ _ _ _ _ _ _ _ _ _ C hW hS (lvs_putL hs ho) h1 h2 fin)
theorem x_lstore_10 {r : Ev} {d : Nat} {y : MethodName} {cc : ByteArray} {mr : Nat × Option FieldType} {b : Nat × Nat} {pc q : Nat} {st : List Value} {n : Nat} {I : MI} {Q : MQ2} {F : Post} {a0 a1 a2 a3 a4 a5 a6 a7 a8 a9 a10 a11 : Option Value} {t : List (Option Value)} {x : Int64} (hd : DR cc pc (.lstore 10) 2 q) (hn : Nat.ble (10 + 2) mr.1 = true) (ho : okst (a0 :: a1 :: a2 :: a3 :: a4 :: a5 :: a6 :: a7 :: a8 :: a9 :: a10 :: a11 :: t) 10 = true) (k : X r d y cc mr b q (a0 :: a1 :: a2 :: a3 :: a4 :: a5 :: a6 :: a7 :: a8 :: a9 :: some (.long x) :: none :: t) st n I Q F) : X r d y cc mr b pc (a0 :: a1 :: a2 :: a3 :: a4 :: a5 :: a6 :: a7 :: a8 :: a9 :: a10 :: a11 :: t) (.long x :: st) n I Q F := by
  intro p e s m args below meth c H locs cells slots mc ms R ls Qf C hW hS hl h1 h2 fin
  obtain ⟨hd, rfl⟩ := hd
  exact lv_lstore C.1 C.2.1 hd (lvs_list hl) (Nat.le_of_ble_eq_true hn) rfl (fun ls' hs => k _ _ _ _ _ _ _ _ _ _ _ _ _ _ _ _ _ C hW hS (lvs_putL hs ho) h1 h2 fin)
theorem x_lstore_11 {r : Ev} {d : Nat} {y : MethodName} {cc : ByteArray} {mr : Nat × Option FieldType} {b : Nat × Nat} {pc q : Nat} {st : List Value} {n : Nat} {I : MI} {Q : MQ2} {F : Post} {a0 a1 a2 a3 a4 a5 a6 a7 a8 a9 a10 a11 a12 : Option Value} {t : List (Option Value)} {x : Int64} (hd : DR cc pc (.lstore 11) 2 q) (hn : Nat.ble (11 + 2) mr.1 = true) (ho : okst (a0 :: a1 :: a2 :: a3 :: a4 :: a5 :: a6 :: a7 :: a8 :: a9 :: a10 :: a11 :: a12 :: t) 11 = true) (k : X r d y cc mr b q (a0 :: a1 :: a2 :: a3 :: a4 :: a5 :: a6 :: a7 :: a8 :: a9 :: a10 :: some (.long x) :: none :: t) st n I Q F) : X r d y cc mr b pc (a0 :: a1 :: a2 :: a3 :: a4 :: a5 :: a6 :: a7 :: a8 :: a9 :: a10 :: a11 :: a12 :: t) (.long x :: st) n I Q F := by
  intro p e s m args below meth c H locs cells slots mc ms R ls Qf C hW hS hl h1 h2 fin
  obtain ⟨hd, rfl⟩ := hd
  exact lv_lstore C.1 C.2.1 hd (lvs_list hl) (Nat.le_of_ble_eq_true hn) rfl (fun ls' hs => k _ _ _ _ _ _ _ _ _ _ _ _ _ _ _ _ _ C hW hS (lvs_putL hs ho) h1 h2 fin)
end
section
/-! fields -/
def clC (ci : Nat) : String := (vwCl.getD ci ("", (fun _ => ("", "", "", false)), 0)).1
def clT (ci : Nat) : u_T := (vwCl.getD ci ("", (fun _ => ("", "", "", false)), 0)).2.1
def tyOf (ci : Nat) : Nat → FieldType := [tyX0, tyX1, tyX2, tyX3, tyX4, tyX5, tyX6, tyX7, tyX8, tyX9].getD ci (fun _ => .int)
def CFok (ci : Nat) : Prop := vwCl[ci]? = some (clC ci, clT ci, nf ci) ∧ (∀ w ∈ u_ws (clC ci) (clT ci) (nf ci), w ∈ wT) ∧ (∀ k, k < nf ci → parseFieldDescriptor (clT ci k).2.2.1 = some (tyOf ci k)) ∧ ∀ a, a < nf ci → ∀ b, b < nf ci → a ≠ b → (clT ci a).2.1 ≠ (clT ci b).2.1
theorem wsl_0 : ∀ w ∈ u_ws RX0 TX0 (nf 0), w ∈ wT := fun w h => List.mem_filter.mpr ⟨(show ∀ w ∈ u_ws RX0 TX0 (nf 0), w ∈ lw_tbl by decide +kernel) w h, (show ∀ w ∈ u_ws RX0 TX0 (nf 0), goodWord w = true by decide +kernel) w h⟩
theorem cfo_0 : CFok 0 := ⟨rfl, wsl_0, tyX0_ok, nmX0⟩
theorem wsl_1 : ∀ w ∈ u_ws RX1 TX1 (nf 1), w ∈ wT := fun w h => List.mem_filter.mpr ⟨(show ∀ w ∈ u_ws RX1 TX1 (nf 1), w ∈ lw_tbl by decide +kernel) w h, (show ∀ w ∈ u_ws RX1 TX1 (nf 1), goodWord w = true by decide +kernel) w h⟩
theorem cfo_1 : CFok 1 := ⟨rfl, wsl_1, tyX1_ok, nmX1⟩
theorem wsl_2 : ∀ w ∈ u_ws RX2 TX2 (nf 2), w ∈ wT := fun w h => List.mem_filter.mpr ⟨(show ∀ w ∈ u_ws RX2 TX2 (nf 2), w ∈ lw_tbl by decide +kernel) w h, (show ∀ w ∈ u_ws RX2 TX2 (nf 2), goodWord w = true by decide +kernel) w h⟩
theorem cfo_2 : CFok 2 := ⟨rfl, wsl_2, tyX2_ok, nmX2⟩
theorem wsl_3 : ∀ w ∈ u_ws RX3 TX3 (nf 3), w ∈ wT := fun w h => List.mem_filter.mpr ⟨(show ∀ w ∈ u_ws RX3 TX3 (nf 3), w ∈ lw_tbl by decide +kernel) w h, (show ∀ w ∈ u_ws RX3 TX3 (nf 3), goodWord w = true by decide +kernel) w h⟩
theorem cfo_3 : CFok 3 := ⟨rfl, wsl_3, tyX3_ok, nmX3⟩
theorem wsl_4 : ∀ w ∈ u_ws RX4 TX4 (nf 4), w ∈ wT := fun w h => List.mem_filter.mpr ⟨(show ∀ w ∈ u_ws RX4 TX4 (nf 4), w ∈ lw_tbl by decide +kernel) w h, (show ∀ w ∈ u_ws RX4 TX4 (nf 4), goodWord w = true by decide +kernel) w h⟩
theorem cfo_4 : CFok 4 := ⟨rfl, wsl_4, tyX4_ok, nmX4⟩
theorem wsl_5 : ∀ w ∈ u_ws RX5 TX5 (nf 5), w ∈ wT := fun w h => List.mem_filter.mpr ⟨(show ∀ w ∈ u_ws RX5 TX5 (nf 5), w ∈ lw_tbl by decide +kernel) w h, (show ∀ w ∈ u_ws RX5 TX5 (nf 5), goodWord w = true by decide +kernel) w h⟩
theorem cfo_5 : CFok 5 := ⟨rfl, wsl_5, tyX5_ok, nmX5⟩
theorem wsl_6 : ∀ w ∈ u_ws RX6 TX6 (nf 6), w ∈ wT := fun w h => List.mem_filter.mpr ⟨(show ∀ w ∈ u_ws RX6 TX6 (nf 6), w ∈ lw_tbl by decide +kernel) w h, (show ∀ w ∈ u_ws RX6 TX6 (nf 6), goodWord w = true by decide +kernel) w h⟩
theorem cfo_6 : CFok 6 := ⟨rfl, wsl_6, tyX6_ok, nmX6⟩
theorem wsl_7 : ∀ w ∈ u_ws RX7 TX7 (nf 7), w ∈ wT := fun w h => List.mem_filter.mpr ⟨(show ∀ w ∈ u_ws RX7 TX7 (nf 7), w ∈ lw_tbl by decide +kernel) w h, (show ∀ w ∈ u_ws RX7 TX7 (nf 7), goodWord w = true by decide +kernel) w h⟩
theorem cfo_7 : CFok 7 := ⟨rfl, wsl_7, tyX7_ok, nmX7⟩
theorem wsl_8 : ∀ w ∈ u_ws RX8 TX8 (nf 8), w ∈ wT := fun w h => List.mem_filter.mpr ⟨(show ∀ w ∈ u_ws RX8 TX8 (nf 8), w ∈ lw_tbl by decide +kernel) w h, (show ∀ w ∈ u_ws RX8 TX8 (nf 8), goodWord w = true by decide +kernel) w h⟩
theorem cfo_8 : CFok 8 := ⟨rfl, wsl_8, tyX8_ok, nmX8⟩
theorem wsl_9 : ∀ w ∈ u_ws RX9 TX9 (nf 9), w ∈ wT := fun w h => List.mem_filter.mpr ⟨(show ∀ w ∈ u_ws RX9 TX9 (nf 9), w ∈ lw_tbl by decide +kernel) w h, (show ∀ w ∈ u_ws RX9 TX9 (nf 9), goodWord w = true by decide +kernel) w h⟩
theorem cfo_9 : CFok 9 := ⟨rfl, wsl_9, tyX9_ok, nmX9⟩
theorem cf_ok : ∀ ci, ci < 10 → CFok ci := by
  intro ci h
  rcases (show ci = 0 ∨ ci = 1 ∨ ci = 2 ∨ ci = 3 ∨ ci = 4 ∨ ci = 5 ∨ ci = 6 ∨ ci = 7 ∨ ci = 8 ∨ ci = 9 by omega) with rfl | rfl | rfl | rfl | rfl | rfl | rfl | rfl | rfl | rfl
  · exact cfo_0
  · exact cfo_1
  · exact cfo_2
  · exact cfo_3
  · exact cfo_4
  · exact cfo_5
  · exact cfo_6
  · exact cfo_7
  · exact cfo_8
  · exact cfo_9
/-- an object of class ci, an array of kind k and length N, that are made -/
def Ob (n ci id : Nat) : Prop := kd id = ci ∧ id < n
def Ar (n k id N : Nat) : Prop := kd id = k ∧ nn id = N ∧ id < n
def FLk (own : String) (idx ci k : Nat) : Prop := Cond.fieldLink own idx (clT ci k).1 (clT ci k).2.1 (clT ci k).2.2.1 ∈ wT ∨ Cond.fieldLinkNest own idx (clT ci k).1 (clT ci k).2.1 (clT ci k).2.2.1 "DewLooms" ∈ wN
def FI (own : String) (idx ci k : Nat) : Prop := ci < 10 ∧ k < nf ci ∧ isR ci k = false ∧ FLk own idx ci k
def FR (own : String) (idx ci k : Nat) : Prop := ci < 10 ∧ k < nf ci ∧ isR ci k = true ∧ FLk own idx ci k
def NF (ci k : Nat) : Prop := (clT ci k).2.2.2 = false
theorem nn_all : ∀ x ∈ nnL, x ≤ 208 := by decide +kernel
theorem nn_lt (id : Nat) : nn id < 2 ^ 31 := by
  unfold nn
  rw [List.getD_eq_getElem?_getD]
  cases h : nnL[id]? with
  | none => exact Nat.le_of_ble_eq_true rfl
  | some x => exact Nat.lt_of_le_of_lt (nn_all x (List.mem_of_getElem? h)) (Nat.le_of_ble_eq_true rfl)
theorem Ar.lt {n k id N : Nat} (h : Ar n k id N) : N < 2 ^ 31 := by rw [← h.2.1]; exact nn_lt id
theorem wd_at {r : Ev} {n : Nat} {I : MI} {Q : MQ2} {ci id : Nat} (h : Ob n ci id) (hc : ci < 10) : (pool (evc r) (evz r) n I Q)[id]? = some (evz r + id, .inr (ci, flds (evz r) I Q id)) := by rw [pool_get h.2, cel_o h.1 hc]
theorem wd_ai {r : Ev} {n : Nat} {I : MI} {Q : MQ2} {k id N : Nat} (h : Ar n k id N) (hc : k = 10 ∨ k = 11) : (pool (evc r) (evz r) n I Q)[id]? = some (evz r + id, .inl (evc r k, N, .inl (I id))) := by rw [pool_get h.2.2, cel_i h.1 hc, h.2.1]
theorem wd_aq {r : Ev} {n : Nat} {I : MI} {Q : MQ2} {k id N : Nat} (h : Ar n k id N) (hc : k = 12 ∨ k = 13) : (pool (evc r) (evz r) n I Q)[id]? = some (evz r + id, .inl (evc r k, N, .inr (.inr (.inr (.inr (fun j => (Q id j).map (fun x => evz r + x))))))) := by rw [pool_get h.2.2, cel_q h.1 hc, h.2.1]
theorem x_geti {r : Ev} {d : Nat} {y : MethodName} {cc : ByteArray} {mr : Nat × Option FieldType} {b : Nat × Nat} {pc q : Nat} {lv : List (Option Value)} {st : List Value} {n : Nat} {I : MI} {Q : MQ2} {F : Post} {idx ci k id : Nat} (hd : DR cc pc (.getfield idx) 3 q) (f : FI y.cls idx ci k) (ho : Ob n ci id) (kk : X r d y cc mr b q lv (.int (I id k) :: st) n I Q F) : X r d y cc mr b pc lv (.ref (evz r + id) :: st) n I Q F := by
  intro p e s m args below meth c H locs cells slots mc ms R ls Qf C hW hS hl h1 h2 fin
  obtain ⟨hd, rfl⟩ := hd
  obtain ⟨f1, f2, f3, f4⟩ := f
  obtain ⟨g1, g2, g3, g4⟩ := cf_ok ci f1
  have hv : (flds (evz r) I Q id)[k]? = some (.int (I id k)) := by rw [flds_get (by rw [ho.1]; exact f2), ho.1, f3]; rfl
  rcases f4 with f4 | f4
  · exact va_get C.1 C.2.1 C.2.2.2.2.1 g2 C.2.2.2.1 hW.1 hW.2 id (wd_at ho f1) g1 k f2 (C.2.2.2.2.1 _ f4) (fun _ h => h) hv hd (kk _ _ _ _ _ _ _ _ _ _ _ _ _ _ _ _ _ C hW hS hl h1 h2 fin)
  · exact va_getN C.1 C.2.1 C.2.2.2.2.1 g2 C.2.2.2.1 hW.1 hW.2 id (wd_at ho f1) g1 k f2 (va_Nw.use rfl (C.2.2.2.2.2.2.2.2.2.2.2.1 _ f4)) (fun _ h => h) hv hd (kk _ _ _ _ _ _ _ _ _ _ _ _ _ _ _ _ _ C hW hS hl h1 h2 fin)
theorem x_getr {r : Ev} {d : Nat} {y : MethodName} {cc : ByteArray} {mr : Nat × Option FieldType} {b : Nat × Nat} {pc q : Nat} {lv : List (Option Value)} {st : List Value} {n : Nat} {I : MI} {Q : MQ2} {F : Post} {idx ci k id r2 : Nat} (hd : DR cc pc (.getfield idx) 3 q) (f : FR y.cls idx ci k) (ho : Ob n ci id) (hq : Q id k = some r2) (kk : X r d y cc mr b q lv (.ref (evz r + r2) :: st) n I Q F) : X r d y cc mr b pc lv (.ref (evz r + id) :: st) n I Q F := by
  intro p e s m args below meth c H locs cells slots mc ms R ls Qf C hW hS hl h1 h2 fin
  obtain ⟨hd, rfl⟩ := hd
  obtain ⟨f1, f2, f3, f4⟩ := f
  obtain ⟨g1, g2, g3, g4⟩ := cf_ok ci f1
  have hv : (flds (evz r) I Q id)[k]? = some (.ref (evz r + r2)) := by rw [flds_get (by rw [ho.1]; exact f2), ho.1, f3, hq]; rfl
  rcases f4 with f4 | f4
  · exact va_get C.1 C.2.1 C.2.2.2.2.1 g2 C.2.2.2.1 hW.1 hW.2 id (wd_at ho f1) g1 k f2 (C.2.2.2.2.1 _ f4) (fun _ h => h) hv hd (kk _ _ _ _ _ _ _ _ _ _ _ _ _ _ _ _ _ C hW hS hl h1 h2 fin)
  · exact va_getN C.1 C.2.1 C.2.2.2.2.1 g2 C.2.2.2.1 hW.1 hW.2 id (wd_at ho f1) g1 k f2 (va_Nw.use rfl (C.2.2.2.2.2.2.2.2.2.2.2.1 _ f4)) (fun _ h => h) hv hd (kk _ _ _ _ _ _ _ _ _ _ _ _ _ _ _ _ _ C hW hS hl h1 h2 fin)
theorem x_puti {r : Ev} {d : Nat} {y : MethodName} {cc : ByteArray} {mr : Nat × Option FieldType} {b : Nat × Nat} {pc q : Nat} {lv : List (Option Value)} {st : List Value} {n : Nat} {I : MI} {Q : MQ2} {F : Post} {idx ci k id : Nat} {x : Int32} {ty : FieldType} (hd : DR cc pc (.putfield idx) 3 q) (f : FI y.cls idx ci k) (hfn : NF ci k) (hnar : narrow (tyOf ci k) (.int x) = .int x) (hfit : fits (tyOf ci k) (.int x) = true) (ho : Ob n ci id) (kk : X r d y cc mr b q lv st n (up2 I id k x) Q F) : X r d y cc mr b pc lv (.int x :: .ref (evz r + id) :: st) n I Q F := by
  intro p e s m args below meth c H locs cells slots mc ms R ls Qf C hW hS hl h1 h2 fin
  obtain ⟨hd, rfl⟩ := hd
  obtain ⟨f1, f2, f3, f4⟩ := f
  obtain ⟨g1, g2, g3, g4⟩ := cf_ok ci f1
  have hpo : (pool (evc r) (evz r) n I Q).set id (evz r + id, .inr (ci, (flds (evz r) I Q id).set k (.int x))) = pool (evc r) (evz r) n (up2 I id k x) Q := by
    refine pool_set ho.2 ?_ (fun b hb => cel_cong (up2_row hb) rfl)
    rw [cel_o ho.1 f1, flds_set (I := I) (Q := Q) (by rw [ho.1]; exact f2) ?_ (fun j hj => up2_ne (fun e => hj e.2)) (fun j hj => rfl)]
    rw [ho.1, f3]
    first | (simp [up2]; done) | (simp [up2]; rfl)
  rcases f4 with f4 | f4
  · refine va_put C.1 C.2.1 C.2.2.2.2.1 g2 (tyOf ci) g3 g4 C.2.2.2.1 hW.1 hW.2 pool_D hS id (wd_at ho f1) g1 k f2 (C.2.2.2.2.1 _ f4) (fun _ h => h) hfn (g3 k f2) hnar hfit (by rw [flds_len, ho.1]; exact f2) hd (fun H1 locs1 hP hD hS1 => ?_)
    rw [hpo] at hP
    exact kk _ _ _ _ _ _ _ _ _ _ _ _ _ _ _ _ _ C ⟨hW.1, hP⟩ hS1 hl h1 h2 fin
  · refine va_putN C.1 C.2.1 C.2.2.2.2.1 g2 (tyOf ci) g3 g4 C.2.2.2.1 hW.1 hW.2 pool_D hS id (wd_at ho f1) g1 k f2 (va_Nw.use rfl (C.2.2.2.2.2.2.2.2.2.2.2.1 _ f4)) (fun _ h => h) hfn (g3 k f2) hnar hfit (by rw [flds_len, ho.1]; exact f2) hd (fun H1 locs1 hP hD hS1 => ?_)
    rw [hpo] at hP
    exact kk _ _ _ _ _ _ _ _ _ _ _ _ _ _ _ _ _ C ⟨hW.1, hP⟩ hS1 hl h1 h2 fin
theorem x_putr {r : Ev} {d : Nat} {y : MethodName} {cc : ByteArray} {mr : Nat × Option FieldType} {b : Nat × Nat} {pc q : Nat} {lv : List (Option Value)} {st : List Value} {n : Nat} {I : MI} {Q : MQ2} {F : Post} {idx ci k id r2 : Nat} (hd : DR cc pc (.putfield idx) 3 q) (f : FR y.cls idx ci k) (hfn : NF ci k) (hnar : narrow (tyOf ci k) (.ref (evz r + r2)) = .ref (evz r + r2)) (hfit : fits (tyOf ci k) (.ref (evz r + r2)) = true) (ho : Ob n ci id) (kk : X r d y cc mr b q lv st n I (up2 Q id k (some r2)) F) : X r d y cc mr b pc lv (.ref (evz r + r2) :: .ref (evz r + id) :: st) n I Q F := by
  intro p e s m args below meth c H locs cells slots mc ms R ls Qf C hW hS hl h1 h2 fin
  obtain ⟨hd, rfl⟩ := hd
  obtain ⟨f1, f2, f3, f4⟩ := f
  obtain ⟨g1, g2, g3, g4⟩ := cf_ok ci f1
  have hpo : (pool (evc r) (evz r) n I Q).set id (evz r + id, .inr (ci, (flds (evz r) I Q id).set k (.ref (evz r + r2)))) = pool (evc r) (evz r) n I (up2 Q id k (some r2)) := by
    refine pool_set ho.2 ?_ (fun b hb => cel_cong rfl (up2_row hb))
    rw [cel_o ho.1 f1, flds_set (I := I) (Q := Q) (by rw [ho.1]; exact f2) ?_ (fun j hj => rfl) (fun j hj => up2_ne (fun e => hj e.2))]
    rw [ho.1, f3]
    first | (simp [up2]; done) | (simp [up2]; rfl)
  rcases f4 with f4 | f4
  · refine va_put C.1 C.2.1 C.2.2.2.2.1 g2 (tyOf ci) g3 g4 C.2.2.2.1 hW.1 hW.2 pool_D hS id (wd_at ho f1) g1 k f2 (C.2.2.2.2.1 _ f4) (fun _ h => h) hfn (g3 k f2) hnar hfit (by rw [flds_len, ho.1]; exact f2) hd (fun H1 locs1 hP hD hS1 => ?_)
    rw [hpo] at hP
    exact kk _ _ _ _ _ _ _ _ _ _ _ _ _ _ _ _ _ C ⟨hW.1, hP⟩ hS1 hl h1 h2 fin
  · refine va_putN C.1 C.2.1 C.2.2.2.2.1 g2 (tyOf ci) g3 g4 C.2.2.2.1 hW.1 hW.2 pool_D hS id (wd_at ho f1) g1 k f2 (va_Nw.use rfl (C.2.2.2.2.2.2.2.2.2.2.2.1 _ f4)) (fun _ h => h) hfn (g3 k f2) hnar hfit (by rw [flds_len, ho.1]; exact f2) hd (fun H1 locs1 hP hD hS1 => ?_)
    rw [hpo] at hP
    exact kk _ _ _ _ _ _ _ _ _ _ _ _ _ _ _ _ _ C ⟨hW.1, hP⟩ hS1 hl h1 h2 fin
theorem x_putrF {r : Ev} {d : Nat} {y : MethodName} {cc : ByteArray} {mr : Nat × Option FieldType} {b : Nat × Nat} {pc q : Nat} {lv : List (Option Value)} {st : List Value} {n : Nat} {I : MI} {Q : MQ2} {F : Post} {idx ci k id r2 : Nat} (hd : DR cc pc (.putfield idx) 3 q) (f : FR y.cls idx ci k) (hnn : Cond.fieldLink y.cls idx (clT ci k).1 (clT ci k).2.1 (clT ci k).2.2.1 ∈ wT) (hfn : (clT ci k).2.2.2 = true) (hini : y.name = "<init>") (hdec : (clT ci k).1 = y.cls) (hnar : narrow (tyOf ci k) (.ref (evz r + r2)) = .ref (evz r + r2)) (hfit : fits (tyOf ci k) (.ref (evz r + r2)) = true) (ho : Ob n ci id) (kk : X r d y cc mr b q lv st n I (up2 Q id k (some r2)) F) : X r d y cc mr b pc lv (.ref (evz r + r2) :: .ref (evz r + id) :: st) n I Q F := by
  intro p e s m args below meth c H locs cells slots mc ms R ls Qf C hW hS hl h1 h2 fin
  obtain ⟨hd, rfl⟩ := hd
  obtain ⟨f1, f2, f3, f4⟩ := f
  obtain ⟨g1, g2, g3, g4⟩ := cf_ok ci f1
  have hpo : (pool (evc r) (evz r) n I Q).set id (evz r + id, .inr (ci, (flds (evz r) I Q id).set k (.ref (evz r + r2)))) = pool (evc r) (evz r) n I (up2 Q id k (some r2)) := by
    refine pool_set ho.2 ?_ (fun b hb => cel_cong rfl (up2_row hb))
    rw [cel_o ho.1 f1, flds_set (I := I) (Q := Q) (by rw [ho.1]; exact f2) ?_ (fun j hj => rfl) (fun j hj => up2_ne (fun e => hj e.2))]
    rw [ho.1, f3]
    first | (simp [up2]; done) | (simp [up2]; rfl)
  have f4 := hnn
  · refine va_putF C.1 C.2.1 C.2.2.2.2.1 g2 (tyOf ci) g3 g4 C.2.2.2.1 hW.1 hW.2 pool_D hS id (wd_at ho f1) g1 k f2 (C.2.2.2.2.1 _ f4) (fun _ h => h) hfn (C.2.2.2.2.2.1 hini) hdec (g3 k f2) hnar hfit (by rw [flds_len, ho.1]; exact f2) hd (fun H1 locs1 hP hD hS1 => ?_)
    rw [hpo] at hP
    exact kk _ _ _ _ _ _ _ _ _ _ _ _ _ _ _ _ _ C ⟨hW.1, hP⟩ hS1 hl h1 h2 fin
theorem up2_upd (I : MI) (id i : Nat) (v : Int32) : up2 I id i v id = upd (I id) i v := by
  funext j
  by_cases e : j = i <;> simp [up2, upd, e]
theorem up2_vup (Q : MQ2) (z id i r2 : Nat) : (fun j => (up2 Q id i (some r2) id j).map (fun x => z + x)) = va_up (fun j => (Q id j).map (fun x => z + x)) i (some (z + r2)) := by
  funext j
  by_cases e : j = i <;> simp [up2, va_up, e]
theorem nI_cl {N i : Nat} (hi : i < N) (hN : N < 2 ^ 31) : (nI i).toNatClampNeg = i := nI_clamp (Nat.lt_trans hi hN)
theorem x_iald {r : Ev} {d : Nat} {y : MethodName} {cc : ByteArray} {mr : Nat × Option FieldType} {b : Nat × Nat} {pc q : Nat} {lv : List (Option Value)} {st : List Value} {n : Nat} {I : MI} {Q : MQ2} {F : Post} {id N i : Nat} {x : Int32} (hd : DR cc pc .iaload 1 q) (ha : Ar n 11 id N) (hx : x = nI i) (hi : i < N) (kk : X r d y cc mr b q lv (.int (I id i) :: st) n I Q F) : X r d y cc mr b pc lv (.int x :: .ref (evz r + id) :: st) n I Q F := by
  intro p e s m args below meth c H locs cells slots mc ms R ls Qf C hW hS hl h1 h2 fin
  obtain ⟨hd, rfl⟩ := hd
  subst hx
  refine va_iald C.1 C.2.1 hW.1 hW.2 id 1 (wd_ai ha (Or.inr rfl)) rfl (vp_in_nI hi ha.lt) hd ?_
  rw [nI_cl hi ha.lt]
  exact kk _ _ _ _ _ _ _ _ _ _ _ _ _ _ _ _ _ C hW hS hl h1 h2 fin
theorem x_iast {r : Ev} {d : Nat} {y : MethodName} {cc : ByteArray} {mr : Nat × Option FieldType} {b : Nat × Nat} {pc q : Nat} {lv : List (Option Value)} {st : List Value} {n : Nat} {I : MI} {Q : MQ2} {F : Post} {id N i : Nat} {x v : Int32} (hd : DR cc pc .iastore 1 q) (ha : Ar n 11 id N) (hx : x = nI i) (hi : i < N)  (kk : X r d y cc mr b q lv st n (up2 I id i v) Q F) : X r d y cc mr b pc lv (.int v :: .int x :: .ref (evz r + id) :: st) n I Q F := by
  intro p e s m args below meth c H locs cells slots mc ms R ls Qf C hW hS hl h1 h2 fin
  obtain ⟨hd, rfl⟩ := hd
  subst hx
  refine va_iast C.1 C.2.1 hW.1 hW.2 pool_D hS id 1 (wd_ai ha (Or.inr rfl)) rfl (vp_in_nI hi ha.lt) hd (fun H1 locs1 hP hD hS1 => ?_)
  rw [nI_cl hi ha.lt] at hP
  rw [pool_set (I' := up2 I id i v) (Q' := Q) ha.2.2 (by rw [cel_i ha.1 (Or.inr rfl), ha.2.1]; rw [up2_upd]) (fun b hb => cel_cong (up2_row hb) rfl)] at hP
  exact kk _ _ _ _ _ _ _ _ _ _ _ _ _ _ _ _ _ C ⟨hW.1, hP⟩ hS1 hl h1 h2 fin
theorem x_cald {r : Ev} {d : Nat} {y : MethodName} {cc : ByteArray} {mr : Nat × Option FieldType} {b : Nat × Nat} {pc q : Nat} {lv : List (Option Value)} {st : List Value} {n : Nat} {I : MI} {Q : MQ2} {F : Post} {id N i : Nat} {x : Int32} (hd : DR cc pc .caload 1 q) (ha : Ar n 10 id N) (hx : x = nI i) (hi : i < N) (kk : X r d y cc mr b q lv (.int (I id i) :: st) n I Q F) : X r d y cc mr b pc lv (.int x :: .ref (evz r + id) :: st) n I Q F := by
  intro p e s m args below meth c H locs cells slots mc ms R ls Qf C hW hS hl h1 h2 fin
  obtain ⟨hd, rfl⟩ := hd
  subst hx
  refine va_cald C.1 C.2.1 hW.1 hW.2 id 0 (wd_ai ha (Or.inl rfl)) rfl (vp_in_nI hi ha.lt) hd ?_
  rw [nI_cl hi ha.lt]
  exact kk _ _ _ _ _ _ _ _ _ _ _ _ _ _ _ _ _ C hW hS hl h1 h2 fin
theorem x_cast {r : Ev} {d : Nat} {y : MethodName} {cc : ByteArray} {mr : Nat × Option FieldType} {b : Nat × Nat} {pc q : Nat} {lv : List (Option Value)} {st : List Value} {n : Nat} {I : MI} {Q : MQ2} {F : Post} {id N i : Nat} {x v : Int32} (hd : DR cc pc .castore 1 q) (ha : Ar n 10 id N) (hx : x = nI i) (hi : i < N) (hv : vp_nar .char v = v) (kk : X r d y cc mr b q lv st n (up2 I id i v) Q F) : X r d y cc mr b pc lv (.int v :: .int x :: .ref (evz r + id) :: st) n I Q F := by
  intro p e s m args below meth c H locs cells slots mc ms R ls Qf C hW hS hl h1 h2 fin
  obtain ⟨hd, rfl⟩ := hd
  subst hx
  refine va_cast C.1 C.2.1 hW.1 hW.2 pool_D hS id 0 (wd_ai ha (Or.inl rfl)) rfl (vp_in_nI hi ha.lt) hd (fun H1 locs1 hP hD hS1 => ?_)
  rw [nI_cl hi ha.lt] at hP
  rw [hv] at hP
  rw [pool_set (I' := up2 I id i v) (Q' := Q) ha.2.2 (by rw [cel_i ha.1 (Or.inl rfl), ha.2.1]; rw [up2_upd]) (fun b hb => cel_cong (up2_row hb) rfl)] at hP
  exact kk _ _ _ _ _ _ _ _ _ _ _ _ _ _ _ _ _ C ⟨hW.1, hP⟩ hS1 hl h1 h2 fin
theorem x_alen {r : Ev} {d : Nat} {y : MethodName} {cc : ByteArray} {mr : Nat × Option FieldType} {b : Nat × Nat} {pc q : Nat} {lv : List (Option Value)} {st : List Value} {n : Nat} {I : MI} {Q : MQ2} {F : Post} {id N k : Nat} (hd : DR cc pc .arraylength 1 q) (ha : Ar n k id N) (hk : k = 10 ∨ k = 11 ∨ k = 12 ∨ k = 13) (kk : X r d y cc mr b q lv (.int (nI N) :: st) n I Q F) : X r d y cc mr b pc lv (.ref (evz r + id) :: st) n I Q F := by
  intro p e s m args below meth c H locs cells slots mc ms R ls Qf C hW hS hl h1 h2 fin
  obtain ⟨hd, rfl⟩ := hd
  rcases hk with rfl | rfl | rfl | rfl
  · exact va_alen C.1 C.2.1 hW.1 hW.2 id 0 (wd_ai ha (Or.inl rfl)) rfl (v := nI N) rfl hd (kk _ _ _ _ _ _ _ _ _ _ _ _ _ _ _ _ _ C hW hS hl h1 h2 fin)
  · exact va_alen C.1 C.2.1 hW.1 hW.2 id 1 (wd_ai ha (Or.inr rfl)) rfl (v := nI N) rfl hd (kk _ _ _ _ _ _ _ _ _ _ _ _ _ _ _ _ _ C hW hS hl h1 h2 fin)
  · exact va_alen C.1 C.2.1 hW.1 hW.2 id 2 (wd_aq ha (Or.inl rfl)) rfl (v := nI N) rfl hd (kk _ _ _ _ _ _ _ _ _ _ _ _ _ _ _ _ _ C hW hS hl h1 h2 fin)
  · exact va_alen C.1 C.2.1 hW.1 hW.2 id 3 (wd_aq ha (Or.inr rfl)) rfl (v := nI N) rfl hd (kk _ _ _ _ _ _ _ _ _ _ _ _ _ _ _ _ _ C hW hS hl h1 h2 fin)
theorem x_aaldL {r : Ev} {d : Nat} {y : MethodName} {cc : ByteArray} {mr : Nat × Option FieldType} {b : Nat × Nat} {pc q : Nat} {lv : List (Option Value)} {st : List Value} {n : Nat} {I : MI} {Q : MQ2} {F : Post} {id N i r2 : Nat} {x : Int32} (hd : DR cc pc .aaload 1 q) (ha : Ar n 12 id N) (hx : x = nI i) (hi : i < N) (hq : Q id i = some r2) (kk : X r d y cc mr b q lv (.ref (evz r + r2) :: st) n I Q F) : X r d y cc mr b pc lv (.int x :: .ref (evz r + id) :: st) n I Q F := by
  intro p e s m args below meth c H locs cells slots mc ms R ls Qf C hW hS hl h1 h2 fin
  obtain ⟨hd, rfl⟩ := hd
  subst hx
  refine va_aldq C.1 C.2.1 hW.1 hW.2 id 2 (wd_aq ha (Or.inl rfl)) rfl (vp_in_nI hi ha.lt) hd ?_
  rw [nI_cl hi ha.lt, hq]
  exact kk _ _ _ _ _ _ _ _ _ _ _ _ _ _ _ _ _ C hW hS hl h1 h2 fin
theorem x_aastL {r : Ev} {d : Nat} {y : MethodName} {cc : ByteArray} {mr : Nat × Option FieldType} {b : Nat × Nat} {pc q : Nat} {lv : List (Option Value)} {st : List Value} {n : Nat} {I : MI} {Q : MQ2} {F : Post} {id N i r2 : Nat} {x : Int32} (hd : DR cc pc .aastore 1 q) (ha : Ar n 12 id N) (hx : x = nI i) (hi : i < N) (hr : Ob n 0 r2) (kk : X r d y cc mr b q lv st n I (up2 Q id i (some r2)) F) : X r d y cc mr b pc lv (.ref (evz r + r2) :: .int x :: .ref (evz r + id) :: st) n I Q F := by
  intro p e s m args below meth c H locs cells slots mc ms R ls Qf C hW hS hl h1 h2 fin
  obtain ⟨hd, rfl⟩ := hd
  subst hx
  refine va_astq C.1 C.2.1 hW.1 hW.2 pool_D hS id 2 r2 0 (wd_aq ha (Or.inl rfl)) rfl (wd_at hr (Nat.le_of_ble_eq_true rfl)) (cf_ok 0 (Nat.le_of_ble_eq_true rfl)).1 (vp_in_nI hi ha.lt) hd (fun H1 locs1 hP hD hS1 => ?_)
  rw [nI_cl hi ha.lt] at hP
  rw [pool_set (I' := I) (Q' := up2 Q id i (some r2)) ha.2.2 (by rw [cel_q ha.1 (Or.inl rfl), ha.2.1]; rw [up2_vup]) (fun b hb => cel_cong rfl (up2_row hb))] at hP
  exact kk _ _ _ _ _ _ _ _ _ _ _ _ _ _ _ _ _ C ⟨hW.1, hP⟩ hS1 hl h1 h2 fin
theorem x_aaldS {r : Ev} {d : Nat} {y : MethodName} {cc : ByteArray} {mr : Nat × Option FieldType} {b : Nat × Nat} {pc q : Nat} {lv : List (Option Value)} {st : List Value} {n : Nat} {I : MI} {Q : MQ2} {F : Post} {id N i r2 : Nat} {x : Int32} (hd : DR cc pc .aaload 1 q) (ha : Ar n 13 id N) (hx : x = nI i) (hi : i < N) (hq : Q id i = some r2) (kk : X r d y cc mr b q lv (.ref (evz r + r2) :: st) n I Q F) : X r d y cc mr b pc lv (.int x :: .ref (evz r + id) :: st) n I Q F := by
  intro p e s m args below meth c H locs cells slots mc ms R ls Qf C hW hS hl h1 h2 fin
  obtain ⟨hd, rfl⟩ := hd
  subst hx
  refine va_aldq C.1 C.2.1 hW.1 hW.2 id 3 (wd_aq ha (Or.inr rfl)) rfl (vp_in_nI hi ha.lt) hd ?_
  rw [nI_cl hi ha.lt, hq]
  exact kk _ _ _ _ _ _ _ _ _ _ _ _ _ _ _ _ _ C hW hS hl h1 h2 fin
theorem x_aastS {r : Ev} {d : Nat} {y : MethodName} {cc : ByteArray} {mr : Nat × Option FieldType} {b : Nat × Nat} {pc q : Nat} {lv : List (Option Value)} {st : List Value} {n : Nat} {I : MI} {Q : MQ2} {F : Post} {id N i r2 : Nat} {x : Int32} (hd : DR cc pc .aastore 1 q) (ha : Ar n 13 id N) (hx : x = nI i) (hi : i < N) (hr : Ob n 5 r2) (kk : X r d y cc mr b q lv st n I (up2 Q id i (some r2)) F) : X r d y cc mr b pc lv (.ref (evz r + r2) :: .int x :: .ref (evz r + id) :: st) n I Q F := by
  intro p e s m args below meth c H locs cells slots mc ms R ls Qf C hW hS hl h1 h2 fin
  obtain ⟨hd, rfl⟩ := hd
  subst hx
  refine va_astq C.1 C.2.1 hW.1 hW.2 pool_D hS id 3 r2 5 (wd_aq ha (Or.inr rfl)) rfl (wd_at hr (Nat.le_of_ble_eq_true rfl)) (cf_ok 5 (Nat.le_of_ble_eq_true rfl)).1 (vp_in_nI hi ha.lt) hd (fun H1 locs1 hP hD hS1 => ?_)
  rw [nI_cl hi ha.lt] at hP
  rw [pool_set (I' := I) (Q' := up2 Q id i (some r2)) ha.2.2 (by rw [cel_q ha.1 (Or.inr rfl), ha.2.1]; rw [up2_vup]) (fun b hb => cel_cong rfl (up2_row hb))] at hP
  exact kk _ _ _ _ _ _ _ _ _ _ _ _ _ _ _ _ _ C ⟨hW.1, hP⟩ hS1 hl h1 h2 fin
end
section
/-! ends, contracts, calls -/
theorem x_size {p : Program} {l : Launch} {e : Env} {R : Room} {s : State} {m : MethodId} {args : Array Value} {below : List Frame} {meth : Method} {c : Code} {T : State} {locs : List Loc} {cells slots : Nat} {r : Ev} {n : Nat} {I : MI} {Q : MQ2} {H : Heap} (X0 : Stand p l e R s m args below meth c T locs cells slots) (hT : T.heap = H) (hz : s.heap.size + cells = evz r + n) (hle : evz r ≤ s.heap.size) (hW : WD r n I Q s H) (hS : va_S (fun q : Nat => evz r ≤ q) s.heap H locs) : H.size = evz r + n := by
  have h1 : T.heap.size ≤ s.heap.size + cells := X0.same.2.2.1
  rw [hT] at h1
  have h2 : evz r + n ≤ H.size := by
    cases n with
    | zero => exact Nat.le_trans hle hS.1
    | succ k => exact (hW.2 k _ (pool_get (Nat.lt_succ_self k))).lt
  omega
theorem x_iret {r : Ev} {d : Nat} {y : MethodName} {cc : ByteArray} {mr : Nat × Option FieldType} {k9 : Nat} {pc q : Nat} {lv : List (Option Value)} {st : List Value} {n : Nat} {I : MI} {Q : MQ2} {F : Post} {x : Int32} {ty : FieldType} (hd : DR cc pc .ireturn 1 q) (hr : mr.2 = some ty) (hn : narrow ty (.int x) = .int x) (h : F (some (.int x)) I Q) : X r d y cc mr (0, k9) pc lv [.int x] n I Q F := by
  intro p e s m args below meth c H locs cells slots mc ms R ls Qf C hW hS hl h1 h2 fin
  exact W.widen (Nat.le_of_eq h1.2) (by omega) (fin pc ls _ H locs _ I Q (Or.inl ⟨hd.1, x, ty, rfl, rfl, hr, hn⟩) h hW hS)
theorem x_vret {r : Ev} {d : Nat} {y : MethodName} {cc : ByteArray} {mr : Nat × Option FieldType} {k9 : Nat} {pc q : Nat} {lv : List (Option Value)} {st : List Value} {n : Nat} {I : MI} {Q : MQ2} {F : Post}  (hd : DR cc pc .return_ 1 q) (hr : mr.2 = none) (h : F (none) I Q) : X r d y cc mr (0, k9) pc lv [] n I Q F := by
  intro p e s m args below meth c H locs cells slots mc ms R ls Qf C hW hS hl h1 h2 fin
  exact W.widen (Nat.le_of_eq h1.2) (by omega) (fin pc ls _ H locs _ I Q (Or.inr (Or.inl ⟨hd.1, rfl, rfl, hr⟩)) h hW hS)
theorem x_aret {r : Ev} {d : Nat} {y : MethodName} {cc : ByteArray} {mr : Nat × Option FieldType} {k9 : Nat} {pc q : Nat} {lv : List (Option Value)} {st : List Value} {n : Nat} {I : MI} {Q : MQ2} {F : Post} {a : Nat} {rt : FieldType} (hd : DR cc pc .areturn 1 q) (hr : mr.2 = some rt) (hn : ∃ nm, rt = .object nm) (h : F (some (.ref a)) I Q) : X r d y cc mr (0, k9) pc lv [.ref a] n I Q F := by
  intro p e s m args below meth c H locs cells slots mc ms R ls Qf C hW hS hl h1 h2 fin
  exact W.widen (Nat.le_of_eq h1.2) (by omega) (fin pc ls _ H locs _ I Q (Or.inr (Or.inr ⟨hd.1, a, rt, rfl, rfl, hr, hn⟩)) h hW hS)
theorem x_mono {r : Ev} {d : Nat} {y : MethodName} {cc : ByteArray} {mr : Nat × Option FieldType} {b : Nat × Nat} {pc : Nat} {lv : List (Option Value)} {st : List Value} {n : Nat} {I : MI} {Q : MQ2} {F G : Post} (h : X r d y cc mr b pc lv st n I Q F) (hm : ∀ v I' Q', F v I' Q' → G v I' Q') : X r d y cc mr b pc lv st n I Q G :=
  fun p e s m args below meth c H locs cells slots mc ms R ls Qf C hW hS hl h1 h2 fin => h p e s m args below meth c H locs cells slots mc ms R ls Qf C hW hS hl h1 h2 (fun pc' ls' st' H' locs' v I' Q' hr hF => fin pc' ls' st' H' locs' v I' Q' hr (hm v I' Q' hF))
theorem lvs_entry (As : List Value) (mL : Nat) (hc : ∀ v ∈ As, v.category = 1) (hl : As.length ≤ mL) : LVS (lg_sl As ++ List.replicate (mL - (lg_sl As).length) Slot.unset).toArray mL (As.map some ++ List.replicate (mL - As.length) none) := by
  have hsl : lg_sl As = As.map Slot.val := by
    unfold lg_sl
    induction As with
    | nil => rfl
    | cons a t ih =>
      have h1 : a.category = 1 := hc a List.mem_cons_self
      rw [List.flatMap_cons, if_neg (by omega), ih (fun v hv => hc v (List.mem_cons_of_mem _ hv)) (by simp at hl; omega)]
      rfl
  have hlen : (lg_sl As).length ≤ mL := by rw [hsl, List.length_map]; exact hl
  have h := lv_entry As hlen
  refine ⟨h.1, h.2.1, fun i v hv => ?_⟩
  have hi : i < As.length := by
    by_cases hi : i < As.length
    · exact hi
    · rw [List.getElem?_append_right (by rw [List.length_map]; omega)] at hv
      exact absurd (List.eq_of_mem_replicate (List.mem_of_getElem? hv)) (by simp)
  rw [List.getElem?_append_left (by rw [List.length_map]; exact hi), List.getElem?_map, List.getElem?_eq_getElem hi] at hv
  have hv2 : As[i] = v := by simpa using hv
  rw [List.getElem?_toArray, hsl, List.getElem?_append_left (by rw [List.length_map]; exact hi), List.getElem?_map, List.getElem?_eq_getElem hi, hv2]
  rfl
/-- a walk from a method's first place gives its contract -/
theorem ct_of {r : Ev} {d : Nat} {y : MethodName} {cc : ByteArray} {mr : Nat × Option FieldType} {b : Nat × Nat} {As : List Value} {lv : List (Option Value)} {n : Nat} {I : MI} {Q : MQ2} {F : Post} (hy : plainName y.cls = true) (hc : As.all (fun v => v.category == 1) = true) (hl : Nat.ble As.length mr.1 = true) (hlv : As.map some ++ List.replicate (mr.1 - As.length) none = lv) (h : X r d y cc mr b 0 lv [] n I Q F) : CT r d y cc mr b As n I Q F := by
  refine Met.ofW (cc := cc) (maxL := mr.1) (ret := mr.2) hy rfl ?_
  intro p e s m args below meth c s₁ B hml hv
  obtain ⟨rfl, hsz, hWD, hZS⟩ := hv
  have hts := atoms_spec (ws := .code y cc mr.1 mr.2 :: wT) B.pre
  have hown : s.vm.findClass y.cls = some m.cls := findClass_of_methodNamed B.named
  have hr := B.returns
  rw [lg_entry_eq]
  refine h p e s m As.toArray below meth c s.heap [] 0 0 b.1 b.2 _ _ _ ⟨B.exec, B.bytes, hml, hown, fun w hw => hts w (List.mem_cons_of_mem _ hw), fun hn => (name_of_methodNamed B.named B.method).1.trans hn, by omega, Nat.le_refl d, Nat.le_refl _, Nat.le_refl _, Nat.le_refl _, hZS⟩ hWD va_S.rf (by rw [← hlv]; exact lvs_entry As mr.1 (fun v hv => by have := List.all_eq_true.mp hc v hv; simpa using this) (Nat.le_of_ble_eq_true hl)) ⟨by omega, by omega⟩ (by omega) ?_
  intro pc' ls' st' H' locs' v I' Q' hR hF hW hS
  rcases hR with ⟨hd, x, ty, rfl, rfl, hret, hn⟩ | ⟨hd, rfl, rfl, hret⟩ | ⟨hd, a, rt, rfl, rfl, hret, hn⟩
  · exact W.zret (v := x) B.exec B.bytes (hr.trans hret) hn (fun t ht hWm => ⟨⟨_, I', Q', rfl, hF, va_K.moved hWm.alike hW.1, by rw [ht]; exact hW.2⟩, hS.F ht⟩) hS.2.2 hd B.notSynchronized
  · exact W.vret B.exec B.bytes (hr.trans hret) (fun t ht hWm => ⟨⟨_, I', Q', rfl, hF, va_K.moved hWm.alike hW.1, by rw [ht]; exact hW.2⟩, hS.F ht⟩) hS.2.2 hd B.notSynchronized
  · exact W.aret B.exec B.bytes (hr.trans hret) (Or.inl hn) (Or.inr ⟨a, rfl⟩) (fun t ht hWm => ⟨⟨_, I', Q', rfl, hF, va_K.moved hWm.alike hW.1, by rw [ht]; exact hW.2⟩, hS.F ht⟩) hS.2.2 hd B.notSynchronized
/-- behind a call -/
theorem x_after {r : Ev} {d : Nat} {y : MethodName} {cc : ByteArray} {mr : Nat × Option FieldType} {b b' b2 : Nat × Nat} {pc : Nat} {lv : List (Option Value)} {st st0 : List Value} {n : Nat} {F F' : Post} {p : Program} {e : Env} {s : State} {m : MethodId} {args : Array Value} {below : List Frame} {meth : Method} {c : Code} {H : Heap} {locs : List Loc} {cells slots mc ms : Nat} {R : Room} {ls : Array Slot} {Qf : State → Prop}
    (C : XC r d y cc mr p s m args meth c R mc ms) (hS : va_S (fun q : Nat => evz r ≤ q) s.heap H locs) (hl : LVS ls mr.1 lv) (h1 : s.heap.size + cells = evz r + n ∧ cells + b.1 = mc) (h2 : slots + b.2 ≤ ms) (hb : b'.1 + b2.1 = b.1 ∧ b'.2 + b2.2 ≤ b.2)
    (hrun : va_Run p (evl r) e R s m args below meth c H locs cells slots b'.1 b'.2 (F0 m pc ls st0) st (fun st oc t => (∃ (v : Option Value) (I' : MI) (Q' : MQ2), oc = .returned v ∧ F' v I' Q' ∧ WD r (n + b'.1) I' Q' t t.heap) ∧ va_F (fun q : Nat => evz r ≤ q) st t) (fun q : Nat => evz r ≤ q))
    (k : ∀ (v : Option Value) (I' : MI) (Q' : MQ2), F' v I' Q' → X r d y cc mr b2 (pc + 3) lv (v.toList ++ st) (n + b'.1) I' Q' F)
    (fin : ∀ (pc' : Nat) (ls' : Array Slot) (st' : List Value) (H' : Heap) (locs' : List Loc) (v : Option Value) (I' : MI) (Q' : MQ2), RETS cc mr.2 pc' st' v → F v I' Q' → WD r (n + b.1) I' Q' s H' → va_S (fun q : Nat => evz r ≤ q) s.heap H' locs' → W p (evl r) e R s m args below meth c H' locs' mc ms Qf (F0 m pc' ls' st')) :
    W p (evl r) e R s m args below meth c H locs cells slots Qf (F0 m pc ls st0) := by
  intro T hT X0
  obtain ⟨v, st₀, t, T', L, h0, X', hL, e1, e2, ⟨⟨v', I', Q', hv, hF, hWD⟩, hz, hk⟩, stp⟩ := hrun T hT X0
  cases hv
  rw [h0] at hz hk
  have hWs : WD r (n + b'.1) I' Q' s T'.heap := ⟨va_K.moved (by rw [← e2]; exact X'.warmed.alike.symm) hWD.1, by rw [e1]; exact hWD.2⟩
  have hS' : va_S (fun q : Nat => evz r ≤ q) s.heap T'.heap (locs ++ L) := ⟨Nat.le_trans hS.1 (by rw [e1]; exact hz), fun q g1 g2 => by rw [e1, hk q (Nat.lt_of_lt_of_le g1 hS.1) g2]; exact hS.2.1 q g1 g2, fun q hq => by
      rcases List.mem_append.mp hq with h | h
      · exact hS.2.2 q h
      · exact hL q h⟩
  have hn : n + b'.1 + b2.1 = n + b.1 := by omega
  obtain ⟨t2, a1, b1⟩ := k v I' Q' hF p e s m args below meth c T'.heap (locs ++ L) (cells + b'.1) (slots + b'.2) mc ms R ls Qf C hWs hS' hl ⟨by omega, by omega⟩ (by omega) (by rw [hn]; exact fin) T' rfl X'
  exact ⟨t2, stp t2 a1, b1⟩
/-! what the tables say of a method that is called -/
def MFB (y : MethodName) (cc : ByteArray) (mr : Nat × Option FieldType) (k : Nat) : Prop := Cond.initialized y.cls ∈ wT ∧ Cond.code y cc mr.1 mr.2 ∈ wT ∧ (y.cls ≠ "java/lang/invoke/MethodHandle" ∧ y.cls ≠ "java/lang/invoke/VarHandle" ∧ (parseMethodDescriptor y.desc).map (fun d => d.parameters.length) = some k) ∧ mr.1 ≤ 21
def MLk (own : String) (idx : Nat) (y : MethodName) : Prop := Cond.methodLink own idx y ∈ wT
def MLn (own : String) (idx : Nat) (y : MethodName) : Prop := Cond.methodLinkNest own idx y "DewLooms" ∈ wN
def MFV (own : String) (idx : Nat) (y : MethodName) (cc : ByteArray) (mr : Nat × Option FieldType) (k : Nat) : Prop := MFB y cc mr k ∧ MLk own idx y ∧ Cond.instanceMethod y ∈ wT ∧ Cond.selects y.cls y y ∈ wT
def MFS (own : String) (idx : Nat) (y : MethodName) (cc : ByteArray) (mr : Nat × Option FieldType) (k : Nat) : Prop := MFB y cc mr k ∧ (MLk own idx y ∨ MLn own idx y) ∧ Cond.static y ∈ wT
def MFI (own : String) (idx : Nat) (y : MethodName) (cc : ByteArray) (mr : Nat × Option FieldType) (k : Nat) : Prop := MFB y cc mr k ∧ (MLk own idx y ∨ MLn own idx y) ∧ Cond.instanceMethod y ∈ wT ∧ y.name = "<init>"
theorem x_callB {r : Ev} {d d' : Nat} {y y' : MethodName} {cc cc' : ByteArray} {mr mr' : Nat × Option FieldType} {b' : Nat × Nat} {p : Program} {s : State} {m : MethodId} {args : Array Value} {meth : Method} {c : Code} {R : Room} {mc ms idx k : Nat} (C : XC r d y cc mr p s m args meth c R mc ms) (f : MFB y' cc' mr' k) (fl : MLk y.cls idx y') (hd : d' + 1 ≤ d) : CallB R s args y.cls idx y' cc' mr'.1 mr'.2 (.code y' cc' mr'.1 mr'.2 :: wT) ({ frames := d', cells := b'.1, slots := b'.2, locals := 40 * d' } : Room) b'.1 b'.2 k := by
  obtain ⟨f2, f3, f4, f5⟩ := f
  have hts := C.2.2.2.2.1
  have hR1 := C.2.2.2.2.2.2.2.1
  have hR2 := C.2.2.2.2.2.2.2.2.1
  exact callB_of (ws' := wT) k hts (wT_good (fun w hw => (List.mem_cons.mp hw).elim (fun e => by rw [e]; exact f3) id)) rfl rfl rfl (hts _ f2) (hts _ fl) f4 ⟨by show d' + 1 ≤ R.frames; omega, by show 8 + (mr'.1 + 11) + 40 * d' ≤ R.locals; omega⟩
theorem x_callN {r : Ev} {d d' : Nat} {y y' : MethodName} {cc cc' : ByteArray} {mr mr' : Nat × Option FieldType} {b' : Nat × Nat} {p : Program} {s : State} {m : MethodId} {args : Array Value} {meth : Method} {c : Code} {R : Room} {mc ms idx k : Nat} (C : XC r d y cc mr p s m args meth c R mc ms) (f : MFB y' cc' mr' k) (fl : MLn y.cls idx y') (hd : d' + 1 ≤ d) : va_CN R s args y.cls idx y' "DewLooms" cc' mr'.1 mr'.2 (.code y' cc' mr'.1 mr'.2 :: wT) ({ frames := d', cells := b'.1, slots := b'.2, locals := 40 * d' } : Room) b'.1 b'.2 k := by
  obtain ⟨f2, f3, f4, f5⟩ := f
  have hts := C.2.2.2.2.1
  have hR1 := C.2.2.2.2.2.2.2.1
  have hR2 := C.2.2.2.2.2.2.2.2.1
  exact va_cnB (ws' := wT) k hts (wT_good (fun w hw => (List.mem_cons.mp hw).elim (fun e => by rw [e]; exact f3) id)) rfl rfl rfl (C.2.2.2.2.2.2.2.2.2.2.2.1 _ fl) (hts _ f2) f4 ⟨by show d' + 1 ≤ R.frames; omega, by show 8 + (mr'.1 + 11) + 40 * d' ≤ R.locals; omega⟩
theorem x_pre {r : Ev} {n : Nat} {I : MI} {Q : MQ2} {As : List Value} : FrameBlind (va_Pc As (fun U => U.heap.size = evz r + n ∧ WD r n I Q U U.heap ∧ ZS r U U.heap)) := by
  intro a U g mk q
  obtain ⟨q0, q1, q2, z0, adK, adV, z1, z2, z3, z4⟩ := q
  exact ⟨q0, q1, ⟨va_K.moved (u := U) (U := U.calling g mk a) (Vm.Alike.refl U.vm) q2.1, q2.2⟩, fun w hw => va_Nw.same (nest_tab (List.mem_filter.mp hw).2) (u := U) rfl (z0 w hw), adK, adV, z1.moved (u := U) (U := U.calling g mk a) (Vm.Alike.refl U.vm), vk_R.same (u := U) rfl z2, z3.moved (u := U) (U := U.calling g mk a) (Vm.Alike.refl U.vm), z4.moved (u := U) (U := U.calling g mk a) (Vm.Alike.refl U.vm)⟩

theorem x_callV {r : Ev} {d : Nat} {y : MethodName} {cc : ByteArray} {mr : Nat × Option FieldType} {b : Nat × Nat} {pc q : Nat} {lv : List (Option Value)} {st : List Value} {n : Nat} {I : MI} {Q : MQ2} {F : Post} {d' : Nat} {y' : MethodName} {cc' : ByteArray} {mr' : Nat × Option FieldType} {b' b2 : Nat × Nat} {idx k0 : Nat} {F' : Post} {As : List Value} {ci id : Nat} (hd : DR cc pc (.invokevirtual idx) 3 q) (f : MFV y.cls idx y' cc' mr' k0) (ho : Ob n ci id) (hci : ci < 10) (hcl : clC ci = y'.cls) (hc : CT r d' y' cc' mr' b' (.ref (evz r + id) :: As) n I Q F') (hdd : Nat.ble (d' + 1) d = true) (hlen : As.length = k0) (hst : Nat.ble (st.map (fun v => v.category)).sum 8 = true) (hb : b'.1 + b2.1 = b.1 ∧ b'.2 + b2.2 ≤ b.2) (k : ∀ (v : Option Value) (I' : MI) (Q' : MQ2), F' v I' Q' → X r d y cc mr b2 q lv (v.toList ++ st) (n + b'.1) I' Q' F) : X r d y cc mr b pc lv (As.reverse ++ .ref (evz r + id) :: st) n I Q F := by
  intro p e s m args below meth c H locs cells slots mc ms R ls Qf C hW hS hl h1 h2 fin
  obtain ⟨hd, rfl⟩ := hd
  intro T hT X0
  have hsz := x_size X0 hT h1.1 C.2.2.2.2.2.2.1 hW hS
  have hf : cells + b'.1 ≤ R.cells ∧ slots + b'.2 ≤ R.slots := by have := C.2.2.2.2.2.2.2.2.2.1; have := C.2.2.2.2.2.2.2.2.2.2.1; omega
  have fl := f.2.1
  · have hcb := x_callB (b' := b') C f.1 fl (Nat.le_of_ble_eq_true hdd)
    refine x_after C hS hl h1 h2 hb (va_runV (As := As) (rest := st) ⟨C.1, C.2.1, C.2.2.1, C.2.2.2.1, C.2.2.2.2.1⟩ hc ⟨hcb, C.2.2.2.2.1 _ f.2.2.1, C.2.2.2.2.1 _ f.2.2.2⟩ ⟨x_pre, (by rw [← hcl]; exact va_recv (q := (clC ci, clT ci, nf ci)) hW.1 hW.2 (ci := ci) (q0 := id) (cf_ok ci hci).1 (wd_at ho hci)), fun U hU hWm => ⟨rfl, by rw [hU]; exact hsz, ⟨va_K.moved hWm.alike hW.1, by rw [hU]; exact hW.2⟩, by rw [hU]; exact C.2.2.2.2.2.2.2.2.2.2.2.goes hS hWm⟩⟩ rfl hlen hl.1 rfl (by show 2 * 0 + _ ≤ 8; have := Nat.le_of_ble_eq_true hst; omega) hd hf) k fin T hT X0
theorem x_callS {r : Ev} {d : Nat} {y : MethodName} {cc : ByteArray} {mr : Nat × Option FieldType} {b : Nat × Nat} {pc q : Nat} {lv : List (Option Value)} {st : List Value} {n : Nat} {I : MI} {Q : MQ2} {F : Post} {d' : Nat} {y' : MethodName} {cc' : ByteArray} {mr' : Nat × Option FieldType} {b' b2 : Nat × Nat} {idx k0 : Nat} {F' : Post} {As : List Value} (hd : DR cc pc (.invokestatic idx) 3 q) (f : MFS y.cls idx y' cc' mr' k0)  (hc : CT r d' y' cc' mr' b' As n I Q F') (hdd : Nat.ble (d' + 1) d = true) (hlen : As.length = k0) (hst : Nat.ble (st.map (fun v => v.category)).sum 8 = true) (hb : b'.1 + b2.1 = b.1 ∧ b'.2 + b2.2 ≤ b.2) (k : ∀ (v : Option Value) (I' : MI) (Q' : MQ2), F' v I' Q' → X r d y cc mr b2 q lv (v.toList ++ st) (n + b'.1) I' Q' F) : X r d y cc mr b pc lv (As.reverse ++ st) n I Q F := by
  intro p e s m args below meth c H locs cells slots mc ms R ls Qf C hW hS hl h1 h2 fin
  obtain ⟨hd, rfl⟩ := hd
  intro T hT X0
  have hsz := x_size X0 hT h1.1 C.2.2.2.2.2.2.1 hW hS
  have hf : cells + b'.1 ≤ R.cells ∧ slots + b'.2 ≤ R.slots := by have := C.2.2.2.2.2.2.2.2.2.1; have := C.2.2.2.2.2.2.2.2.2.2.1; omega
  rcases f.2.1 with fl | fl
  · have hcb := x_callB (b' := b') C f.1 fl (Nat.le_of_ble_eq_true hdd)
    refine x_after C hS hl h1 h2 hb (va_runS (As := As) (rest := st) ⟨C.1, C.2.1, C.2.2.1, C.2.2.2.1, C.2.2.2.2.1⟩ hc ⟨hcb, C.2.2.2.2.1 _ f.2.2⟩ ⟨x_pre, fun U hU hWm => ⟨rfl, by rw [hU]; exact hsz, ⟨va_K.moved hWm.alike hW.1, by rw [hU]; exact hW.2⟩, by rw [hU]; exact C.2.2.2.2.2.2.2.2.2.2.2.goes hS hWm⟩⟩ rfl hlen hl.1 rfl (by show 2 * 0 + _ ≤ 8; have := Nat.le_of_ble_eq_true hst; omega) hd hf) k fin T hT X0
  · have hcb := x_callN (b' := b') C f.1 fl (Nat.le_of_ble_eq_true hdd)
    refine x_after C hS hl h1 h2 hb (va_runSN (As := As) (rest := st) ⟨C.1, C.2.1, C.2.2.1, C.2.2.2.1, C.2.2.2.2.1⟩ hc ⟨hcb, C.2.2.2.2.1 _ f.2.2, trivial⟩ ⟨x_pre, fun U hU hWm => ⟨rfl, by rw [hU]; exact hsz, ⟨va_K.moved hWm.alike hW.1, by rw [hU]; exact hW.2⟩, by rw [hU]; exact C.2.2.2.2.2.2.2.2.2.2.2.goes hS hWm⟩⟩ rfl hlen hl.1 rfl (by show 2 * 0 + _ ≤ 8; have := Nat.le_of_ble_eq_true hst; omega) hd hf) k fin T hT X0
theorem x_callI {r : Ev} {d : Nat} {y : MethodName} {cc : ByteArray} {mr : Nat × Option FieldType} {b : Nat × Nat} {pc q : Nat} {lv : List (Option Value)} {st : List Value} {n : Nat} {I : MI} {Q : MQ2} {F : Post} {d' : Nat} {y' : MethodName} {cc' : ByteArray} {b' b2 : Nat × Nat} {idx k0 : Nat} {F' : Post} {As : List Value} {a mL9 : Nat} (hd : DR cc pc (.invokespecial idx) 3 q) (f : MFI y.cls idx y' cc' (mL9, none) k0)  (hc : CT r d' y' cc' (mL9, none) b' (.ref a :: As) n I Q F') (hdd : Nat.ble (d' + 1) d = true) (hlen : As.length = k0) (hst : Nat.ble (st.map (fun v => v.category)).sum 8 = true) (hb : b'.1 + b2.1 = b.1 ∧ b'.2 + b2.2 ≤ b.2) (k : ∀ (v : Option Value) (I' : MI) (Q' : MQ2), F' v I' Q' → X r d y cc mr b2 q lv (v.toList ++ st) (n + b'.1) I' Q' F) : X r d y cc mr b pc lv (As.reverse ++ .ref a :: st) n I Q F := by
  intro p e s m args below meth c H locs cells slots mc ms R ls Qf C hW hS hl h1 h2 fin
  obtain ⟨hd, rfl⟩ := hd
  intro T hT X0
  have hsz := x_size X0 hT h1.1 C.2.2.2.2.2.2.1 hW hS
  have hf : cells + b'.1 ≤ R.cells ∧ slots + b'.2 ≤ R.slots := by have := C.2.2.2.2.2.2.2.2.2.1; have := C.2.2.2.2.2.2.2.2.2.2.1; omega
  rcases f.2.1 with fl | fl
  · have hcb := x_callB (b' := b') C f.1 fl (Nat.le_of_ble_eq_true hdd)
    refine x_after C hS hl h1 h2 hb (va_runI (As := As) (rest := st) ⟨C.1, C.2.1, C.2.2.1, C.2.2.2.1, C.2.2.2.2.1⟩ hc ⟨hcb, f.2.2.2, C.2.2.2.2.1 _ f.2.2.1⟩ ⟨x_pre, fun U hU hWm => ⟨rfl, by rw [hU]; exact hsz, ⟨va_K.moved hWm.alike hW.1, by rw [hU]; exact hW.2⟩, by rw [hU]; exact C.2.2.2.2.2.2.2.2.2.2.2.goes hS hWm⟩⟩ rfl hlen hl.1 rfl (by show 2 * 0 + _ ≤ 8; have := Nat.le_of_ble_eq_true hst; omega) hd hf) k fin T hT X0
  · have hcb := x_callN (b' := b') C f.1 fl (Nat.le_of_ble_eq_true hdd)
    refine x_after C hS hl h1 h2 hb (va_runIN (As := As) (rest := st) ⟨C.1, C.2.1, C.2.2.1, C.2.2.2.1, C.2.2.2.2.1⟩ hc ⟨hcb, f.2.2.2, C.2.2.2.2.1 _ f.2.2.1⟩ ⟨x_pre, fun U hU hWm => ⟨rfl, by rw [hU]; exact hsz, ⟨va_K.moved hWm.alike hW.1, by rw [hU]; exact hW.2⟩, by rw [hU]; exact C.2.2.2.2.2.2.2.2.2.2.2.goes hS hWm⟩⟩ rfl hlen hl.1 rfl (by show 2 * 0 + _ ≤ 8; have := Nat.le_of_ble_eq_true hst; omega) hd hf) k fin T hT X0
end
section
/-! answers: ri an int, rv nothing, ro an object; the references stay -/
def ri (Q : MQ2) (G : Int32 → MI → Prop) : Post := fun v I' Q' => ∃ x : Int32, v = some (.int x) ∧ Q' = Q ∧ G x I'
def rv (Q : MQ2) (G : MI → Prop) : Post := fun v I' Q' => v = none ∧ Q' = Q ∧ G I'
def ro (r : Ev) (I : MI) (Q : MQ2) (id : Nat) : Post := fun v I' Q' => v = some (.ref (evz r + id)) ∧ Q' = Q ∧ I' = I
def RI (G : Int32 → MI → MQ2 → Prop) : Post := fun v I' Q' => ∃ x : Int32, v = some (.int x) ∧ G x I' Q'
def RV (G : MI → MQ2 → Prop) : Post := fun v I' Q' => v = none ∧ G I' Q'
def Fits8 (st : List Value) : Prop := Nat.ble (st.map (fun v => v.category)).sum 8 = true
theorem x_V0i {r : Ev} {d : Nat} {y : MethodName} {cc : ByteArray} {mr : Nat × Option FieldType} {b : Nat × Nat} {pc q : Nat} {lv : List (Option Value)} {st : List Value} {n : Nat} {I : MI} {Q : MQ2} {F : Post} {d' : Nat} {y' : MethodName} {cc' : ByteArray} {mr' : Nat × Option FieldType} {idx : Nat} {ci id : Nat} {G : Int32 → MI → Prop} (hd : DR cc pc (.invokevirtual idx) 3 q) (f : MFV y.cls idx y' cc' mr' 0) (hc : CT r d' y' cc' mr' (0, 0) [.ref (evz r + id)] n I Q (ri Q G)) (ho : Ob n ci id) (k : ∀ (x : Int32) (I' : MI), G x I' → X r d y cc mr b q lv (.int x :: st) n I' Q F) (hci : Nat.ble (ci + 1) 10 = true := by rfl) (hcl : clC ci = y'.cls := by rfl) (hdd : Nat.ble (d' + 1) d = true := by rfl) (hst : Fits8 st := by rfl) : X r d y cc mr b pc lv (.ref (evz r + id) :: st) n I Q F :=
  x_callV (As := []) (b2 := b) hd f ho (Nat.le_of_ble_eq_true hci) hcl hc hdd rfl hst ⟨Nat.zero_add _, Nat.le_of_eq (Nat.zero_add _)⟩ (fun v I' Q' h => by obtain ⟨x, rfl, rfl, h⟩ := h; exact k x I' h)
theorem x_S0i {r : Ev} {d : Nat} {y : MethodName} {cc : ByteArray} {mr : Nat × Option FieldType} {b : Nat × Nat} {pc q : Nat} {lv : List (Option Value)} {st : List Value} {n : Nat} {I : MI} {Q : MQ2} {F : Post} {d' : Nat} {y' : MethodName} {cc' : ByteArray} {mr' : Nat × Option FieldType} {idx : Nat} {G : Int32 → MI → Prop} (hd : DR cc pc (.invokestatic idx) 3 q) (f : MFS y.cls idx y' cc' mr' 0) (hc : CT r d' y' cc' mr' (0, 0) [] n I Q (ri Q G)) (k : ∀ (x : Int32) (I' : MI), G x I' → X r d y cc mr b q lv (.int x :: st) n I' Q F) (hdd : Nat.ble (d' + 1) d = true := by rfl) (hst : Fits8 st := by rfl) : X r d y cc mr b pc lv (st) n I Q F :=
  x_callS (As := []) (b2 := b) hd f hc hdd rfl hst ⟨Nat.zero_add _, Nat.le_of_eq (Nat.zero_add _)⟩ (fun v I' Q' h => by obtain ⟨x, rfl, rfl, h⟩ := h; exact k x I' h)
theorem x_V1i {r : Ev} {d : Nat} {y : MethodName} {cc : ByteArray} {mr : Nat × Option FieldType} {b : Nat × Nat} {pc q : Nat} {lv : List (Option Value)} {st : List Value} {n : Nat} {I : MI} {Q : MQ2} {F : Post} {d' : Nat} {y' : MethodName} {cc' : ByteArray} {mr' : Nat × Option FieldType} {idx : Nat} {v1 : Value} {ci id : Nat} {G : Int32 → MI → Prop} (hd : DR cc pc (.invokevirtual idx) 3 q) (f : MFV y.cls idx y' cc' mr' 1) (hc : CT r d' y' cc' mr' (0, 0) [.ref (evz r + id), v1] n I Q (ri Q G)) (ho : Ob n ci id) (k : ∀ (x : Int32) (I' : MI), G x I' → X r d y cc mr b q lv (.int x :: st) n I' Q F) (hci : Nat.ble (ci + 1) 10 = true := by rfl) (hcl : clC ci = y'.cls := by rfl) (hdd : Nat.ble (d' + 1) d = true := by rfl) (hst : Fits8 st := by rfl) : X r d y cc mr b pc lv (v1 :: .ref (evz r + id) :: st) n I Q F :=
  x_callV (As := [v1]) (b2 := b) hd f ho (Nat.le_of_ble_eq_true hci) hcl hc hdd rfl hst ⟨Nat.zero_add _, Nat.le_of_eq (Nat.zero_add _)⟩ (fun v I' Q' h => by obtain ⟨x, rfl, rfl, h⟩ := h; exact k x I' h)
theorem x_S1i {r : Ev} {d : Nat} {y : MethodName} {cc : ByteArray} {mr : Nat × Option FieldType} {b : Nat × Nat} {pc q : Nat} {lv : List (Option Value)} {st : List Value} {n : Nat} {I : MI} {Q : MQ2} {F : Post} {d' : Nat} {y' : MethodName} {cc' : ByteArray} {mr' : Nat × Option FieldType} {idx : Nat} {v1 : Value} {G : Int32 → MI → Prop} (hd : DR cc pc (.invokestatic idx) 3 q) (f : MFS y.cls idx y' cc' mr' 1) (hc : CT r d' y' cc' mr' (0, 0) [v1] n I Q (ri Q G)) (k : ∀ (x : Int32) (I' : MI), G x I' → X r d y cc mr b q lv (.int x :: st) n I' Q F) (hdd : Nat.ble (d' + 1) d = true := by rfl) (hst : Fits8 st := by rfl) : X r d y cc mr b pc lv (v1 :: st) n I Q F :=
  x_callS (As := [v1]) (b2 := b) hd f hc hdd rfl hst ⟨Nat.zero_add _, Nat.le_of_eq (Nat.zero_add _)⟩ (fun v I' Q' h => by obtain ⟨x, rfl, rfl, h⟩ := h; exact k x I' h)
theorem x_V2i {r : Ev} {d : Nat} {y : MethodName} {cc : ByteArray} {mr : Nat × Option FieldType} {b : Nat × Nat} {pc q : Nat} {lv : List (Option Value)} {st : List Value} {n : Nat} {I : MI} {Q : MQ2} {F : Post} {d' : Nat} {y' : MethodName} {cc' : ByteArray} {mr' : Nat × Option FieldType} {idx : Nat} {v1 v2 : Value} {ci id : Nat} {G : Int32 → MI → Prop} (hd : DR cc pc (.invokevirtual idx) 3 q) (f : MFV y.cls idx y' cc' mr' 2) (hc : CT r d' y' cc' mr' (0, 0) [.ref (evz r + id), v1, v2] n I Q (ri Q G)) (ho : Ob n ci id) (k : ∀ (x : Int32) (I' : MI), G x I' → X r d y cc mr b q lv (.int x :: st) n I' Q F) (hci : Nat.ble (ci + 1) 10 = true := by rfl) (hcl : clC ci = y'.cls := by rfl) (hdd : Nat.ble (d' + 1) d = true := by rfl) (hst : Fits8 st := by rfl) : X r d y cc mr b pc lv (v2 :: v1 :: .ref (evz r + id) :: st) n I Q F :=
  x_callV (As := [v1, v2]) (b2 := b) hd f ho (Nat.le_of_ble_eq_true hci) hcl hc hdd rfl hst ⟨Nat.zero_add _, Nat.le_of_eq (Nat.zero_add _)⟩ (fun v I' Q' h => by obtain ⟨x, rfl, rfl, h⟩ := h; exact k x I' h)
theorem x_S2i {r : Ev} {d : Nat} {y : MethodName} {cc : ByteArray} {mr : Nat × Option FieldType} {b : Nat × Nat} {pc q : Nat} {lv : List (Option Value)} {st : List Value} {n : Nat} {I : MI} {Q : MQ2} {F : Post} {d' : Nat} {y' : MethodName} {cc' : ByteArray} {mr' : Nat × Option FieldType} {idx : Nat} {v1 v2 : Value} {G : Int32 → MI → Prop} (hd : DR cc pc (.invokestatic idx) 3 q) (f : MFS y.cls idx y' cc' mr' 2) (hc : CT r d' y' cc' mr' (0, 0) [v1, v2] n I Q (ri Q G)) (k : ∀ (x : Int32) (I' : MI), G x I' → X r d y cc mr b q lv (.int x :: st) n I' Q F) (hdd : Nat.ble (d' + 1) d = true := by rfl) (hst : Fits8 st := by rfl) : X r d y cc mr b pc lv (v2 :: v1 :: st) n I Q F :=
  x_callS (As := [v1, v2]) (b2 := b) hd f hc hdd rfl hst ⟨Nat.zero_add _, Nat.le_of_eq (Nat.zero_add _)⟩ (fun v I' Q' h => by obtain ⟨x, rfl, rfl, h⟩ := h; exact k x I' h)
theorem x_V3i {r : Ev} {d : Nat} {y : MethodName} {cc : ByteArray} {mr : Nat × Option FieldType} {b : Nat × Nat} {pc q : Nat} {lv : List (Option Value)} {st : List Value} {n : Nat} {I : MI} {Q : MQ2} {F : Post} {d' : Nat} {y' : MethodName} {cc' : ByteArray} {mr' : Nat × Option FieldType} {idx : Nat} {v1 v2 v3 : Value} {ci id : Nat} {G : Int32 → MI → Prop} (hd : DR cc pc (.invokevirtual idx) 3 q) (f : MFV y.cls idx y' cc' mr' 3) (hc : CT r d' y' cc' mr' (0, 0) [.ref (evz r + id), v1, v2, v3] n I Q (ri Q G)) (ho : Ob n ci id) (k : ∀ (x : Int32) (I' : MI), G x I' → X r d y cc mr b q lv (.int x :: st) n I' Q F) (hci : Nat.ble (ci + 1) 10 = true := by rfl) (hcl : clC ci = y'.cls := by rfl) (hdd : Nat.ble (d' + 1) d = true := by rfl) (hst : Fits8 st := by rfl) : X r d y cc mr b pc lv (v3 :: v2 :: v1 :: .ref (evz r + id) :: st) n I Q F :=
  x_callV (As := [v1, v2, v3]) (b2 := b) hd f ho (Nat.le_of_ble_eq_true hci) hcl hc hdd rfl hst ⟨Nat.zero_add _, Nat.le_of_eq (Nat.zero_add _)⟩ (fun v I' Q' h => by obtain ⟨x, rfl, rfl, h⟩ := h; exact k x I' h)
theorem x_S3i {r : Ev} {d : Nat} {y : MethodName} {cc : ByteArray} {mr : Nat × Option FieldType} {b : Nat × Nat} {pc q : Nat} {lv : List (Option Value)} {st : List Value} {n : Nat} {I : MI} {Q : MQ2} {F : Post} {d' : Nat} {y' : MethodName} {cc' : ByteArray} {mr' : Nat × Option FieldType} {idx : Nat} {v1 v2 v3 : Value} {G : Int32 → MI → Prop} (hd : DR cc pc (.invokestatic idx) 3 q) (f : MFS y.cls idx y' cc' mr' 3) (hc : CT r d' y' cc' mr' (0, 0) [v1, v2, v3] n I Q (ri Q G)) (k : ∀ (x : Int32) (I' : MI), G x I' → X r d y cc mr b q lv (.int x :: st) n I' Q F) (hdd : Nat.ble (d' + 1) d = true := by rfl) (hst : Fits8 st := by rfl) : X r d y cc mr b pc lv (v3 :: v2 :: v1 :: st) n I Q F :=
  x_callS (As := [v1, v2, v3]) (b2 := b) hd f hc hdd rfl hst ⟨Nat.zero_add _, Nat.le_of_eq (Nat.zero_add _)⟩ (fun v I' Q' h => by obtain ⟨x, rfl, rfl, h⟩ := h; exact k x I' h)
theorem x_V4i {r : Ev} {d : Nat} {y : MethodName} {cc : ByteArray} {mr : Nat × Option FieldType} {b : Nat × Nat} {pc q : Nat} {lv : List (Option Value)} {st : List Value} {n : Nat} {I : MI} {Q : MQ2} {F : Post} {d' : Nat} {y' : MethodName} {cc' : ByteArray} {mr' : Nat × Option FieldType} {idx : Nat} {v1 v2 v3 v4 : Value} {ci id : Nat} {G : Int32 → MI → Prop} (hd : DR cc pc (.invokevirtual idx) 3 q) (f : MFV y.cls idx y' cc' mr' 4) (hc : CT r d' y' cc' mr' (0, 0) [.ref (evz r + id), v1, v2, v3, v4] n I Q (ri Q G)) (ho : Ob n ci id) (k : ∀ (x : Int32) (I' : MI), G x I' → X r d y cc mr b q lv (.int x :: st) n I' Q F) (hci : Nat.ble (ci + 1) 10 = true := by rfl) (hcl : clC ci = y'.cls := by rfl) (hdd : Nat.ble (d' + 1) d = true := by rfl) (hst : Fits8 st := by rfl) : X r d y cc mr b pc lv (v4 :: v3 :: v2 :: v1 :: .ref (evz r + id) :: st) n I Q F :=
  x_callV (As := [v1, v2, v3, v4]) (b2 := b) hd f ho (Nat.le_of_ble_eq_true hci) hcl hc hdd rfl hst ⟨Nat.zero_add _, Nat.le_of_eq (Nat.zero_add _)⟩ (fun v I' Q' h => by obtain ⟨x, rfl, rfl, h⟩ := h; exact k x I' h)
theorem x_S4i {r : Ev} {d : Nat} {y : MethodName} {cc : ByteArray} {mr : Nat × Option FieldType} {b : Nat × Nat} {pc q : Nat} {lv : List (Option Value)} {st : List Value} {n : Nat} {I : MI} {Q : MQ2} {F : Post} {d' : Nat} {y' : MethodName} {cc' : ByteArray} {mr' : Nat × Option FieldType} {idx : Nat} {v1 v2 v3 v4 : Value} {G : Int32 → MI → Prop} (hd : DR cc pc (.invokestatic idx) 3 q) (f : MFS y.cls idx y' cc' mr' 4) (hc : CT r d' y' cc' mr' (0, 0) [v1, v2, v3, v4] n I Q (ri Q G)) (k : ∀ (x : Int32) (I' : MI), G x I' → X r d y cc mr b q lv (.int x :: st) n I' Q F) (hdd : Nat.ble (d' + 1) d = true := by rfl) (hst : Fits8 st := by rfl) : X r d y cc mr b pc lv (v4 :: v3 :: v2 :: v1 :: st) n I Q F :=
  x_callS (As := [v1, v2, v3, v4]) (b2 := b) hd f hc hdd rfl hst ⟨Nat.zero_add _, Nat.le_of_eq (Nat.zero_add _)⟩ (fun v I' Q' h => by obtain ⟨x, rfl, rfl, h⟩ := h; exact k x I' h)
theorem x_V0v {r : Ev} {d : Nat} {y : MethodName} {cc : ByteArray} {mr : Nat × Option FieldType} {b : Nat × Nat} {pc q : Nat} {lv : List (Option Value)} {st : List Value} {n : Nat} {I : MI} {Q : MQ2} {F : Post} {d' : Nat} {y' : MethodName} {cc' : ByteArray} {mr' : Nat × Option FieldType} {idx : Nat} {ci id : Nat} {G : MI → Prop} (hd : DR cc pc (.invokevirtual idx) 3 q) (f : MFV y.cls idx y' cc' mr' 0) (hc : CT r d' y' cc' mr' (0, 0) [.ref (evz r + id)] n I Q (rv Q G)) (ho : Ob n ci id) (k : ∀ (I' : MI), G I' → X r d y cc mr b q lv st n I' Q F) (hci : Nat.ble (ci + 1) 10 = true := by rfl) (hcl : clC ci = y'.cls := by rfl) (hdd : Nat.ble (d' + 1) d = true := by rfl) (hst : Fits8 st := by rfl) : X r d y cc mr b pc lv (.ref (evz r + id) :: st) n I Q F :=
  x_callV (As := []) (b2 := b) hd f ho (Nat.le_of_ble_eq_true hci) hcl hc hdd rfl hst ⟨Nat.zero_add _, Nat.le_of_eq (Nat.zero_add _)⟩ (fun v I' Q' h => by obtain ⟨rfl, rfl, h⟩ := h; exact k I' h)
theorem x_S0v {r : Ev} {d : Nat} {y : MethodName} {cc : ByteArray} {mr : Nat × Option FieldType} {b : Nat × Nat} {pc q : Nat} {lv : List (Option Value)} {st : List Value} {n : Nat} {I : MI} {Q : MQ2} {F : Post} {d' : Nat} {y' : MethodName} {cc' : ByteArray} {mr' : Nat × Option FieldType} {idx : Nat} {G : MI → Prop} (hd : DR cc pc (.invokestatic idx) 3 q) (f : MFS y.cls idx y' cc' mr' 0) (hc : CT r d' y' cc' mr' (0, 0) [] n I Q (rv Q G)) (k : ∀ (I' : MI), G I' → X r d y cc mr b q lv st n I' Q F) (hdd : Nat.ble (d' + 1) d = true := by rfl) (hst : Fits8 st := by rfl) : X r d y cc mr b pc lv (st) n I Q F :=
  x_callS (As := []) (b2 := b) hd f hc hdd rfl hst ⟨Nat.zero_add _, Nat.le_of_eq (Nat.zero_add _)⟩ (fun v I' Q' h => by obtain ⟨rfl, rfl, h⟩ := h; exact k I' h)
theorem x_V1v {r : Ev} {d : Nat} {y : MethodName} {cc : ByteArray} {mr : Nat × Option FieldType} {b : Nat × Nat} {pc q : Nat} {lv : List (Option Value)} {st : List Value} {n : Nat} {I : MI} {Q : MQ2} {F : Post} {d' : Nat} {y' : MethodName} {cc' : ByteArray} {mr' : Nat × Option FieldType} {idx : Nat} {v1 : Value} {ci id : Nat} {G : MI → Prop} (hd : DR cc pc (.invokevirtual idx) 3 q) (f : MFV y.cls idx y' cc' mr' 1) (hc : CT r d' y' cc' mr' (0, 0) [.ref (evz r + id), v1] n I Q (rv Q G)) (ho : Ob n ci id) (k : ∀ (I' : MI), G I' → X r d y cc mr b q lv st n I' Q F) (hci : Nat.ble (ci + 1) 10 = true := by rfl) (hcl : clC ci = y'.cls := by rfl) (hdd : Nat.ble (d' + 1) d = true := by rfl) (hst : Fits8 st := by rfl) : X r d y cc mr b pc lv (v1 :: .ref (evz r + id) :: st) n I Q F :=
  x_callV (As := [v1]) (b2 := b) hd f ho (Nat.le_of_ble_eq_true hci) hcl hc hdd rfl hst ⟨Nat.zero_add _, Nat.le_of_eq (Nat.zero_add _)⟩ (fun v I' Q' h => by obtain ⟨rfl, rfl, h⟩ := h; exact k I' h)
theorem x_S1v {r : Ev} {d : Nat} {y : MethodName} {cc : ByteArray} {mr : Nat × Option FieldType} {b : Nat × Nat} {pc q : Nat} {lv : List (Option Value)} {st : List Value} {n : Nat} {I : MI} {Q : MQ2} {F : Post} {d' : Nat} {y' : MethodName} {cc' : ByteArray} {mr' : Nat × Option FieldType} {idx : Nat} {v1 : Value} {G : MI → Prop} (hd : DR cc pc (.invokestatic idx) 3 q) (f : MFS y.cls idx y' cc' mr' 1) (hc : CT r d' y' cc' mr' (0, 0) [v1] n I Q (rv Q G)) (k : ∀ (I' : MI), G I' → X r d y cc mr b q lv st n I' Q F) (hdd : Nat.ble (d' + 1) d = true := by rfl) (hst : Fits8 st := by rfl) : X r d y cc mr b pc lv (v1 :: st) n I Q F :=
  x_callS (As := [v1]) (b2 := b) hd f hc hdd rfl hst ⟨Nat.zero_add _, Nat.le_of_eq (Nat.zero_add _)⟩ (fun v I' Q' h => by obtain ⟨rfl, rfl, h⟩ := h; exact k I' h)
theorem x_V2v {r : Ev} {d : Nat} {y : MethodName} {cc : ByteArray} {mr : Nat × Option FieldType} {b : Nat × Nat} {pc q : Nat} {lv : List (Option Value)} {st : List Value} {n : Nat} {I : MI} {Q : MQ2} {F : Post} {d' : Nat} {y' : MethodName} {cc' : ByteArray} {mr' : Nat × Option FieldType} {idx : Nat} {v1 v2 : Value} {ci id : Nat} {G : MI → Prop} (hd : DR cc pc (.invokevirtual idx) 3 q) (f : MFV y.cls idx y' cc' mr' 2) (hc : CT r d' y' cc' mr' (0, 0) [.ref (evz r + id), v1, v2] n I Q (rv Q G)) (ho : Ob n ci id) (k : ∀ (I' : MI), G I' → X r d y cc mr b q lv st n I' Q F) (hci : Nat.ble (ci + 1) 10 = true := by rfl) (hcl : clC ci = y'.cls := by rfl) (hdd : Nat.ble (d' + 1) d = true := by rfl) (hst : Fits8 st := by rfl) : X r d y cc mr b pc lv (v2 :: v1 :: .ref (evz r + id) :: st) n I Q F :=
  x_callV (As := [v1, v2]) (b2 := b) hd f ho (Nat.le_of_ble_eq_true hci) hcl hc hdd rfl hst ⟨Nat.zero_add _, Nat.le_of_eq (Nat.zero_add _)⟩ (fun v I' Q' h => by obtain ⟨rfl, rfl, h⟩ := h; exact k I' h)
theorem x_S2v {r : Ev} {d : Nat} {y : MethodName} {cc : ByteArray} {mr : Nat × Option FieldType} {b : Nat × Nat} {pc q : Nat} {lv : List (Option Value)} {st : List Value} {n : Nat} {I : MI} {Q : MQ2} {F : Post} {d' : Nat} {y' : MethodName} {cc' : ByteArray} {mr' : Nat × Option FieldType} {idx : Nat} {v1 v2 : Value} {G : MI → Prop} (hd : DR cc pc (.invokestatic idx) 3 q) (f : MFS y.cls idx y' cc' mr' 2) (hc : CT r d' y' cc' mr' (0, 0) [v1, v2] n I Q (rv Q G)) (k : ∀ (I' : MI), G I' → X r d y cc mr b q lv st n I' Q F) (hdd : Nat.ble (d' + 1) d = true := by rfl) (hst : Fits8 st := by rfl) : X r d y cc mr b pc lv (v2 :: v1 :: st) n I Q F :=
  x_callS (As := [v1, v2]) (b2 := b) hd f hc hdd rfl hst ⟨Nat.zero_add _, Nat.le_of_eq (Nat.zero_add _)⟩ (fun v I' Q' h => by obtain ⟨rfl, rfl, h⟩ := h; exact k I' h)
theorem x_V3v {r : Ev} {d : Nat} {y : MethodName} {cc : ByteArray} {mr : Nat × Option FieldType} {b : Nat × Nat} {pc q : Nat} {lv : List (Option Value)} {st : List Value} {n : Nat} {I : MI} {Q : MQ2} {F : Post} {d' : Nat} {y' : MethodName} {cc' : ByteArray} {mr' : Nat × Option FieldType} {idx : Nat} {v1 v2 v3 : Value} {ci id : Nat} {G : MI → Prop} (hd : DR cc pc (.invokevirtual idx) 3 q) (f : MFV y.cls idx y' cc' mr' 3) (hc : CT r d' y' cc' mr' (0, 0) [.ref (evz r + id), v1, v2, v3] n I Q (rv Q G)) (ho : Ob n ci id) (k : ∀ (I' : MI), G I' → X r d y cc mr b q lv st n I' Q F) (hci : Nat.ble (ci + 1) 10 = true := by rfl) (hcl : clC ci = y'.cls := by rfl) (hdd : Nat.ble (d' + 1) d = true := by rfl) (hst : Fits8 st := by rfl) : X r d y cc mr b pc lv (v3 :: v2 :: v1 :: .ref (evz r + id) :: st) n I Q F :=
  x_callV (As := [v1, v2, v3]) (b2 := b) hd f ho (Nat.le_of_ble_eq_true hci) hcl hc hdd rfl hst ⟨Nat.zero_add _, Nat.le_of_eq (Nat.zero_add _)⟩ (fun v I' Q' h => by obtain ⟨rfl, rfl, h⟩ := h; exact k I' h)
theorem x_S3v {r : Ev} {d : Nat} {y : MethodName} {cc : ByteArray} {mr : Nat × Option FieldType} {b : Nat × Nat} {pc q : Nat} {lv : List (Option Value)} {st : List Value} {n : Nat} {I : MI} {Q : MQ2} {F : Post} {d' : Nat} {y' : MethodName} {cc' : ByteArray} {mr' : Nat × Option FieldType} {idx : Nat} {v1 v2 v3 : Value} {G : MI → Prop} (hd : DR cc pc (.invokestatic idx) 3 q) (f : MFS y.cls idx y' cc' mr' 3) (hc : CT r d' y' cc' mr' (0, 0) [v1, v2, v3] n I Q (rv Q G)) (k : ∀ (I' : MI), G I' → X r d y cc mr b q lv st n I' Q F) (hdd : Nat.ble (d' + 1) d = true := by rfl) (hst : Fits8 st := by rfl) : X r d y cc mr b pc lv (v3 :: v2 :: v1 :: st) n I Q F :=
  x_callS (As := [v1, v2, v3]) (b2 := b) hd f hc hdd rfl hst ⟨Nat.zero_add _, Nat.le_of_eq (Nat.zero_add _)⟩ (fun v I' Q' h => by obtain ⟨rfl, rfl, h⟩ := h; exact k I' h)
theorem x_V4v {r : Ev} {d : Nat} {y : MethodName} {cc : ByteArray} {mr : Nat × Option FieldType} {b : Nat × Nat} {pc q : Nat} {lv : List (Option Value)} {st : List Value} {n : Nat} {I : MI} {Q : MQ2} {F : Post} {d' : Nat} {y' : MethodName} {cc' : ByteArray} {mr' : Nat × Option FieldType} {idx : Nat} {v1 v2 v3 v4 : Value} {ci id : Nat} {G : MI → Prop} (hd : DR cc pc (.invokevirtual idx) 3 q) (f : MFV y.cls idx y' cc' mr' 4) (hc : CT r d' y' cc' mr' (0, 0) [.ref (evz r + id), v1, v2, v3, v4] n I Q (rv Q G)) (ho : Ob n ci id) (k : ∀ (I' : MI), G I' → X r d y cc mr b q lv st n I' Q F) (hci : Nat.ble (ci + 1) 10 = true := by rfl) (hcl : clC ci = y'.cls := by rfl) (hdd : Nat.ble (d' + 1) d = true := by rfl) (hst : Fits8 st := by rfl) : X r d y cc mr b pc lv (v4 :: v3 :: v2 :: v1 :: .ref (evz r + id) :: st) n I Q F :=
  x_callV (As := [v1, v2, v3, v4]) (b2 := b) hd f ho (Nat.le_of_ble_eq_true hci) hcl hc hdd rfl hst ⟨Nat.zero_add _, Nat.le_of_eq (Nat.zero_add _)⟩ (fun v I' Q' h => by obtain ⟨rfl, rfl, h⟩ := h; exact k I' h)
theorem x_S4v {r : Ev} {d : Nat} {y : MethodName} {cc : ByteArray} {mr : Nat × Option FieldType} {b : Nat × Nat} {pc q : Nat} {lv : List (Option Value)} {st : List Value} {n : Nat} {I : MI} {Q : MQ2} {F : Post} {d' : Nat} {y' : MethodName} {cc' : ByteArray} {mr' : Nat × Option FieldType} {idx : Nat} {v1 v2 v3 v4 : Value} {G : MI → Prop} (hd : DR cc pc (.invokestatic idx) 3 q) (f : MFS y.cls idx y' cc' mr' 4) (hc : CT r d' y' cc' mr' (0, 0) [v1, v2, v3, v4] n I Q (rv Q G)) (k : ∀ (I' : MI), G I' → X r d y cc mr b q lv st n I' Q F) (hdd : Nat.ble (d' + 1) d = true := by rfl) (hst : Fits8 st := by rfl) : X r d y cc mr b pc lv (v4 :: v3 :: v2 :: v1 :: st) n I Q F :=
  x_callS (As := [v1, v2, v3, v4]) (b2 := b) hd f hc hdd rfl hst ⟨Nat.zero_add _, Nat.le_of_eq (Nat.zero_add _)⟩ (fun v I' Q' h => by obtain ⟨rfl, rfl, h⟩ := h; exact k I' h)
theorem x_V0o {r : Ev} {d : Nat} {y : MethodName} {cc : ByteArray} {mr : Nat × Option FieldType} {b : Nat × Nat} {pc q : Nat} {lv : List (Option Value)} {st : List Value} {n : Nat} {I : MI} {Q : MQ2} {F : Post} {d' : Nat} {y' : MethodName} {cc' : ByteArray} {mr' : Nat × Option FieldType} {idx : Nat} {ci id : Nat} {id2 : Nat} (hd : DR cc pc (.invokevirtual idx) 3 q) (f : MFV y.cls idx y' cc' mr' 0) (hc : CT r d' y' cc' mr' (0, 0) [.ref (evz r + id)] n I Q (ro r I Q id2)) (ho : Ob n ci id) (k : X r d y cc mr b q lv (.ref (evz r + id2) :: st) n I Q F) (hci : Nat.ble (ci + 1) 10 = true := by rfl) (hcl : clC ci = y'.cls := by rfl) (hdd : Nat.ble (d' + 1) d = true := by rfl) (hst : Fits8 st := by rfl) : X r d y cc mr b pc lv (.ref (evz r + id) :: st) n I Q F :=
  x_callV (As := []) (b2 := b) hd f ho (Nat.le_of_ble_eq_true hci) hcl hc hdd rfl hst ⟨Nat.zero_add _, Nat.le_of_eq (Nat.zero_add _)⟩ (fun v I' Q' h => by obtain ⟨rfl, rfl, rfl⟩ := h; exact k)
theorem x_V1o {r : Ev} {d : Nat} {y : MethodName} {cc : ByteArray} {mr : Nat × Option FieldType} {b : Nat × Nat} {pc q : Nat} {lv : List (Option Value)} {st : List Value} {n : Nat} {I : MI} {Q : MQ2} {F : Post} {d' : Nat} {y' : MethodName} {cc' : ByteArray} {mr' : Nat × Option FieldType} {idx : Nat} {v1 : Value} {ci id : Nat} {id2 : Nat} (hd : DR cc pc (.invokevirtual idx) 3 q) (f : MFV y.cls idx y' cc' mr' 1) (hc : CT r d' y' cc' mr' (0, 0) [.ref (evz r + id), v1] n I Q (ro r I Q id2)) (ho : Ob n ci id) (k : X r d y cc mr b q lv (.ref (evz r + id2) :: st) n I Q F) (hci : Nat.ble (ci + 1) 10 = true := by rfl) (hcl : clC ci = y'.cls := by rfl) (hdd : Nat.ble (d' + 1) d = true := by rfl) (hst : Fits8 st := by rfl) : X r d y cc mr b pc lv (v1 :: .ref (evz r + id) :: st) n I Q F :=
  x_callV (As := [v1]) (b2 := b) hd f ho (Nat.le_of_ble_eq_true hci) hcl hc hdd rfl hst ⟨Nat.zero_add _, Nat.le_of_eq (Nat.zero_add _)⟩ (fun v I' Q' h => by obtain ⟨rfl, rfl, rfl⟩ := h; exact k)
theorem x_V0I {r : Ev} {d : Nat} {y : MethodName} {cc : ByteArray} {mr : Nat × Option FieldType} {b : Nat × Nat} {pc q : Nat} {lv : List (Option Value)} {st : List Value} {n : Nat} {I : MI} {Q : MQ2} {F : Post} {d' : Nat} {y' : MethodName} {cc' : ByteArray} {mr' : Nat × Option FieldType} {idx : Nat} {ci id : Nat} {G : Int32 → MI → MQ2 → Prop} (hd : DR cc pc (.invokevirtual idx) 3 q) (f : MFV y.cls idx y' cc' mr' 0) (hc : CT r d' y' cc' mr' (0, 0) [.ref (evz r + id)] n I Q (RI G)) (ho : Ob n ci id) (k : ∀ (x : Int32) (I' : MI) (Q' : MQ2), G x I' Q' → X r d y cc mr b q lv (.int x :: st) n I' Q' F) (hci : Nat.ble (ci + 1) 10 = true := by rfl) (hcl : clC ci = y'.cls := by rfl) (hdd : Nat.ble (d' + 1) d = true := by rfl) (hst : Fits8 st := by rfl) : X r d y cc mr b pc lv (.ref (evz r + id) :: st) n I Q F :=
  x_callV (As := []) (b2 := b) hd f ho (Nat.le_of_ble_eq_true hci) hcl hc hdd rfl hst ⟨Nat.zero_add _, Nat.le_of_eq (Nat.zero_add _)⟩ (fun v I' Q' h => by obtain ⟨x, rfl, h⟩ := h; exact k x I' Q' h)
theorem x_S0I {r : Ev} {d : Nat} {y : MethodName} {cc : ByteArray} {mr : Nat × Option FieldType} {b : Nat × Nat} {pc q : Nat} {lv : List (Option Value)} {st : List Value} {n : Nat} {I : MI} {Q : MQ2} {F : Post} {d' : Nat} {y' : MethodName} {cc' : ByteArray} {mr' : Nat × Option FieldType} {idx : Nat} {G : Int32 → MI → MQ2 → Prop} (hd : DR cc pc (.invokestatic idx) 3 q) (f : MFS y.cls idx y' cc' mr' 0) (hc : CT r d' y' cc' mr' (0, 0) [] n I Q (RI G)) (k : ∀ (x : Int32) (I' : MI) (Q' : MQ2), G x I' Q' → X r d y cc mr b q lv (.int x :: st) n I' Q' F) (hdd : Nat.ble (d' + 1) d = true := by rfl) (hst : Fits8 st := by rfl) : X r d y cc mr b pc lv (st) n I Q F :=
  x_callS (As := []) (b2 := b) hd f hc hdd rfl hst ⟨Nat.zero_add _, Nat.le_of_eq (Nat.zero_add _)⟩ (fun v I' Q' h => by obtain ⟨x, rfl, h⟩ := h; exact k x I' Q' h)
theorem x_V1I {r : Ev} {d : Nat} {y : MethodName} {cc : ByteArray} {mr : Nat × Option FieldType} {b : Nat × Nat} {pc q : Nat} {lv : List (Option Value)} {st : List Value} {n : Nat} {I : MI} {Q : MQ2} {F : Post} {d' : Nat} {y' : MethodName} {cc' : ByteArray} {mr' : Nat × Option FieldType} {idx : Nat} {v1 : Value} {ci id : Nat} {G : Int32 → MI → MQ2 → Prop} (hd : DR cc pc (.invokevirtual idx) 3 q) (f : MFV y.cls idx y' cc' mr' 1) (hc : CT r d' y' cc' mr' (0, 0) [.ref (evz r + id), v1] n I Q (RI G)) (ho : Ob n ci id) (k : ∀ (x : Int32) (I' : MI) (Q' : MQ2), G x I' Q' → X r d y cc mr b q lv (.int x :: st) n I' Q' F) (hci : Nat.ble (ci + 1) 10 = true := by rfl) (hcl : clC ci = y'.cls := by rfl) (hdd : Nat.ble (d' + 1) d = true := by rfl) (hst : Fits8 st := by rfl) : X r d y cc mr b pc lv (v1 :: .ref (evz r + id) :: st) n I Q F :=
  x_callV (As := [v1]) (b2 := b) hd f ho (Nat.le_of_ble_eq_true hci) hcl hc hdd rfl hst ⟨Nat.zero_add _, Nat.le_of_eq (Nat.zero_add _)⟩ (fun v I' Q' h => by obtain ⟨x, rfl, h⟩ := h; exact k x I' Q' h)
theorem x_S1I {r : Ev} {d : Nat} {y : MethodName} {cc : ByteArray} {mr : Nat × Option FieldType} {b : Nat × Nat} {pc q : Nat} {lv : List (Option Value)} {st : List Value} {n : Nat} {I : MI} {Q : MQ2} {F : Post} {d' : Nat} {y' : MethodName} {cc' : ByteArray} {mr' : Nat × Option FieldType} {idx : Nat} {v1 : Value} {G : Int32 → MI → MQ2 → Prop} (hd : DR cc pc (.invokestatic idx) 3 q) (f : MFS y.cls idx y' cc' mr' 1) (hc : CT r d' y' cc' mr' (0, 0) [v1] n I Q (RI G)) (k : ∀ (x : Int32) (I' : MI) (Q' : MQ2), G x I' Q' → X r d y cc mr b q lv (.int x :: st) n I' Q' F) (hdd : Nat.ble (d' + 1) d = true := by rfl) (hst : Fits8 st := by rfl) : X r d y cc mr b pc lv (v1 :: st) n I Q F :=
  x_callS (As := [v1]) (b2 := b) hd f hc hdd rfl hst ⟨Nat.zero_add _, Nat.le_of_eq (Nat.zero_add _)⟩ (fun v I' Q' h => by obtain ⟨x, rfl, h⟩ := h; exact k x I' Q' h)
theorem x_V2I {r : Ev} {d : Nat} {y : MethodName} {cc : ByteArray} {mr : Nat × Option FieldType} {b : Nat × Nat} {pc q : Nat} {lv : List (Option Value)} {st : List Value} {n : Nat} {I : MI} {Q : MQ2} {F : Post} {d' : Nat} {y' : MethodName} {cc' : ByteArray} {mr' : Nat × Option FieldType} {idx : Nat} {v1 v2 : Value} {ci id : Nat} {G : Int32 → MI → MQ2 → Prop} (hd : DR cc pc (.invokevirtual idx) 3 q) (f : MFV y.cls idx y' cc' mr' 2) (hc : CT r d' y' cc' mr' (0, 0) [.ref (evz r + id), v1, v2] n I Q (RI G)) (ho : Ob n ci id) (k : ∀ (x : Int32) (I' : MI) (Q' : MQ2), G x I' Q' → X r d y cc mr b q lv (.int x :: st) n I' Q' F) (hci : Nat.ble (ci + 1) 10 = true := by rfl) (hcl : clC ci = y'.cls := by rfl) (hdd : Nat.ble (d' + 1) d = true := by rfl) (hst : Fits8 st := by rfl) : X r d y cc mr b pc lv (v2 :: v1 :: .ref (evz r + id) :: st) n I Q F :=
  x_callV (As := [v1, v2]) (b2 := b) hd f ho (Nat.le_of_ble_eq_true hci) hcl hc hdd rfl hst ⟨Nat.zero_add _, Nat.le_of_eq (Nat.zero_add _)⟩ (fun v I' Q' h => by obtain ⟨x, rfl, h⟩ := h; exact k x I' Q' h)
theorem x_S2I {r : Ev} {d : Nat} {y : MethodName} {cc : ByteArray} {mr : Nat × Option FieldType} {b : Nat × Nat} {pc q : Nat} {lv : List (Option Value)} {st : List Value} {n : Nat} {I : MI} {Q : MQ2} {F : Post} {d' : Nat} {y' : MethodName} {cc' : ByteArray} {mr' : Nat × Option FieldType} {idx : Nat} {v1 v2 : Value} {G : Int32 → MI → MQ2 → Prop} (hd : DR cc pc (.invokestatic idx) 3 q) (f : MFS y.cls idx y' cc' mr' 2) (hc : CT r d' y' cc' mr' (0, 0) [v1, v2] n I Q (RI G)) (k : ∀ (x : Int32) (I' : MI) (Q' : MQ2), G x I' Q' → X r d y cc mr b q lv (.int x :: st) n I' Q' F) (hdd : Nat.ble (d' + 1) d = true := by rfl) (hst : Fits8 st := by rfl) : X r d y cc mr b pc lv (v2 :: v1 :: st) n I Q F :=
  x_callS (As := [v1, v2]) (b2 := b) hd f hc hdd rfl hst ⟨Nat.zero_add _, Nat.le_of_eq (Nat.zero_add _)⟩ (fun v I' Q' h => by obtain ⟨x, rfl, h⟩ := h; exact k x I' Q' h)
theorem x_V3I {r : Ev} {d : Nat} {y : MethodName} {cc : ByteArray} {mr : Nat × Option FieldType} {b : Nat × Nat} {pc q : Nat} {lv : List (Option Value)} {st : List Value} {n : Nat} {I : MI} {Q : MQ2} {F : Post} {d' : Nat} {y' : MethodName} {cc' : ByteArray} {mr' : Nat × Option FieldType} {idx : Nat} {v1 v2 v3 : Value} {ci id : Nat} {G : Int32 → MI → MQ2 → Prop} (hd : DR cc pc (.invokevirtual idx) 3 q) (f : MFV y.cls idx y' cc' mr' 3) (hc : CT r d' y' cc' mr' (0, 0) [.ref (evz r + id), v1, v2, v3] n I Q (RI G)) (ho : Ob n ci id) (k : ∀ (x : Int32) (I' : MI) (Q' : MQ2), G x I' Q' → X r d y cc mr b q lv (.int x :: st) n I' Q' F) (hci : Nat.ble (ci + 1) 10 = true := by rfl) (hcl : clC ci = y'.cls := by rfl) (hdd : Nat.ble (d' + 1) d = true := by rfl) (hst : Fits8 st := by rfl) : X r d y cc mr b pc lv (v3 :: v2 :: v1 :: .ref (evz r + id) :: st) n I Q F :=
  x_callV (As := [v1, v2, v3]) (b2 := b) hd f ho (Nat.le_of_ble_eq_true hci) hcl hc hdd rfl hst ⟨Nat.zero_add _, Nat.le_of_eq (Nat.zero_add _)⟩ (fun v I' Q' h => by obtain ⟨x, rfl, h⟩ := h; exact k x I' Q' h)
theorem x_S3I {r : Ev} {d : Nat} {y : MethodName} {cc : ByteArray} {mr : Nat × Option FieldType} {b : Nat × Nat} {pc q : Nat} {lv : List (Option Value)} {st : List Value} {n : Nat} {I : MI} {Q : MQ2} {F : Post} {d' : Nat} {y' : MethodName} {cc' : ByteArray} {mr' : Nat × Option FieldType} {idx : Nat} {v1 v2 v3 : Value} {G : Int32 → MI → MQ2 → Prop} (hd : DR cc pc (.invokestatic idx) 3 q) (f : MFS y.cls idx y' cc' mr' 3) (hc : CT r d' y' cc' mr' (0, 0) [v1, v2, v3] n I Q (RI G)) (k : ∀ (x : Int32) (I' : MI) (Q' : MQ2), G x I' Q' → X r d y cc mr b q lv (.int x :: st) n I' Q' F) (hdd : Nat.ble (d' + 1) d = true := by rfl) (hst : Fits8 st := by rfl) : X r d y cc mr b pc lv (v3 :: v2 :: v1 :: st) n I Q F :=
  x_callS (As := [v1, v2, v3]) (b2 := b) hd f hc hdd rfl hst ⟨Nat.zero_add _, Nat.le_of_eq (Nat.zero_add _)⟩ (fun v I' Q' h => by obtain ⟨x, rfl, h⟩ := h; exact k x I' Q' h)
theorem x_V4I {r : Ev} {d : Nat} {y : MethodName} {cc : ByteArray} {mr : Nat × Option FieldType} {b : Nat × Nat} {pc q : Nat} {lv : List (Option Value)} {st : List Value} {n : Nat} {I : MI} {Q : MQ2} {F : Post} {d' : Nat} {y' : MethodName} {cc' : ByteArray} {mr' : Nat × Option FieldType} {idx : Nat} {v1 v2 v3 v4 : Value} {ci id : Nat} {G : Int32 → MI → MQ2 → Prop} (hd : DR cc pc (.invokevirtual idx) 3 q) (f : MFV y.cls idx y' cc' mr' 4) (hc : CT r d' y' cc' mr' (0, 0) [.ref (evz r + id), v1, v2, v3, v4] n I Q (RI G)) (ho : Ob n ci id) (k : ∀ (x : Int32) (I' : MI) (Q' : MQ2), G x I' Q' → X r d y cc mr b q lv (.int x :: st) n I' Q' F) (hci : Nat.ble (ci + 1) 10 = true := by rfl) (hcl : clC ci = y'.cls := by rfl) (hdd : Nat.ble (d' + 1) d = true := by rfl) (hst : Fits8 st := by rfl) : X r d y cc mr b pc lv (v4 :: v3 :: v2 :: v1 :: .ref (evz r + id) :: st) n I Q F :=
  x_callV (As := [v1, v2, v3, v4]) (b2 := b) hd f ho (Nat.le_of_ble_eq_true hci) hcl hc hdd rfl hst ⟨Nat.zero_add _, Nat.le_of_eq (Nat.zero_add _)⟩ (fun v I' Q' h => by obtain ⟨x, rfl, h⟩ := h; exact k x I' Q' h)
theorem x_S4I {r : Ev} {d : Nat} {y : MethodName} {cc : ByteArray} {mr : Nat × Option FieldType} {b : Nat × Nat} {pc q : Nat} {lv : List (Option Value)} {st : List Value} {n : Nat} {I : MI} {Q : MQ2} {F : Post} {d' : Nat} {y' : MethodName} {cc' : ByteArray} {mr' : Nat × Option FieldType} {idx : Nat} {v1 v2 v3 v4 : Value} {G : Int32 → MI → MQ2 → Prop} (hd : DR cc pc (.invokestatic idx) 3 q) (f : MFS y.cls idx y' cc' mr' 4) (hc : CT r d' y' cc' mr' (0, 0) [v1, v2, v3, v4] n I Q (RI G)) (k : ∀ (x : Int32) (I' : MI) (Q' : MQ2), G x I' Q' → X r d y cc mr b q lv (.int x :: st) n I' Q' F) (hdd : Nat.ble (d' + 1) d = true := by rfl) (hst : Fits8 st := by rfl) : X r d y cc mr b pc lv (v4 :: v3 :: v2 :: v1 :: st) n I Q F :=
  x_callS (As := [v1, v2, v3, v4]) (b2 := b) hd f hc hdd rfl hst ⟨Nat.zero_add _, Nat.le_of_eq (Nat.zero_add _)⟩ (fun v I' Q' h => by obtain ⟨x, rfl, h⟩ := h; exact k x I' Q' h)
theorem x_V0W {r : Ev} {d : Nat} {y : MethodName} {cc : ByteArray} {mr : Nat × Option FieldType} {b : Nat × Nat} {pc q : Nat} {lv : List (Option Value)} {st : List Value} {n : Nat} {I : MI} {Q : MQ2} {F : Post} {d' : Nat} {y' : MethodName} {cc' : ByteArray} {mr' : Nat × Option FieldType} {idx : Nat} {ci id : Nat} {G : MI → MQ2 → Prop} (hd : DR cc pc (.invokevirtual idx) 3 q) (f : MFV y.cls idx y' cc' mr' 0) (hc : CT r d' y' cc' mr' (0, 0) [.ref (evz r + id)] n I Q (RV G)) (ho : Ob n ci id) (k : ∀ (I' : MI) (Q' : MQ2), G I' Q' → X r d y cc mr b q lv st n I' Q' F) (hci : Nat.ble (ci + 1) 10 = true := by rfl) (hcl : clC ci = y'.cls := by rfl) (hdd : Nat.ble (d' + 1) d = true := by rfl) (hst : Fits8 st := by rfl) : X r d y cc mr b pc lv (.ref (evz r + id) :: st) n I Q F :=
  x_callV (As := []) (b2 := b) hd f ho (Nat.le_of_ble_eq_true hci) hcl hc hdd rfl hst ⟨Nat.zero_add _, Nat.le_of_eq (Nat.zero_add _)⟩ (fun v I' Q' h => by obtain ⟨rfl, h⟩ := h; exact k I' Q' h)
theorem x_S0W {r : Ev} {d : Nat} {y : MethodName} {cc : ByteArray} {mr : Nat × Option FieldType} {b : Nat × Nat} {pc q : Nat} {lv : List (Option Value)} {st : List Value} {n : Nat} {I : MI} {Q : MQ2} {F : Post} {d' : Nat} {y' : MethodName} {cc' : ByteArray} {mr' : Nat × Option FieldType} {idx : Nat} {G : MI → MQ2 → Prop} (hd : DR cc pc (.invokestatic idx) 3 q) (f : MFS y.cls idx y' cc' mr' 0) (hc : CT r d' y' cc' mr' (0, 0) [] n I Q (RV G)) (k : ∀ (I' : MI) (Q' : MQ2), G I' Q' → X r d y cc mr b q lv st n I' Q' F) (hdd : Nat.ble (d' + 1) d = true := by rfl) (hst : Fits8 st := by rfl) : X r d y cc mr b pc lv (st) n I Q F :=
  x_callS (As := []) (b2 := b) hd f hc hdd rfl hst ⟨Nat.zero_add _, Nat.le_of_eq (Nat.zero_add _)⟩ (fun v I' Q' h => by obtain ⟨rfl, h⟩ := h; exact k I' Q' h)
theorem x_V1W {r : Ev} {d : Nat} {y : MethodName} {cc : ByteArray} {mr : Nat × Option FieldType} {b : Nat × Nat} {pc q : Nat} {lv : List (Option Value)} {st : List Value} {n : Nat} {I : MI} {Q : MQ2} {F : Post} {d' : Nat} {y' : MethodName} {cc' : ByteArray} {mr' : Nat × Option FieldType} {idx : Nat} {v1 : Value} {ci id : Nat} {G : MI → MQ2 → Prop} (hd : DR cc pc (.invokevirtual idx) 3 q) (f : MFV y.cls idx y' cc' mr' 1) (hc : CT r d' y' cc' mr' (0, 0) [.ref (evz r + id), v1] n I Q (RV G)) (ho : Ob n ci id) (k : ∀ (I' : MI) (Q' : MQ2), G I' Q' → X r d y cc mr b q lv st n I' Q' F) (hci : Nat.ble (ci + 1) 10 = true := by rfl) (hcl : clC ci = y'.cls := by rfl) (hdd : Nat.ble (d' + 1) d = true := by rfl) (hst : Fits8 st := by rfl) : X r d y cc mr b pc lv (v1 :: .ref (evz r + id) :: st) n I Q F :=
  x_callV (As := [v1]) (b2 := b) hd f ho (Nat.le_of_ble_eq_true hci) hcl hc hdd rfl hst ⟨Nat.zero_add _, Nat.le_of_eq (Nat.zero_add _)⟩ (fun v I' Q' h => by obtain ⟨rfl, h⟩ := h; exact k I' Q' h)
theorem x_S1W {r : Ev} {d : Nat} {y : MethodName} {cc : ByteArray} {mr : Nat × Option FieldType} {b : Nat × Nat} {pc q : Nat} {lv : List (Option Value)} {st : List Value} {n : Nat} {I : MI} {Q : MQ2} {F : Post} {d' : Nat} {y' : MethodName} {cc' : ByteArray} {mr' : Nat × Option FieldType} {idx : Nat} {v1 : Value} {G : MI → MQ2 → Prop} (hd : DR cc pc (.invokestatic idx) 3 q) (f : MFS y.cls idx y' cc' mr' 1) (hc : CT r d' y' cc' mr' (0, 0) [v1] n I Q (RV G)) (k : ∀ (I' : MI) (Q' : MQ2), G I' Q' → X r d y cc mr b q lv st n I' Q' F) (hdd : Nat.ble (d' + 1) d = true := by rfl) (hst : Fits8 st := by rfl) : X r d y cc mr b pc lv (v1 :: st) n I Q F :=
  x_callS (As := [v1]) (b2 := b) hd f hc hdd rfl hst ⟨Nat.zero_add _, Nat.le_of_eq (Nat.zero_add _)⟩ (fun v I' Q' h => by obtain ⟨rfl, h⟩ := h; exact k I' Q' h)
theorem x_V2W {r : Ev} {d : Nat} {y : MethodName} {cc : ByteArray} {mr : Nat × Option FieldType} {b : Nat × Nat} {pc q : Nat} {lv : List (Option Value)} {st : List Value} {n : Nat} {I : MI} {Q : MQ2} {F : Post} {d' : Nat} {y' : MethodName} {cc' : ByteArray} {mr' : Nat × Option FieldType} {idx : Nat} {v1 v2 : Value} {ci id : Nat} {G : MI → MQ2 → Prop} (hd : DR cc pc (.invokevirtual idx) 3 q) (f : MFV y.cls idx y' cc' mr' 2) (hc : CT r d' y' cc' mr' (0, 0) [.ref (evz r + id), v1, v2] n I Q (RV G)) (ho : Ob n ci id) (k : ∀ (I' : MI) (Q' : MQ2), G I' Q' → X r d y cc mr b q lv st n I' Q' F) (hci : Nat.ble (ci + 1) 10 = true := by rfl) (hcl : clC ci = y'.cls := by rfl) (hdd : Nat.ble (d' + 1) d = true := by rfl) (hst : Fits8 st := by rfl) : X r d y cc mr b pc lv (v2 :: v1 :: .ref (evz r + id) :: st) n I Q F :=
  x_callV (As := [v1, v2]) (b2 := b) hd f ho (Nat.le_of_ble_eq_true hci) hcl hc hdd rfl hst ⟨Nat.zero_add _, Nat.le_of_eq (Nat.zero_add _)⟩ (fun v I' Q' h => by obtain ⟨rfl, h⟩ := h; exact k I' Q' h)
theorem x_S2W {r : Ev} {d : Nat} {y : MethodName} {cc : ByteArray} {mr : Nat × Option FieldType} {b : Nat × Nat} {pc q : Nat} {lv : List (Option Value)} {st : List Value} {n : Nat} {I : MI} {Q : MQ2} {F : Post} {d' : Nat} {y' : MethodName} {cc' : ByteArray} {mr' : Nat × Option FieldType} {idx : Nat} {v1 v2 : Value} {G : MI → MQ2 → Prop} (hd : DR cc pc (.invokestatic idx) 3 q) (f : MFS y.cls idx y' cc' mr' 2) (hc : CT r d' y' cc' mr' (0, 0) [v1, v2] n I Q (RV G)) (k : ∀ (I' : MI) (Q' : MQ2), G I' Q' → X r d y cc mr b q lv st n I' Q' F) (hdd : Nat.ble (d' + 1) d = true := by rfl) (hst : Fits8 st := by rfl) : X r d y cc mr b pc lv (v2 :: v1 :: st) n I Q F :=
  x_callS (As := [v1, v2]) (b2 := b) hd f hc hdd rfl hst ⟨Nat.zero_add _, Nat.le_of_eq (Nat.zero_add _)⟩ (fun v I' Q' h => by obtain ⟨rfl, h⟩ := h; exact k I' Q' h)
theorem x_V3W {r : Ev} {d : Nat} {y : MethodName} {cc : ByteArray} {mr : Nat × Option FieldType} {b : Nat × Nat} {pc q : Nat} {lv : List (Option Value)} {st : List Value} {n : Nat} {I : MI} {Q : MQ2} {F : Post} {d' : Nat} {y' : MethodName} {cc' : ByteArray} {mr' : Nat × Option FieldType} {idx : Nat} {v1 v2 v3 : Value} {ci id : Nat} {G : MI → MQ2 → Prop} (hd : DR cc pc (.invokevirtual idx) 3 q) (f : MFV y.cls idx y' cc' mr' 3) (hc : CT r d' y' cc' mr' (0, 0) [.ref (evz r + id), v1, v2, v3] n I Q (RV G)) (ho : Ob n ci id) (k : ∀ (I' : MI) (Q' : MQ2), G I' Q' → X r d y cc mr b q lv st n I' Q' F) (hci : Nat.ble (ci + 1) 10 = true := by rfl) (hcl : clC ci = y'.cls := by rfl) (hdd : Nat.ble (d' + 1) d = true := by rfl) (hst : Fits8 st := by rfl) : X r d y cc mr b pc lv (v3 :: v2 :: v1 :: .ref (evz r + id) :: st) n I Q F :=
  x_callV (As := [v1, v2, v3]) (b2 := b) hd f ho (Nat.le_of_ble_eq_true hci) hcl hc hdd rfl hst ⟨Nat.zero_add _, Nat.le_of_eq (Nat.zero_add _)⟩ (fun v I' Q' h => by obtain ⟨rfl, h⟩ := h; exact k I' Q' h)
theorem x_S3W {r : Ev} {d : Nat} {y : MethodName} {cc : ByteArray} {mr : Nat × Option FieldType} {b : Nat × Nat} {pc q : Nat} {lv : List (Option Value)} {st : List Value} {n : Nat} {I : MI} {Q : MQ2} {F : Post} {d' : Nat} {y' : MethodName} {cc' : ByteArray} {mr' : Nat × Option FieldType} {idx : Nat} {v1 v2 v3 : Value} {G : MI → MQ2 → Prop} (hd : DR cc pc (.invokestatic idx) 3 q) (f : MFS y.cls idx y' cc' mr' 3) (hc : CT r d' y' cc' mr' (0, 0) [v1, v2, v3] n I Q (RV G)) (k : ∀ (I' : MI) (Q' : MQ2), G I' Q' → X r d y cc mr b q lv st n I' Q' F) (hdd : Nat.ble (d' + 1) d = true := by rfl) (hst : Fits8 st := by rfl) : X r d y cc mr b pc lv (v3 :: v2 :: v1 :: st) n I Q F :=
  x_callS (As := [v1, v2, v3]) (b2 := b) hd f hc hdd rfl hst ⟨Nat.zero_add _, Nat.le_of_eq (Nat.zero_add _)⟩ (fun v I' Q' h => by obtain ⟨rfl, h⟩ := h; exact k I' Q' h)
theorem x_V4W {r : Ev} {d : Nat} {y : MethodName} {cc : ByteArray} {mr : Nat × Option FieldType} {b : Nat × Nat} {pc q : Nat} {lv : List (Option Value)} {st : List Value} {n : Nat} {I : MI} {Q : MQ2} {F : Post} {d' : Nat} {y' : MethodName} {cc' : ByteArray} {mr' : Nat × Option FieldType} {idx : Nat} {v1 v2 v3 v4 : Value} {ci id : Nat} {G : MI → MQ2 → Prop} (hd : DR cc pc (.invokevirtual idx) 3 q) (f : MFV y.cls idx y' cc' mr' 4) (hc : CT r d' y' cc' mr' (0, 0) [.ref (evz r + id), v1, v2, v3, v4] n I Q (RV G)) (ho : Ob n ci id) (k : ∀ (I' : MI) (Q' : MQ2), G I' Q' → X r d y cc mr b q lv st n I' Q' F) (hci : Nat.ble (ci + 1) 10 = true := by rfl) (hcl : clC ci = y'.cls := by rfl) (hdd : Nat.ble (d' + 1) d = true := by rfl) (hst : Fits8 st := by rfl) : X r d y cc mr b pc lv (v4 :: v3 :: v2 :: v1 :: .ref (evz r + id) :: st) n I Q F :=
  x_callV (As := [v1, v2, v3, v4]) (b2 := b) hd f ho (Nat.le_of_ble_eq_true hci) hcl hc hdd rfl hst ⟨Nat.zero_add _, Nat.le_of_eq (Nat.zero_add _)⟩ (fun v I' Q' h => by obtain ⟨rfl, h⟩ := h; exact k I' Q' h)
theorem x_S4W {r : Ev} {d : Nat} {y : MethodName} {cc : ByteArray} {mr : Nat × Option FieldType} {b : Nat × Nat} {pc q : Nat} {lv : List (Option Value)} {st : List Value} {n : Nat} {I : MI} {Q : MQ2} {F : Post} {d' : Nat} {y' : MethodName} {cc' : ByteArray} {mr' : Nat × Option FieldType} {idx : Nat} {v1 v2 v3 v4 : Value} {G : MI → MQ2 → Prop} (hd : DR cc pc (.invokestatic idx) 3 q) (f : MFS y.cls idx y' cc' mr' 4) (hc : CT r d' y' cc' mr' (0, 0) [v1, v2, v3, v4] n I Q (RV G)) (k : ∀ (I' : MI) (Q' : MQ2), G I' Q' → X r d y cc mr b q lv st n I' Q' F) (hdd : Nat.ble (d' + 1) d = true := by rfl) (hst : Fits8 st := by rfl) : X r d y cc mr b pc lv (v4 :: v3 :: v2 :: v1 :: st) n I Q F :=
  x_callS (As := [v1, v2, v3, v4]) (b2 := b) hd f hc hdd rfl hst ⟨Nat.zero_add _, Nat.le_of_eq (Nat.zero_add _)⟩ (fun v I' Q' h => by obtain ⟨rfl, h⟩ := h; exact k I' Q' h)
theorem x_I0 {r : Ev} {d : Nat} {y : MethodName} {cc : ByteArray} {mr : Nat × Option FieldType} {b : Nat × Nat} {pc q : Nat} {lv : List (Option Value)} {st : List Value} {n : Nat} {I : MI} {Q : MQ2} {F : Post} {d' : Nat} {y' : MethodName} {cc' : ByteArray} {mL9 a : Nat} {b' : Nat × Nat} {idx : Nat} {G : MI → MQ2 → Prop} (b2 : Nat × Nat) (hd : DR cc pc (.invokespecial idx) 3 q) (f : MFI y.cls idx y' cc' (mL9, none) 0) (hc : CT r d' y' cc' (mL9, none) b' [.ref a] n I Q (RV G)) (hb : b'.1 + b2.1 = b.1 ∧ Nat.ble (b'.2 + b2.2) b.2 = true) (k : ∀ (I' : MI) (Q' : MQ2), G I' Q' → X r d y cc mr b2 q lv st (n + b'.1) I' Q' F) (hdd : Nat.ble (d' + 1) d = true := by rfl) (hst : Fits8 st := by rfl) : X r d y cc mr b pc lv (.ref a :: st) n I Q F :=
  x_callI (As := []) (b2 := b2) hd f hc hdd rfl hst ⟨hb.1, Nat.le_of_ble_eq_true hb.2⟩ (fun v I' Q' h => by obtain ⟨rfl, h⟩ := h; exact k I' Q' h)
theorem x_I1 {r : Ev} {d : Nat} {y : MethodName} {cc : ByteArray} {mr : Nat × Option FieldType} {b : Nat × Nat} {pc q : Nat} {lv : List (Option Value)} {st : List Value} {n : Nat} {I : MI} {Q : MQ2} {F : Post} {d' : Nat} {y' : MethodName} {cc' : ByteArray} {mL9 a : Nat} {b' : Nat × Nat} {idx : Nat} {G : MI → MQ2 → Prop} {v1 : Value} (b2 : Nat × Nat) (hd : DR cc pc (.invokespecial idx) 3 q) (f : MFI y.cls idx y' cc' (mL9, none) 1) (hc : CT r d' y' cc' (mL9, none) b' [.ref a, v1] n I Q (RV G)) (hb : b'.1 + b2.1 = b.1 ∧ Nat.ble (b'.2 + b2.2) b.2 = true) (k : ∀ (I' : MI) (Q' : MQ2), G I' Q' → X r d y cc mr b2 q lv st (n + b'.1) I' Q' F) (hdd : Nat.ble (d' + 1) d = true := by rfl) (hst : Fits8 st := by rfl) : X r d y cc mr b pc lv (v1 :: .ref a :: st) n I Q F :=
  x_callI (As := [v1]) (b2 := b2) hd f hc hdd rfl hst ⟨hb.1, Nat.le_of_ble_eq_true hb.2⟩ (fun v I' Q' h => by obtain ⟨rfl, h⟩ := h; exact k I' Q' h)
/-! new objects, new arrays -/
def NW (own : String) (idx ci : Nat) : Prop := ci < 10 ∧ Cond.classLink own idx (clC ci) ∈ wT ∧ Cond.instantiable (clC ci) (nf ci) ∈ wT ∧ Cond.initialized (clC ci) ∈ wT
theorem x_fresh {r : Ev} {p : Program} {l : Launch} {e : Env} {R : Room} {s : State} {m : MethodId} {args : Array Value} {below : List Frame} {meth : Method} {c : Code} {T : State} {locs : List Loc} {cells slots : Nat} {n : Nat} {I : MI} {Q : MQ2} {H1 : Heap} {q0 : Nat} {en : va_E} (X0 : Stand p l e R s m args below meth c T locs (cells + 1) slots) (hT : T.heap = H1) (hz : s.heap.size + cells = evz r + n) (hP : va_P (evD r) vwCl (pool (evc r) (evz r) n I Q ++ [(q0, en)]) H1) (hD : va_D (fun q : Nat => evz r ≤ q) (pool (evc r) (evz r) n I Q ++ [(q0, en)])) : q0 = evz r + n := by
  have h1 : T.heap.size ≤ s.heap.size + (cells + 1) := X0.same.2.2.1
  rw [hT] at h1
  have hlast : (pool (evc r) (evz r) n I Q ++ [(q0, en)])[n]? = some (q0, en) := by
    rw [List.getElem?_append_right (by rw [pool_len]; exact Nat.le_refl n), pool_len, Nat.sub_self]
    rfl
  have h2 := (hP n _ hlast).lt
  have h3 := hD.2 n _ hlast
  have h2 : q0 < H1.size := h2
  have h3 : evz r ≤ q0 := h3
  by_cases h4 : q0 < evz r + n
  · have h5 : q0 - evz r < n := by omega
    have h6 : (pool (evc r) (evz r) n I Q ++ [(q0, en)])[q0 - evz r]? = some (evz r + (q0 - evz r), cel (evc r) (evz r) I Q (q0 - evz r)) := by
      rw [List.getElem?_append_left (by rw [pool_len]; exact h5), pool_get h5]
    have h7 := hD.1 _ _ _ _ h6 hlast (by show evz r + (q0 - evz r) = q0; omega)
    omega
  · omega
theorem dflt_ok : ∀ ci, ci < 10 → ∀ j, j < nf ci → defaultValue (tyOf ci j) = (some (if isR ci j then va_rf (((fun _ _ => none : MQ2) 0 j).map (fun x => x)) else .int (0 : Int32))).getD .null := by decide +kernel
theorem x_new {r : Ev} {d : Nat} {y : MethodName} {cc : ByteArray} {mr : Nat × Option FieldType} {b : Nat × Nat} {pc q : Nat} {lv : List (Option Value)} {st : List Value} {n : Nat} {I : MI} {Q : MQ2} {F : Post} {idx ci : Nat} (b2 : Nat × Nat) (hd : DR cc pc (.new idx) 3 q) (f : NW y.cls idx ci) (hk : kd n = ci) (hb : b2.1 + 1 = b.1 ∧ Nat.ble (b2.2 + nf ci) b.2 = true) (k : X r d y cc mr b2 q lv (.ref (evz r + n) :: st) (n + 1) (setRow I n (fun _ => 0)) (setRow Q n (fun _ => none)) F) : X r d y cc mr b pc lv st n I Q F := by
  intro p e s m args below meth c H locs cells slots mc ms R ls Qf C hW hS hl h1 h2 fin
  obtain ⟨hd, rfl⟩ := hd
  obtain ⟨f1, f2, f3, f4⟩ := f
  obtain ⟨g1, g2, g3, g4⟩ := cf_ok ci f1
  have hts := C.2.2.2.2.1
  have hb2 := Nat.le_of_ble_eq_true hb.2
  have hR1 := C.2.2.2.2.2.2.2.2.2.1
  have hR2 := C.2.2.2.2.2.2.2.2.2.2.1
  have hn9 : n + 1 + b2.1 = n + b.1 := by have := hb.1; omega
  refine va_new (ci := ci) (fs := flds (evz r) (fun _ _ => 0) (fun _ _ => none) n) C.1 C.2.1 hts g2 (tyOf ci) g3 C.2.2.2.1 (hts _ f2) (hts _ f3) (hts _ f4) hW.1 hW.2 pool_D hS (fun q0 hq0 => Nat.le_trans C.2.2.2.2.2.2.1 hq0) g1 ?_ (by omega) (by omega) hd (fun q0 H1 hP hD hS1 => ?_)
  · intro j hj
    have h9 : (flds (evz r) (fun _ _ => 0) (fun _ _ => none) n)[j]? = _ := flds_get (by rw [hk]; exact hj)
    show defaultValue (tyOf ci j) = ((flds (evz r) (fun _ _ => 0) (fun _ _ => none) n)).getD j .null
    rw [List.getD_eq_getElem?_getD, h9, hk]
    exact dflt_ok ci f1 j hj
  · intro T hT X0
    have hq0 := x_fresh X0 hT h1.1 hP hD
    subst hq0
    rw [pool_push (I' := setRow I n (fun _ => 0)) (Q' := setRow Q n (fun _ => none)) (by rw [cel_o hk f1]; congr 2; unfold flds; rw [setRow_same, setRow_same]) (fun b hb => cel_cong (setRow_ne (by omega)) (setRow_ne (by omega)))] at hP
    have hb1 := hb.1
    exact k _ _ _ _ _ _ _ _ _ _ _ _ _ _ _ _ _ C ⟨hW.1, hP⟩ hS1 hl ⟨by omega, by omega⟩ (by omega) (by rw [hn9]; exact fin) T hT X0
theorem x_newI {r : Ev} {d : Nat} {y : MethodName} {cc : ByteArray} {mr : Nat × Option FieldType} {b : Nat × Nat} {pc q : Nat} {lv : List (Option Value)} {st : List Value} {n : Nat} {I : MI} {Q : MQ2} {F : Post} {x : Int32} {N : Nat} (b2 : Nat × Nat) (hd : DR cc pc (.newarray .int) 2 q) (hw : Cond.arrayClass .int ∈ wT) (hk : kd n = 11 ∧ nn n = N) (hx : x = nI N) (hb : b2.1 + 1 = b.1 ∧ Nat.ble (b2.2 + N) b.2 = true) (k : X r d y cc mr b2 q lv (.ref (evz r + n) :: st) (n + 1) (setRow I n (fun _ => 0)) (setRow Q n (fun _ => none)) F) : X r d y cc mr b pc lv (.int x :: st) n I Q F := by
  intro p e s m args below meth c H locs cells slots mc ms R ls Qf C hW hS hl h1 h2 fin
  obtain ⟨hd, rfl⟩ := hd
  have hts := C.2.2.2.2.1
  have hb2 := Nat.le_of_ble_eq_true hb.2
  have hR1 := C.2.2.2.2.2.2.2.2.2.1
  have hR2 := C.2.2.2.2.2.2.2.2.2.2.1
  have hn9 : n + 1 + b2.1 = n + b.1 := by have := hb.1; omega
  have hN : N ≤ 208 := by
    rw [← hk.2]
    unfold nn
    rw [List.getD_eq_getElem?_getD]
    cases h : nnL[n]? with
    | none => exact Nat.zero_le _
    | some v => exact nn_all v (List.mem_of_getElem? h)
  subst hx
  refine va_newa (atype := .int) (ty := .int) (N' := N) (a0 := (N, .inl (fun _ => 0))) C.1 C.2.1 (hts _ hw) rfl hW.1 hW.2 pool_D hS (fun q0 hq0 => Nat.le_trans C.2.2.2.2.2.2.1 hq0) (fun cA => rfl) (nI_pos (by omega)) (nI_clamp (by omega)) (by simp [componentBytes]; omega) (by omega) (by omega) hd (fun q0 cA H1 hK1 hP hD hS1 => ?_)
  intro T hT X0
  have hq0 := x_fresh X0 hT h1.1 hP hD
  subst hq0
  have hc : cA = evc r 11 := by
    have e1 := (hK1.2 4 (cA, .int) rfl).2
    have e2 := (hW.1.2 1 (evc r 11, .int) rfl).2
    exact Option.some.inj (e1.symm.trans e2)
  subst hc
  rw [pool_push (I' := setRow I n (fun _ => 0)) (Q' := setRow Q n (fun _ => none)) (by rw [cel_i hk.1 (Or.inr rfl), hk.2, setRow_same]) (fun b hb => cel_cong (setRow_ne (by omega)) (setRow_ne (by omega)))] at hP
  have hb1 := hb.1
  exact k _ _ _ _ _ _ _ _ _ _ _ _ _ _ _ _ _ C ⟨hW.1, hP⟩ hS1 hl ⟨by omega, by omega⟩ (by omega) (by rw [hn9]; exact fin) T hT X0
theorem x_newC {r : Ev} {d : Nat} {y : MethodName} {cc : ByteArray} {mr : Nat × Option FieldType} {b : Nat × Nat} {pc q : Nat} {lv : List (Option Value)} {st : List Value} {n : Nat} {I : MI} {Q : MQ2} {F : Post} {x : Int32} {N : Nat} (b2 : Nat × Nat) (hd : DR cc pc (.newarray .char) 2 q) (hw : Cond.arrayClass .char ∈ wT) (hk : kd n = 10 ∧ nn n = N) (hx : x = nI N) (hb : b2.1 + 1 = b.1 ∧ Nat.ble (b2.2 + N) b.2 = true) (k : X r d y cc mr b2 q lv (.ref (evz r + n) :: st) (n + 1) (setRow I n (fun _ => 0)) (setRow Q n (fun _ => none)) F) : X r d y cc mr b pc lv (.int x :: st) n I Q F := by
  intro p e s m args below meth c H locs cells slots mc ms R ls Qf C hW hS hl h1 h2 fin
  obtain ⟨hd, rfl⟩ := hd
  have hts := C.2.2.2.2.1
  have hb2 := Nat.le_of_ble_eq_true hb.2
  have hR1 := C.2.2.2.2.2.2.2.2.2.1
  have hR2 := C.2.2.2.2.2.2.2.2.2.2.1
  have hn9 : n + 1 + b2.1 = n + b.1 := by have := hb.1; omega
  have hN : N ≤ 208 := by
    rw [← hk.2]
    unfold nn
    rw [List.getD_eq_getElem?_getD]
    cases h : nnL[n]? with
    | none => exact Nat.zero_le _
    | some v => exact nn_all v (List.mem_of_getElem? h)
  subst hx
  refine va_newa (atype := .char) (ty := .char) (N' := N) (a0 := (N, .inl (fun _ => 0))) C.1 C.2.1 (hts _ hw) rfl hW.1 hW.2 pool_D hS (fun q0 hq0 => Nat.le_trans C.2.2.2.2.2.2.1 hq0) (fun cA => rfl) (nI_pos (by omega)) (nI_clamp (by omega)) (by simp [componentBytes]; omega) (by omega) (by omega) hd (fun q0 cA H1 hK1 hP hD hS1 => ?_)
  intro T hT X0
  have hq0 := x_fresh X0 hT h1.1 hP hD
  subst hq0
  have hc : cA = evc r 10 := by
    have e1 := (hK1.2 4 (cA, .char) rfl).2
    have e2 := (hW.1.2 0 (evc r 10, .char) rfl).2
    exact Option.some.inj (e1.symm.trans e2)
  subst hc
  rw [pool_push (I' := setRow I n (fun _ => 0)) (Q' := setRow Q n (fun _ => none)) (by rw [cel_i hk.1 (Or.inl rfl), hk.2, setRow_same]) (fun b hb => cel_cong (setRow_ne (by omega)) (setRow_ne (by omega)))] at hP
  have hb1 := hb.1
  exact k _ _ _ _ _ _ _ _ _ _ _ _ _ _ _ _ _ C ⟨hW.1, hP⟩ hS1 hl ⟨by omega, by omega⟩ (by omega) (by rw [hn9]; exact fin) T hT X0
theorem x_newL {r : Ev} {d : Nat} {y : MethodName} {cc : ByteArray} {mr : Nat × Option FieldType} {b : Nat × Nat} {pc q : Nat} {lv : List (Option Value)} {st : List Value} {n : Nat} {I : MI} {Q : MQ2} {F : Post} {x : Int32} {N idx : Nat} (b2 : Nat × Nat) (hd : DR cc pc (.anewarray idx) 3 q) (hw : Cond.classLink y.cls idx "DewLooms$Loom" ∈ wT ∧ Cond.arrayOver (.object "DewLooms$Loom") ∈ wT) (hk : kd n = 12 ∧ nn n = N) (hx : x = nI N) (hb : b2.1 + 1 = b.1 ∧ Nat.ble (b2.2 + N) b.2 = true) (k : X r d y cc mr b2 q lv (.ref (evz r + n) :: st) (n + 1) (setRow I n (fun _ => 0)) (setRow Q n (fun _ => none)) F) : X r d y cc mr b pc lv (.int x :: st) n I Q F := by
  intro p e s m args below meth c H locs cells slots mc ms R ls Qf C hW hS hl h1 h2 fin
  obtain ⟨hd, rfl⟩ := hd
  have hts := C.2.2.2.2.1
  have hb2 := Nat.le_of_ble_eq_true hb.2
  have hR1 := C.2.2.2.2.2.2.2.2.2.1
  have hR2 := C.2.2.2.2.2.2.2.2.2.2.1
  have hn9 : n + 1 + b2.1 = n + b.1 := by have := hb.1; omega
  have hN : N ≤ 208 := by
    rw [← hk.2]
    unfold nn
    rw [List.getD_eq_getElem?_getD]
    cases h : nnL[n]? with
    | none => exact Nat.zero_le _
    | some v => exact nn_all v (List.mem_of_getElem? h)
  subst hx
  refine va_newq (C := "DewLooms$Loom") (N' := N) C.1 C.2.1 C.2.2.2.1 (hts _ hw.1) (va_AO.of (hts _ hw.2)) hW.1 hW.2 pool_D hS (fun q0 hq0 => Nat.le_trans C.2.2.2.2.2.2.1 hq0) (nI_pos (by omega)) (nI_clamp (by omega)) (by omega) (by omega) (by omega) hd (fun q0 cA H1 hK1 hP hD hS1 => ?_)
  intro T hT X0
  have hq0 := x_fresh X0 hT h1.1 hP hD
  subst hq0
  have hc : cA = evc r 12 := by
    obtain ⟨_, _, -, -, -, e1⟩ := (hK1.2 4 (cA, .object "DewLooms$Loom") rfl).2
    obtain ⟨_, _, -, -, -, e2⟩ := (hW.1.2 2 (evc r 12, .object "DewLooms$Loom") rfl).2
    exact Option.some.inj (e1.symm.trans e2)
  subst hc
  rw [pool_push (I' := setRow I n (fun _ => 0)) (Q' := setRow Q n (fun _ => none)) (by rw [cel_q hk.1 (Or.inl rfl), hk.2, setRow_same]; rfl) (fun b hb => cel_cong (setRow_ne (by omega)) (setRow_ne (by omega)))] at hP
  have hb1 := hb.1
  exact k _ _ _ _ _ _ _ _ _ _ _ _ _ _ _ _ _ C ⟨hW.1, hP⟩ hS1 hl ⟨by omega, by omega⟩ (by omega) (by rw [hn9]; exact fin) T hT X0
theorem x_newS {r : Ev} {d : Nat} {y : MethodName} {cc : ByteArray} {mr : Nat × Option FieldType} {b : Nat × Nat} {pc q : Nat} {lv : List (Option Value)} {st : List Value} {n : Nat} {I : MI} {Q : MQ2} {F : Post} {x : Int32} {N idx : Nat} (b2 : Nat × Nat) (hd : DR cc pc (.anewarray idx) 3 q) (hw : Cond.classLink y.cls idx "DewLooms$Slope" ∈ wT ∧ Cond.arrayOver (.object "DewLooms$Slope") ∈ wT) (hk : kd n = 13 ∧ nn n = N) (hx : x = nI N) (hb : b2.1 + 1 = b.1 ∧ Nat.ble (b2.2 + N) b.2 = true) (k : X r d y cc mr b2 q lv (.ref (evz r + n) :: st) (n + 1) (setRow I n (fun _ => 0)) (setRow Q n (fun _ => none)) F) : X r d y cc mr b pc lv (.int x :: st) n I Q F := by
  intro p e s m args below meth c H locs cells slots mc ms R ls Qf C hW hS hl h1 h2 fin
  obtain ⟨hd, rfl⟩ := hd
  have hts := C.2.2.2.2.1
  have hb2 := Nat.le_of_ble_eq_true hb.2
  have hR1 := C.2.2.2.2.2.2.2.2.2.1
  have hR2 := C.2.2.2.2.2.2.2.2.2.2.1
  have hn9 : n + 1 + b2.1 = n + b.1 := by have := hb.1; omega
  have hN : N ≤ 208 := by
    rw [← hk.2]
    unfold nn
    rw [List.getD_eq_getElem?_getD]
    cases h : nnL[n]? with
    | none => exact Nat.zero_le _
    | some v => exact nn_all v (List.mem_of_getElem? h)
  subst hx
  refine va_newq (C := "DewLooms$Slope") (N' := N) C.1 C.2.1 C.2.2.2.1 (hts _ hw.1) (va_AO.of (hts _ hw.2)) hW.1 hW.2 pool_D hS (fun q0 hq0 => Nat.le_trans C.2.2.2.2.2.2.1 hq0) (nI_pos (by omega)) (nI_clamp (by omega)) (by omega) (by omega) (by omega) hd (fun q0 cA H1 hK1 hP hD hS1 => ?_)
  intro T hT X0
  have hq0 := x_fresh X0 hT h1.1 hP hD
  subst hq0
  have hc : cA = evc r 13 := by
    obtain ⟨_, _, -, -, -, e1⟩ := (hK1.2 4 (cA, .object "DewLooms$Slope") rfl).2
    obtain ⟨_, _, -, -, -, e2⟩ := (hW.1.2 3 (evc r 13, .object "DewLooms$Slope") rfl).2
    exact Option.some.inj (e1.symm.trans e2)
  subst hc
  rw [pool_push (I' := setRow I n (fun _ => 0)) (Q' := setRow Q n (fun _ => none)) (by rw [cel_q hk.1 (Or.inr rfl), hk.2, setRow_same]; rfl) (fun b hb => cel_cong (setRow_ne (by omega)) (setRow_ne (by omega)))] at hP
  have hb1 := hb.1
  exact k _ _ _ _ _ _ _ _ _ _ _ _ _ _ _ _ _ C ⟨hW.1, hP⟩ hS1 hl ⟨by omega, by omega⟩ (by omega) (by rw [hn9]; exact fin) T hT X0
def OI (own : String) (idx : Nat) : Prop := Cond.methodLink own idx Lib.objectInit ∈ wT ∧ Cond.instanceMethod Lib.objectInit ∈ wT ∧ Cond.code Lib.objectInit ⟨#[0xb1]⟩ 1 none ∈ wT
theorem sum8 {st : List Value} (h : Fits8 st) : (st.map (fun v => v.category)).sum ≤ 8 := Nat.le_of_ble_eq_true h
theorem x_objinit {r : Ev} {d : Nat} {y : MethodName} {cc : ByteArray} {mr : Nat × Option FieldType} {b : Nat × Nat} {pc q : Nat} {lv : List (Option Value)} {st : List Value} {n : Nat} {I : MI} {Q : MQ2} {F : Post} {idx a : Nat} (hd : DR cc pc (.invokespecial idx) 3 q) (f : OI y.cls idx) (k : X r d y cc mr b q lv st n I Q F) (hdd : Nat.ble 1 d = true := by rfl) (hst : Fits8 st := by rfl) : X r d y cc mr b pc lv (.ref a :: st) n I Q F := by
  intro p e s m args below meth c H locs cells slots mc ms R ls Qf C hW hS hl h1 h2 fin
  obtain ⟨hd, rfl⟩ := hd
  have hts := C.2.2.2.2.1
  have hR1 := C.2.2.2.2.2.2.2.1
  have hR2 := C.2.2.2.2.2.2.2.2.1
  have hd1 := Nat.le_of_ble_eq_true hdd
  have h8 := sum8 hst
  exact W.objInit C.1 C.2.1 C.2.2.2.1 (hts _ f.1) (hts _ f.2.1) (hts _ f.2.2) rfl (hl.1.trans C.2.2.1.symm) rfl hd (by omega) (by show 2 * 0 + _ + 12 ≤ _; omega) (k _ _ _ _ _ _ _ _ _ _ _ _ _ _ _ _ _ C hW hS hl h1 h2 fin)
def M_max (own : String) (idx : Nat) : Prop := Cond.methodLink own idx Lib.Math.max.name ∈ wT ∧ Cond.static Lib.Math.max.name ∈ wT ∧ Cond.initialized "java/lang/Math" ∈ wT ∧ Cond.code Lib.Math.max.name Lib.Math.max.code 2 (some .int) ∈ wT
theorem x_max {r : Ev} {d : Nat} {y : MethodName} {cc : ByteArray} {mr : Nat × Option FieldType} {b : Nat × Nat} {pc q : Nat} {lv : List (Option Value)} {st : List Value} {n : Nat} {I : MI} {Q : MQ2} {F : Post} {idx : Nat} {x x2 : Int32} (hd : DR cc pc (.invokestatic idx) 3 q) (f : M_max y.cls idx) (k : X r d y cc mr b q lv (.int (if x < x2 then x2 else x) :: st) n I Q F) (hdd : Nat.ble 1 d = true := by rfl) (hst : Fits8 st := by rfl) : X r d y cc mr b pc lv (.int x2 :: .int x :: st) n I Q F := by
  intro p e s m args below meth c H locs cells slots mc ms R ls Qf C hW hS hl h1 h2 fin
  obtain ⟨hd, rfl⟩ := hd
  have hts := C.2.2.2.2.1
  have hR1 := C.2.2.2.2.2.2.2.1
  have hR2 := C.2.2.2.2.2.2.2.2.1
  have hR3 := C.2.2.2.2.2.2.2.2.2.1
  have hR4 := C.2.2.2.2.2.2.2.2.2.2.1
  have hd1 := Nat.le_of_ble_eq_true hdd
  have h8 := sum8 hst
  exact va_mmax C.1 C.2.1 (C.2.2.1.trans hl.1.symm) C.2.2.2.1 (hts _ f.1) (hts _ f.2.1) (hts _ f.2.2.1) (hts _ f.2.2.2) (by omega) (by omega) (by omega) (by omega) hd (k _ _ _ _ _ _ _ _ _ _ _ _ _ _ _ _ _ C hW hS hl h1 h2 fin)
def M_min (own : String) (idx : Nat) : Prop := Cond.methodLink own idx Lib.Math.min.name ∈ wT ∧ Cond.static Lib.Math.min.name ∈ wT ∧ Cond.initialized "java/lang/Math" ∈ wT ∧ Cond.code Lib.Math.min.name Lib.Math.min.code 2 (some .int) ∈ wT
theorem x_min {r : Ev} {d : Nat} {y : MethodName} {cc : ByteArray} {mr : Nat × Option FieldType} {b : Nat × Nat} {pc q : Nat} {lv : List (Option Value)} {st : List Value} {n : Nat} {I : MI} {Q : MQ2} {F : Post} {idx : Nat} {x x2 : Int32} (hd : DR cc pc (.invokestatic idx) 3 q) (f : M_min y.cls idx) (k : X r d y cc mr b q lv (.int (if x2 < x then x2 else x) :: st) n I Q F) (hdd : Nat.ble 1 d = true := by rfl) (hst : Fits8 st := by rfl) : X r d y cc mr b pc lv (.int x2 :: .int x :: st) n I Q F := by
  intro p e s m args below meth c H locs cells slots mc ms R ls Qf C hW hS hl h1 h2 fin
  obtain ⟨hd, rfl⟩ := hd
  have hts := C.2.2.2.2.1
  have hR1 := C.2.2.2.2.2.2.2.1
  have hR2 := C.2.2.2.2.2.2.2.2.1
  have hR3 := C.2.2.2.2.2.2.2.2.2.1
  have hR4 := C.2.2.2.2.2.2.2.2.2.2.1
  have hd1 := Nat.le_of_ble_eq_true hdd
  have h8 := sum8 hst
  exact va_mmin C.1 C.2.1 (C.2.2.1.trans hl.1.symm) C.2.2.2.1 (hts _ f.1) (hts _ f.2.1) (hts _ f.2.2.1) (hts _ f.2.2.2) (by omega) (by omega) (by omega) (by omega) hd (k _ _ _ _ _ _ _ _ _ _ _ _ _ _ _ _ _ C hW hS hl h1 h2 fin)
def AC (own : String) (idx : Nat) : Prop := Cond.methodLink own idx arraycopyName ∈ wT ∧ Cond.native arraycopyName ∈ wT ∧ Cond.static arraycopyName ∈ wT ∧ Cond.initialized "java/lang/System" ∈ wT
def cpN (I : MI) (a0 a1 N : Nat) : MI := setRow I a1 (fun k => if k < N then I a0 k else I a1 k)
theorem cpN_row (I : MI) (a0 a1 N : Nat) : cpN I a0 a1 N a1 = va_cpy (I a0) (I a1) 0 0 N := by
  unfold cpN
  rw [setRow_same]
  funext j
  simp [va_cpy]
theorem x_acopy {r : Ev} {d : Nat} {y : MethodName} {cc : ByteArray} {mr : Nat × Option FieldType} {b : Nat × Nat} {pc q : Nat} {lv : List (Option Value)} {st : List Value} {n : Nat} {I : MI} {Q : MQ2} {F : Post} {idx a0 a1 N N0 N1 : Nat} {x : Int32} (hd : DR cc pc (.invokestatic idx) 3 q) (f : AC y.cls idx) (ha0 : Ar n 11 a0 N0) (ha1 : Ar n 11 a1 N1) (hx : x = nI N) (hN0 : N ≤ N0) (hN1 : N ≤ N1) (k : X r d y cc mr b q lv st n (cpN I a0 a1 N) Q F) (hdd : Nat.ble 1 d = true := by rfl) (hst : Fits8 st := by rfl) : X r d y cc mr b pc lv (.int x :: .int 0 :: .ref (evz r + a1) :: .int 0 :: .ref (evz r + a0) :: st) n I Q F := by
  intro p e s m args below meth c H locs cells slots mc ms R ls Qf C hW hS hl h1 h2 fin
  obtain ⟨hd, rfl⟩ := hd
  have hts := C.2.2.2.2.1
  have hR1 := C.2.2.2.2.2.2.2.1
  have hR2 := C.2.2.2.2.2.2.2.2.1
  have hd1 := Nat.le_of_ble_eq_true hdd
  have h8 := sum8 hst
  have hN := ha0.lt
  subst hx
  have hc : (nI N).toNatClampNeg = N := nI_clamp (by omega)
  have h0 : (0 : Int32).toNatClampNeg = 0 := rfl
  have hnw : nativeFrameWords "java/lang/System" "arraycopy" 5 + 11 ≤ 32 := Nat.le_of_ble_eq_true rfl
  refine va_copyi C.1 C.2.1 (C.2.2.1.trans hl.1.symm) C.2.2.2.1 (hts _ f.1) (hts _ f.2.1) (hts _ f.2.2.1) (hts _ f.2.2.2) hW.1 hW.2 pool_D hS a0 a1 1 1 (ty := .int) (wd_ai ha0 (Or.inr rfl)) (wd_ai ha1 (Or.inr rfl)) rfl rfl rfl (by decide) (by decide) (nI_pos (by omega)) (by rw [hc, h0]; omega) (by rw [hc, h0]; omega) (fun i hi => rfl) (by omega) (by omega) hd (fun H1 locs1 hP hD hS1 => ?_)
  rw [hc, h0, pool_set (I' := cpN I a0 a1 N) (Q' := Q) ha1.2.2 (by rw [cel_i ha1.1 (Or.inr rfl), ha1.2.1]; rw [cpN_row]) (fun b hb => cel_cong (setRow_ne hb) rfl)] at hP
  exact k _ _ _ _ _ _ _ _ _ _ _ _ _ _ _ _ _ C ⟨hW.1, hP⟩ hS1 hl h1 h2 fin
theorem x_ldc2 {r : Ev} {d : Nat} {y : MethodName} {cc : ByteArray} {mr : Nat × Option FieldType} {b : Nat × Nat} {pc q : Nat} {lv : List (Option Value)} {st : List Value} {n : Nat} {I : MI} {Q : MQ2} {F : Post} {idx : Nat} {v : Int64} (hd : DR cc pc (.ldc2_w idx) 3 q) (f : Cond.constantLong y.cls idx v ∈ wT) (k : X r d y cc mr b q lv (.long v :: st) n I Q F) : X r d y cc mr b pc lv st n I Q F := by
  intro p e s m args below meth c H locs cells slots mc ms R ls Qf C hW hS hl h1 h2 fin
  obtain ⟨hd, rfl⟩ := hd
  exact lv_ldc2 C.1 C.2.1 C.2.2.2.1 (C.2.2.2.2.1 _ f) hd (k _ _ _ _ _ _ _ _ _ _ _ _ _ _ _ _ _ C hW hS hl h1 h2 fin)
theorem x_ldcw {r : Ev} {d : Nat} {y : MethodName} {cc : ByteArray} {mr : Nat × Option FieldType} {b : Nat × Nat} {pc q : Nat} {lv : List (Option Value)} {st : List Value} {n : Nat} {I : MI} {Q : MQ2} {F : Post} {idx : Nat} {v : Int32} (hd : DR cc pc (.ldc_w idx) 3 q) (f : Cond.constant y.cls idx v ∈ wT) (k : X r d y cc mr b q lv (.int v :: st) n I Q F) : X r d y cc mr b pc lv st n I Q F := by
  intro p e s m args below meth c H locs cells slots mc ms R ls Qf C hW hS hl h1 h2 fin
  obtain ⟨hd, rfl⟩ := hd
  exact lv_ldcw C.1 C.2.1 C.2.2.2.1 (C.2.2.2.2.1 _ f) hd (k _ _ _ _ _ _ _ _ _ _ _ _ _ _ _ _ _ C hW hS hl h1 h2 fin)
theorem x_ldc {r : Ev} {d : Nat} {y : MethodName} {cc : ByteArray} {mr : Nat × Option FieldType} {b : Nat × Nat} {pc q : Nat} {lv : List (Option Value)} {st : List Value} {n : Nat} {I : MI} {Q : MQ2} {F : Post} {idx : Nat} {v : Int32} (hd : DR cc pc (.ldc idx) 2 q) (f : Cond.constant y.cls idx v ∈ wT) (k : X r d y cc mr b q lv (.int v :: st) n I Q F) : X r d y cc mr b pc lv st n I Q F := by
  intro p e s m args below meth c H locs cells slots mc ms R ls Qf C hW hS hl h1 h2 fin
  obtain ⟨hd, rfl⟩ := hd
  exact lv_ldc C.1 C.2.1 C.2.2.2.1 (C.2.2.2.2.1 _ f) hd (k _ _ _ _ _ _ _ _ _ _ _ _ _ _ _ _ _ C hW hS hl h1 h2 fin)
theorem x_tsIn {r : Ev} {d : Nat} {y : MethodName} {cc : ByteArray} {mr : Nat × Option FieldType} {b : Nat × Nat} {pc q : Nat} {lv : List (Option Value)} {st : List Value} {n : Nat} {I : MI} {Q : MQ2} {F : Post} {dflt lo hi off : Int} {offs : Array Int} {len t : Nat} {x : Int32} (hd : DR cc pc (.tableswitch dflt lo hi offs) len q) (g1 : ¬ x.toInt < lo) (g2 : ¬ hi < x.toInt) (ho : offs[(x.toInt - lo).toNat]? = some off) (ht : (pc : Int) + off = (t : Int)) (k : X r d y cc mr b t lv st n I Q F) : X r d y cc mr b pc lv (.int x :: st) n I Q F := by
  intro p e s m args below meth c H locs cells slots mc ms R ls Qf C hW hS hl h1 h2 fin
  exact lv_tableIn C.1 C.2.1 hd.1 g1 g2 ho ht (k _ _ _ _ _ _ _ _ _ _ _ _ _ _ _ _ _ C hW hS hl h1 h2 fin)
theorem x_tsOut {r : Ev} {d : Nat} {y : MethodName} {cc : ByteArray} {mr : Nat × Option FieldType} {b : Nat × Nat} {pc q : Nat} {lv : List (Option Value)} {st : List Value} {n : Nat} {I : MI} {Q : MQ2} {F : Post} {dflt lo hi : Int} {offs : Array Int} {len t : Nat} {x : Int32} (hd : DR cc pc (.tableswitch dflt lo hi offs) len q) (g : x.toInt < lo ∨ hi < x.toInt) (ht : (pc : Int) + dflt = (t : Int)) (k : X r d y cc mr b t lv st n I Q F) : X r d y cc mr b pc lv (.int x :: st) n I Q F := by
  intro p e s m args below meth c H locs cells slots mc ms R ls Qf C hW hS hl h1 h2 fin
  exact lv_tableOut C.1 C.2.1 hd.1 g ht (k _ _ _ _ _ _ _ _ _ _ _ _ _ _ _ _ _ C hW hS hl h1 h2 fin)
theorem x_ls {r : Ev} {d : Nat} {y : MethodName} {cc : ByteArray} {mr : Nat × Option FieldType} {b : Nat × Nat} {pc q : Nat} {lv : List (Option Value)} {st : List Value} {n : Nat} {I : MI} {Q : MQ2} {F : Post} {dflt off : Int} {ps : Array (Int × Int)} {len t : Nat} {x : Int32} (hd : DR cc pc (.lookupswitch dflt ps) len q) (hp : (ps.toList.zip (ps.toList.drop 1)).all (fun (a, next) => a.1 < next.1) = true) (ho : Op.lookupswitch.offset ps.toList dflt x.toInt = off) (ht : (pc : Int) + off = (t : Int)) (k : X r d y cc mr b t lv st n I Q F) : X r d y cc mr b pc lv (.int x :: st) n I Q F := by
  intro p e s m args below meth c H locs cells slots mc ms R ls Qf C hW hS hl h1 h2 fin
  exact lv_lookup C.1 C.2.1 hd.1 hp ho ht (k _ _ _ _ _ _ _ _ _ _ _ _ _ _ _ _ _ C hW hS hl h1 h2 fin)
end
