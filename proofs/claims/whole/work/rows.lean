section
-- ===== PART A: goes FIRST, ahead of the names: the tables' words, and 'selects' of the private methods out of them =====
/-- a private method of a class that the tables say can be made, by its rows of tables_1 -/
def lw_okq (q : MethodName × Nat) : Prop := (q.1.cls ≠ "java/lang/invoke/MethodHandle" ∧ q.1.cls ≠ "java/lang/invoke/VarHandle") ∧ Cond.instantiable q.1.cls q.2 ∈ tables_1 ∧ Cond.privateMethod q.1 ∈ tables_1 ∧ Cond.instanceMethod q.1 ∈ tables_1
theorem lw_p0 : lw_okq (⟨"DewLooms", "layText", "()I"⟩, 10) := ⟨⟨by decide +kernel, by decide +kernel⟩, List.mem_of_getElem? (i := 19) (by decide +kernel), List.mem_of_getElem? (i := 272) (by decide +kernel), List.mem_of_getElem? (i := 273) (by decide +kernel)⟩
theorem lw_p1 : lw_okq (⟨"DewLooms$Reader", "readNumbers", "(LDewLooms$Text;I)Z"⟩, 2) := ⟨⟨by decide +kernel, by decide +kernel⟩, List.mem_of_getElem? (i := 43) (by decide +kernel), List.mem_of_getElem? (i := 295) (by decide +kernel), List.mem_of_getElem? (i := 296) (by decide +kernel)⟩
theorem lw_p2 : lw_okq (⟨"DewLooms$Reader", "readNumber", "(LDewLooms$Text;)I"⟩, 2) := ⟨⟨by decide +kernel, by decide +kernel⟩, List.mem_of_getElem? (i := 43) (by decide +kernel), List.mem_of_getElem? (i := 302) (by decide +kernel), List.mem_of_getElem? (i := 303) (by decide +kernel)⟩
theorem lw_p3 : lw_okq (⟨"DewLooms$Reader", "tellNight", "(LDewLooms$Night;I)Z"⟩, 2) := ⟨⟨by decide +kernel, by decide +kernel⟩, List.mem_of_getElem? (i := 43) (by decide +kernel), List.mem_of_getElem? (i := 306) (by decide +kernel), List.mem_of_getElem? (i := 307) (by decide +kernel)⟩
theorem lw_p4 : lw_okq (⟨"DewLooms", "isNoLoom", "(I)Z"⟩, 10) := ⟨⟨by decide +kernel, by decide +kernel⟩, List.mem_of_getElem? (i := 19) (by decide +kernel), List.mem_of_getElem? (i := 433) (by decide +kernel), List.mem_of_getElem? (i := 434) (by decide +kernel)⟩
theorem lw_p5 : lw_okq (⟨"DewLooms$Night", "ofHour", "([III)I"⟩, 7) := ⟨⟨by decide +kernel, by decide +kernel⟩, List.mem_of_getElem? (i := 185) (by decide +kernel), List.mem_of_getElem? (i := 450) (by decide +kernel), List.mem_of_getElem? (i := 451) (by decide +kernel)⟩
theorem lw_p6 : lw_okq (⟨"DewLooms$Pile", "loseOldest", "()V"⟩, 2) := ⟨⟨by decide +kernel, by decide +kernel⟩, List.mem_of_getElem? (i := 125) (by decide +kernel), List.mem_of_getElem? (i := 479) (by decide +kernel), List.mem_of_getElem? (i := 480) (by decide +kernel)⟩
theorem lw_p7 : lw_okq (⟨"DewLooms$Loom", "settling", "(II)I"⟩, 7) := ⟨⟨by decide +kernel, by decide +kernel⟩, List.mem_of_getElem? (i := 64) (by decide +kernel), List.mem_of_getElem? (i := 502) (by decide +kernel), List.mem_of_getElem? (i := 503) (by decide +kernel)⟩
theorem lw_p8 : lw_okq (⟨"DewLooms", "yardsOfTrial", "()I"⟩, 10) := ⟨⟨by decide +kernel, by decide +kernel⟩, List.mem_of_getElem? (i := 19) (by decide +kernel), List.mem_of_getElem? (i := 570) (by decide +kernel), List.mem_of_getElem? (i := 571) (by decide +kernel)⟩
theorem lw_p9 : lw_okq (⟨"DewLooms", "hoursTillMerchants", "()I"⟩, 10) := ⟨⟨by decide +kernel, by decide +kernel⟩, List.mem_of_getElem? (i := 19) (by decide +kernel), List.mem_of_getElem? (i := 574) (by decide +kernel), List.mem_of_getElem? (i := 575) (by decide +kernel)⟩
theorem lw_p10 : lw_okq (⟨"DewLooms$Ways", "leastAbove", "(I)I"⟩, 4) := ⟨⟨by decide +kernel, by decide +kernel⟩, List.mem_of_getElem? (i := 165) (by decide +kernel), List.mem_of_getElem? (i := 618) (by decide +kernel), List.mem_of_getElem? (i := 619) (by decide +kernel)⟩
theorem lw_p11 : lw_okq (⟨"DewLooms$Ways", "swap", "(II)V"⟩, 4) := ⟨⟨by decide +kernel, by decide +kernel⟩, List.mem_of_getElem? (i := 165) (by decide +kernel), List.mem_of_getElem? (i := 622) (by decide +kernel), List.mem_of_getElem? (i := 623) (by decide +kernel)⟩
theorem lw_p12 : lw_okq (⟨"DewLooms$Ways", "turnBehind", "(I)V"⟩, 4) := ⟨⟨by decide +kernel, by decide +kernel⟩, List.mem_of_getElem? (i := 165) (by decide +kernel), List.mem_of_getElem? (i := 627) (by decide +kernel), List.mem_of_getElem? (i := 628) (by decide +kernel)⟩
theorem lw_p13 : lw_okq (⟨"DewLooms", "shadeTrial", "(I)V"⟩, 10) := ⟨⟨by decide +kernel, by decide +kernel⟩, List.mem_of_getElem? (i := 19) (by decide +kernel), List.mem_of_getElem? (i := 647) (by decide +kernel), List.mem_of_getElem? (i := 648) (by decide +kernel)⟩
theorem lw_p14 : lw_okq (⟨"DewLooms", "ownNextCold", "()I"⟩, 10) := ⟨⟨by decide +kernel, by decide +kernel⟩, List.mem_of_getElem? (i := 19) (by decide +kernel), List.mem_of_getElem? (i := 686) (by decide +kernel), List.mem_of_getElem? (i := 687) (by decide +kernel)⟩
theorem lw_p15 : lw_okq (⟨"DewLooms", "isAllSeenSo", "(I)Z"⟩, 10) := ⟨⟨by decide +kernel, by decide +kernel⟩, List.mem_of_getElem? (i := 19) (by decide +kernel), List.mem_of_getElem? (i := 690) (by decide +kernel), List.mem_of_getElem? (i := 691) (by decide +kernel)⟩
def lw_privs_1 : List (MethodName × Nat) := [(⟨"DewLooms", "layText", "()I"⟩, 10), (⟨"DewLooms$Reader", "readNumbers", "(LDewLooms$Text;I)Z"⟩, 2), (⟨"DewLooms$Reader", "readNumber", "(LDewLooms$Text;)I"⟩, 2), (⟨"DewLooms$Reader", "tellNight", "(LDewLooms$Night;I)Z"⟩, 2), (⟨"DewLooms", "isNoLoom", "(I)Z"⟩, 10), (⟨"DewLooms$Night", "ofHour", "([III)I"⟩, 7), (⟨"DewLooms$Pile", "loseOldest", "()V"⟩, 2), (⟨"DewLooms$Loom", "settling", "(II)I"⟩, 7), (⟨"DewLooms", "yardsOfTrial", "()I"⟩, 10), (⟨"DewLooms", "hoursTillMerchants", "()I"⟩, 10), (⟨"DewLooms$Ways", "leastAbove", "(I)I"⟩, 4), (⟨"DewLooms$Ways", "swap", "(II)V"⟩, 4), (⟨"DewLooms$Ways", "turnBehind", "(I)V"⟩, 4), (⟨"DewLooms", "shadeTrial", "(I)V"⟩, 10), (⟨"DewLooms", "ownNextCold", "()I"⟩, 10), (⟨"DewLooms", "isAllSeenSo", "(I)Z"⟩, 10)]
theorem lw_r1 : ∀ q ∈ lw_privs_1, lw_okq q := List.forall_mem_cons.mpr ⟨lw_p0, List.forall_mem_cons.mpr ⟨lw_p1, List.forall_mem_cons.mpr ⟨lw_p2, List.forall_mem_cons.mpr ⟨lw_p3, List.forall_mem_cons.mpr ⟨lw_p4, List.forall_mem_cons.mpr ⟨lw_p5, List.forall_mem_cons.mpr ⟨lw_p6, List.forall_mem_cons.mpr ⟨lw_p7, List.forall_mem_cons.mpr ⟨lw_p8, List.forall_mem_cons.mpr ⟨lw_p9, List.forall_mem_cons.mpr ⟨lw_p10, List.forall_mem_cons.mpr ⟨lw_p11, List.forall_mem_cons.mpr ⟨lw_p12, List.forall_mem_cons.mpr ⟨lw_p13, List.forall_mem_cons.mpr ⟨lw_p14, List.forall_mem_cons.mpr ⟨lw_p15, fun _ h => absurd h List.not_mem_nil⟩⟩⟩⟩⟩⟩⟩⟩⟩⟩⟩⟩⟩⟩⟩⟩
theorem lw_p16 : lw_okq (⟨"DewLooms", "chancesOfYard", "(III)I"⟩, 10) := ⟨⟨by decide +kernel, by decide +kernel⟩, List.mem_of_getElem? (i := 19) (by decide +kernel), List.mem_of_getElem? (i := 708) (by decide +kernel), List.mem_of_getElem? (i := 709) (by decide +kernel)⟩
theorem lw_p17 : lw_okq (⟨"DewLooms", "actByDraw", "(I)V"⟩, 10) := ⟨⟨by decide +kernel, by decide +kernel⟩, List.mem_of_getElem? (i := 19) (by decide +kernel), List.mem_of_getElem? (i := 729) (by decide +kernel), List.mem_of_getElem? (i := 730) (by decide +kernel)⟩
theorem lw_p18 : lw_okq (⟨"DewLoomsModel", "begins", "()V"⟩, 15) := ⟨⟨by decide +kernel, by decide +kernel⟩, List.mem_of_getElem? (i := 746) (by decide +kernel), List.mem_of_getElem? (i := 752) (by decide +kernel), List.mem_of_getElem? (i := 753) (by decide +kernel)⟩
theorem lw_p19 : lw_okq (⟨"DewLoomsModel", "loomOf", "(III)V"⟩, 15) := ⟨⟨by decide +kernel, by decide +kernel⟩, List.mem_of_getElem? (i := 746) (by decide +kernel), List.mem_of_getElem? (i := 756) (by decide +kernel), List.mem_of_getElem? (i := 757) (by decide +kernel)⟩
theorem lw_p20 : lw_okq (⟨"DewLoomsModel", "hourOf", "(II)V"⟩, 15) := ⟨⟨by decide +kernel, by decide +kernel⟩, List.mem_of_getElem? (i := 746) (by decide +kernel), List.mem_of_getElem? (i := 760) (by decide +kernel), List.mem_of_getElem? (i := 761) (by decide +kernel)⟩
theorem lw_p21 : lw_okq (⟨"DewLoomsModel", "lays", "()V"⟩, 15) := ⟨⟨by decide +kernel, by decide +kernel⟩, List.mem_of_getElem? (i := 746) (by decide +kernel), List.mem_of_getElem? (i := 764) (by decide +kernel), List.mem_of_getElem? (i := 765) (by decide +kernel)⟩
theorem lw_p22 : lw_okq (⟨"DewLoomsModel", "readsAll", "()I"⟩, 15) := ⟨⟨by decide +kernel, by decide +kernel⟩, List.mem_of_getElem? (i := 746) (by decide +kernel), List.mem_of_getElem? (i := 829) (by decide +kernel), List.mem_of_getElem? (i := 830) (by decide +kernel)⟩
theorem lw_p23 : lw_okq (⟨"DewLoomsModel", "readsItem", "(I)Z"⟩, 15) := ⟨⟨by decide +kernel, by decide +kernel⟩, List.mem_of_getElem? (i := 746) (by decide +kernel), List.mem_of_getElem? (i := 833) (by decide +kernel), List.mem_of_getElem? (i := 834) (by decide +kernel)⟩
theorem lw_p24 : lw_okq (⟨"DewLoomsModel", "readsLoom", "()Z"⟩, 15) := ⟨⟨by decide +kernel, by decide +kernel⟩, List.mem_of_getElem? (i := 746) (by decide +kernel), List.mem_of_getElem? (i := 837) (by decide +kernel), List.mem_of_getElem? (i := 838) (by decide +kernel)⟩
theorem lw_p25 : lw_okq (⟨"DewLoomsModel", "number", "(III)I"⟩, 15) := ⟨⟨by decide +kernel, by decide +kernel⟩, List.mem_of_getElem? (i := 746) (by decide +kernel), List.mem_of_getElem? (i := 841) (by decide +kernel), List.mem_of_getElem? (i := 842) (by decide +kernel)⟩
theorem lw_p26 : lw_okq (⟨"DewLoomsModel", "letterAt", "(I)I"⟩, 15) := ⟨⟨by decide +kernel, by decide +kernel⟩, List.mem_of_getElem? (i := 746) (by decide +kernel), List.mem_of_getElem? (i := 845) (by decide +kernel), List.mem_of_getElem? (i := 846) (by decide +kernel)⟩
theorem lw_p27 : lw_okq (⟨"DewLoomsModel", "one", "(III)Z"⟩, 15) := ⟨⟨by decide +kernel, by decide +kernel⟩, List.mem_of_getElem? (i := 746) (by decide +kernel), List.mem_of_getElem? (i := 852) (by decide +kernel), List.mem_of_getElem? (i := 853) (by decide +kernel)⟩
theorem lw_p28 : lw_okq (⟨"DewLoomsModel", "isLoom", "(I)Z"⟩, 15) := ⟨⟨by decide +kernel, by decide +kernel⟩, List.mem_of_getElem? (i := 746) (by decide +kernel), List.mem_of_getElem? (i := 864) (by decide +kernel), List.mem_of_getElem? (i := 865) (by decide +kernel)⟩
theorem lw_p29 : lw_okq (⟨"DewLoomsModel", "coldOf", "(I)I"⟩, 15) := ⟨⟨by decide +kernel, by decide +kernel⟩, List.mem_of_getElem? (i := 746) (by decide +kernel), List.mem_of_getElem? (i := 872) (by decide +kernel), List.mem_of_getElem? (i := 873) (by decide +kernel)⟩
theorem lw_p30 : lw_okq (⟨"DewLoomsModel", "nth", "(I)I"⟩, 15) := ⟨⟨by decide +kernel, by decide +kernel⟩, List.mem_of_getElem? (i := 746) (by decide +kernel), List.mem_of_getElem? (i := 876) (by decide +kernel), List.mem_of_getElem? (i := 877) (by decide +kernel)⟩
theorem lw_p31 : lw_okq (⟨"DewLoomsModel", "mistOf", "(I)I"⟩, 15) := ⟨⟨by decide +kernel, by decide +kernel⟩, List.mem_of_getElem? (i := 746) (by decide +kernel), List.mem_of_getElem? (i := 880) (by decide +kernel), List.mem_of_getElem? (i := 881) (by decide +kernel)⟩
def lw_privs_2 : List (MethodName × Nat) := [(⟨"DewLooms", "chancesOfYard", "(III)I"⟩, 10), (⟨"DewLooms", "actByDraw", "(I)V"⟩, 10), (⟨"DewLoomsModel", "begins", "()V"⟩, 15), (⟨"DewLoomsModel", "loomOf", "(III)V"⟩, 15), (⟨"DewLoomsModel", "hourOf", "(II)V"⟩, 15), (⟨"DewLoomsModel", "lays", "()V"⟩, 15), (⟨"DewLoomsModel", "readsAll", "()I"⟩, 15), (⟨"DewLoomsModel", "readsItem", "(I)Z"⟩, 15), (⟨"DewLoomsModel", "readsLoom", "()Z"⟩, 15), (⟨"DewLoomsModel", "number", "(III)I"⟩, 15), (⟨"DewLoomsModel", "letterAt", "(I)I"⟩, 15), (⟨"DewLoomsModel", "one", "(III)Z"⟩, 15), (⟨"DewLoomsModel", "isLoom", "(I)Z"⟩, 15), (⟨"DewLoomsModel", "coldOf", "(I)I"⟩, 15), (⟨"DewLoomsModel", "nth", "(I)I"⟩, 15), (⟨"DewLoomsModel", "mistOf", "(I)I"⟩, 15)]
theorem lw_r2 : ∀ q ∈ lw_privs_2, lw_okq q := List.forall_mem_cons.mpr ⟨lw_p16, List.forall_mem_cons.mpr ⟨lw_p17, List.forall_mem_cons.mpr ⟨lw_p18, List.forall_mem_cons.mpr ⟨lw_p19, List.forall_mem_cons.mpr ⟨lw_p20, List.forall_mem_cons.mpr ⟨lw_p21, List.forall_mem_cons.mpr ⟨lw_p22, List.forall_mem_cons.mpr ⟨lw_p23, List.forall_mem_cons.mpr ⟨lw_p24, List.forall_mem_cons.mpr ⟨lw_p25, List.forall_mem_cons.mpr ⟨lw_p26, List.forall_mem_cons.mpr ⟨lw_p27, List.forall_mem_cons.mpr ⟨lw_p28, List.forall_mem_cons.mpr ⟨lw_p29, List.forall_mem_cons.mpr ⟨lw_p30, List.forall_mem_cons.mpr ⟨lw_p31, fun _ h => absurd h List.not_mem_nil⟩⟩⟩⟩⟩⟩⟩⟩⟩⟩⟩⟩⟩⟩⟩⟩
theorem lw_p32 : lw_okq (⟨"DewLoomsModel", "loomAt", "(I)I"⟩, 15) := ⟨⟨by decide +kernel, by decide +kernel⟩, List.mem_of_getElem? (i := 746) (by decide +kernel), List.mem_of_getElem? (i := 888) (by decide +kernel), List.mem_of_getElem? (i := 889) (by decide +kernel)⟩
theorem lw_p33 : lw_okq (⟨"DewLoomsModel", "keeps", "()V"⟩, 15) := ⟨⟨by decide +kernel, by decide +kernel⟩, List.mem_of_getElem? (i := 746) (by decide +kernel), List.mem_of_getElem? (i := 896) (by decide +kernel), List.mem_of_getElem? (i := 897) (by decide +kernel)⟩
theorem lw_p34 : lw_okq (⟨"DewLoomsModel", "hours", "(I)V"⟩, 15) := ⟨⟨by decide +kernel, by decide +kernel⟩, List.mem_of_getElem? (i := 746) (by decide +kernel), List.mem_of_getElem? (i := 900) (by decide +kernel), List.mem_of_getElem? (i := 901) (by decide +kernel)⟩
theorem lw_p35 : lw_okq (⟨"DewLoomsModel", "passes", "(II)V"⟩, 15) := ⟨⟨by decide +kernel, by decide +kernel⟩, List.mem_of_getElem? (i := 746) (by decide +kernel), List.mem_of_getElem? (i := 904) (by decide +kernel), List.mem_of_getElem? (i := 905) (by decide +kernel)⟩
theorem lw_p36 : lw_okq (⟨"DewLoomsModel", "settles", "(III)I"⟩, 15) := ⟨⟨by decide +kernel, by decide +kernel⟩, List.mem_of_getElem? (i := 746) (by decide +kernel), List.mem_of_getElem? (i := 908) (by decide +kernel), List.mem_of_getElem? (i := 909) (by decide +kernel)⟩
theorem lw_p37 : lw_okq (⟨"DewLoomsModel", "holds", "(I)I"⟩, 15) := ⟨⟨by decide +kernel, by decide +kernel⟩, List.mem_of_getElem? (i := 746) (by decide +kernel), List.mem_of_getElem? (i := 912) (by decide +kernel), List.mem_of_getElem? (i := 913) (by decide +kernel)⟩
theorem lw_p38 : lw_okq (⟨"DewLoomsModel", "sumOf", "(I)I"⟩, 15) := ⟨⟨by decide +kernel, by decide +kernel⟩, List.mem_of_getElem? (i := 746) (by decide +kernel), List.mem_of_getElem? (i := 916) (by decide +kernel), List.mem_of_getElem? (i := 917) (by decide +kernel)⟩
theorem lw_p39 : lw_okq (⟨"DewLoomsModel", "weeps", "(I)V"⟩, 15) := ⟨⟨by decide +kernel, by decide +kernel⟩, List.mem_of_getElem? (i := 746) (by decide +kernel), List.mem_of_getElem? (i := 932) (by decide +kernel), List.mem_of_getElem? (i := 933) (by decide +kernel)⟩
theorem lw_p40 : lw_okq (⟨"DewLoomsModel", "keepsAside", "()V"⟩, 15) := ⟨⟨by decide +kernel, by decide +kernel⟩, List.mem_of_getElem? (i := 746) (by decide +kernel), List.mem_of_getElem? (i := 948) (by decide +kernel), List.mem_of_getElem? (i := 949) (by decide +kernel)⟩
theorem lw_p41 : lw_okq (⟨"DewLoomsModel", "bringsBack", "()V"⟩, 15) := ⟨⟨by decide +kernel, by decide +kernel⟩, List.mem_of_getElem? (i := 746) (by decide +kernel), List.mem_of_getElem? (i := 952) (by decide +kernel), List.mem_of_getElem? (i := 953) (by decide +kernel)⟩
theorem lw_p42 : lw_okq (⟨"DewLoomsModel", "sells", "()V"⟩, 15) := ⟨⟨by decide +kernel, by decide +kernel⟩, List.mem_of_getElem? (i := 746) (by decide +kernel), List.mem_of_getElem? (i := 960) (by decide +kernel), List.mem_of_getElem? (i := 961) (by decide +kernel)⟩
theorem lw_p43 : lw_okq (⟨"DewLoomsModel", "yardsNow", "()I"⟩, 15) := ⟨⟨by decide +kernel, by decide +kernel⟩, List.mem_of_getElem? (i := 746) (by decide +kernel), List.mem_of_getElem? (i := 964) (by decide +kernel), List.mem_of_getElem? (i := 965) (by decide +kernel)⟩
theorem lw_p44 : lw_okq (⟨"DewLoomsModel", "placeOf", "(I)I"⟩, 15) := ⟨⟨by decide +kernel, by decide +kernel⟩, List.mem_of_getElem? (i := 746) (by decide +kernel), List.mem_of_getElem? (i := 972) (by decide +kernel), List.mem_of_getElem? (i := 973) (by decide +kernel)⟩
theorem lw_p45 : lw_okq (⟨"DewLoomsModel", "isSo", "(I)Z"⟩, 15) := ⟨⟨by decide +kernel, by decide +kernel⟩, List.mem_of_getElem? (i := 746) (by decide +kernel), List.mem_of_getElem? (i := 1003) (by decide +kernel), List.mem_of_getElem? (i := 1004) (by decide +kernel)⟩
theorem lw_p46 : lw_okq (⟨"DewLoomsModel", "turn", "(I)V"⟩, 15) := ⟨⟨by decide +kernel, by decide +kernel⟩, List.mem_of_getElem? (i := 746) (by decide +kernel), List.mem_of_getElem? (i := 1022) (by decide +kernel), List.mem_of_getElem? (i := 1023) (by decide +kernel)⟩
def lw_privs_3 : List (MethodName × Nat) := [(⟨"DewLoomsModel", "loomAt", "(I)I"⟩, 15), (⟨"DewLoomsModel", "keeps", "()V"⟩, 15), (⟨"DewLoomsModel", "hours", "(I)V"⟩, 15), (⟨"DewLoomsModel", "passes", "(II)V"⟩, 15), (⟨"DewLoomsModel", "settles", "(III)I"⟩, 15), (⟨"DewLoomsModel", "holds", "(I)I"⟩, 15), (⟨"DewLoomsModel", "sumOf", "(I)I"⟩, 15), (⟨"DewLoomsModel", "weeps", "(I)V"⟩, 15), (⟨"DewLoomsModel", "keepsAside", "()V"⟩, 15), (⟨"DewLoomsModel", "bringsBack", "()V"⟩, 15), (⟨"DewLoomsModel", "sells", "()V"⟩, 15), (⟨"DewLoomsModel", "yardsNow", "()I"⟩, 15), (⟨"DewLoomsModel", "placeOf", "(I)I"⟩, 15), (⟨"DewLoomsModel", "isSo", "(I)Z"⟩, 15), (⟨"DewLoomsModel", "turn", "(I)V"⟩, 15)]
theorem lw_r3 : ∀ q ∈ lw_privs_3, lw_okq q := List.forall_mem_cons.mpr ⟨lw_p32, List.forall_mem_cons.mpr ⟨lw_p33, List.forall_mem_cons.mpr ⟨lw_p34, List.forall_mem_cons.mpr ⟨lw_p35, List.forall_mem_cons.mpr ⟨lw_p36, List.forall_mem_cons.mpr ⟨lw_p37, List.forall_mem_cons.mpr ⟨lw_p38, List.forall_mem_cons.mpr ⟨lw_p39, List.forall_mem_cons.mpr ⟨lw_p40, List.forall_mem_cons.mpr ⟨lw_p41, List.forall_mem_cons.mpr ⟨lw_p42, List.forall_mem_cons.mpr ⟨lw_p43, List.forall_mem_cons.mpr ⟨lw_p44, List.forall_mem_cons.mpr ⟨lw_p45, List.forall_mem_cons.mpr ⟨lw_p46, fun _ h => absurd h List.not_mem_nil⟩⟩⟩⟩⟩⟩⟩⟩⟩⟩⟩⟩⟩⟩⟩
def lw_privs : List (MethodName × Nat) := lw_privs_1 ++ (lw_privs_2 ++ (lw_privs_3))
def lw_tbl : List Cond := k2_sels lw_privs ++ tables_1
theorem lw_privs_ok : ∀ q ∈ lw_privs, lw_okq q := by
  show ∀ q ∈ lw_privs_1 ++ (lw_privs_2 ++ (lw_privs_3)), lw_okq q
  exact List.forall_mem_append.mpr ⟨lw_r1, List.forall_mem_append.mpr ⟨lw_r2, lw_r3⟩⟩
end
section
/-! names, field tables: as printed for this claim -/
def RX0 : String := "DewLooms$Loom"
def TX0 : u_T := fun k => match k with
  | 0 => ("DewLooms$Loom", "kind", "I", false)
  | 1 => ("DewLooms$Loom", "place", "I", false)
  | 2 => ("DewLooms$Loom", "threads", "I", false)
  | 3 => ("DewLooms$Loom", "drops", "I", false)
  | 4 => ("DewLooms$Loom", "spoiled", "I", false)
  | 5 => ("DewLooms$Loom", "ranDown", "I", false)
  | _ => ("DewLooms$Loom", "shaded", "Z", false)
def tyX0 : Nat → FieldType := fun k => match k with
  | 0 => .int
  | 1 => .int
  | 2 => .int
  | 3 => .int
  | 4 => .int
  | 5 => .int
  | _ => .boolean
theorem nmX0 : ∀ a, a < 7 → ∀ b, b < 7 → a ≠ b → (TX0 a).2.1 ≠ (TX0 b).2.1 := by decide +kernel
theorem tyX0_ok : ∀ k, k < 7 → parseFieldDescriptor (TX0 k).2.2.1 = some (tyX0 k) := by decide +kernel
abbrev cX0_init : ByteArray := prog_2_method_1_code
def yX0_init : MethodName := ⟨RX0, "<init>", "()V"⟩
abbrev cX0_clear : ByteArray := prog_2_method_2_code
def yX0_clear : MethodName := ⟨RX0, "clear", "(III)V"⟩
abbrev cX0_copy : ByteArray := prog_2_method_3_code
def yX0_copy : MethodName := ⟨RX0, "copy", "(LDewLooms$Loom;)V"⟩
abbrev cX0_tell : ByteArray := prog_2_method_4_code
def yX0_tell : MethodName := ⟨RX0, "tell", "(I)I"⟩
abbrev cX0_holds : ByteArray := prog_2_method_5_code
def yX0_holds : MethodName := ⟨RX0, "holds", "()I"⟩
abbrev cX0_turnShade : ByteArray := prog_2_method_6_code
def yX0_turnShade : MethodName := ⟨RX0, "turnShade", "()V"⟩
abbrev cX0_feelCow : ByteArray := prog_2_method_7_code
def yX0_feelCow : MethodName := ⟨RX0, "feelCow", "()V"⟩
abbrev cX0_takeTears : ByteArray := prog_2_method_8_code
def yX0_takeTears : MethodName := ⟨RX0, "takeTears", "()V"⟩
abbrev cX0_gather : ByteArray := prog_2_method_9_code
def yX0_gather : MethodName := ⟨RX0, "gather", "(III)V"⟩
abbrev cX0_settling : ByteArray := prog_2_method_10_code
def yX0_settling : MethodName := ⟨RX0, "settling", "(II)I"⟩
abbrev cX0_dry : ByteArray := prog_2_method_11_code
def yX0_dry : MethodName := ⟨RX0, "dry", "()V"⟩
def RX1 : String := "DewLooms$Night"
def TX1 : u_T := fun k => match k with
  | 0 => ("DewLooms$Night", "start", "LDewLooms$Slope;", true)
  | 1 => ("DewLooms$Night", "colds", "[I", true)
  | 2 => ("DewLooms$Night", "mists", "[I", true)
  | 3 => ("DewLooms$Night", "hoursTold", "I", false)
  | 4 => ("DewLooms$Night", "sun", "I", false)
  | 5 => ("DewLooms$Night", "merchants", "I", false)
  | _ => ("DewLooms$Night", "yard", "I", false)
def tyX1 : Nat → FieldType := fun k => match k with
  | 0 => .object "DewLooms$Slope"
  | 1 => .array .int
  | 2 => .array .int
  | 3 => .int
  | 4 => .int
  | 5 => .int
  | _ => .int
theorem nmX1 : ∀ a, a < 7 → ∀ b, b < 7 → a ≠ b → (TX1 a).2.1 ≠ (TX1 b).2.1 := by decide +kernel
theorem tyX1_ok : ∀ k, k < 7 → parseFieldDescriptor (TX1 k).2.2.1 = some (tyX1 k) := by decide +kernel
abbrev cX1_init : ByteArray := prog_3_method_1_code
def yX1_init : MethodName := ⟨RX1, "<init>", "()V"⟩
abbrev cX1_clear : ByteArray := prog_3_method_2_code
def yX1_clear : MethodName := ⟨RX1, "clear", "()V"⟩
abbrev cX1_addHour : ByteArray := prog_3_method_3_code
def yX1_addHour : MethodName := ⟨RX1, "addHour", "(II)Z"⟩
abbrev cX1_tellSun : ByteArray := prog_3_method_4_code
def yX1_tellSun : MethodName := ⟨RX1, "tellSun", "(I)Z"⟩
abbrev cX1_tellMerchants : ByteArray := prog_3_method_5_code
def yX1_tellMerchants : MethodName := ⟨RX1, "tellMerchants", "(I)Z"⟩
abbrev cX1_tellYard : ByteArray := prog_3_method_6_code
def yX1_tellYard : MethodName := ⟨RX1, "tellYard", "(I)Z"⟩
abbrev cX1_coldOf : ByteArray := prog_3_method_7_code
def yX1_coldOf : MethodName := ⟨RX1, "coldOf", "(I)I"⟩
abbrev cX1_mistOf : ByteArray := prog_3_method_8_code
def yX1_mistOf : MethodName := ⟨RX1, "mistOf", "(I)I"⟩
abbrev cX1_ofHour : ByteArray := prog_3_method_9_code
def yX1_ofHour : MethodName := ⟨RX1, "ofHour", "([III)I"⟩
abbrev cX1_goBy : ByteArray := prog_3_method_10_code
def yX1_goBy : MethodName := ⟨RX1, "goBy", "(LDewLooms$Slope;I)V"⟩
abbrev cX1_goByOne : ByteArray := prog_3_method_11_code
def yX1_goByOne : MethodName := ⟨RX1, "goByOne", "(LDewLooms$Slope;II)V"⟩
def RX2 : String := "DewLooms$Pile"
def TX2 : u_T := fun k => match k with
  | 0 => ("DewLooms$Pile", "slopes", "[LDewLooms$Slope;", true)
  | _ => ("DewLooms$Pile", "many", "I", false)
def tyX2 : Nat → FieldType := fun k => match k with
  | 0 => .array (.object "DewLooms$Slope")
  | _ => .int
theorem nmX2 : ∀ a, a < 2 → ∀ b, b < 2 → a ≠ b → (TX2 a).2.1 ≠ (TX2 b).2.1 := by decide +kernel
theorem tyX2_ok : ∀ k, k < 2 → parseFieldDescriptor (TX2 k).2.2.1 = some (tyX2 k) := by decide +kernel
abbrev cX2_init : ByteArray := prog_4_method_1_code
def yX2_init : MethodName := ⟨RX2, "<init>", "(I)V"⟩
abbrev cX2_clear : ByteArray := prog_4_method_2_code
def yX2_clear : MethodName := ⟨RX2, "clear", "()V"⟩
abbrev cX2_isFull : ByteArray := prog_4_method_3_code
def yX2_isFull : MethodName := ⟨RX2, "isFull", "()Z"⟩
abbrev cX2_put : ByteArray := prog_4_method_4_code
def yX2_put : MethodName := ⟨RX2, "put", "(LDewLooms$Slope;)V"⟩
abbrev cX2_loseOldest : ByteArray := prog_4_method_5_code
def yX2_loseOldest : MethodName := ⟨RX2, "loseOldest", "()V"⟩
abbrev cX2_takeInto : ByteArray := prog_4_method_6_code
def yX2_takeInto : MethodName := ⟨RX2, "takeInto", "(LDewLooms$Slope;)V"⟩
def RX3 : String := "DewLooms$Reader"
def TX3 : u_T := fun k => match k with
  | 0 => ("DewLooms$Reader", "numbers", "[I", true)
  | _ => ("DewLooms$Reader", "place", "I", false)
def tyX3 : Nat → FieldType := fun k => match k with
  | 0 => .array .int
  | _ => .int
theorem nmX3 : ∀ a, a < 2 → ∀ b, b < 2 → a ≠ b → (TX3 a).2.1 ≠ (TX3 b).2.1 := by decide +kernel
theorem tyX3_ok : ∀ k, k < 2 → parseFieldDescriptor (TX3 k).2.2.1 = some (tyX3 k) := by decide +kernel
abbrev cX3_init : ByteArray := prog_5_method_1_code
def yX3_init : MethodName := ⟨RX3, "<init>", "()V"⟩
abbrev cX3_read : ByteArray := prog_5_method_2_code
def yX3_read : MethodName := ⟨RX3, "read", "(LDewLooms$Text;LDewLooms$Night;)I"⟩
abbrev cX3_numbersBehind : ByteArray := prog_5_method_3_code
def yX3_numbersBehind : MethodName := ⟨RX3, "numbersBehind", "(I)I"⟩
abbrev cX3_readNumbers : ByteArray := prog_5_method_4_code
def yX3_readNumbers : MethodName := ⟨RX3, "readNumbers", "(LDewLooms$Text;I)Z"⟩
abbrev cX3_readNumber : ByteArray := prog_5_method_5_code
def yX3_readNumber : MethodName := ⟨RX3, "readNumber", "(LDewLooms$Text;)I"⟩
abbrev cX3_isFigure : ByteArray := prog_5_method_6_code
def yX3_isFigure : MethodName := ⟨RX3, "isFigure", "(I)Z"⟩
abbrev cX3_tellNight : ByteArray := prog_5_method_7_code
def yX3_tellNight : MethodName := ⟨RX3, "tellNight", "(LDewLooms$Night;I)Z"⟩
def RX4 : String := "DewLooms$Sights"
def TX4 : u_T := fun k => match k with
  | 0 => ("DewLooms$Sights", "looms", "[I", true)
  | 1 => ("DewLooms$Sights", "drops", "[I", true)
  | 2 => ("DewLooms$Sights", "hours", "[I", true)
  | _ => ("DewLooms$Sights", "many", "I", false)
def tyX4 : Nat → FieldType := fun k => match k with
  | 0 => .array .int
  | 1 => .array .int
  | 2 => .array .int
  | _ => .int
theorem nmX4 : ∀ a, a < 4 → ∀ b, b < 4 → a ≠ b → (TX4 a).2.1 ≠ (TX4 b).2.1 := by decide +kernel
theorem tyX4_ok : ∀ k, k < 4 → parseFieldDescriptor (TX4 k).2.2.1 = some (tyX4 k) := by decide +kernel
abbrev cX4_init : ByteArray := prog_6_method_1_code
def yX4_init : MethodName := ⟨RX4, "<init>", "()V"⟩
abbrev cX4_clear : ByteArray := prog_6_method_2_code
def yX4_clear : MethodName := ⟨RX4, "clear", "()V"⟩
abbrev cX4_isFull : ByteArray := prog_6_method_3_code
def yX4_isFull : MethodName := ⟨RX4, "isFull", "()Z"⟩
abbrev cX4_put : ByteArray := prog_6_method_4_code
def yX4_put : MethodName := ⟨RX4, "put", "(III)V"⟩
abbrev cX4_isSo : ByteArray := prog_6_method_5_code
def yX4_isSo : MethodName := ⟨RX4, "isSo", "(LDewLooms$Slope;I)Z"⟩
def RX5 : String := "DewLooms$Slope"
def TX5 : u_T := fun k => match k with
  | 0 => ("DewLooms$Slope", "looms", "[LDewLooms$Loom;", true)
  | 1 => ("DewLooms$Slope", "fromAbove", "[I", true)
  | 2 => ("DewLooms$Slope", "many", "I", false)
  | 3 => ("DewLooms$Slope", "hour", "I", false)
  | _ => ("DewLooms$Slope", "ranOff", "I", false)
def tyX5 : Nat → FieldType := fun k => match k with
  | 0 => .array (.object "DewLooms$Loom")
  | 1 => .array .int
  | 2 => .int
  | 3 => .int
  | _ => .int
theorem nmX5 : ∀ a, a < 5 → ∀ b, b < 5 → a ≠ b → (TX5 a).2.1 ≠ (TX5 b).2.1 := by decide +kernel
theorem tyX5_ok : ∀ k, k < 5 → parseFieldDescriptor (TX5 k).2.2.1 = some (tyX5 k) := by decide +kernel
abbrev cX5_init : ByteArray := prog_7_method_1_code
def yX5_init : MethodName := ⟨RX5, "<init>", "()V"⟩
abbrev cX5_clear : ByteArray := prog_7_method_2_code
def yX5_clear : MethodName := ⟨RX5, "clear", "()V"⟩
abbrev cX5_copy : ByteArray := prog_7_method_3_code
def yX5_copy : MethodName := ⟨RX5, "copy", "(LDewLooms$Slope;)V"⟩
abbrev cX5_addLoom : ByteArray := prog_7_method_4_code
def yX5_addLoom : MethodName := ⟨RX5, "addLoom", "(III)Z"⟩
abbrev cX5_pick : ByteArray := prog_7_method_5_code
def yX5_pick : MethodName := ⟨RX5, "pick", "(I)LDewLooms$Loom;"⟩
abbrev cX5_loomOn : ByteArray := prog_7_method_6_code
def yX5_loomOn : MethodName := ⟨RX5, "loomOn", "(I)I"⟩
abbrev cX5_rank : ByteArray := prog_7_method_7_code
def yX5_rank : MethodName := ⟨RX5, "rank", "()V"⟩
abbrev cX5_nextAbove : ByteArray := prog_7_method_8_code
def yX5_nextAbove : MethodName := ⟨RX5, "nextAbove", "(I)I"⟩
abbrev cX5_gather : ByteArray := prog_7_method_9_code
def yX5_gather : MethodName := ⟨RX5, "gather", "(II)V"⟩
abbrev cX5_dry : ByteArray := prog_7_method_10_code
def yX5_dry : MethodName := ⟨RX5, "dry", "()V"⟩
abbrev cX5_allDrops : ByteArray := prog_7_method_11_code
def yX5_allDrops : MethodName := ⟨RX5, "allDrops", "()I"⟩
abbrev cX5_allSpoiled : ByteArray := prog_7_method_12_code
def yX5_allSpoiled : MethodName := ⟨RX5, "allSpoiled", "()I"⟩
abbrev cX5_shades : ByteArray := prog_7_method_13_code
def yX5_shades : MethodName := ⟨RX5, "shades", "()I"⟩
abbrev cX5_yardBits : ByteArray := prog_7_method_14_code
def yX5_yardBits : MethodName := ⟨RX5, "yardBits", "(I)I"⟩
def RX6 : String := "DewLooms$Text"
def TX6 : u_T := fun k => match k with
  | 0 => ("DewLooms$Text", "letters", "[C", true)
  | _ => ("DewLooms$Text", "many", "I", false)
def tyX6 : Nat → FieldType := fun k => match k with
  | 0 => .array .char
  | _ => .int
theorem nmX6 : ∀ a, a < 2 → ∀ b, b < 2 → a ≠ b → (TX6 a).2.1 ≠ (TX6 b).2.1 := by decide +kernel
theorem tyX6_ok : ∀ k, k < 2 → parseFieldDescriptor (TX6 k).2.2.1 = some (tyX6 k) := by decide +kernel
abbrev cX6_init : ByteArray := prog_8_method_1_code
def yX6_init : MethodName := ⟨RX6, "<init>", "()V"⟩
abbrev cX6_clear : ByteArray := prog_8_method_2_code
def yX6_clear : MethodName := ⟨RX6, "clear", "()V"⟩
abbrev cX6_isFull : ByteArray := prog_8_method_3_code
def yX6_isFull : MethodName := ⟨RX6, "isFull", "()Z"⟩
abbrev cX6_append : ByteArray := prog_8_method_4_code
def yX6_append : MethodName := ⟨RX6, "append", "(C)V"⟩
abbrev cX6_letterOn : ByteArray := prog_8_method_5_code
def yX6_letterOn : MethodName := ⟨RX6, "letterOn", "(I)I"⟩
def RX7 : String := "DewLooms$Ways"
def TX7 : u_T := fun k => match k with
  | 0 => ("DewLooms$Ways", "places", "[I", true)
  | 1 => ("DewLooms$Ways", "bestPlaces", "[I", true)
  | 2 => ("DewLooms$Ways", "many", "I", false)
  | _ => ("DewLooms$Ways", "bestYards", "I", false)
def tyX7 : Nat → FieldType := fun k => match k with
  | 0 => .array .int
  | 1 => .array .int
  | 2 => .int
  | _ => .int
theorem nmX7 : ∀ a, a < 4 → ∀ b, b < 4 → a ≠ b → (TX7 a).2.1 ≠ (TX7 b).2.1 := by decide +kernel
theorem tyX7_ok : ∀ k, k < 4 → parseFieldDescriptor (TX7 k).2.2.1 = some (tyX7 k) := by decide +kernel
abbrev cX7_init : ByteArray := prog_9_method_1_code
def yX7_init : MethodName := ⟨RX7, "<init>", "()V"⟩
abbrev cX7_begin : ByteArray := prog_9_method_2_code
def yX7_begin : MethodName := ⟨RX7, "begin", "(LDewLooms$Slope;)V"⟩
abbrev cX7_applyTo : ByteArray := prog_9_method_3_code
def yX7_applyTo : MethodName := ⟨RX7, "applyTo", "(LDewLooms$Slope;)V"⟩
abbrev cX7_weigh : ByteArray := prog_9_method_4_code
def yX7_weigh : MethodName := ⟨RX7, "weigh", "(I)V"⟩
abbrev cX7_isFound : ByteArray := prog_9_method_5_code
def yX7_isFound : MethodName := ⟨RX7, "isFound", "()Z"⟩
abbrev cX7_bestPlace : ByteArray := prog_9_method_6_code
def yX7_bestPlace : MethodName := ⟨RX7, "bestPlace", "(I)I"⟩
abbrev cX7_goOn : ByteArray := prog_9_method_7_code
def yX7_goOn : MethodName := ⟨RX7, "goOn", "()Z"⟩
abbrev cX7_leastAbove : ByteArray := prog_9_method_8_code
def yX7_leastAbove : MethodName := ⟨RX7, "leastAbove", "(I)I"⟩
abbrev cX7_turnBehind : ByteArray := prog_9_method_9_code
def yX7_turnBehind : MethodName := ⟨RX7, "turnBehind", "(I)V"⟩
abbrev cX7_swap : ByteArray := prog_9_method_10_code
def yX7_swap : MethodName := ⟨RX7, "swap", "(II)V"⟩
def RX8 : String := "DewLooms"
def TX8 : u_T := fun k => match k with
  | 0 => ("DewLooms", "text", "LDewLooms$Text;", true)
  | 1 => ("DewLooms", "reader", "LDewLooms$Reader;", true)
  | 2 => ("DewLooms", "now", "LDewLooms$Slope;", true)
  | 3 => ("DewLooms", "trial", "LDewLooms$Slope;", true)
  | 4 => ("DewLooms", "acts", "LDewLooms$Pile;", true)
  | 5 => ("DewLooms", "kept", "LDewLooms$Pile;", true)
  | 6 => ("DewLooms", "sights", "LDewLooms$Sights;", true)
  | 7 => ("DewLooms", "ways", "LDewLooms$Ways;", true)
  | 8 => ("DewLooms", "night", "LDewLooms$Night;", false)
  | _ => ("DewLooms", "draft", "LDewLooms$Night;", false)
def tyX8 : Nat → FieldType := fun k => match k with
  | 0 => .object "DewLooms$Text"
  | 1 => .object "DewLooms$Reader"
  | 2 => .object "DewLooms$Slope"
  | 3 => .object "DewLooms$Slope"
  | 4 => .object "DewLooms$Pile"
  | 5 => .object "DewLooms$Pile"
  | 6 => .object "DewLooms$Sights"
  | 7 => .object "DewLooms$Ways"
  | 8 => .object "DewLooms$Night"
  | _ => .object "DewLooms$Night"
theorem nmX8 : ∀ a, a < 10 → ∀ b, b < 10 → a ≠ b → (TX8 a).2.1 ≠ (TX8 b).2.1 := by decide +kernel
theorem tyX8_ok : ∀ k, k < 10 → parseFieldDescriptor (TX8 k).2.2.1 = some (tyX8 k) := by decide +kernel
abbrev cX8_init : ByteArray := prog_1_method_1_code
def yX8_init : MethodName := ⟨RX8, "<init>", "()V"⟩
abbrev cX8_write : ByteArray := prog_1_method_2_code
def yX8_write : MethodName := ⟨RX8, "write", "(I)I"⟩
abbrev cX8_wipe : ByteArray := prog_1_method_3_code
def yX8_wipe : MethodName := ⟨RX8, "wipe", "()I"⟩
abbrev cX8_fault : ByteArray := prog_1_method_4_code
def yX8_fault : MethodName := ⟨RX8, "fault", "()I"⟩
abbrev cX8_lay : ByteArray := prog_1_method_5_code
def yX8_lay : MethodName := ⟨RX8, "lay", "()I"⟩
abbrev cX8_loom : ByteArray := prog_1_method_6_code
def yX8_loom : MethodName := ⟨RX8, "loom", "(II)I"⟩
abbrev cX8_hour : ByteArray := prog_1_method_7_code
def yX8_hour : MethodName := ⟨RX8, "hour", "(II)I"⟩
abbrev cX8_at : ByteArray := prog_1_method_8_code
def yX8_at : MethodName := ⟨RX8, "at", "(I)I"⟩
abbrev cX8_pass : ByteArray := prog_1_method_9_code
def yX8_pass : MethodName := ⟨RX8, "pass", "(I)I"⟩
abbrev cX8_shade : ByteArray := prog_1_method_10_code
def yX8_shade : MethodName := ⟨RX8, "shade", "(I)I"⟩
abbrev cX8_cow : ByteArray := prog_1_method_11_code
def yX8_cow : MethodName := ⟨RX8, "cow", "(I)I"⟩
abbrev cX8_tears : ByteArray := prog_1_method_12_code
def yX8_tears : MethodName := ⟨RX8, "tears", "(I)I"⟩
abbrev cX8_set : ByteArray := prog_1_method_13_code
def yX8_set : MethodName := ⟨RX8, "set", "(II)I"⟩
abbrev cX8_undo : ByteArray := prog_1_method_14_code
def yX8_undo : MethodName := ⟨RX8, "undo", "()I"⟩
abbrev cX8_behind : ByteArray := prog_1_method_15_code
def yX8_behind : MethodName := ⟨RX8, "behind", "(III)I"⟩
abbrev cX8_yards : ByteArray := prog_1_method_16_code
def yX8_yards : MethodName := ⟨RX8, "yards", "()I"⟩
abbrev cX8_setting : ByteArray := prog_1_method_17_code
def yX8_setting : MethodName := ⟨RX8, "setting", "(I)I"⟩
abbrev cX8_shading : ByteArray := prog_1_method_18_code
def yX8_shading : MethodName := ⟨RX8, "shading", "(I)I"⟩
abbrev cX8_wants : ByteArray := prog_1_method_19_code
def yX8_wants : MethodName := ⟨RX8, "wants", "(I)I"⟩
abbrev cX8_drips : ByteArray := prog_1_method_20_code
def yX8_drips : MethodName := ⟨RX8, "drips", "(I)I"⟩
abbrev cX8_seen : ByteArray := prog_1_method_21_code
def yX8_seen : MethodName := ⟨RX8, "seen", "(III)I"⟩
abbrev cX8_forget : ByteArray := prog_1_method_22_code
def yX8_forget : MethodName := ⟨RX8, "forget", "()I"⟩
abbrev cX8_cows : ByteArray := prog_1_method_23_code
def yX8_cows : MethodName := ⟨RX8, "cows", "()I"⟩
abbrev cX8_colds : ByteArray := prog_1_method_24_code
def yX8_colds : MethodName := ⟨RX8, "colds", "()I"⟩
abbrev cX8_likely : ByteArray := prog_1_method_25_code
def yX8_likely : MethodName := ⟨RX8, "likely", "(IIII)I"⟩
abbrev cX8_year : ByteArray := prog_1_method_26_code
def yX8_year : MethodName := ⟨RX8, "year", "(III)I"⟩
abbrev cX8_keep : ByteArray := prog_1_method_27_code
def yX8_keep : MethodName := ⟨RX8, "keep", "()I"⟩
abbrev cX8_back : ByteArray := prog_1_method_28_code
def yX8_back : MethodName := ⟨RX8, "back", "()I"⟩
abbrev cX8_count : ByteArray := prog_1_method_29_code
def yX8_count : MethodName := ⟨RX8, "count", "(I)I"⟩
abbrev cX8_layText : ByteArray := prog_1_method_30_code
def yX8_layText : MethodName := ⟨RX8, "layText", "()I"⟩
abbrev cX8_isNoLoom : ByteArray := prog_1_method_31_code
def yX8_isNoLoom : MethodName := ⟨RX8, "isNoLoom", "(I)Z"⟩
abbrev cX8_isNoPlace : ByteArray := prog_1_method_32_code
def yX8_isNoPlace : MethodName := ⟨RX8, "isNoPlace", "(I)Z"⟩
abbrev cX8_isOutside : ByteArray := prog_1_method_33_code
def yX8_isOutside : MethodName := ⟨RX8, "isOutside", "(III)Z"⟩
abbrev cX8_hasBit : ByteArray := prog_1_method_34_code
def yX8_hasBit : MethodName := ⟨RX8, "hasBit", "(II)Z"⟩
abbrev cX8_yardsOfTrial : ByteArray := prog_1_method_35_code
def yX8_yardsOfTrial : MethodName := ⟨RX8, "yardsOfTrial", "()I"⟩
abbrev cX8_hoursTillMerchants : ByteArray := prog_1_method_36_code
def yX8_hoursTillMerchants : MethodName := ⟨RX8, "hoursTillMerchants", "()I"⟩
abbrev cX8_shadeTrial : ByteArray := prog_1_method_37_code
def yX8_shadeTrial : MethodName := ⟨RX8, "shadeTrial", "(I)V"⟩
abbrev cX8_ownNextCold : ByteArray := prog_1_method_38_code
def yX8_ownNextCold : MethodName := ⟨RX8, "ownNextCold", "()I"⟩
abbrev cX8_isAllSeenSo : ByteArray := prog_1_method_39_code
def yX8_isAllSeenSo : MethodName := ⟨RX8, "isAllSeenSo", "(I)Z"⟩
abbrev cX8_chancesOfYard : ByteArray := prog_1_method_40_code
def yX8_chancesOfYard : MethodName := ⟨RX8, "chancesOfYard", "(III)I"⟩
abbrev cX8_power : ByteArray := prog_1_method_41_code
def yX8_power : MethodName := ⟨RX8, "power", "(II)I"⟩
abbrev cX8_sharedPower : ByteArray := prog_1_method_42_code
def yX8_sharedPower : MethodName := ⟨RX8, "sharedPower", "(III)I"⟩
abbrev cX8_draw : ByteArray := prog_1_method_43_code
def yX8_draw : MethodName := ⟨RX8, "draw", "(II)I"⟩
abbrev cX8_actByDraw : ByteArray := prog_1_method_44_code
def yX8_actByDraw : MethodName := ⟨RX8, "actByDraw", "(I)V"⟩
def RX9 : String := "DewLoomsModel"
def TX9 : u_T := fun k => match k with
  | 0 => ("DewLoomsModel", "text", "[I", true)
  | 1 => ("DewLoomsModel", "typed", "I", false)
  | 2 => ("DewLoomsModel", "told", "[I", true)
  | 3 => ("DewLoomsModel", "draft", "[I", true)
  | 4 => ("DewLoomsModel", "begun", "[I", true)
  | 5 => ("DewLoomsModel", "s", "[I", true)
  | 6 => ("DewLoomsModel", "past", "[I", true)
  | 7 => ("DewLoomsModel", "known", "I", false)
  | 8 => ("DewLoomsModel", "images", "[I", true)
  | 9 => ("DewLoomsModel", "kept", "I", false)
  | 10 => ("DewLoomsModel", "notes", "[I", true)
  | 11 => ("DewLoomsModel", "noted", "I", false)
  | 12 => ("DewLoomsModel", "at", "I", false)
  | 13 => ("DewLoomsModel", "drips", "[I", true)
  | _ => ("DewLoomsModel", "held", "[I", true)
def tyX9 : Nat → FieldType := fun k => match k with
  | 0 => .array .int
  | 1 => .int
  | 2 => .array .int
  | 3 => .array .int
  | 4 => .array .int
  | 5 => .array .int
  | 6 => .array .int
  | 7 => .int
  | 8 => .array .int
  | 9 => .int
  | 10 => .array .int
  | 11 => .int
  | 12 => .int
  | 13 => .array .int
  | _ => .array .int
theorem nmX9 : ∀ a, a < 15 → ∀ b, b < 15 → a ≠ b → (TX9 a).2.1 ≠ (TX9 b).2.1 := by decide +kernel
theorem tyX9_ok : ∀ k, k < 15 → parseFieldDescriptor (TX9 k).2.2.1 = some (tyX9 k) := by decide +kernel
abbrev cX9_init : ByteArray := prog_11_method_1_code
def yX9_init : MethodName := ⟨RX9, "<init>", "()V"⟩
abbrev cX9_in : ByteArray := prog_11_method_3_code
def yX9_in : MethodName := ⟨RX9, "in", "(III)Z"⟩
abbrev cX9_isLoom : ByteArray := prog_11_method_4_code
def yX9_isLoom : MethodName := ⟨RX9, "isLoom", "(I)Z"⟩
abbrev cX9_write : ByteArray := prog_11_method_5_code
def yX9_write : MethodName := ⟨RX9, "write", "(I)I"⟩
abbrev cX9_wipe : ByteArray := prog_11_method_6_code
def yX9_wipe : MethodName := ⟨RX9, "wipe", "()I"⟩
abbrev cX9_letterAt : ByteArray := prog_11_method_7_code
def yX9_letterAt : MethodName := ⟨RX9, "letterAt", "(I)I"⟩
abbrev cX9_isFigure : ByteArray := prog_11_method_8_code
def yX9_isFigure : MethodName := ⟨RX9, "isFigure", "(I)Z"⟩
abbrev cX9_number : ByteArray := prog_11_method_9_code
def yX9_number : MethodName := ⟨RX9, "number", "(III)I"⟩
abbrev cX9_begins : ByteArray := prog_11_method_10_code
def yX9_begins : MethodName := ⟨RX9, "begins", "()V"⟩
abbrev cX9_loomOf : ByteArray := prog_11_method_11_code
def yX9_loomOf : MethodName := ⟨RX9, "loomOf", "(III)V"⟩
abbrev cX9_hourOf : ByteArray := prog_11_method_12_code
def yX9_hourOf : MethodName := ⟨RX9, "hourOf", "(II)V"⟩
abbrev cX9_one : ByteArray := prog_11_method_13_code
def yX9_one : MethodName := ⟨RX9, "one", "(III)Z"⟩
abbrev cX9_readsLoom : ByteArray := prog_11_method_14_code
def yX9_readsLoom : MethodName := ⟨RX9, "readsLoom", "()Z"⟩
abbrev cX9_readsItem : ByteArray := prog_11_method_15_code
def yX9_readsItem : MethodName := ⟨RX9, "readsItem", "(I)Z"⟩
abbrev cX9_readsAll : ByteArray := prog_11_method_16_code
def yX9_readsAll : MethodName := ⟨RX9, "readsAll", "()I"⟩
abbrev cX9_fault : ByteArray := prog_11_method_17_code
def yX9_fault : MethodName := ⟨RX9, "fault", "()I"⟩
abbrev cX9_lays : ByteArray := prog_11_method_18_code
def yX9_lays : MethodName := ⟨RX9, "lays", "()V"⟩
abbrev cX9_lay : ByteArray := prog_11_method_19_code
def yX9_lay : MethodName := ⟨RX9, "lay", "()I"⟩
abbrev cX9_loom : ByteArray := prog_11_method_20_code
def yX9_loom : MethodName := ⟨RX9, "loom", "(II)I"⟩
abbrev cX9_nth : ByteArray := prog_11_method_21_code
def yX9_nth : MethodName := ⟨RX9, "nth", "(I)I"⟩
abbrev cX9_coldOf : ByteArray := prog_11_method_22_code
def yX9_coldOf : MethodName := ⟨RX9, "coldOf", "(I)I"⟩
abbrev cX9_mistOf : ByteArray := prog_11_method_23_code
def yX9_mistOf : MethodName := ⟨RX9, "mistOf", "(I)I"⟩
abbrev cX9_hour : ByteArray := prog_11_method_24_code
def yX9_hour : MethodName := ⟨RX9, "hour", "(II)I"⟩
abbrev cX9_loomAt : ByteArray := prog_11_method_25_code
def yX9_loomAt : MethodName := ⟨RX9, "loomAt", "(I)I"⟩
abbrev cX9_at : ByteArray := prog_11_method_26_code
def yX9_at : MethodName := ⟨RX9, "at", "(I)I"⟩
abbrev cX9_keeps : ByteArray := prog_11_method_27_code
def yX9_keeps : MethodName := ⟨RX9, "keeps", "()V"⟩
abbrev cX9_holds : ByteArray := prog_11_method_28_code
def yX9_holds : MethodName := ⟨RX9, "holds", "(I)I"⟩
abbrev cX9_settles : ByteArray := prog_11_method_29_code
def yX9_settles : MethodName := ⟨RX9, "settles", "(III)I"⟩
abbrev cX9_passes : ByteArray := prog_11_method_30_code
def yX9_passes : MethodName := ⟨RX9, "passes", "(II)V"⟩
abbrev cX9_hours : ByteArray := prog_11_method_31_code
def yX9_hours : MethodName := ⟨RX9, "hours", "(I)V"⟩
abbrev cX9_sumOf : ByteArray := prog_11_method_32_code
def yX9_sumOf : MethodName := ⟨RX9, "sumOf", "(I)I"⟩
abbrev cX9_pass : ByteArray := prog_11_method_33_code
def yX9_pass : MethodName := ⟨RX9, "pass", "(I)I"⟩
abbrev cX9_shade : ByteArray := prog_11_method_34_code
def yX9_shade : MethodName := ⟨RX9, "shade", "(I)I"⟩
abbrev cX9_cow : ByteArray := prog_11_method_35_code
def yX9_cow : MethodName := ⟨RX9, "cow", "(I)I"⟩
abbrev cX9_weeps : ByteArray := prog_11_method_36_code
def yX9_weeps : MethodName := ⟨RX9, "weeps", "(I)V"⟩
abbrev cX9_tears : ByteArray := prog_11_method_37_code
def yX9_tears : MethodName := ⟨RX9, "tears", "(I)I"⟩
abbrev cX9_set : ByteArray := prog_11_method_38_code
def yX9_set : MethodName := ⟨RX9, "set", "(II)I"⟩
abbrev cX9_undo : ByteArray := prog_11_method_39_code
def yX9_undo : MethodName := ⟨RX9, "undo", "()I"⟩
abbrev cX9_keepsAside : ByteArray := prog_11_method_40_code
def yX9_keepsAside : MethodName := ⟨RX9, "keepsAside", "()V"⟩
abbrev cX9_bringsBack : ByteArray := prog_11_method_41_code
def yX9_bringsBack : MethodName := ⟨RX9, "bringsBack", "()V"⟩
abbrev cX9_behind : ByteArray := prog_11_method_42_code
def yX9_behind : MethodName := ⟨RX9, "behind", "(III)I"⟩
abbrev cX9_yardsNow : ByteArray := prog_11_method_43_code
def yX9_yardsNow : MethodName := ⟨RX9, "yardsNow", "()I"⟩
abbrev cX9_ones : ByteArray := prog_11_method_44_code
def yX9_ones : MethodName := ⟨RX9, "ones", "(I)I"⟩
abbrev cX9_sells : ByteArray := prog_11_method_45_code
def yX9_sells : MethodName := ⟨RX9, "sells", "()V"⟩
abbrev cX9_yards : ByteArray := prog_11_method_46_code
def yX9_yards : MethodName := ⟨RX9, "yards", "()I"⟩
abbrev cX9_placeOf : ByteArray := prog_11_method_47_code
def yX9_placeOf : MethodName := ⟨RX9, "placeOf", "(I)I"⟩
abbrev cX9_setting : ByteArray := prog_11_method_48_code
def yX9_setting : MethodName := ⟨RX9, "setting", "(I)I"⟩
abbrev cX9_shading : ByteArray := prog_11_method_49_code
def yX9_shading : MethodName := ⟨RX9, "shading", "(I)I"⟩
abbrev cX9_wants : ByteArray := prog_11_method_50_code
def yX9_wants : MethodName := ⟨RX9, "wants", "(I)I"⟩
abbrev cX9_drips : ByteArray := prog_11_method_51_code
def yX9_drips : MethodName := ⟨RX9, "drips", "(I)I"⟩
abbrev cX9_seen : ByteArray := prog_11_method_52_code
def yX9_seen : MethodName := ⟨RX9, "seen", "(III)I"⟩
abbrev cX9_forget : ByteArray := prog_11_method_53_code
def yX9_forget : MethodName := ⟨RX9, "forget", "()I"⟩
abbrev cX9_isSo : ByteArray := prog_11_method_54_code
def yX9_isSo : MethodName := ⟨RX9, "isSo", "(I)Z"⟩
abbrev cX9_cows : ByteArray := prog_11_method_55_code
def yX9_cows : MethodName := ⟨RX9, "cows", "()I"⟩
abbrev cX9_colds : ByteArray := prog_11_method_56_code
def yX9_colds : MethodName := ⟨RX9, "colds", "()I"⟩
abbrev cX9_likely : ByteArray := prog_11_method_57_code
def yX9_likely : MethodName := ⟨RX9, "likely", "(IIII)I"⟩
abbrev cX9_turn : ByteArray := prog_11_method_58_code
def yX9_turn : MethodName := ⟨RX9, "turn", "(I)V"⟩
abbrev cX9_year : ByteArray := prog_11_method_59_code
def yX9_year : MethodName := ⟨RX9, "year", "(III)I"⟩
abbrev cX9_keep : ByteArray := prog_11_method_60_code
def yX9_keep : MethodName := ⟨RX9, "keep", "()I"⟩
abbrev cX9_back : ByteArray := prog_11_method_61_code
def yX9_back : MethodName := ⟨RX9, "back", "()I"⟩
abbrev cX9_count : ByteArray := prog_11_method_62_code
def yX9_count : MethodName := ⟨RX9, "count", "(I)I"⟩
def RJ6 : String := "java/lang/Integer"
def TJ6 : u_T := fun k => match k with
  | _ => ("", "", "", false)
def tyJ6 : Nat → FieldType := fun k => match k with
  | _ => .int
theorem nmJ6 : ∀ a, a < 0 → ∀ b, b < 0 → a ≠ b → (TJ6 a).2.1 ≠ (TJ6 b).2.1 := by decide +kernel
theorem tyJ6_ok : ∀ k, k < 0 → parseFieldDescriptor (TJ6 k).2.2.1 = some (tyJ6 k) := by decide +kernel
abbrev cJ6_bitCount_0f7a4 : ByteArray := prog_12_method_49_code
def yJ6_bitCount_0f7a4 : MethodName := ⟨RJ6, "bitCount", "(I)I"⟩
def RJ9 : String := "java/lang/Math"
def TJ9 : u_T := fun k => match k with
  | _ => ("", "", "", false)
def tyJ9 : Nat → FieldType := fun k => match k with
  | _ => .int
theorem nmJ9 : ∀ a, a < 0 → ∀ b, b < 0 → a ≠ b → (TJ9 a).2.1 ≠ (TJ9 b).2.1 := by decide +kernel
theorem tyJ9_ok : ∀ k, k < 0 → parseFieldDescriptor (TJ9 k).2.2.1 = some (tyJ9 k) := by decide +kernel
abbrev cJ9_max_7cf53 : ByteArray := prog_13_method_65_code
def yJ9_max_7cf53 : MethodName := ⟨RJ9, "max", "(II)I"⟩
abbrev cJ9_min_7cf53 : ByteArray := prog_13_method_69_code
def yJ9_min_7cf53 : MethodName := ⟨RJ9, "min", "(II)I"⟩
def RJ0 : String := "java/lang/String"
def TJ0 : u_T := fun k => match k with
  | _ => ("", "", "", false)
def tyJ0 : Nat → FieldType := fun k => match k with
  | _ => .int
theorem nmJ0 : ∀ a, a < 0 → ∀ b, b < 0 → a ≠ b → (TJ0 a).2.1 ≠ (TJ0 b).2.1 := by decide +kernel
theorem tyJ0_ok : ∀ k, k < 0 → parseFieldDescriptor (TJ0 k).2.2.1 = some (tyJ0 k) := by decide +kernel
abbrev cJ0_length_8abf5 : ByteArray := prog_14_method_54_code
def yJ0_length_8abf5 : MethodName := ⟨RJ0, "length", "()I"⟩
abbrev cJ0_charAt_5068e : ByteArray := prog_14_method_56_code
def yJ0_charAt_5068e : MethodName := ⟨RJ0, "charAt", "(I)C"⟩
abbrev cJ0_coder_7d493 : ByteArray := prog_14_method_152_code
def yJ0_coder_7d493 : MethodName := ⟨RJ0, "coder", "()B"⟩
abbrev cJ0_isLatin1_aae02 : ByteArray := prog_14_method_154_code
def yJ0_isLatin1_aae02 : MethodName := ⟨RJ0, "isLatin1", "()Z"⟩
abbrev cJ0_checkIndex_df160 : ByteArray := prog_14_method_155_code
def yJ0_checkIndex_df160 : MethodName := ⟨RJ0, "checkIndex", "(II)V"⟩
def RJ1 : String := "java/lang/StringLatin1"
def TJ1 : u_T := fun k => match k with
  | _ => ("", "", "", false)
def tyJ1 : Nat → FieldType := fun k => match k with
  | _ => .int
theorem nmJ1 : ∀ a, a < 0 → ∀ b, b < 0 → a ≠ b → (TJ1 a).2.1 ≠ (TJ1 b).2.1 := by decide +kernel
theorem tyJ1_ok : ∀ k, k < 0 → parseFieldDescriptor (TJ1 k).2.2.1 = some (tyJ1 k) := by decide +kernel
abbrev cJ1_charAt_3b067 : ByteArray := prog_15_method_2_code
def yJ1_charAt_3b067 : MethodName := ⟨RJ1, "charAt", "([BI)C"⟩
def RJ2 : String := "java/lang/StringUTF16"
def TJ2 : u_T := fun k => match k with
  | _ => ("", "", "", false)
def tyJ2 : Nat → FieldType := fun k => match k with
  | _ => .int
theorem nmJ2 : ∀ a, a < 0 → ∀ b, b < 0 → a ≠ b → (TJ2 a).2.1 ≠ (TJ2 b).2.1 := by decide +kernel
theorem tyJ2_ok : ∀ k, k < 0 → parseFieldDescriptor (TJ2 k).2.2.1 = some (tyJ2 k) := by decide +kernel
abbrev cJ2_getChar_3b067 : ByteArray := prog_16_method_5_code
def yJ2_getChar_3b067 : MethodName := ⟨RJ2, "getChar", "([BI)C"⟩
abbrev cJ2_length_9d52b : ByteArray := prog_16_method_6_code
def yJ2_length_9d52b : MethodName := ⟨RJ2, "length", "([B)I"⟩
abbrev cJ2_charAt_3b067 : ByteArray := prog_16_method_83_code
def yJ2_charAt_3b067 : MethodName := ⟨RJ2, "charAt", "([BI)C"⟩
abbrev cJ2_checkIndex_2214a : ByteArray := prog_16_method_91_code
def yJ2_checkIndex_2214a : MethodName := ⟨RJ2, "checkIndex", "(I[B)V"⟩
def RJ10 : String := "java/lang/System"
def TJ10 : u_T := fun k => match k with
  | _ => ("", "", "", false)
def tyJ10 : Nat → FieldType := fun k => match k with
  | _ => .int
theorem nmJ10 : ∀ a, a < 0 → ∀ b, b < 0 → a ≠ b → (TJ10 a).2.1 ≠ (TJ10 b).2.1 := by decide +kernel
theorem tyJ10_ok : ∀ k, k < 0 → parseFieldDescriptor (TJ10 k).2.2.1 = some (tyJ10 k) := by decide +kernel
def RJ3 : String := "jdk/internal/util/Preconditions"
def TJ3 : u_T := fun k => match k with
  | _ => ("", "", "", false)
def tyJ3 : Nat → FieldType := fun k => match k with
  | _ => .int
theorem nmJ3 : ∀ a, a < 0 → ∀ b, b < 0 → a ≠ b → (TJ3 a).2.1 ≠ (TJ3 b).2.1 := by decide +kernel
theorem tyJ3_ok : ∀ k, k < 0 → parseFieldDescriptor (TJ3 k).2.2.1 = some (tyJ3 k) := by decide +kernel
abbrev cJ3_checkIndex_8e157 : ByteArray := prog_18_method_11_code
def yJ3_checkIndex_8e157 : MethodName := ⟨RJ3, "checkIndex", "(IILjava/util/function/BiFunction;)I"⟩
def RL : String := "DewLoomsLaw"
abbrev cL_law : ByteArray := code
abbrev vwCl : List vw_C := [(RX0, TX0, 7), (RX1, TX1, 7), (RX2, TX2, 2), (RX3, TX3, 2), (RX4, TX4, 4), (RX5, TX5, 5), (RX6, TX6, 2), (RX7, TX7, 4), (RX8, TX8, 10), (RX9, TX9, 15)]
end
section
/-! THE LIGHT WALK. The whole system's cells lie from the address z on, one behind the other: cell id is at z + id. kd: what kind each is (0..9: the objects of vwCl; 10 char[], 11 int[], 12 DewLooms$Loom[], 13 DewLooms$Slope[]), nn: how long an array is. The memory is (n, I, Q): n cells are made, I id j is the j-th int (field or element) of cell id, Q id j the j-th reference (an id). -/
def kdL : List Nat := [8, 6, 10, 3, 11] ++ [5, 12, 11, 0, 0, 0, 0, 0, 0] ++ [5, 12, 11, 0, 0, 0, 0, 0, 0] ++ ([2, 13] ++ [5, 12, 11, 0, 0, 0, 0, 0, 0] ++ [5, 12, 11, 0, 0, 0, 0, 0, 0] ++ [5, 12, 11, 0, 0, 0, 0, 0, 0] ++ [5, 12, 11, 0, 0, 0, 0, 0, 0] ++ [5, 12, 11, 0, 0, 0, 0, 0, 0] ++ [5, 12, 11, 0, 0, 0, 0, 0, 0] ++ [5, 12, 11, 0, 0, 0, 0, 0, 0] ++ [5, 12, 11, 0, 0, 0, 0, 0, 0]) ++ ([2, 13] ++ [5, 12, 11, 0, 0, 0, 0, 0, 0] ++ [5, 12, 11, 0, 0, 0, 0, 0, 0]) ++ [4, 11, 11, 11] ++ [7, 11, 11] ++ ([1] ++ [5, 12, 11, 0, 0, 0, 0, 0, 0] ++ [11, 11]) ++ ([1] ++ [5, 12, 11, 0, 0, 0, 0, 0, 0] ++ [11, 11]) ++ [9, 11, 11, 11, 11, 11, 11, 11, 11, 11, 11]

def nnL : List Nat := [0, 0, 200, 0, 3] ++ [0, 6, 6, 0, 0, 0, 0, 0, 0] ++ [0, 6, 6, 0, 0, 0, 0, 0, 0] ++ ([0, 8] ++ [0, 6, 6, 0, 0, 0, 0, 0, 0] ++ [0, 6, 6, 0, 0, 0, 0, 0, 0] ++ [0, 6, 6, 0, 0, 0, 0, 0, 0] ++ [0, 6, 6, 0, 0, 0, 0, 0, 0] ++ [0, 6, 6, 0, 0, 0, 0, 0, 0] ++ [0, 6, 6, 0, 0, 0, 0, 0, 0] ++ [0, 6, 6, 0, 0, 0, 0, 0, 0] ++ [0, 6, 6, 0, 0, 0, 0, 0, 0]) ++ ([0, 2] ++ [0, 6, 6, 0, 0, 0, 0, 0, 0] ++ [0, 6, 6, 0, 0, 0, 0, 0, 0]) ++ [0, 6, 6, 6] ++ [0, 6, 6] ++ ([0] ++ [0, 6, 6, 0, 0, 0, 0, 0, 0] ++ [12, 12]) ++ ([0] ++ [0, 6, 6, 0, 0, 0, 0, 0, 0] ++ [12, 12]) ++ [0, 200, 41, 41, 6, 26, 208, 52, 6, 6, 26]
def kd (id : Nat) : Nat := kdL.getD id 99
def nn (id : Nat) : Nat := nnL.getD id 0
def nfL : List Nat := [7, 7, 2, 2, 4, 5, 2, 4, 10, 15]
def nf (k : Nat) : Nat := nfL.getD k 0
def isRL : List (List Bool) := [[false, false, false, false, false, false, false], [true, true, true, false, false, false, false], [true, false], [true, false], [true, true, true, false], [true, true, false, false, false], [true, false], [true, true, false, false], [true, true, true, true, true, true, true, true, true, true], [true, false, true, true, true, true, true, false, true, false, true, false, false, true, true]]
def isR (k j : Nat) : Bool := (isRL.getD k []).getD j false
abbrev MI : Type := Nat → Nat → Int32
abbrev MQ2 : Type := Nat → Nat → Option Nat
def flds (z : Nat) (I : MI) (Q : MQ2) (id : Nat) : List Value := (List.range (nf (kd id))).map (fun j => if isR (kd id) j then va_rf ((Q id j).map (fun r => z + r)) else .int (I id j))
def cel (cy : Nat → ClassId) (z : Nat) (I : MI) (Q : MQ2) (id : Nat) : va_E := if kd id < 10 then .inr (kd id, flds z I Q id) else if kd id < 12 then .inl (cy (kd id), nn id, .inl (I id)) else .inl (cy (kd id), nn id, .inr (.inr (.inr (.inr (fun j => (Q id j).map (fun r => z + r))))))
def pool (cy : Nat → ClassId) (z n : Nat) (I : MI) (Q : MQ2) : va_W := (List.range n).map (fun id => (z + id, cel cy z I Q id))
def tysOf (cy : Nat → ClassId) : List (ClassId × FieldType) := [(cy 10, .char), (cy 11, .int), (cy 12, .object "DewLooms$Loom"), (cy 13, .object "DewLooms$Slope")]
def up2 {α : Type} (I : Nat → Nat → α) (a j : Nat) (v : α) : Nat → Nat → α := fun b k => if b = a ∧ k = j then v else I b k
def setRow {α : Type} (I : Nat → Nat → α) (a : Nat) (f : Nat → α) : Nat → Nat → α := fun b k => if b = a then f k else I b k
theorem up2_same {α : Type} (I : Nat → Nat → α) (a j : Nat) (v : α) : up2 I a j v a j = v := by simp [up2]
theorem up2_ne {α : Type} {I : Nat → Nat → α} {a j b k : Nat} {v : α} (h : ¬ (b = a ∧ k = j)) : up2 I a j v b k = I b k := by simp only [up2, if_neg h]
theorem up2_row {α : Type} {I : Nat → Nat → α} {a j b : Nat} {v : α} (h : b ≠ a) : up2 I a j v b = I b := by funext k; exact up2_ne (fun e => h e.1)
theorem setRow_same {α : Type} (I : Nat → Nat → α) (a : Nat) (f : Nat → α) : setRow I a f a = f := by funext k; simp [setRow]
theorem setRow_ne {α : Type} {I : Nat → Nat → α} {a b : Nat} {f : Nat → α} (h : b ≠ a) : setRow I a f b = I b := by funext k; simp only [setRow, if_neg h]
theorem pool_get {cy : Nat → ClassId} {z n : Nat} {I : MI} {Q : MQ2} {id : Nat} (h : id < n) : (pool cy z n I Q)[id]? = some (z + id, cel cy z I Q id) := by
  unfold pool
  rw [List.getElem?_map, List.getElem?_range h]
  rfl
theorem pool_len {cy : Nat → ClassId} {z n : Nat} {I : MI} {Q : MQ2} : (pool cy z n I Q).length = n := by simp [pool]
theorem pool_at {cy : Nat → ClassId} {z n : Nat} {I : MI} {Q : MQ2} {k : Nat} {q : Nat × va_E} (h : (pool cy z n I Q)[k]? = some q) : k < n ∧ q = (z + k, cel cy z I Q k) := by
  have hk : k < n := by have := (List.getElem?_eq_some_iff.mp h).1; rwa [pool_len] at this
  rw [pool_get hk] at h
  exact ⟨hk, (Option.some.inj h).symm⟩
theorem pool_D {cy : Nat → ClassId} {z n : Nat} {I : MI} {Q : MQ2} : va_D (fun q : Nat => z ≤ q) (pool cy z n I Q) := by
  refine ⟨fun i j p q hp hq h => ?_, fun k q hk => ?_⟩
  · obtain ⟨-, rfl⟩ := pool_at hp
    obtain ⟨-, rfl⟩ := pool_at hq
    have h : z + i = z + j := h
    omega
  · obtain ⟨-, rfl⟩ := pool_at hk
    exact Nat.le_add_right z k
/-- one cell of the pool put: another memory -/
theorem pool_set {cy : Nat → ClassId} {z n : Nat} {I I' : MI} {Q Q' : MQ2} {id : Nat} {e : va_E} (h : id < n) (he : cel cy z I' Q' id = e) (ho : ∀ b, b ≠ id → cel cy z I' Q' b = cel cy z I Q b) : (pool cy z n I Q).set id (z + id, e) = pool cy z n I' Q' := by
  apply List.ext_getElem?
  intro k
  by_cases hk : k < n
  · rw [pool_get hk]
    by_cases e1 : k = id
    · subst e1
      rw [List.getElem?_set_self (by rw [pool_len]; exact hk), he]
    · rw [List.getElem?_set_ne (Ne.symm e1), pool_get hk, ho k e1]
  · rw [List.getElem?_eq_none (by rw [List.length_set, pool_len]; omega), List.getElem?_eq_none (by rw [pool_len]; omega)]
theorem pool_push {cy : Nat → ClassId} {z n : Nat} {I I' : MI} {Q Q' : MQ2} {e : va_E} (he : cel cy z I' Q' n = e) (ho : ∀ b, b < n → cel cy z I' Q' b = cel cy z I Q b) : pool cy z n I Q ++ [(z + n, e)] = pool cy z (n + 1) I' Q' := by
  unfold pool
  rw [List.range_succ, List.map_append]
  congr 1
  · apply List.map_congr_left
    intro b hb
    rw [ho b (List.mem_range.mp hb)]
  · simp [he]
theorem cel_cong {cy : Nat → ClassId} {z : Nat} {I I' : MI} {Q Q' : MQ2} {b : Nat} (h1 : I' b = I b) (h2 : Q' b = Q b) : cel cy z I' Q' b = cel cy z I Q b := by
  unfold cel flds
  rw [h1, h2]
theorem cel_o {cy : Nat → ClassId} {z : Nat} {I : MI} {Q : MQ2} {id k : Nat} (h : kd id = k) (hk : k < 10) : cel cy z I Q id = .inr (k, flds z I Q id) := by
  unfold cel
  rw [h, if_pos hk]
theorem cel_i {cy : Nat → ClassId} {z : Nat} {I : MI} {Q : MQ2} {id k : Nat} (h : kd id = k) (hk : k = 10 ∨ k = 11) : cel cy z I Q id = .inl (cy k, nn id, .inl (I id)) := by
  unfold cel
  rw [h, if_neg (by omega), if_pos (by omega)]
theorem cel_q {cy : Nat → ClassId} {z : Nat} {I : MI} {Q : MQ2} {id k : Nat} (h : kd id = k) (hk : k = 12 ∨ k = 13) : cel cy z I Q id = .inl (cy k, nn id, .inr (.inr (.inr (.inr (fun j => (Q id j).map (fun r => z + r)))))) := by
  unfold cel
  rw [h, if_neg (by omega), if_neg (by omega)]
theorem flds_get {z : Nat} {I : MI} {Q : MQ2} {id j : Nat} (h : j < nf (kd id)) : (flds z I Q id)[j]? = some (if isR (kd id) j then va_rf ((Q id j).map (fun r => z + r)) else .int (I id j)) := by
  unfold flds
  rw [List.getElem?_map, List.getElem?_range h]
  rfl
theorem flds_len {z : Nat} {I : MI} {Q : MQ2} {id : Nat} : (flds z I Q id).length = nf (kd id) := by simp [flds]
theorem flds_set {z : Nat} {I I' : MI} {Q Q' : MQ2} {id j : Nat} {v : Value} (h : j < nf (kd id)) (hv : (if isR (kd id) j then va_rf ((Q' id j).map (fun r => z + r)) else .int (I' id j)) = v) (hi : ∀ k, k ≠ j → I' id k = I id k) (hq : ∀ k, k ≠ j → Q' id k = Q id k) : flds z I' Q' id = (flds z I Q id).set j v := by
  apply List.ext_getElem?
  intro k
  by_cases hk : k < nf (kd id)
  · rw [flds_get hk]
    by_cases e1 : k = j
    · subst e1
      rw [List.getElem?_set_self (by rw [flds_len]; exact hk), hv]
    · rw [List.getElem?_set_ne (Ne.symm e1), flds_get hk, hi k e1, hq k e1]
  · rw [List.getElem?_eq_none (by rw [flds_len]; omega), List.getElem?_eq_none (by rw [List.length_set, flds_len]; omega)]
/-! the words -/
def wT : List Cond := lw_tbl.filter goodWord
theorem tw {w : Cond} (i : Nat) (h : lw_tbl[i]? = some w) (g : goodWord w = true) : w ∈ wT := List.mem_filter.mpr ⟨List.mem_of_getElem? h, g⟩
theorem wT_good {ws : List Cond} (h : ∀ w ∈ ws, w ∈ wT) : GoodIn wT ws := fun w hw => ⟨h w hw, good_of_word (List.mem_filter.mp (h w hw)).2⟩
/-! decode rows with the next place, and the branch's -/
def DR (cc : ByteArray) (pc : Nat) (i : Instr) (len q : Nat) : Prop := decode cc pc = .ok (i, len) ∧ pc + len = q
def DB (cc : ByteArray) (pc : Nat) (i : Instr) (len : Nat) (off : Int) (q t : Nat) : Prop := decode cc pc = .ok (i, len) ∧ pc + len = q ∧ (pc : Int) + off = (t : Int)
/-! locals by their places -/
def LVS (ls : Array Slot) (mL : Nat) (lv : List (Option Value)) : Prop := ls.size = mL ∧ lv_wf ls ∧ ∀ (i : Nat) (v : Value), lv[i]? = some (some v) → ls[i]? = some (.val v)
abbrev Ev : Type := Launch × va_G × (Nat → ClassId) × Nat
def evl (r : Ev) : Launch := r.1
def evD (r : Ev) : va_G := r.2.1
def evc (r : Ev) : Nat → ClassId := r.2.2.1
def evz (r : Ev) : Nat := r.2.2.2
/-- the world: the pool at the heap's end -/
def WD (r : Ev) (n : Nat) (I : MI) (Q : MQ2) (s : State) (H : Heap) : Prop := va_K (evD r) vwCl (tysOf (evc r)) s ∧ va_P (evD r) vwCl (pool (evc r) (evz r) n I Q) H
theorem WD.moved {r : Ev} {n : Nat} {I : MI} {Q : MQ2} {u U : State} {H : Heap} (hvm : u.vm.Alike U.vm) (h : WD r n I Q u H) : WD r n I Q U H := ⟨va_K.moved hvm h.1, h.2⟩

/-- the string constant and the statics of the JDK that String's methods read: facts of cells that lie below z -/
def fTxt : List Int32 := [108, 48, 44, 48, 44, 51, 59, 108, 49, 44, 50, 44, 50, 59, 108, 50, 44, 51, 44, 51, 59, 108, 51, 44, 53, 44, 52, 59, 108, 48, 44, 56, 44, 50, 59, 104, 51, 44, 48, 59, 104, 53, 44, 48, 59, 104, 50, 44, 49, 59, 104, 48, 44, 49, 59, 115, 51, 59, 109, 54, 59, 121, 53, 59]
def isNest (w : Cond) : Bool := match w with
  | .fieldLinkNest .. => true
  | .methodLinkNest .. => true
  | _ => false
def wN : List Cond := lw_tbl.filter isNest
theorem tn {w : Cond} (i : Nat) (h : lw_tbl[i]? = some w) (g : isNest w = true) : w ∈ wN := List.mem_filter.mpr ⟨List.mem_of_getElem? h, g⟩
theorem nest_tab {w : Cond} (h : isNest w = true) : w.onTables = true := by cases w <;> first | rfl | cases h
theorem nest_warm {w : Cond} (h : isNest w = true) {s U : State} (hW : s.WarmedH U.vm) (hZ : va_Nw w s) : va_Nw w U := by
  cases w <;> first | (cases h; done) | exact va_Nw.warmF hW hZ | exact va_Nw.warmM hW hZ
def ZS (r : Ev) (U : State) (H : Heap) : Prop := (∀ w ∈ wN, va_Nw w U) ∧ (va_AO "DewLooms$Loom" U ∧ va_AO "DewLooms$Slope" U) ∧ ∃ (adK adV : Nat → Nat), vk_S 1 [64] [fTxt] adK adV (fun q : Nat => evz r ≤ q) U H ∧ vk_R RX8 69 "l0,0,3;l1,2,2;l2,3,3;l3,5,4;l0,8,2;h3,0;h5,0;h2,1;h0,1;s3;m6;y5;" (adK 0) U ∧ va_Z "java/lang/String" "COMPACT_STRINGS" "Z" (.int 1) (fun q : Nat => evz r ≤ q) U H ∧ va_Zq "jdk/internal/util/Preconditions" "SIOOBE_FORMATTER" "Ljava/util/function/BiFunction;" (fun q : Nat => evz r ≤ q) U H

theorem ZS.goes {r : Ev} {s U : State} {H : Heap} {locs : List Loc} (h : ZS r s s.heap) (hS : va_S (fun q : Nat => evz r ≤ q) s.heap H locs) (hW : s.WarmedH U.vm) : ZS r U H := by
  obtain ⟨h0, h9, adK, adV, h1, h2, h3, h4⟩ := h
  exact ⟨fun w hw => nest_warm (List.mem_filter.mp hw).2 hW (h0 w hw), ⟨h9.1.moved hW.alike, h9.2.moved hW.alike⟩, adK, adV, (h1.kept hS.2.1).moved hW.alike, h2.warm hW, (h3.kept hS.2.1).moved hW.alike, (h4.kept hS.2.1).moved hW.alike⟩
/-- what stands in a frame -/
def XC (r : Ev) (d : Nat) (y : MethodName) (cc : ByteArray) (mr : Nat × Option FieldType) (p : Program) (s : State) (m : MethodId) (args : Array Value) (meth : Method) (c : Code) (R : Room) (mc ms : Nat) : Prop :=
  p.tables.exec = Jvm.exec ∧ c.code = cc ∧ c.maxLocals = mr.1 ∧ s.vm.findClass y.cls = some m.cls ∧ (∀ w ∈ wT, w.before args s = true) ∧ (y.name = "<init>" → meth.name = "<init>") ∧ evz r ≤ s.heap.size ∧ d ≤ R.frames ∧ 40 * d ≤ R.locals ∧ mc ≤ R.cells ∧ ms ≤ R.slots ∧ ZS r s s.heap
/-- a method's end: the answer -/
def RETS (cc : ByteArray) (ret : Option FieldType) (pc : Nat) (st : List Value) (v : Option Value) : Prop :=
  (decode cc pc = .ok (.ireturn, 1) ∧ ∃ (x : Int32) (ty : FieldType), st = [.int x] ∧ v = some (.int x) ∧ ret = some ty ∧ narrow ty (.int x) = .int x) ∨ (decode cc pc = .ok (.return_, 1) ∧ st = [] ∧ v = none ∧ ret = none) ∨ (decode cc pc = .ok (.areturn, 1) ∧ ∃ (a : Nat) (rt : FieldType), st = [.ref a] ∧ v = some (.ref a) ∧ ret = some rt ∧ ∃ nm, rt = .object nm)
abbrev Post : Type := Option Value → MI → MQ2 → Prop
/-- THE LIGHT WALK: from the place pc with the locals lv, the stack st, the memory (n, I, Q), the method comes to its end with an answer and a memory of which F holds; b: how many cells it makes still (just so many), how many slots at most -/
def X (r : Ev) (d : Nat) (y : MethodName) (cc : ByteArray) (mr : Nat × Option FieldType) (b : Nat × Nat) (pc : Nat) (lv : List (Option Value)) (st : List Value) (n : Nat) (I : MI) (Q : MQ2) (F : Post) : Prop :=
  ∀ (p : Program) (e : Env) (s : State) (m : MethodId) (args : Array Value) (below : List Frame) (meth : Method) (c : Code) (H : Heap) (locs : List Loc) (cells slots mc ms : Nat) (R : Room) (ls : Array Slot) (Qf : State → Prop),
    XC r d y cc mr p s m args meth c R mc ms → WD r n I Q s H → va_S (fun q : Nat => evz r ≤ q) s.heap H locs → LVS ls mr.1 lv → s.heap.size + cells = evz r + n ∧ cells + b.1 = mc → slots + b.2 ≤ ms →
    (∀ (pc' : Nat) (ls' : Array Slot) (st' : List Value) (H' : Heap) (locs' : List Loc) (v : Option Value) (I' : MI) (Q' : MQ2), RETS cc mr.2 pc' st' v → F v I' Q' → WD r (n + b.1) I' Q' s H' → va_S (fun q : Nat => evz r ≤ q) s.heap H' locs' → W p (evl r) e R s m args below meth c H' locs' mc ms Qf (F0 m pc' ls' st')) →
    W p (evl r) e R s m args below meth c H locs cells slots Qf (F0 m pc ls st)
/-- a method's contract -/
def CT (r : Ev) (d : Nat) (y : MethodName) (cc : ByteArray) (mr : Nat × Option FieldType) (b : Nat × Nat) (As : List Value) (n : Nat) (I : MI) (Q : MQ2) (F : Post) : Prop :=
  Met (evl r) y (.code y cc mr.1 mr.2 :: wT) { frames := d, cells := b.1, slots := b.2, locals := 40 * d } (va_Pc As (fun U => U.heap.size = evz r + n ∧ WD r n I Q U U.heap ∧ ZS r U U.heap)) (fun _ st oc t => (∃ (v : Option Value) (I' : MI) (Q' : MQ2), oc = .returned v ∧ F v I' Q' ∧ WD r (n + b.1) I' Q' t t.heap) ∧ va_F (fun q : Nat => evz r ≤ q) st t) b.1 b.2 (fun q : Nat => evz r ≤ q)

theorem x_iconst {r : Ev} {d : Nat} {y : MethodName} {cc : ByteArray} {mr : Nat × Option FieldType} {b : Nat × Nat} {pc q : Nat} {lv : List (Option Value)} {st : List Value} {n : Nat} {I : MI} {Q : MQ2} {F : Post} {z : Int} {v : Int32} (hd : DR cc pc (.iconst z) 1 q) (hv : Int32.ofInt z = v) (k : X r d y cc mr b q lv (.int v :: st) n I Q F) : X r d y cc mr b pc lv st n I Q F := by
  intro p e s m args below meth c H locs cells slots mc ms R ls Qf C hW hS hl h1 h2 fin
  obtain ⟨hd, rfl⟩ := hd
  exact lv_iconst C.1 C.2.1 hd hv (k _ _ _ _ _ _ _ _ _ _ _ _ _ _ _ _ _ C hW hS hl h1 h2 fin)
theorem x_bipush {r : Ev} {d : Nat} {y : MethodName} {cc : ByteArray} {mr : Nat × Option FieldType} {b : Nat × Nat} {pc q : Nat} {lv : List (Option Value)} {st : List Value} {n : Nat} {I : MI} {Q : MQ2} {F : Post} {z : Int} {v : Int32} (hd : DR cc pc (.bipush z) 2 q) (hv : (Int8.ofInt z).toInt32 = v) (k : X r d y cc mr b q lv (.int v :: st) n I Q F) : X r d y cc mr b pc lv st n I Q F := by
  intro p e s m args below meth c H locs cells slots mc ms R ls Qf C hW hS hl h1 h2 fin
  obtain ⟨hd, rfl⟩ := hd
  exact lv_bipush C.1 C.2.1 hd hv (k _ _ _ _ _ _ _ _ _ _ _ _ _ _ _ _ _ C hW hS hl h1 h2 fin)
theorem x_sipush {r : Ev} {d : Nat} {y : MethodName} {cc : ByteArray} {mr : Nat × Option FieldType} {b : Nat × Nat} {pc q : Nat} {lv : List (Option Value)} {st : List Value} {n : Nat} {I : MI} {Q : MQ2} {F : Post} {z : Int} {v : Int32} (hd : DR cc pc (.sipush z) 3 q) (hv : (Int16.ofInt z).toInt32 = v) (k : X r d y cc mr b q lv (.int v :: st) n I Q F) : X r d y cc mr b pc lv st n I Q F := by
  intro p e s m args below meth c H locs cells slots mc ms R ls Qf C hW hS hl h1 h2 fin
  obtain ⟨hd, rfl⟩ := hd
  exact lv_sipush C.1 C.2.1 hd hv (k _ _ _ _ _ _ _ _ _ _ _ _ _ _ _ _ _ C hW hS hl h1 h2 fin)
theorem x_lconst {r : Ev} {d : Nat} {y : MethodName} {cc : ByteArray} {mr : Nat × Option FieldType} {b : Nat × Nat} {pc q : Nat} {lv : List (Option Value)} {st : List Value} {n : Nat} {I : MI} {Q : MQ2} {F : Post} {z : Fin 2} {v : Int64} (hd : DR cc pc (.lconst z) 1 q) (hv : Int64.ofNat (z : Nat) = v) (k : X r d y cc mr b q lv (.long v :: st) n I Q F) : X r d y cc mr b pc lv st n I Q F := by
  intro p e s m args below meth c H locs cells slots mc ms R ls Qf C hW hS hl h1 h2 fin
  obtain ⟨hd, rfl⟩ := hd
  exact lv_lconst C.1 C.2.1 hd hv (k _ _ _ _ _ _ _ _ _ _ _ _ _ _ _ _ _ C hW hS hl h1 h2 fin)
theorem x_iadd {r : Ev} {d : Nat} {y : MethodName} {cc : ByteArray} {mr : Nat × Option FieldType} {b : Nat × Nat} {pc q : Nat} {lv : List (Option Value)} {st : List Value} {n : Nat} {I : MI} {Q : MQ2} {F : Post} {x x2 : Int32} (hd : DR cc pc (.iadd) 1 q)  (k : X r d y cc mr b q lv (.int (x + x2) :: st) n I Q F) : X r d y cc mr b pc lv (.int x2 :: .int x :: st) n I Q F := by
  intro p e s m args below meth c H locs cells slots mc ms R ls Qf C hW hS hl h1 h2 fin
  obtain ⟨hd, rfl⟩ := hd
  exact lv_iadd C.1 C.2.1 hd  (k _ _ _ _ _ _ _ _ _ _ _ _ _ _ _ _ _ C hW hS hl h1 h2 fin)
theorem x_isub {r : Ev} {d : Nat} {y : MethodName} {cc : ByteArray} {mr : Nat × Option FieldType} {b : Nat × Nat} {pc q : Nat} {lv : List (Option Value)} {st : List Value} {n : Nat} {I : MI} {Q : MQ2} {F : Post} {x x2 : Int32} (hd : DR cc pc (.isub) 1 q)  (k : X r d y cc mr b q lv (.int (x - x2) :: st) n I Q F) : X r d y cc mr b pc lv (.int x2 :: .int x :: st) n I Q F := by
  intro p e s m args below meth c H locs cells slots mc ms R ls Qf C hW hS hl h1 h2 fin
  obtain ⟨hd, rfl⟩ := hd
  exact lv_isub C.1 C.2.1 hd  (k _ _ _ _ _ _ _ _ _ _ _ _ _ _ _ _ _ C hW hS hl h1 h2 fin)
theorem x_imul {r : Ev} {d : Nat} {y : MethodName} {cc : ByteArray} {mr : Nat × Option FieldType} {b : Nat × Nat} {pc q : Nat} {lv : List (Option Value)} {st : List Value} {n : Nat} {I : MI} {Q : MQ2} {F : Post} {x x2 : Int32} (hd : DR cc pc (.imul) 1 q)  (k : X r d y cc mr b q lv (.int (x * x2) :: st) n I Q F) : X r d y cc mr b pc lv (.int x2 :: .int x :: st) n I Q F := by
  intro p e s m args below meth c H locs cells slots mc ms R ls Qf C hW hS hl h1 h2 fin
  obtain ⟨hd, rfl⟩ := hd
  exact lv_imul C.1 C.2.1 hd  (k _ _ _ _ _ _ _ _ _ _ _ _ _ _ _ _ _ C hW hS hl h1 h2 fin)
theorem x_iand {r : Ev} {d : Nat} {y : MethodName} {cc : ByteArray} {mr : Nat × Option FieldType} {b : Nat × Nat} {pc q : Nat} {lv : List (Option Value)} {st : List Value} {n : Nat} {I : MI} {Q : MQ2} {F : Post} {x x2 : Int32} (hd : DR cc pc (.iand) 1 q)  (k : X r d y cc mr b q lv (.int (x &&& x2) :: st) n I Q F) : X r d y cc mr b pc lv (.int x2 :: .int x :: st) n I Q F := by
  intro p e s m args below meth c H locs cells slots mc ms R ls Qf C hW hS hl h1 h2 fin
  obtain ⟨hd, rfl⟩ := hd
  exact lv_iand C.1 C.2.1 hd  (k _ _ _ _ _ _ _ _ _ _ _ _ _ _ _ _ _ C hW hS hl h1 h2 fin)
theorem x_ior {r : Ev} {d : Nat} {y : MethodName} {cc : ByteArray} {mr : Nat × Option FieldType} {b : Nat × Nat} {pc q : Nat} {lv : List (Option Value)} {st : List Value} {n : Nat} {I : MI} {Q : MQ2} {F : Post} {x x2 : Int32} (hd : DR cc pc (.ior) 1 q)  (k : X r d y cc mr b q lv (.int (x ||| x2) :: st) n I Q F) : X r d y cc mr b pc lv (.int x2 :: .int x :: st) n I Q F := by
  intro p e s m args below meth c H locs cells slots mc ms R ls Qf C hW hS hl h1 h2 fin
  obtain ⟨hd, rfl⟩ := hd
  exact lv_ior C.1 C.2.1 hd  (k _ _ _ _ _ _ _ _ _ _ _ _ _ _ _ _ _ C hW hS hl h1 h2 fin)
theorem x_ixor {r : Ev} {d : Nat} {y : MethodName} {cc : ByteArray} {mr : Nat × Option FieldType} {b : Nat × Nat} {pc q : Nat} {lv : List (Option Value)} {st : List Value} {n : Nat} {I : MI} {Q : MQ2} {F : Post} {x x2 : Int32} (hd : DR cc pc (.ixor) 1 q)  (k : X r d y cc mr b q lv (.int (x ^^^ x2) :: st) n I Q F) : X r d y cc mr b pc lv (.int x2 :: .int x :: st) n I Q F := by
  intro p e s m args below meth c H locs cells slots mc ms R ls Qf C hW hS hl h1 h2 fin
  obtain ⟨hd, rfl⟩ := hd
  exact lv_ixor C.1 C.2.1 hd  (k _ _ _ _ _ _ _ _ _ _ _ _ _ _ _ _ _ C hW hS hl h1 h2 fin)
theorem x_idiv {r : Ev} {d : Nat} {y : MethodName} {cc : ByteArray} {mr : Nat × Option FieldType} {b : Nat × Nat} {pc q : Nat} {lv : List (Option Value)} {st : List Value} {n : Nat} {I : MI} {Q : MQ2} {F : Post} {x x2 : Int32} (hd : DR cc pc (.idiv) 1 q) (h0 : ¬ x2 = 0) (k : X r d y cc mr b q lv (.int (x / x2) :: st) n I Q F) : X r d y cc mr b pc lv (.int x2 :: .int x :: st) n I Q F := by
  intro p e s m args below meth c H locs cells slots mc ms R ls Qf C hW hS hl h1 h2 fin
  obtain ⟨hd, rfl⟩ := hd
  exact lv_idiv C.1 C.2.1 hd h0 (k _ _ _ _ _ _ _ _ _ _ _ _ _ _ _ _ _ C hW hS hl h1 h2 fin)
theorem x_irem {r : Ev} {d : Nat} {y : MethodName} {cc : ByteArray} {mr : Nat × Option FieldType} {b : Nat × Nat} {pc q : Nat} {lv : List (Option Value)} {st : List Value} {n : Nat} {I : MI} {Q : MQ2} {F : Post} {x x2 : Int32} (hd : DR cc pc (.irem) 1 q) (h0 : ¬ x2 = 0) (k : X r d y cc mr b q lv (.int (x - x / x2 * x2) :: st) n I Q F) : X r d y cc mr b pc lv (.int x2 :: .int x :: st) n I Q F := by
  intro p e s m args below meth c H locs cells slots mc ms R ls Qf C hW hS hl h1 h2 fin
  obtain ⟨hd, rfl⟩ := hd
  exact lv_irem C.1 C.2.1 hd h0 (k _ _ _ _ _ _ _ _ _ _ _ _ _ _ _ _ _ C hW hS hl h1 h2 fin)
theorem x_ishl {r : Ev} {d : Nat} {y : MethodName} {cc : ByteArray} {mr : Nat × Option FieldType} {b : Nat × Nat} {pc q : Nat} {lv : List (Option Value)} {st : List Value} {n : Nat} {I : MI} {Q : MQ2} {F : Post} {x x2 : Int32} (hd : DR cc pc (.ishl) 1 q)  (k : X r d y cc mr b q lv (.int (x <<< (x2 &&& 31)) :: st) n I Q F) : X r d y cc mr b pc lv (.int x2 :: .int x :: st) n I Q F := by
  intro p e s m args below meth c H locs cells slots mc ms R ls Qf C hW hS hl h1 h2 fin
  obtain ⟨hd, rfl⟩ := hd
  exact lv_ishl C.1 C.2.1 hd  (k _ _ _ _ _ _ _ _ _ _ _ _ _ _ _ _ _ C hW hS hl h1 h2 fin)
theorem x_ishr {r : Ev} {d : Nat} {y : MethodName} {cc : ByteArray} {mr : Nat × Option FieldType} {b : Nat × Nat} {pc q : Nat} {lv : List (Option Value)} {st : List Value} {n : Nat} {I : MI} {Q : MQ2} {F : Post} {x x2 : Int32} (hd : DR cc pc (.ishr) 1 q)  (k : X r d y cc mr b q lv (.int (x >>> (x2 &&& 31)) :: st) n I Q F) : X r d y cc mr b pc lv (.int x2 :: .int x :: st) n I Q F := by
  intro p e s m args below meth c H locs cells slots mc ms R ls Qf C hW hS hl h1 h2 fin
  obtain ⟨hd, rfl⟩ := hd
  exact lv_ishr C.1 C.2.1 hd  (k _ _ _ _ _ _ _ _ _ _ _ _ _ _ _ _ _ C hW hS hl h1 h2 fin)
theorem x_iushr {r : Ev} {d : Nat} {y : MethodName} {cc : ByteArray} {mr : Nat × Option FieldType} {b : Nat × Nat} {pc q : Nat} {lv : List (Option Value)} {st : List Value} {n : Nat} {I : MI} {Q : MQ2} {F : Post} {x x2 : Int32} (hd : DR cc pc (.iushr) 1 q)  (k : X r d y cc mr b q lv (.int (x.toUInt32 >>> (x2.toUInt32 &&& Int32.toUInt32 31)).toInt32 :: st) n I Q F) : X r d y cc mr b pc lv (.int x2 :: .int x :: st) n I Q F := by
  intro p e s m args below meth c H locs cells slots mc ms R ls Qf C hW hS hl h1 h2 fin
  obtain ⟨hd, rfl⟩ := hd
  exact lv_iushr C.1 C.2.1 hd rfl (k _ _ _ _ _ _ _ _ _ _ _ _ _ _ _ _ _ C hW hS hl h1 h2 fin)
theorem x_ladd {r : Ev} {d : Nat} {y : MethodName} {cc : ByteArray} {mr : Nat × Option FieldType} {b : Nat × Nat} {pc q : Nat} {lv : List (Option Value)} {st : List Value} {n : Nat} {I : MI} {Q : MQ2} {F : Post} {x x2 : Int64} (hd : DR cc pc (.ladd) 1 q)  (k : X r d y cc mr b q lv (.long (x + x2) :: st) n I Q F) : X r d y cc mr b pc lv (.long x2 :: .long x :: st) n I Q F := by
  intro p e s m args below meth c H locs cells slots mc ms R ls Qf C hW hS hl h1 h2 fin
  obtain ⟨hd, rfl⟩ := hd
  exact lv_ladd C.1 C.2.1 hd  (k _ _ _ _ _ _ _ _ _ _ _ _ _ _ _ _ _ C hW hS hl h1 h2 fin)
theorem x_lsub {r : Ev} {d : Nat} {y : MethodName} {cc : ByteArray} {mr : Nat × Option FieldType} {b : Nat × Nat} {pc q : Nat} {lv : List (Option Value)} {st : List Value} {n : Nat} {I : MI} {Q : MQ2} {F : Post} {x x2 : Int64} (hd : DR cc pc (.lsub) 1 q)  (k : X r d y cc mr b q lv (.long (x - x2) :: st) n I Q F) : X r d y cc mr b pc lv (.long x2 :: .long x :: st) n I Q F := by
  intro p e s m args below meth c H locs cells slots mc ms R ls Qf C hW hS hl h1 h2 fin
  obtain ⟨hd, rfl⟩ := hd
  exact lv_lsub C.1 C.2.1 hd  (k _ _ _ _ _ _ _ _ _ _ _ _ _ _ _ _ _ C hW hS hl h1 h2 fin)
theorem x_lmul {r : Ev} {d : Nat} {y : MethodName} {cc : ByteArray} {mr : Nat × Option FieldType} {b : Nat × Nat} {pc q : Nat} {lv : List (Option Value)} {st : List Value} {n : Nat} {I : MI} {Q : MQ2} {F : Post} {x x2 : Int64} (hd : DR cc pc (.lmul) 1 q)  (k : X r d y cc mr b q lv (.long (x * x2) :: st) n I Q F) : X r d y cc mr b pc lv (.long x2 :: .long x :: st) n I Q F := by
  intro p e s m args below meth c H locs cells slots mc ms R ls Qf C hW hS hl h1 h2 fin
  obtain ⟨hd, rfl⟩ := hd
  exact lv_lmul C.1 C.2.1 hd  (k _ _ _ _ _ _ _ _ _ _ _ _ _ _ _ _ _ C hW hS hl h1 h2 fin)
theorem x_ldiv {r : Ev} {d : Nat} {y : MethodName} {cc : ByteArray} {mr : Nat × Option FieldType} {b : Nat × Nat} {pc q : Nat} {lv : List (Option Value)} {st : List Value} {n : Nat} {I : MI} {Q : MQ2} {F : Post} {x x2 : Int64} (hd : DR cc pc (.ldiv) 1 q) (h0 : ¬ x2 = 0) (k : X r d y cc mr b q lv (.long (x / x2) :: st) n I Q F) : X r d y cc mr b pc lv (.long x2 :: .long x :: st) n I Q F := by
  intro p e s m args below meth c H locs cells slots mc ms R ls Qf C hW hS hl h1 h2 fin
  obtain ⟨hd, rfl⟩ := hd
  exact lv_ldiv C.1 C.2.1 hd h0 (k _ _ _ _ _ _ _ _ _ _ _ _ _ _ _ _ _ C hW hS hl h1 h2 fin)
theorem x_lrem {r : Ev} {d : Nat} {y : MethodName} {cc : ByteArray} {mr : Nat × Option FieldType} {b : Nat × Nat} {pc q : Nat} {lv : List (Option Value)} {st : List Value} {n : Nat} {I : MI} {Q : MQ2} {F : Post} {x x2 : Int64} (hd : DR cc pc (.lrem) 1 q) (h0 : ¬ x2 = 0) (k : X r d y cc mr b q lv (.long (x - x / x2 * x2) :: st) n I Q F) : X r d y cc mr b pc lv (.long x2 :: .long x :: st) n I Q F := by
  intro p e s m args below meth c H locs cells slots mc ms R ls Qf C hW hS hl h1 h2 fin
  obtain ⟨hd, rfl⟩ := hd
  exact lv_lrem C.1 C.2.1 hd h0 (k _ _ _ _ _ _ _ _ _ _ _ _ _ _ _ _ _ C hW hS hl h1 h2 fin)
theorem x_i2l {r : Ev} {d : Nat} {y : MethodName} {cc : ByteArray} {mr : Nat × Option FieldType} {b : Nat × Nat} {pc q : Nat} {lv : List (Option Value)} {st : List Value} {n : Nat} {I : MI} {Q : MQ2} {F : Post} {x : Int32} (hd : DR cc pc (.i2l) 1 q)  (k : X r d y cc mr b q lv (.long x.toInt64 :: st) n I Q F) : X r d y cc mr b pc lv (.int x :: st) n I Q F := by
  intro p e s m args below meth c H locs cells slots mc ms R ls Qf C hW hS hl h1 h2 fin
  obtain ⟨hd, rfl⟩ := hd
  exact lv_i2l C.1 C.2.1 hd rfl (k _ _ _ _ _ _ _ _ _ _ _ _ _ _ _ _ _ C hW hS hl h1 h2 fin)
theorem x_l2i {r : Ev} {d : Nat} {y : MethodName} {cc : ByteArray} {mr : Nat × Option FieldType} {b : Nat × Nat} {pc q : Nat} {lv : List (Option Value)} {st : List Value} {n : Nat} {I : MI} {Q : MQ2} {F : Post} {x : Int64} (hd : DR cc pc (.l2i) 1 q)  (k : X r d y cc mr b q lv (.int x.toInt32 :: st) n I Q F) : X r d y cc mr b pc lv (.long x :: st) n I Q F := by
  intro p e s m args below meth c H locs cells slots mc ms R ls Qf C hW hS hl h1 h2 fin
  obtain ⟨hd, rfl⟩ := hd
  exact lv_l2i C.1 C.2.1 hd rfl (k _ _ _ _ _ _ _ _ _ _ _ _ _ _ _ _ _ C hW hS hl h1 h2 fin)
theorem x_i2c {r : Ev} {d : Nat} {y : MethodName} {cc : ByteArray} {mr : Nat × Option FieldType} {b : Nat × Nat} {pc q : Nat} {lv : List (Option Value)} {st : List Value} {n : Nat} {I : MI} {Q : MQ2} {F : Post} {x v : Int32} (hd : DR cc pc (.i2c) 1 q) (hv : (x.toUInt32 % 65536).toInt32 = v) (k : X r d y cc mr b q lv (.int v :: st) n I Q F) : X r d y cc mr b pc lv (.int x :: st) n I Q F := by
  intro p e s m args below meth c H locs cells slots mc ms R ls Qf C hW hS hl h1 h2 fin
  obtain ⟨hd, rfl⟩ := hd
  exact lv_i2c C.1 C.2.1 hd hv (k _ _ _ _ _ _ _ _ _ _ _ _ _ _ _ _ _ C hW hS hl h1 h2 fin)
theorem x_dup_int {r : Ev} {d : Nat} {y : MethodName} {cc : ByteArray} {mr : Nat × Option FieldType} {b : Nat × Nat} {pc q : Nat} {lv : List (Option Value)} {st : List Value} {n : Nat} {I : MI} {Q : MQ2} {F : Post} {x : Int32} (hd : DR cc pc (.dup) 1 q)  (k : X r d y cc mr b q lv (.int x :: .int x :: st) n I Q F) : X r d y cc mr b pc lv (.int x :: st) n I Q F := by
  intro p e s m args below meth c H locs cells slots mc ms R ls Qf C hW hS hl h1 h2 fin
  obtain ⟨hd, rfl⟩ := hd
  exact lv_dup C.1 C.2.1 hd rfl (k _ _ _ _ _ _ _ _ _ _ _ _ _ _ _ _ _ C hW hS hl h1 h2 fin)
theorem x_pop_int {r : Ev} {d : Nat} {y : MethodName} {cc : ByteArray} {mr : Nat × Option FieldType} {b : Nat × Nat} {pc q : Nat} {lv : List (Option Value)} {st : List Value} {n : Nat} {I : MI} {Q : MQ2} {F : Post} {x : Int32} (hd : DR cc pc (.pop) 1 q)  (k : X r d y cc mr b q lv st n I Q F) : X r d y cc mr b pc lv (.int x :: st) n I Q F := by
  intro p e s m args below meth c H locs cells slots mc ms R ls Qf C hW hS hl h1 h2 fin
  obtain ⟨hd, rfl⟩ := hd
  exact lv_pop C.1 C.2.1 hd rfl (k _ _ _ _ _ _ _ _ _ _ _ _ _ _ _ _ _ C hW hS hl h1 h2 fin)
theorem x_dup_ref {r : Ev} {d : Nat} {y : MethodName} {cc : ByteArray} {mr : Nat × Option FieldType} {b : Nat × Nat} {pc q : Nat} {lv : List (Option Value)} {st : List Value} {n : Nat} {I : MI} {Q : MQ2} {F : Post} {x : Nat} (hd : DR cc pc (.dup) 1 q)  (k : X r d y cc mr b q lv (.ref x :: .ref x :: st) n I Q F) : X r d y cc mr b pc lv (.ref x :: st) n I Q F := by
  intro p e s m args below meth c H locs cells slots mc ms R ls Qf C hW hS hl h1 h2 fin
  obtain ⟨hd, rfl⟩ := hd
  exact lv_dup C.1 C.2.1 hd rfl (k _ _ _ _ _ _ _ _ _ _ _ _ _ _ _ _ _ C hW hS hl h1 h2 fin)
theorem x_pop_ref {r : Ev} {d : Nat} {y : MethodName} {cc : ByteArray} {mr : Nat × Option FieldType} {b : Nat × Nat} {pc q : Nat} {lv : List (Option Value)} {st : List Value} {n : Nat} {I : MI} {Q : MQ2} {F : Post} {x : Nat} (hd : DR cc pc (.pop) 1 q)  (k : X r d y cc mr b q lv st n I Q F) : X r d y cc mr b pc lv (.ref x :: st) n I Q F := by
  intro p e s m args below meth c H locs cells slots mc ms R ls Qf C hW hS hl h1 h2 fin
  obtain ⟨hd, rfl⟩ := hd
  exact lv_pop C.1 C.2.1 hd rfl (k _ _ _ _ _ _ _ _ _ _ _ _ _ _ _ _ _ C hW hS hl h1 h2 fin)
theorem x_dup2 {r : Ev} {d : Nat} {y : MethodName} {cc : ByteArray} {mr : Nat × Option FieldType} {b : Nat × Nat} {pc q : Nat} {lv : List (Option Value)} {st : List Value} {n : Nat} {I : MI} {Q : MQ2} {F : Post} {x2 : Int32} {x : Nat} (hd : DR cc pc (.dup2) 1 q)  (k : X r d y cc mr b q lv (.int x2 :: .ref x :: .int x2 :: .ref x :: st) n I Q F) : X r d y cc mr b pc lv (.int x2 :: .ref x :: st) n I Q F := by
  intro p e s m args below meth c H locs cells slots mc ms R ls Qf C hW hS hl h1 h2 fin
  obtain ⟨hd, rfl⟩ := hd
  exact lv_dup2_11 C.1 C.2.1 hd rfl rfl (k _ _ _ _ _ _ _ _ _ _ _ _ _ _ _ _ _ C hW hS hl h1 h2 fin)
theorem x_dup_x1 {r : Ev} {d : Nat} {y : MethodName} {cc : ByteArray} {mr : Nat × Option FieldType} {b : Nat × Nat} {pc q : Nat} {lv : List (Option Value)} {st : List Value} {n : Nat} {I : MI} {Q : MQ2} {F : Post} {x2 : Int32} {x : Nat} (hd : DR cc pc (.dup_x1) 1 q)  (k : X r d y cc mr b q lv (.int x2 :: .ref x :: .int x2 :: st) n I Q F) : X r d y cc mr b pc lv (.int x2 :: .ref x :: st) n I Q F := by
  intro p e s m args below meth c H locs cells slots mc ms R ls Qf C hW hS hl h1 h2 fin
  obtain ⟨hd, rfl⟩ := hd
  exact lv_dup_x1 C.1 C.2.1 hd rfl rfl (k _ _ _ _ _ _ _ _ _ _ _ _ _ _ _ _ _ C hW hS hl h1 h2 fin)
theorem x_goto {r : Ev} {d : Nat} {y : MethodName} {cc : ByteArray} {mr : Nat × Option FieldType} {b : Nat × Nat} {pc q : Nat} {lv : List (Option Value)} {st : List Value} {n : Nat} {I : MI} {Q : MQ2} {F : Post} {off : Int} {t : Nat} (hd : DB cc pc (.goto off) 3 off q t) (k : X r d y cc mr b t lv st n I Q F) : X r d y cc mr b pc lv st n I Q F := by
  intro p e s m args below meth c H locs cells slots mc ms R ls Qf C hW hS hl h1 h2 fin
  obtain ⟨hd, -, ht⟩ := hd
  exact lv_goto C.1 C.2.1 hd ht (k _ _ _ _ _ _ _ _ _ _ _ _ _ _ _ _ _ C hW hS hl h1 h2 fin)
theorem x_if_eq {r : Ev} {d : Nat} {y : MethodName} {cc : ByteArray} {mr : Nat × Option FieldType} {b : Nat × Nat} {pc q : Nat} {lv : List (Option Value)} {st : List Value} {n : Nat} {I : MI} {Q : MQ2} {F : Post} {x : Int32} {off : Int} {t : Nat} (hd : DB cc pc (.ifCond .eq off) 3 off q t) (kt : x = 0 → X r d y cc mr b t lv st n I Q F) (kf : ¬ x = 0 → X r d y cc mr b q lv st n I Q F) : X r d y cc mr b pc lv (.int x :: st) n I Q F := by
  intro p e s m args below meth c H locs cells slots mc ms R ls Qf C hW hS hl h1 h2 fin
  obtain ⟨hd, rfl, ht⟩ := hd
  exact lv_if_eq C.1 C.2.1 hd ht (fun h => kt h _ _ _ _ _ _ _ _ _ _ _ _ _ _ _ _ _ C hW hS hl h1 h2 fin) (fun h => kf h _ _ _ _ _ _ _ _ _ _ _ _ _ _ _ _ _ C hW hS hl h1 h2 fin)
theorem x_icmp_eq {r : Ev} {d : Nat} {y : MethodName} {cc : ByteArray} {mr : Nat × Option FieldType} {b : Nat × Nat} {pc q : Nat} {lv : List (Option Value)} {st : List Value} {n : Nat} {I : MI} {Q : MQ2} {F : Post} {x x2 : Int32} {off : Int} {t : Nat} (hd : DB cc pc (.if_icmp .eq off) 3 off q t) (kt : x = x2 → X r d y cc mr b t lv st n I Q F) (kf : ¬ x = x2 → X r d y cc mr b q lv st n I Q F) : X r d y cc mr b pc lv (.int x2 :: .int x :: st) n I Q F := by
  intro p e s m args below meth c H locs cells slots mc ms R ls Qf C hW hS hl h1 h2 fin
  obtain ⟨hd, rfl, ht⟩ := hd
  exact lv_icmp_eq C.1 C.2.1 hd ht (fun h => kt h _ _ _ _ _ _ _ _ _ _ _ _ _ _ _ _ _ C hW hS hl h1 h2 fin) (fun h => kf h _ _ _ _ _ _ _ _ _ _ _ _ _ _ _ _ _ C hW hS hl h1 h2 fin)
theorem x_if_ne {r : Ev} {d : Nat} {y : MethodName} {cc : ByteArray} {mr : Nat × Option FieldType} {b : Nat × Nat} {pc q : Nat} {lv : List (Option Value)} {st : List Value} {n : Nat} {I : MI} {Q : MQ2} {F : Post} {x : Int32} {off : Int} {t : Nat} (hd : DB cc pc (.ifCond .ne off) 3 off q t) (kt : ¬ x = 0 → X r d y cc mr b t lv st n I Q F) (kf : x = 0 → X r d y cc mr b q lv st n I Q F) : X r d y cc mr b pc lv (.int x :: st) n I Q F := by
  intro p e s m args below meth c H locs cells slots mc ms R ls Qf C hW hS hl h1 h2 fin
  obtain ⟨hd, rfl, ht⟩ := hd
  exact lv_if_ne C.1 C.2.1 hd ht (fun h => kt h _ _ _ _ _ _ _ _ _ _ _ _ _ _ _ _ _ C hW hS hl h1 h2 fin) (fun h => kf h _ _ _ _ _ _ _ _ _ _ _ _ _ _ _ _ _ C hW hS hl h1 h2 fin)
theorem x_icmp_ne {r : Ev} {d : Nat} {y : MethodName} {cc : ByteArray} {mr : Nat × Option FieldType} {b : Nat × Nat} {pc q : Nat} {lv : List (Option Value)} {st : List Value} {n : Nat} {I : MI} {Q : MQ2} {F : Post} {x x2 : Int32} {off : Int} {t : Nat} (hd : DB cc pc (.if_icmp .ne off) 3 off q t) (kt : ¬ x = x2 → X r d y cc mr b t lv st n I Q F) (kf : x = x2 → X r d y cc mr b q lv st n I Q F) : X r d y cc mr b pc lv (.int x2 :: .int x :: st) n I Q F := by
  intro p e s m args below meth c H locs cells slots mc ms R ls Qf C hW hS hl h1 h2 fin
  obtain ⟨hd, rfl, ht⟩ := hd
  exact lv_icmp_ne C.1 C.2.1 hd ht (fun h => kt h _ _ _ _ _ _ _ _ _ _ _ _ _ _ _ _ _ C hW hS hl h1 h2 fin) (fun h => kf h _ _ _ _ _ _ _ _ _ _ _ _ _ _ _ _ _ C hW hS hl h1 h2 fin)
theorem x_if_lt {r : Ev} {d : Nat} {y : MethodName} {cc : ByteArray} {mr : Nat × Option FieldType} {b : Nat × Nat} {pc q : Nat} {lv : List (Option Value)} {st : List Value} {n : Nat} {I : MI} {Q : MQ2} {F : Post} {x : Int32} {off : Int} {t : Nat} (hd : DB cc pc (.ifCond .lt off) 3 off q t) (kt : x < 0 → X r d y cc mr b t lv st n I Q F) (kf : ¬ x < 0 → X r d y cc mr b q lv st n I Q F) : X r d y cc mr b pc lv (.int x :: st) n I Q F := by
  intro p e s m args below meth c H locs cells slots mc ms R ls Qf C hW hS hl h1 h2 fin
  obtain ⟨hd, rfl, ht⟩ := hd
  exact lv_if_lt C.1 C.2.1 hd ht (fun h => kt h _ _ _ _ _ _ _ _ _ _ _ _ _ _ _ _ _ C hW hS hl h1 h2 fin) (fun h => kf h _ _ _ _ _ _ _ _ _ _ _ _ _ _ _ _ _ C hW hS hl h1 h2 fin)
theorem x_icmp_lt {r : Ev} {d : Nat} {y : MethodName} {cc : ByteArray} {mr : Nat × Option FieldType} {b : Nat × Nat} {pc q : Nat} {lv : List (Option Value)} {st : List Value} {n : Nat} {I : MI} {Q : MQ2} {F : Post} {x x2 : Int32} {off : Int} {t : Nat} (hd : DB cc pc (.if_icmp .lt off) 3 off q t) (kt : x < x2 → X r d y cc mr b t lv st n I Q F) (kf : ¬ x < x2 → X r d y cc mr b q lv st n I Q F) : X r d y cc mr b pc lv (.int x2 :: .int x :: st) n I Q F := by
  intro p e s m args below meth c H locs cells slots mc ms R ls Qf C hW hS hl h1 h2 fin
  obtain ⟨hd, rfl, ht⟩ := hd
  exact lv_icmp_lt C.1 C.2.1 hd ht (fun h => kt h _ _ _ _ _ _ _ _ _ _ _ _ _ _ _ _ _ C hW hS hl h1 h2 fin) (fun h => kf h _ _ _ _ _ _ _ _ _ _ _ _ _ _ _ _ _ C hW hS hl h1 h2 fin)
theorem x_if_ge {r : Ev} {d : Nat} {y : MethodName} {cc : ByteArray} {mr : Nat × Option FieldType} {b : Nat × Nat} {pc q : Nat} {lv : List (Option Value)} {st : List Value} {n : Nat} {I : MI} {Q : MQ2} {F : Post} {x : Int32} {off : Int} {t : Nat} (hd : DB cc pc (.ifCond .ge off) 3 off q t) (kt : 0 ≤ x → X r d y cc mr b t lv st n I Q F) (kf : ¬ 0 ≤ x → X r d y cc mr b q lv st n I Q F) : X r d y cc mr b pc lv (.int x :: st) n I Q F := by
  intro p e s m args below meth c H locs cells slots mc ms R ls Qf C hW hS hl h1 h2 fin
  obtain ⟨hd, rfl, ht⟩ := hd
  exact lv_if_ge C.1 C.2.1 hd ht (fun h => kt h _ _ _ _ _ _ _ _ _ _ _ _ _ _ _ _ _ C hW hS hl h1 h2 fin) (fun h => kf h _ _ _ _ _ _ _ _ _ _ _ _ _ _ _ _ _ C hW hS hl h1 h2 fin)
theorem x_icmp_ge {r : Ev} {d : Nat} {y : MethodName} {cc : ByteArray} {mr : Nat × Option FieldType} {b : Nat × Nat} {pc q : Nat} {lv : List (Option Value)} {st : List Value} {n : Nat} {I : MI} {Q : MQ2} {F : Post} {x x2 : Int32} {off : Int} {t : Nat} (hd : DB cc pc (.if_icmp .ge off) 3 off q t) (kt : x2 ≤ x → X r d y cc mr b t lv st n I Q F) (kf : ¬ x2 ≤ x → X r d y cc mr b q lv st n I Q F) : X r d y cc mr b pc lv (.int x2 :: .int x :: st) n I Q F := by
  intro p e s m args below meth c H locs cells slots mc ms R ls Qf C hW hS hl h1 h2 fin
  obtain ⟨hd, rfl, ht⟩ := hd
  exact lv_icmp_ge C.1 C.2.1 hd ht (fun h => kt h _ _ _ _ _ _ _ _ _ _ _ _ _ _ _ _ _ C hW hS hl h1 h2 fin) (fun h => kf h _ _ _ _ _ _ _ _ _ _ _ _ _ _ _ _ _ C hW hS hl h1 h2 fin)
theorem x_if_gt {r : Ev} {d : Nat} {y : MethodName} {cc : ByteArray} {mr : Nat × Option FieldType} {b : Nat × Nat} {pc q : Nat} {lv : List (Option Value)} {st : List Value} {n : Nat} {I : MI} {Q : MQ2} {F : Post} {x : Int32} {off : Int} {t : Nat} (hd : DB cc pc (.ifCond .gt off) 3 off q t) (kt : 0 < x → X r d y cc mr b t lv st n I Q F) (kf : ¬ 0 < x → X r d y cc mr b q lv st n I Q F) : X r d y cc mr b pc lv (.int x :: st) n I Q F := by
  intro p e s m args below meth c H locs cells slots mc ms R ls Qf C hW hS hl h1 h2 fin
  obtain ⟨hd, rfl, ht⟩ := hd
  exact lv_if_gt C.1 C.2.1 hd ht (fun h => kt h _ _ _ _ _ _ _ _ _ _ _ _ _ _ _ _ _ C hW hS hl h1 h2 fin) (fun h => kf h _ _ _ _ _ _ _ _ _ _ _ _ _ _ _ _ _ C hW hS hl h1 h2 fin)
theorem x_icmp_gt {r : Ev} {d : Nat} {y : MethodName} {cc : ByteArray} {mr : Nat × Option FieldType} {b : Nat × Nat} {pc q : Nat} {lv : List (Option Value)} {st : List Value} {n : Nat} {I : MI} {Q : MQ2} {F : Post} {x x2 : Int32} {off : Int} {t : Nat} (hd : DB cc pc (.if_icmp .gt off) 3 off q t) (kt : x2 < x → X r d y cc mr b t lv st n I Q F) (kf : ¬ x2 < x → X r d y cc mr b q lv st n I Q F) : X r d y cc mr b pc lv (.int x2 :: .int x :: st) n I Q F := by
  intro p e s m args below meth c H locs cells slots mc ms R ls Qf C hW hS hl h1 h2 fin
  obtain ⟨hd, rfl, ht⟩ := hd
  exact lv_icmp_gt C.1 C.2.1 hd ht (fun h => kt h _ _ _ _ _ _ _ _ _ _ _ _ _ _ _ _ _ C hW hS hl h1 h2 fin) (fun h => kf h _ _ _ _ _ _ _ _ _ _ _ _ _ _ _ _ _ C hW hS hl h1 h2 fin)
theorem x_if_le {r : Ev} {d : Nat} {y : MethodName} {cc : ByteArray} {mr : Nat × Option FieldType} {b : Nat × Nat} {pc q : Nat} {lv : List (Option Value)} {st : List Value} {n : Nat} {I : MI} {Q : MQ2} {F : Post} {x : Int32} {off : Int} {t : Nat} (hd : DB cc pc (.ifCond .le off) 3 off q t) (kt : x ≤ 0 → X r d y cc mr b t lv st n I Q F) (kf : ¬ x ≤ 0 → X r d y cc mr b q lv st n I Q F) : X r d y cc mr b pc lv (.int x :: st) n I Q F := by
  intro p e s m args below meth c H locs cells slots mc ms R ls Qf C hW hS hl h1 h2 fin
  obtain ⟨hd, rfl, ht⟩ := hd
  exact lv_if_le C.1 C.2.1 hd ht (fun h => kt h _ _ _ _ _ _ _ _ _ _ _ _ _ _ _ _ _ C hW hS hl h1 h2 fin) (fun h => kf h _ _ _ _ _ _ _ _ _ _ _ _ _ _ _ _ _ C hW hS hl h1 h2 fin)
theorem x_icmp_le {r : Ev} {d : Nat} {y : MethodName} {cc : ByteArray} {mr : Nat × Option FieldType} {b : Nat × Nat} {pc q : Nat} {lv : List (Option Value)} {st : List Value} {n : Nat} {I : MI} {Q : MQ2} {F : Post} {x x2 : Int32} {off : Int} {t : Nat} (hd : DB cc pc (.if_icmp .le off) 3 off q t) (kt : x ≤ x2 → X r d y cc mr b t lv st n I Q F) (kf : ¬ x ≤ x2 → X r d y cc mr b q lv st n I Q F) : X r d y cc mr b pc lv (.int x2 :: .int x :: st) n I Q F := by
  intro p e s m args below meth c H locs cells slots mc ms R ls Qf C hW hS hl h1 h2 fin
  obtain ⟨hd, rfl, ht⟩ := hd
  exact lv_icmp_le C.1 C.2.1 hd ht (fun h => kt h _ _ _ _ _ _ _ _ _ _ _ _ _ _ _ _ _ C hW hS hl h1 h2 fin) (fun h => kf h _ _ _ _ _ _ _ _ _ _ _ _ _ _ _ _ _ C hW hS hl h1 h2 fin)
theorem x_iload_0 {r : Ev} {d : Nat} {y : MethodName} {cc : ByteArray} {mr : Nat × Option FieldType} {b : Nat × Nat} {pc q : Nat} {st : List Value} {n : Nat} {I : MI} {Q : MQ2} {F : Post} {t : List (Option Value)} {x : Int32} (hd : DR cc pc (.iload_n 0) 1 q) (k : X r d y cc mr b q (some (.int x) :: t) (.int x :: st) n I Q F) : X r d y cc mr b pc (some (.int x) :: t) st n I Q F := by
  intro p e s m args below meth c H locs cells slots mc ms R ls Qf C hW hS hl h1 h2 fin
  obtain ⟨hd, rfl⟩ := hd
  exact lv_iload_n C.1 C.2.1 hd rfl (hl.2.2 0 _ rfl) (k _ _ _ _ _ _ _ _ _ _ _ _ _ _ _ _ _ C hW hS hl h1 h2 fin)
theorem x_aload_0 {r : Ev} {d : Nat} {y : MethodName} {cc : ByteArray} {mr : Nat × Option FieldType} {b : Nat × Nat} {pc q : Nat} {st : List Value} {n : Nat} {I : MI} {Q : MQ2} {F : Post} {t : List (Option Value)} {x : Nat} (hd : DR cc pc (.aload_n 0) 1 q) (k : X r d y cc mr b q (some (.ref x) :: t) (.ref x :: st) n I Q F) : X r d y cc mr b pc (some (.ref x) :: t) st n I Q F := by
  intro p e s m args below meth c H locs cells slots mc ms R ls Qf C hW hS hl h1 h2 fin
  obtain ⟨hd, rfl⟩ := hd
  exact lv_aload_n C.1 C.2.1 hd rfl (hl.2.2 0 _ rfl) (k _ _ _ _ _ _ _ _ _ _ _ _ _ _ _ _ _ C hW hS hl h1 h2 fin)
theorem x_lload_0 {r : Ev} {d : Nat} {y : MethodName} {cc : ByteArray} {mr : Nat × Option FieldType} {b : Nat × Nat} {pc q : Nat} {st : List Value} {n : Nat} {I : MI} {Q : MQ2} {F : Post} {t : List (Option Value)} {x : Int64} (hd : DR cc pc (.lload_n 0) 1 q) (k : X r d y cc mr b q (some (.long x) :: t) (.long x :: st) n I Q F) : X r d y cc mr b pc (some (.long x) :: t) st n I Q F := by
  intro p e s m args below meth c H locs cells slots mc ms R ls Qf C hW hS hl h1 h2 fin
  obtain ⟨hd, rfl⟩ := hd
  exact lv_lload_n C.1 C.2.1 hd rfl (hl.2.2 0 _ rfl) (k _ _ _ _ _ _ _ _ _ _ _ _ _ _ _ _ _ C hW hS hl h1 h2 fin)
theorem x_iload_1 {r : Ev} {d : Nat} {y : MethodName} {cc : ByteArray} {mr : Nat × Option FieldType} {b : Nat × Nat} {pc q : Nat} {st : List Value} {n : Nat} {I : MI} {Q : MQ2} {F : Post} {a0 : Option Value} {t : List (Option Value)} {x : Int32} (hd : DR cc pc (.iload_n 1) 1 q) (k : X r d y cc mr b q (a0 :: some (.int x) :: t) (.int x :: st) n I Q F) : X r d y cc mr b pc (a0 :: some (.int x) :: t) st n I Q F := by
  intro p e s m args below meth c H locs cells slots mc ms R ls Qf C hW hS hl h1 h2 fin
  obtain ⟨hd, rfl⟩ := hd
  exact lv_iload_n C.1 C.2.1 hd rfl (hl.2.2 1 _ rfl) (k _ _ _ _ _ _ _ _ _ _ _ _ _ _ _ _ _ C hW hS hl h1 h2 fin)
theorem x_aload_1 {r : Ev} {d : Nat} {y : MethodName} {cc : ByteArray} {mr : Nat × Option FieldType} {b : Nat × Nat} {pc q : Nat} {st : List Value} {n : Nat} {I : MI} {Q : MQ2} {F : Post} {a0 : Option Value} {t : List (Option Value)} {x : Nat} (hd : DR cc pc (.aload_n 1) 1 q) (k : X r d y cc mr b q (a0 :: some (.ref x) :: t) (.ref x :: st) n I Q F) : X r d y cc mr b pc (a0 :: some (.ref x) :: t) st n I Q F := by
  intro p e s m args below meth c H locs cells slots mc ms R ls Qf C hW hS hl h1 h2 fin
  obtain ⟨hd, rfl⟩ := hd
  exact lv_aload_n C.1 C.2.1 hd rfl (hl.2.2 1 _ rfl) (k _ _ _ _ _ _ _ _ _ _ _ _ _ _ _ _ _ C hW hS hl h1 h2 fin)
theorem x_lload_1 {r : Ev} {d : Nat} {y : MethodName} {cc : ByteArray} {mr : Nat × Option FieldType} {b : Nat × Nat} {pc q : Nat} {st : List Value} {n : Nat} {I : MI} {Q : MQ2} {F : Post} {a0 : Option Value} {t : List (Option Value)} {x : Int64} (hd : DR cc pc (.lload_n 1) 1 q) (k : X r d y cc mr b q (a0 :: some (.long x) :: t) (.long x :: st) n I Q F) : X r d y cc mr b pc (a0 :: some (.long x) :: t) st n I Q F := by
  intro p e s m args below meth c H locs cells slots mc ms R ls Qf C hW hS hl h1 h2 fin
  obtain ⟨hd, rfl⟩ := hd
  exact lv_lload_n C.1 C.2.1 hd rfl (hl.2.2 1 _ rfl) (k _ _ _ _ _ _ _ _ _ _ _ _ _ _ _ _ _ C hW hS hl h1 h2 fin)
theorem x_iload_2 {r : Ev} {d : Nat} {y : MethodName} {cc : ByteArray} {mr : Nat × Option FieldType} {b : Nat × Nat} {pc q : Nat} {st : List Value} {n : Nat} {I : MI} {Q : MQ2} {F : Post} {a0 a1 : Option Value} {t : List (Option Value)} {x : Int32} (hd : DR cc pc (.iload_n 2) 1 q) (k : X r d y cc mr b q (a0 :: a1 :: some (.int x) :: t) (.int x :: st) n I Q F) : X r d y cc mr b pc (a0 :: a1 :: some (.int x) :: t) st n I Q F := by
  intro p e s m args below meth c H locs cells slots mc ms R ls Qf C hW hS hl h1 h2 fin
  obtain ⟨hd, rfl⟩ := hd
  exact lv_iload_n C.1 C.2.1 hd rfl (hl.2.2 2 _ rfl) (k _ _ _ _ _ _ _ _ _ _ _ _ _ _ _ _ _ C hW hS hl h1 h2 fin)
theorem x_aload_2 {r : Ev} {d : Nat} {y : MethodName} {cc : ByteArray} {mr : Nat × Option FieldType} {b : Nat × Nat} {pc q : Nat} {st : List Value} {n : Nat} {I : MI} {Q : MQ2} {F : Post} {a0 a1 : Option Value} {t : List (Option Value)} {x : Nat} (hd : DR cc pc (.aload_n 2) 1 q) (k : X r d y cc mr b q (a0 :: a1 :: some (.ref x) :: t) (.ref x :: st) n I Q F) : X r d y cc mr b pc (a0 :: a1 :: some (.ref x) :: t) st n I Q F := by
  intro p e s m args below meth c H locs cells slots mc ms R ls Qf C hW hS hl h1 h2 fin
  obtain ⟨hd, rfl⟩ := hd
  exact lv_aload_n C.1 C.2.1 hd rfl (hl.2.2 2 _ rfl) (k _ _ _ _ _ _ _ _ _ _ _ _ _ _ _ _ _ C hW hS hl h1 h2 fin)
theorem x_lload_2 {r : Ev} {d : Nat} {y : MethodName} {cc : ByteArray} {mr : Nat × Option FieldType} {b : Nat × Nat} {pc q : Nat} {st : List Value} {n : Nat} {I : MI} {Q : MQ2} {F : Post} {a0 a1 : Option Value} {t : List (Option Value)} {x : Int64} (hd : DR cc pc (.lload_n 2) 1 q) (k : X r d y cc mr b q (a0 :: a1 :: some (.long x) :: t) (.long x :: st) n I Q F) : X r d y cc mr b pc (a0 :: a1 :: some (.long x) :: t) st n I Q F := by
  intro p e s m args below meth c H locs cells slots mc ms R ls Qf C hW hS hl h1 h2 fin
  obtain ⟨hd, rfl⟩ := hd
  exact lv_lload_n C.1 C.2.1 hd rfl (hl.2.2 2 _ rfl) (k _ _ _ _ _ _ _ _ _ _ _ _ _ _ _ _ _ C hW hS hl h1 h2 fin)
theorem x_iload_3 {r : Ev} {d : Nat} {y : MethodName} {cc : ByteArray} {mr : Nat × Option FieldType} {b : Nat × Nat} {pc q : Nat} {st : List Value} {n : Nat} {I : MI} {Q : MQ2} {F : Post} {a0 a1 a2 : Option Value} {t : List (Option Value)} {x : Int32} (hd : DR cc pc (.iload_n 3) 1 q) (k : X r d y cc mr b q (a0 :: a1 :: a2 :: some (.int x) :: t) (.int x :: st) n I Q F) : X r d y cc mr b pc (a0 :: a1 :: a2 :: some (.int x) :: t) st n I Q F := by
  intro p e s m args below meth c H locs cells slots mc ms R ls Qf C hW hS hl h1 h2 fin
  obtain ⟨hd, rfl⟩ := hd
  exact lv_iload_n C.1 C.2.1 hd rfl (hl.2.2 3 _ rfl) (k _ _ _ _ _ _ _ _ _ _ _ _ _ _ _ _ _ C hW hS hl h1 h2 fin)
theorem x_aload_3 {r : Ev} {d : Nat} {y : MethodName} {cc : ByteArray} {mr : Nat × Option FieldType} {b : Nat × Nat} {pc q : Nat} {st : List Value} {n : Nat} {I : MI} {Q : MQ2} {F : Post} {a0 a1 a2 : Option Value} {t : List (Option Value)} {x : Nat} (hd : DR cc pc (.aload_n 3) 1 q) (k : X r d y cc mr b q (a0 :: a1 :: a2 :: some (.ref x) :: t) (.ref x :: st) n I Q F) : X r d y cc mr b pc (a0 :: a1 :: a2 :: some (.ref x) :: t) st n I Q F := by
  intro p e s m args below meth c H locs cells slots mc ms R ls Qf C hW hS hl h1 h2 fin
  obtain ⟨hd, rfl⟩ := hd
  exact lv_aload_n C.1 C.2.1 hd rfl (hl.2.2 3 _ rfl) (k _ _ _ _ _ _ _ _ _ _ _ _ _ _ _ _ _ C hW hS hl h1 h2 fin)
theorem x_lload_3 {r : Ev} {d : Nat} {y : MethodName} {cc : ByteArray} {mr : Nat × Option FieldType} {b : Nat × Nat} {pc q : Nat} {st : List Value} {n : Nat} {I : MI} {Q : MQ2} {F : Post} {a0 a1 a2 : Option Value} {t : List (Option Value)} {x : Int64} (hd : DR cc pc (.lload_n 3) 1 q) (k : X r d y cc mr b q (a0 :: a1 :: a2 :: some (.long x) :: t) (.long x :: st) n I Q F) : X r d y cc mr b pc (a0 :: a1 :: a2 :: some (.long x) :: t) st n I Q F := by
  intro p e s m args below meth c H locs cells slots mc ms R ls Qf C hW hS hl h1 h2 fin
  obtain ⟨hd, rfl⟩ := hd
  exact lv_lload_n C.1 C.2.1 hd rfl (hl.2.2 3 _ rfl) (k _ _ _ _ _ _ _ _ _ _ _ _ _ _ _ _ _ C hW hS hl h1 h2 fin)
theorem x_iload_4 {r : Ev} {d : Nat} {y : MethodName} {cc : ByteArray} {mr : Nat × Option FieldType} {b : Nat × Nat} {pc q : Nat} {st : List Value} {n : Nat} {I : MI} {Q : MQ2} {F : Post} {a0 a1 a2 a3 : Option Value} {t : List (Option Value)} {x : Int32} (hd : DR cc pc (.iload 4) 2 q) (k : X r d y cc mr b q (a0 :: a1 :: a2 :: a3 :: some (.int x) :: t) (.int x :: st) n I Q F) : X r d y cc mr b pc (a0 :: a1 :: a2 :: a3 :: some (.int x) :: t) st n I Q F := by
  intro p e s m args below meth c H locs cells slots mc ms R ls Qf C hW hS hl h1 h2 fin
  obtain ⟨hd, rfl⟩ := hd
  exact lv_iload C.1 C.2.1 hd (hl.2.2 4 _ rfl) (k _ _ _ _ _ _ _ _ _ _ _ _ _ _ _ _ _ C hW hS hl h1 h2 fin)
theorem x_aload_4 {r : Ev} {d : Nat} {y : MethodName} {cc : ByteArray} {mr : Nat × Option FieldType} {b : Nat × Nat} {pc q : Nat} {st : List Value} {n : Nat} {I : MI} {Q : MQ2} {F : Post} {a0 a1 a2 a3 : Option Value} {t : List (Option Value)} {x : Nat} (hd : DR cc pc (.aload 4) 2 q) (k : X r d y cc mr b q (a0 :: a1 :: a2 :: a3 :: some (.ref x) :: t) (.ref x :: st) n I Q F) : X r d y cc mr b pc (a0 :: a1 :: a2 :: a3 :: some (.ref x) :: t) st n I Q F := by
  intro p e s m args below meth c H locs cells slots mc ms R ls Qf C hW hS hl h1 h2 fin
  obtain ⟨hd, rfl⟩ := hd
  exact lv_aload C.1 C.2.1 hd (hl.2.2 4 _ rfl) (k _ _ _ _ _ _ _ _ _ _ _ _ _ _ _ _ _ C hW hS hl h1 h2 fin)
theorem x_lload_4 {r : Ev} {d : Nat} {y : MethodName} {cc : ByteArray} {mr : Nat × Option FieldType} {b : Nat × Nat} {pc q : Nat} {st : List Value} {n : Nat} {I : MI} {Q : MQ2} {F : Post} {a0 a1 a2 a3 : Option Value} {t : List (Option Value)} {x : Int64} (hd : DR cc pc (.lload 4) 2 q) (k : X r d y cc mr b q (a0 :: a1 :: a2 :: a3 :: some (.long x) :: t) (.long x :: st) n I Q F) : X r d y cc mr b pc (a0 :: a1 :: a2 :: a3 :: some (.long x) :: t) st n I Q F := by
  intro p e s m args below meth c H locs cells slots mc ms R ls Qf C hW hS hl h1 h2 fin
  obtain ⟨hd, rfl⟩ := hd
  exact lv_lload C.1 C.2.1 hd (hl.2.2 4 _ rfl) (k _ _ _ _ _ _ _ _ _ _ _ _ _ _ _ _ _ C hW hS hl h1 h2 fin)
theorem x_iload_5 {r : Ev} {d : Nat} {y : MethodName} {cc : ByteArray} {mr : Nat × Option FieldType} {b : Nat × Nat} {pc q : Nat} {st : List Value} {n : Nat} {I : MI} {Q : MQ2} {F : Post} {a0 a1 a2 a3 a4 : Option Value} {t : List (Option Value)} {x : Int32} (hd : DR cc pc (.iload 5) 2 q) (k : X r d y cc mr b q (a0 :: a1 :: a2 :: a3 :: a4 :: some (.int x) :: t) (.int x :: st) n I Q F) : X r d y cc mr b pc (a0 :: a1 :: a2 :: a3 :: a4 :: some (.int x) :: t) st n I Q F := by
  intro p e s m args below meth c H locs cells slots mc ms R ls Qf C hW hS hl h1 h2 fin
  obtain ⟨hd, rfl⟩ := hd
  exact lv_iload C.1 C.2.1 hd (hl.2.2 5 _ rfl) (k _ _ _ _ _ _ _ _ _ _ _ _ _ _ _ _ _ C hW hS hl h1 h2 fin)
theorem x_aload_5 {r : Ev} {d : Nat} {y : MethodName} {cc : ByteArray} {mr : Nat × Option FieldType} {b : Nat × Nat} {pc q : Nat} {st : List Value} {n : Nat} {I : MI} {Q : MQ2} {F : Post} {a0 a1 a2 a3 a4 : Option Value} {t : List (Option Value)} {x : Nat} (hd : DR cc pc (.aload 5) 2 q) (k : X r d y cc mr b q (a0 :: a1 :: a2 :: a3 :: a4 :: some (.ref x) :: t) (.ref x :: st) n I Q F) : X r d y cc mr b pc (a0 :: a1 :: a2 :: a3 :: a4 :: some (.ref x) :: t) st n I Q F := by
  intro p e s m args below meth c H locs cells slots mc ms R ls Qf C hW hS hl h1 h2 fin
  obtain ⟨hd, rfl⟩ := hd
  exact lv_aload C.1 C.2.1 hd (hl.2.2 5 _ rfl) (k _ _ _ _ _ _ _ _ _ _ _ _ _ _ _ _ _ C hW hS hl h1 h2 fin)
theorem x_lload_5 {r : Ev} {d : Nat} {y : MethodName} {cc : ByteArray} {mr : Nat × Option FieldType} {b : Nat × Nat} {pc q : Nat} {st : List Value} {n : Nat} {I : MI} {Q : MQ2} {F : Post} {a0 a1 a2 a3 a4 : Option Value} {t : List (Option Value)} {x : Int64} (hd : DR cc pc (.lload 5) 2 q) (k : X r d y cc mr b q (a0 :: a1 :: a2 :: a3 :: a4 :: some (.long x) :: t) (.long x :: st) n I Q F) : X r d y cc mr b pc (a0 :: a1 :: a2 :: a3 :: a4 :: some (.long x) :: t) st n I Q F := by
  intro p e s m args below meth c H locs cells slots mc ms R ls Qf C hW hS hl h1 h2 fin
  obtain ⟨hd, rfl⟩ := hd
  exact lv_lload C.1 C.2.1 hd (hl.2.2 5 _ rfl) (k _ _ _ _ _ _ _ _ _ _ _ _ _ _ _ _ _ C hW hS hl h1 h2 fin)
theorem x_iload_6 {r : Ev} {d : Nat} {y : MethodName} {cc : ByteArray} {mr : Nat × Option FieldType} {b : Nat × Nat} {pc q : Nat} {st : List Value} {n : Nat} {I : MI} {Q : MQ2} {F : Post} {a0 a1 a2 a3 a4 a5 : Option Value} {t : List (Option Value)} {x : Int32} (hd : DR cc pc (.iload 6) 2 q) (k : X r d y cc mr b q (a0 :: a1 :: a2 :: a3 :: a4 :: a5 :: some (.int x) :: t) (.int x :: st) n I Q F) : X r d y cc mr b pc (a0 :: a1 :: a2 :: a3 :: a4 :: a5 :: some (.int x) :: t) st n I Q F := by
  intro p e s m args below meth c H locs cells slots mc ms R ls Qf C hW hS hl h1 h2 fin
  obtain ⟨hd, rfl⟩ := hd
  exact lv_iload C.1 C.2.1 hd (hl.2.2 6 _ rfl) (k _ _ _ _ _ _ _ _ _ _ _ _ _ _ _ _ _ C hW hS hl h1 h2 fin)
theorem x_aload_6 {r : Ev} {d : Nat} {y : MethodName} {cc : ByteArray} {mr : Nat × Option FieldType} {b : Nat × Nat} {pc q : Nat} {st : List Value} {n : Nat} {I : MI} {Q : MQ2} {F : Post} {a0 a1 a2 a3 a4 a5 : Option Value} {t : List (Option Value)} {x : Nat} (hd : DR cc pc (.aload 6) 2 q) (k : X r d y cc mr b q (a0 :: a1 :: a2 :: a3 :: a4 :: a5 :: some (.ref x) :: t) (.ref x :: st) n I Q F) : X r d y cc mr b pc (a0 :: a1 :: a2 :: a3 :: a4 :: a5 :: some (.ref x) :: t) st n I Q F := by
  intro p e s m args below meth c H locs cells slots mc ms R ls Qf C hW hS hl h1 h2 fin
  obtain ⟨hd, rfl⟩ := hd
  exact lv_aload C.1 C.2.1 hd (hl.2.2 6 _ rfl) (k _ _ _ _ _ _ _ _ _ _ _ _ _ _ _ _ _ C hW hS hl h1 h2 fin)
theorem x_lload_6 {r : Ev} {d : Nat} {y : MethodName} {cc : ByteArray} {mr : Nat × Option FieldType} {b : Nat × Nat} {pc q : Nat} {st : List Value} {n : Nat} {I : MI} {Q : MQ2} {F : Post} {a0 a1 a2 a3 a4 a5 : Option Value} {t : List (Option Value)} {x : Int64} (hd : DR cc pc (.lload 6) 2 q) (k : X r d y cc mr b q (a0 :: a1 :: a2 :: a3 :: a4 :: a5 :: some (.long x) :: t) (.long x :: st) n I Q F) : X r d y cc mr b pc (a0 :: a1 :: a2 :: a3 :: a4 :: a5 :: some (.long x) :: t) st n I Q F := by
  intro p e s m args below meth c H locs cells slots mc ms R ls Qf C hW hS hl h1 h2 fin
  obtain ⟨hd, rfl⟩ := hd
  exact lv_lload C.1 C.2.1 hd (hl.2.2 6 _ rfl) (k _ _ _ _ _ _ _ _ _ _ _ _ _ _ _ _ _ C hW hS hl h1 h2 fin)
theorem x_iload_7 {r : Ev} {d : Nat} {y : MethodName} {cc : ByteArray} {mr : Nat × Option FieldType} {b : Nat × Nat} {pc q : Nat} {st : List Value} {n : Nat} {I : MI} {Q : MQ2} {F : Post} {a0 a1 a2 a3 a4 a5 a6 : Option Value} {t : List (Option Value)} {x : Int32} (hd : DR cc pc (.iload 7) 2 q) (k : X r d y cc mr b q (a0 :: a1 :: a2 :: a3 :: a4 :: a5 :: a6 :: some (.int x) :: t) (.int x :: st) n I Q F) : X r d y cc mr b pc (a0 :: a1 :: a2 :: a3 :: a4 :: a5 :: a6 :: some (.int x) :: t) st n I Q F := by
  intro p e s m args below meth c H locs cells slots mc ms R ls Qf C hW hS hl h1 h2 fin
  obtain ⟨hd, rfl⟩ := hd
  exact lv_iload C.1 C.2.1 hd (hl.2.2 7 _ rfl) (k _ _ _ _ _ _ _ _ _ _ _ _ _ _ _ _ _ C hW hS hl h1 h2 fin)
theorem x_aload_7 {r : Ev} {d : Nat} {y : MethodName} {cc : ByteArray} {mr : Nat × Option FieldType} {b : Nat × Nat} {pc q : Nat} {st : List Value} {n : Nat} {I : MI} {Q : MQ2} {F : Post} {a0 a1 a2 a3 a4 a5 a6 : Option Value} {t : List (Option Value)} {x : Nat} (hd : DR cc pc (.aload 7) 2 q) (k : X r d y cc mr b q (a0 :: a1 :: a2 :: a3 :: a4 :: a5 :: a6 :: some (.ref x) :: t) (.ref x :: st) n I Q F) : X r d y cc mr b pc (a0 :: a1 :: a2 :: a3 :: a4 :: a5 :: a6 :: some (.ref x) :: t) st n I Q F := by
  intro p e s m args below meth c H locs cells slots mc ms R ls Qf C hW hS hl h1 h2 fin
  obtain ⟨hd, rfl⟩ := hd
  exact lv_aload C.1 C.2.1 hd (hl.2.2 7 _ rfl) (k _ _ _ _ _ _ _ _ _ _ _ _ _ _ _ _ _ C hW hS hl h1 h2 fin)
theorem x_lload_7 {r : Ev} {d : Nat} {y : MethodName} {cc : ByteArray} {mr : Nat × Option FieldType} {b : Nat × Nat} {pc q : Nat} {st : List Value} {n : Nat} {I : MI} {Q : MQ2} {F : Post} {a0 a1 a2 a3 a4 a5 a6 : Option Value} {t : List (Option Value)} {x : Int64} (hd : DR cc pc (.lload 7) 2 q) (k : X r d y cc mr b q (a0 :: a1 :: a2 :: a3 :: a4 :: a5 :: a6 :: some (.long x) :: t) (.long x :: st) n I Q F) : X r d y cc mr b pc (a0 :: a1 :: a2 :: a3 :: a4 :: a5 :: a6 :: some (.long x) :: t) st n I Q F := by
  intro p e s m args below meth c H locs cells slots mc ms R ls Qf C hW hS hl h1 h2 fin
  obtain ⟨hd, rfl⟩ := hd
  exact lv_lload C.1 C.2.1 hd (hl.2.2 7 _ rfl) (k _ _ _ _ _ _ _ _ _ _ _ _ _ _ _ _ _ C hW hS hl h1 h2 fin)
theorem x_iload_8 {r : Ev} {d : Nat} {y : MethodName} {cc : ByteArray} {mr : Nat × Option FieldType} {b : Nat × Nat} {pc q : Nat} {st : List Value} {n : Nat} {I : MI} {Q : MQ2} {F : Post} {a0 a1 a2 a3 a4 a5 a6 a7 : Option Value} {t : List (Option Value)} {x : Int32} (hd : DR cc pc (.iload 8) 2 q) (k : X r d y cc mr b q (a0 :: a1 :: a2 :: a3 :: a4 :: a5 :: a6 :: a7 :: some (.int x) :: t) (.int x :: st) n I Q F) : X r d y cc mr b pc (a0 :: a1 :: a2 :: a3 :: a4 :: a5 :: a6 :: a7 :: some (.int x) :: t) st n I Q F := by
  intro p e s m args below meth c H locs cells slots mc ms R ls Qf C hW hS hl h1 h2 fin
  obtain ⟨hd, rfl⟩ := hd
  exact lv_iload C.1 C.2.1 hd (hl.2.2 8 _ rfl) (k _ _ _ _ _ _ _ _ _ _ _ _ _ _ _ _ _ C hW hS hl h1 h2 fin)
theorem x_aload_8 {r : Ev} {d : Nat} {y : MethodName} {cc : ByteArray} {mr : Nat × Option FieldType} {b : Nat × Nat} {pc q : Nat} {st : List Value} {n : Nat} {I : MI} {Q : MQ2} {F : Post} {a0 a1 a2 a3 a4 a5 a6 a7 : Option Value} {t : List (Option Value)} {x : Nat} (hd : DR cc pc (.aload 8) 2 q) (k : X r d y cc mr b q (a0 :: a1 :: a2 :: a3 :: a4 :: a5 :: a6 :: a7 :: some (.ref x) :: t) (.ref x :: st) n I Q F) : X r d y cc mr b pc (a0 :: a1 :: a2 :: a3 :: a4 :: a5 :: a6 :: a7 :: some (.ref x) :: t) st n I Q F := by
  intro p e s m args below meth c H locs cells slots mc ms R ls Qf C hW hS hl h1 h2 fin
  obtain ⟨hd, rfl⟩ := hd
  exact lv_aload C.1 C.2.1 hd (hl.2.2 8 _ rfl) (k _ _ _ _ _ _ _ _ _ _ _ _ _ _ _ _ _ C hW hS hl h1 h2 fin)
theorem x_lload_8 {r : Ev} {d : Nat} {y : MethodName} {cc : ByteArray} {mr : Nat × Option FieldType} {b : Nat × Nat} {pc q : Nat} {st : List Value} {n : Nat} {I : MI} {Q : MQ2} {F : Post} {a0 a1 a2 a3 a4 a5 a6 a7 : Option Value} {t : List (Option Value)} {x : Int64} (hd : DR cc pc (.lload 8) 2 q) (k : X r d y cc mr b q (a0 :: a1 :: a2 :: a3 :: a4 :: a5 :: a6 :: a7 :: some (.long x) :: t) (.long x :: st) n I Q F) : X r d y cc mr b pc (a0 :: a1 :: a2 :: a3 :: a4 :: a5 :: a6 :: a7 :: some (.long x) :: t) st n I Q F := by
  intro p e s m args below meth c H locs cells slots mc ms R ls Qf C hW hS hl h1 h2 fin
  obtain ⟨hd, rfl⟩ := hd
  exact lv_lload C.1 C.2.1 hd (hl.2.2 8 _ rfl) (k _ _ _ _ _ _ _ _ _ _ _ _ _ _ _ _ _ C hW hS hl h1 h2 fin)
theorem x_iload_9 {r : Ev} {d : Nat} {y : MethodName} {cc : ByteArray} {mr : Nat × Option FieldType} {b : Nat × Nat} {pc q : Nat} {st : List Value} {n : Nat} {I : MI} {Q : MQ2} {F : Post} {a0 a1 a2 a3 a4 a5 a6 a7 a8 : Option Value} {t : List (Option Value)} {x : Int32} (hd : DR cc pc (.iload 9) 2 q) (k : X r d y cc mr b q (a0 :: a1 :: a2 :: a3 :: a4 :: a5 :: a6 :: a7 :: a8 :: some (.int x) :: t) (.int x :: st) n I Q F) : X r d y cc mr b pc (a0 :: a1 :: a2 :: a3 :: a4 :: a5 :: a6 :: a7 :: a8 :: some (.int x) :: t) st n I Q F := by
  intro p e s m args below meth c H locs cells slots mc ms R ls Qf C hW hS hl h1 h2 fin
  obtain ⟨hd, rfl⟩ := hd
  exact lv_iload C.1 C.2.1 hd (hl.2.2 9 _ rfl) (k _ _ _ _ _ _ _ _ _ _ _ _ _ _ _ _ _ C hW hS hl h1 h2 fin)
theorem x_aload_9 {r : Ev} {d : Nat} {y : MethodName} {cc : ByteArray} {mr : Nat × Option FieldType} {b : Nat × Nat} {pc q : Nat} {st : List Value} {n : Nat} {I : MI} {Q : MQ2} {F : Post} {a0 a1 a2 a3 a4 a5 a6 a7 a8 : Option Value} {t : List (Option Value)} {x : Nat} (hd : DR cc pc (.aload 9) 2 q) (k : X r d y cc mr b q (a0 :: a1 :: a2 :: a3 :: a4 :: a5 :: a6 :: a7 :: a8 :: some (.ref x) :: t) (.ref x :: st) n I Q F) : X r d y cc mr b pc (a0 :: a1 :: a2 :: a3 :: a4 :: a5 :: a6 :: a7 :: a8 :: some (.ref x) :: t) st n I Q F := by
  intro p e s m args below meth c H locs cells slots mc ms R ls Qf C hW hS hl h1 h2 fin
  obtain ⟨hd, rfl⟩ := hd
  exact lv_aload C.1 C.2.1 hd (hl.2.2 9 _ rfl) (k _ _ _ _ _ _ _ _ _ _ _ _ _ _ _ _ _ C hW hS hl h1 h2 fin)
theorem x_lload_9 {r : Ev} {d : Nat} {y : MethodName} {cc : ByteArray} {mr : Nat × Option FieldType} {b : Nat × Nat} {pc q : Nat} {st : List Value} {n : Nat} {I : MI} {Q : MQ2} {F : Post} {a0 a1 a2 a3 a4 a5 a6 a7 a8 : Option Value} {t : List (Option Value)} {x : Int64} (hd : DR cc pc (.lload 9) 2 q) (k : X r d y cc mr b q (a0 :: a1 :: a2 :: a3 :: a4 :: a5 :: a6 :: a7 :: a8 :: some (.long x) :: t) (.long x :: st) n I Q F) : X r d y cc mr b pc (a0 :: a1 :: a2 :: a3 :: a4 :: a5 :: a6 :: a7 :: a8 :: some (.long x) :: t) st n I Q F := by
  intro p e s m args below meth c H locs cells slots mc ms R ls Qf C hW hS hl h1 h2 fin
  obtain ⟨hd, rfl⟩ := hd
  exact lv_lload C.1 C.2.1 hd (hl.2.2 9 _ rfl) (k _ _ _ _ _ _ _ _ _ _ _ _ _ _ _ _ _ C hW hS hl h1 h2 fin)
theorem x_iload_10 {r : Ev} {d : Nat} {y : MethodName} {cc : ByteArray} {mr : Nat × Option FieldType} {b : Nat × Nat} {pc q : Nat} {st : List Value} {n : Nat} {I : MI} {Q : MQ2} {F : Post} {a0 a1 a2 a3 a4 a5 a6 a7 a8 a9 : Option Value} {t : List (Option Value)} {x : Int32} (hd : DR cc pc (.iload 10) 2 q) (k : X r d y cc mr b q (a0 :: a1 :: a2 :: a3 :: a4 :: a5 :: a6 :: a7 :: a8 :: a9 :: some (.int x) :: t) (.int x :: st) n I Q F) : X r d y cc mr b pc (a0 :: a1 :: a2 :: a3 :: a4 :: a5 :: a6 :: a7 :: a8 :: a9 :: some (.int x) :: t) st n I Q F := by
  intro p e s m args below meth c H locs cells slots mc ms R ls Qf C hW hS hl h1 h2 fin
  obtain ⟨hd, rfl⟩ := hd
  exact lv_iload C.1 C.2.1 hd (hl.2.2 10 _ rfl) (k _ _ _ _ _ _ _ _ _ _ _ _ _ _ _ _ _ C hW hS hl h1 h2 fin)
theorem x_aload_10 {r : Ev} {d : Nat} {y : MethodName} {cc : ByteArray} {mr : Nat × Option FieldType} {b : Nat × Nat} {pc q : Nat} {st : List Value} {n : Nat} {I : MI} {Q : MQ2} {F : Post} {a0 a1 a2 a3 a4 a5 a6 a7 a8 a9 : Option Value} {t : List (Option Value)} {x : Nat} (hd : DR cc pc (.aload 10) 2 q) (k : X r d y cc mr b q (a0 :: a1 :: a2 :: a3 :: a4 :: a5 :: a6 :: a7 :: a8 :: a9 :: some (.ref x) :: t) (.ref x :: st) n I Q F) : X r d y cc mr b pc (a0 :: a1 :: a2 :: a3 :: a4 :: a5 :: a6 :: a7 :: a8 :: a9 :: some (.ref x) :: t) st n I Q F := by
  intro p e s m args below meth c H locs cells slots mc ms R ls Qf C hW hS hl h1 h2 fin
  obtain ⟨hd, rfl⟩ := hd
  exact lv_aload C.1 C.2.1 hd (hl.2.2 10 _ rfl) (k _ _ _ _ _ _ _ _ _ _ _ _ _ _ _ _ _ C hW hS hl h1 h2 fin)
theorem x_lload_10 {r : Ev} {d : Nat} {y : MethodName} {cc : ByteArray} {mr : Nat × Option FieldType} {b : Nat × Nat} {pc q : Nat} {st : List Value} {n : Nat} {I : MI} {Q : MQ2} {F : Post} {a0 a1 a2 a3 a4 a5 a6 a7 a8 a9 : Option Value} {t : List (Option Value)} {x : Int64} (hd : DR cc pc (.lload 10) 2 q) (k : X r d y cc mr b q (a0 :: a1 :: a2 :: a3 :: a4 :: a5 :: a6 :: a7 :: a8 :: a9 :: some (.long x) :: t) (.long x :: st) n I Q F) : X r d y cc mr b pc (a0 :: a1 :: a2 :: a3 :: a4 :: a5 :: a6 :: a7 :: a8 :: a9 :: some (.long x) :: t) st n I Q F := by
  intro p e s m args below meth c H locs cells slots mc ms R ls Qf C hW hS hl h1 h2 fin
  obtain ⟨hd, rfl⟩ := hd
  exact lv_lload C.1 C.2.1 hd (hl.2.2 10 _ rfl) (k _ _ _ _ _ _ _ _ _ _ _ _ _ _ _ _ _ C hW hS hl h1 h2 fin)
theorem x_iload_11 {r : Ev} {d : Nat} {y : MethodName} {cc : ByteArray} {mr : Nat × Option FieldType} {b : Nat × Nat} {pc q : Nat} {st : List Value} {n : Nat} {I : MI} {Q : MQ2} {F : Post} {a0 a1 a2 a3 a4 a5 a6 a7 a8 a9 a10 : Option Value} {t : List (Option Value)} {x : Int32} (hd : DR cc pc (.iload 11) 2 q) (k : X r d y cc mr b q (a0 :: a1 :: a2 :: a3 :: a4 :: a5 :: a6 :: a7 :: a8 :: a9 :: a10 :: some (.int x) :: t) (.int x :: st) n I Q F) : X r d y cc mr b pc (a0 :: a1 :: a2 :: a3 :: a4 :: a5 :: a6 :: a7 :: a8 :: a9 :: a10 :: some (.int x) :: t) st n I Q F := by
  intro p e s m args below meth c H locs cells slots mc ms R ls Qf C hW hS hl h1 h2 fin
  obtain ⟨hd, rfl⟩ := hd
  exact lv_iload C.1 C.2.1 hd (hl.2.2 11 _ rfl) (k _ _ _ _ _ _ _ _ _ _ _ _ _ _ _ _ _ C hW hS hl h1 h2 fin)
theorem x_aload_11 {r : Ev} {d : Nat} {y : MethodName} {cc : ByteArray} {mr : Nat × Option FieldType} {b : Nat × Nat} {pc q : Nat} {st : List Value} {n : Nat} {I : MI} {Q : MQ2} {F : Post} {a0 a1 a2 a3 a4 a5 a6 a7 a8 a9 a10 : Option Value} {t : List (Option Value)} {x : Nat} (hd : DR cc pc (.aload 11) 2 q) (k : X r d y cc mr b q (a0 :: a1 :: a2 :: a3 :: a4 :: a5 :: a6 :: a7 :: a8 :: a9 :: a10 :: some (.ref x) :: t) (.ref x :: st) n I Q F) : X r d y cc mr b pc (a0 :: a1 :: a2 :: a3 :: a4 :: a5 :: a6 :: a7 :: a8 :: a9 :: a10 :: some (.ref x) :: t) st n I Q F := by
  intro p e s m args below meth c H locs cells slots mc ms R ls Qf C hW hS hl h1 h2 fin
  obtain ⟨hd, rfl⟩ := hd
  exact lv_aload C.1 C.2.1 hd (hl.2.2 11 _ rfl) (k _ _ _ _ _ _ _ _ _ _ _ _ _ _ _ _ _ C hW hS hl h1 h2 fin)
theorem x_lload_11 {r : Ev} {d : Nat} {y : MethodName} {cc : ByteArray} {mr : Nat × Option FieldType} {b : Nat × Nat} {pc q : Nat} {st : List Value} {n : Nat} {I : MI} {Q : MQ2} {F : Post} {a0 a1 a2 a3 a4 a5 a6 a7 a8 a9 a10 : Option Value} {t : List (Option Value)} {x : Int64} (hd : DR cc pc (.lload 11) 2 q) (k : X r d y cc mr b q (a0 :: a1 :: a2 :: a3 :: a4 :: a5 :: a6 :: a7 :: a8 :: a9 :: a10 :: some (.long x) :: t) (.long x :: st) n I Q F) : X r d y cc mr b pc (a0 :: a1 :: a2 :: a3 :: a4 :: a5 :: a6 :: a7 :: a8 :: a9 :: a10 :: some (.long x) :: t) st n I Q F := by
  intro p e s m args below meth c H locs cells slots mc ms R ls Qf C hW hS hl h1 h2 fin
  obtain ⟨hd, rfl⟩ := hd
  exact lv_lload C.1 C.2.1 hd (hl.2.2 11 _ rfl) (k _ _ _ _ _ _ _ _ _ _ _ _ _ _ _ _ _ C hW hS hl h1 h2 fin)
theorem x_iload_12 {r : Ev} {d : Nat} {y : MethodName} {cc : ByteArray} {mr : Nat × Option FieldType} {b : Nat × Nat} {pc q : Nat} {st : List Value} {n : Nat} {I : MI} {Q : MQ2} {F : Post} {a0 a1 a2 a3 a4 a5 a6 a7 a8 a9 a10 a11 : Option Value} {t : List (Option Value)} {x : Int32} (hd : DR cc pc (.iload 12) 2 q) (k : X r d y cc mr b q (a0 :: a1 :: a2 :: a3 :: a4 :: a5 :: a6 :: a7 :: a8 :: a9 :: a10 :: a11 :: some (.int x) :: t) (.int x :: st) n I Q F) : X r d y cc mr b pc (a0 :: a1 :: a2 :: a3 :: a4 :: a5 :: a6 :: a7 :: a8 :: a9 :: a10 :: a11 :: some (.int x) :: t) st n I Q F := by
  intro p e s m args below meth c H locs cells slots mc ms R ls Qf C hW hS hl h1 h2 fin
  obtain ⟨hd, rfl⟩ := hd
  exact lv_iload C.1 C.2.1 hd (hl.2.2 12 _ rfl) (k _ _ _ _ _ _ _ _ _ _ _ _ _ _ _ _ _ C hW hS hl h1 h2 fin)
theorem x_aload_12 {r : Ev} {d : Nat} {y : MethodName} {cc : ByteArray} {mr : Nat × Option FieldType} {b : Nat × Nat} {pc q : Nat} {st : List Value} {n : Nat} {I : MI} {Q : MQ2} {F : Post} {a0 a1 a2 a3 a4 a5 a6 a7 a8 a9 a10 a11 : Option Value} {t : List (Option Value)} {x : Nat} (hd : DR cc pc (.aload 12) 2 q) (k : X r d y cc mr b q (a0 :: a1 :: a2 :: a3 :: a4 :: a5 :: a6 :: a7 :: a8 :: a9 :: a10 :: a11 :: some (.ref x) :: t) (.ref x :: st) n I Q F) : X r d y cc mr b pc (a0 :: a1 :: a2 :: a3 :: a4 :: a5 :: a6 :: a7 :: a8 :: a9 :: a10 :: a11 :: some (.ref x) :: t) st n I Q F := by
  intro p e s m args below meth c H locs cells slots mc ms R ls Qf C hW hS hl h1 h2 fin
  obtain ⟨hd, rfl⟩ := hd
  exact lv_aload C.1 C.2.1 hd (hl.2.2 12 _ rfl) (k _ _ _ _ _ _ _ _ _ _ _ _ _ _ _ _ _ C hW hS hl h1 h2 fin)
theorem x_lload_12 {r : Ev} {d : Nat} {y : MethodName} {cc : ByteArray} {mr : Nat × Option FieldType} {b : Nat × Nat} {pc q : Nat} {st : List Value} {n : Nat} {I : MI} {Q : MQ2} {F : Post} {a0 a1 a2 a3 a4 a5 a6 a7 a8 a9 a10 a11 : Option Value} {t : List (Option Value)} {x : Int64} (hd : DR cc pc (.lload 12) 2 q) (k : X r d y cc mr b q (a0 :: a1 :: a2 :: a3 :: a4 :: a5 :: a6 :: a7 :: a8 :: a9 :: a10 :: a11 :: some (.long x) :: t) (.long x :: st) n I Q F) : X r d y cc mr b pc (a0 :: a1 :: a2 :: a3 :: a4 :: a5 :: a6 :: a7 :: a8 :: a9 :: a10 :: a11 :: some (.long x) :: t) st n I Q F := by
  intro p e s m args below meth c H locs cells slots mc ms R ls Qf C hW hS hl h1 h2 fin
  obtain ⟨hd, rfl⟩ := hd
  exact lv_lload C.1 C.2.1 hd (hl.2.2 12 _ rfl) (k _ _ _ _ _ _ _ _ _ _ _ _ _ _ _ _ _ C hW hS hl h1 h2 fin)
theorem lvs_list {ls : Array Slot} {mL : Nat} {lv : List (Option Value)} (h : LVS ls mL lv) : lv_has ls mL ((List.range lv.length).filterMap (fun i => (lv.getD i none).map (fun v => (i, v)))) := by
  refine ⟨h.1, h.2.1, fun q hq => ?_⟩
  obtain ⟨i, hi, he⟩ := List.mem_filterMap.mp hq
  cases hv : lv.getD i none with
  | none => rw [hv] at he; cases he
  | some v =>
    rw [hv] at he
    cases he
    refine h.2.2 i v ?_
    have hl := List.mem_range.mp hi
    rw [List.getD_eq_getElem?_getD, List.getElem?_eq_getElem hl] at hv
    rw [List.getElem?_eq_getElem hl]
    exact congrArg some hv
def okst (lv : List (Option Value)) (i : Nat) : Bool := match i with
  | 0 => true
  | k + 1 => match lv.getD k none with
    | some v => !(v.category == 2)
    | none => true
theorem lvs_mem {lv : List (Option Value)} {i : Nat} {v : Value} (h : lv[i]? = some (some v)) : (i, v) ∈ (List.range lv.length).filterMap (fun i => (lv.getD i none).map (fun v => (i, v))) := by
  refine List.mem_filterMap.mpr ⟨i, List.mem_range.mpr (List.getElem?_eq_some_iff.mp h).1, ?_⟩
  rw [List.getD_eq_getElem?_getD, h]
  rfl
theorem lvs_put {ls' : Array Slot} {mL i : Nat} {v : Value} {lv : List (Option Value)} (hs : lv_has ls' mL ((i, v) :: ((List.range lv.length).filterMap (fun i => (lv.getD i none).map (fun v => (i, v)))).filter (fun q => !(q.1 == i) && !(q.1 + 1 == i && q.2.category == 2)))) (ho : okst lv i = true) : LVS ls' mL (lv.set i (some v)) := by
  refine ⟨hs.1, hs.2.1, fun j u hj => ?_⟩
  by_cases e : j = i
  · subst e
    have hl : j < lv.length := by have := (List.getElem?_eq_some_iff.mp hj).1; rwa [List.length_set] at this
    rw [List.getElem?_set_self hl] at hj
    have e3 := Option.some.inj (Option.some.inj hj)
    rw [← e3]
    exact hs.2.2 (j, v) List.mem_cons_self
  · rw [List.getElem?_set_ne (Ne.symm e)] at hj
    refine hs.2.2 (j, u) (List.mem_cons_of_mem _ (List.mem_filter.mpr ⟨lvs_mem hj, ?_⟩))
    have h1 : (j == i) = false := by simpa using e
    by_cases e2 : j + 1 = i
    · subst e2
      have h3 : okst lv (j + 1) = !(u.category == 2) := by
        simp only [okst, List.getD_eq_getElem?_getD, hj, Option.getD_some]
      rw [h3] at ho
      simp only [h1, Bool.not_false, Bool.true_and, beq_self_eq_true]
      exact ho
    · have h2 : (j + 1 == i) = false := by simpa using e2
      simp [h1, h2]
theorem lvs_putL {ls' : Array Slot} {mL i : Nat} {v : Value} {lv : List (Option Value)} (hs : lv_has ls' mL ((i, v) :: ((List.range lv.length).filterMap (fun i => (lv.getD i none).map (fun v => (i, v)))).filter (fun q => !(q.1 == i) && (!(q.1 == i + 1) && !(q.1 + 1 == i && q.2.category == 2))))) (ho : okst lv i = true) : LVS ls' mL ((lv.set i (some v)).set (i + 1) none) := by
  refine ⟨hs.1, hs.2.1, fun j u hj => ?_⟩
  by_cases e9 : j = i + 1
  · subst e9
    have hl : i + 1 < ((lv.set i (some v)).set (i + 1) none).length := (List.getElem?_eq_some_iff.mp hj).1
    rw [List.length_set] at hl
    rw [List.getElem?_set_self hl] at hj
    cases hj
  rw [List.getElem?_set_ne (Ne.symm e9)] at hj
  by_cases e : j = i
  · subst e
    have hl : j < lv.length := by have := (List.getElem?_eq_some_iff.mp hj).1; rwa [List.length_set] at this
    rw [List.getElem?_set_self hl] at hj
    have e3 := Option.some.inj (Option.some.inj hj)
    rw [← e3]
    exact hs.2.2 (j, v) List.mem_cons_self
  · rw [List.getElem?_set_ne (Ne.symm e)] at hj
    refine hs.2.2 (j, u) (List.mem_cons_of_mem _ (List.mem_filter.mpr ⟨lvs_mem hj, ?_⟩))
    have h1 : (j == i) = false := by simpa using e
    have h9 : (j == i + 1) = false := by simpa using e9
    by_cases e2 : j + 1 = i
    · subst e2
      have h3 : okst lv (j + 1) = !(u.category == 2) := by
        simp only [okst, List.getD_eq_getElem?_getD, hj, Option.getD_some]
      rw [h3] at ho
      simp only [h1, h9, Bool.not_false, Bool.true_and, beq_self_eq_true]
      exact ho
    · have h2 : (j + 1 == i) = false := by simpa using e2
      simp [h1, h2, h9]
theorem x_istore_0 {r : Ev} {d : Nat} {y : MethodName} {cc : ByteArray} {mr : Nat × Option FieldType} {b : Nat × Nat} {pc q : Nat} {st : List Value} {n : Nat} {I : MI} {Q : MQ2} {F : Post} {a0 : Option Value} {t : List (Option Value)} {x : Int32} (hd : DR cc pc (.istore_n 0) 1 q) (hn : Nat.ble (0 + 1) mr.1 = true) (ho : okst (a0 :: t) 0 = true) (k : X r d y cc mr b q (some (.int x) :: t) st n I Q F) : X r d y cc mr b pc (a0 :: t) (.int x :: st) n I Q F := by
  intro p e s m args below meth c H locs cells slots mc ms R ls Qf C hW hS hl h1 h2 fin
  obtain ⟨hd, rfl⟩ := hd
  exact lv_istore_n C.1 C.2.1 hd rfl (lvs_list hl) (Nat.le_of_ble_eq_true hn) rfl (fun ls' hs => k _ _ _ _ _ _ _ _ _ _ _ _ _ _ _ _ _ C hW hS (lvs_put hs ho) h1 h2 fin)
theorem x_astore_0 {r : Ev} {d : Nat} {y : MethodName} {cc : ByteArray} {mr : Nat × Option FieldType} {b : Nat × Nat} {pc q : Nat} {st : List Value} {n : Nat} {I : MI} {Q : MQ2} {F : Post} {a0 : Option Value} {t : List (Option Value)} {x : Nat} (hd : DR cc pc (.astore_n 0) 1 q) (hn : Nat.ble (0 + 1) mr.1 = true) (ho : okst (a0 :: t) 0 = true) (k : X r d y cc mr b q (some (.ref x) :: t) st n I Q F) : X r d y cc mr b pc (a0 :: t) (.ref x :: st) n I Q F := by
  intro p e s m args below meth c H locs cells slots mc ms R ls Qf C hW hS hl h1 h2 fin
  obtain ⟨hd, rfl⟩ := hd
  exact lv_astore_n C.1 C.2.1 hd rfl (lvs_list hl) (Nat.le_of_ble_eq_true hn) rfl (fun ls' hs => k _ _ _ _ _ _ _ _ _ _ _ _ _ _ _ _ _ C hW hS (lvs_put hs ho) h1 h2 fin)
theorem x_iinc_0 {r : Ev} {d : Nat} {y : MethodName} {cc : ByteArray} {mr : Nat × Option FieldType} {b : Nat × Nat} {pc q : Nat} {st : List Value} {n : Nat} {I : MI} {Q : MQ2} {F : Post} {t : List (Option Value)} {x v : Int32} {z : Int} (hd : DR cc pc (.iinc 0 z) 3 q) (hv : x + Int32.ofInt z = v) (hn : Nat.ble (0 + 1) mr.1 = true) (ho : okst (some (.int x) :: t) 0 = true) (k : X r d y cc mr b q (some (.int v) :: t) st n I Q F) : X r d y cc mr b pc (some (.int x) :: t) st n I Q F := by
  intro p e s m args below meth c H locs cells slots mc ms R ls Qf C hW hS hl h1 h2 fin
  obtain ⟨hd, rfl⟩ := hd
  obtain ⟨j, hj⟩ := List.getElem?_of_mem (lvs_mem (lv := (some (.int x) :: t)) (i := 0) (v := .int x) rfl)
  exact lv_iinc C.1 C.2.1 hd (lvs_list hl) hj hv (Nat.le_of_ble_eq_true hn) rfl (fun ls' hs => k _ _ _ _ _ _ _ _ _ _ _ _ _ _ _ _ _ C hW hS (lvs_put hs ho) h1 h2 fin)
theorem x_istore_1 {r : Ev} {d : Nat} {y : MethodName} {cc : ByteArray} {mr : Nat × Option FieldType} {b : Nat × Nat} {pc q : Nat} {st : List Value} {n : Nat} {I : MI} {Q : MQ2} {F : Post} {a0 a1 : Option Value} {t : List (Option Value)} {x : Int32} (hd : DR cc pc (.istore_n 1) 1 q) (hn : Nat.ble (1 + 1) mr.1 = true) (ho : okst (a0 :: a1 :: t) 1 = true) (k : X r d y cc mr b q (a0 :: some (.int x) :: t) st n I Q F) : X r d y cc mr b pc (a0 :: a1 :: t) (.int x :: st) n I Q F := by
  intro p e s m args below meth c H locs cells slots mc ms R ls Qf C hW hS hl h1 h2 fin
  obtain ⟨hd, rfl⟩ := hd
  exact lv_istore_n C.1 C.2.1 hd rfl (lvs_list hl) (Nat.le_of_ble_eq_true hn) rfl (fun ls' hs => k _ _ _ _ _ _ _ _ _ _ _ _ _ _ _ _ _ C hW hS (lvs_put hs ho) h1 h2 fin)
theorem x_astore_1 {r : Ev} {d : Nat} {y : MethodName} {cc : ByteArray} {mr : Nat × Option FieldType} {b : Nat × Nat} {pc q : Nat} {st : List Value} {n : Nat} {I : MI} {Q : MQ2} {F : Post} {a0 a1 : Option Value} {t : List (Option Value)} {x : Nat} (hd : DR cc pc (.astore_n 1) 1 q) (hn : Nat.ble (1 + 1) mr.1 = true) (ho : okst (a0 :: a1 :: t) 1 = true) (k : X r d y cc mr b q (a0 :: some (.ref x) :: t) st n I Q F) : X r d y cc mr b pc (a0 :: a1 :: t) (.ref x :: st) n I Q F := by
  intro p e s m args below meth c H locs cells slots mc ms R ls Qf C hW hS hl h1 h2 fin
  obtain ⟨hd, rfl⟩ := hd
  exact lv_astore_n C.1 C.2.1 hd rfl (lvs_list hl) (Nat.le_of_ble_eq_true hn) rfl (fun ls' hs => k _ _ _ _ _ _ _ _ _ _ _ _ _ _ _ _ _ C hW hS (lvs_put hs ho) h1 h2 fin)
theorem x_iinc_1 {r : Ev} {d : Nat} {y : MethodName} {cc : ByteArray} {mr : Nat × Option FieldType} {b : Nat × Nat} {pc q : Nat} {st : List Value} {n : Nat} {I : MI} {Q : MQ2} {F : Post} {a0 : Option Value} {t : List (Option Value)} {x v : Int32} {z : Int} (hd : DR cc pc (.iinc 1 z) 3 q) (hv : x + Int32.ofInt z = v) (hn : Nat.ble (1 + 1) mr.1 = true) (ho : okst (a0 :: some (.int x) :: t) 1 = true) (k : X r d y cc mr b q (a0 :: some (.int v) :: t) st n I Q F) : X r d y cc mr b pc (a0 :: some (.int x) :: t) st n I Q F := by
  intro p e s m args below meth c H locs cells slots mc ms R ls Qf C hW hS hl h1 h2 fin
  obtain ⟨hd, rfl⟩ := hd
  obtain ⟨j, hj⟩ := List.getElem?_of_mem (lvs_mem (lv := (a0 :: some (.int x) :: t)) (i := 1) (v := .int x) rfl)
  exact lv_iinc C.1 C.2.1 hd (lvs_list hl) hj hv (Nat.le_of_ble_eq_true hn) rfl (fun ls' hs => k _ _ _ _ _ _ _ _ _ _ _ _ _ _ _ _ _ C hW hS (lvs_put hs ho) h1 h2 fin)
theorem x_istore_2 {r : Ev} {d : Nat} {y : MethodName} {cc : ByteArray} {mr : Nat × Option FieldType} {b : Nat × Nat} {pc q : Nat} {st : List Value} {n : Nat} {I : MI} {Q : MQ2} {F : Post} {a0 a1 a2 : Option Value} {t : List (Option Value)} {x : Int32} (hd : DR cc pc (.istore_n 2) 1 q) (hn : Nat.ble (2 + 1) mr.1 = true) (ho : okst (a0 :: a1 :: a2 :: t) 2 = true) (k : X r d y cc mr b q (a0 :: a1 :: some (.int x) :: t) st n I Q F) : X r d y cc mr b pc (a0 :: a1 :: a2 :: t) (.int x :: st) n I Q F := by
  intro p e s m args below meth c H locs cells slots mc ms R ls Qf C hW hS hl h1 h2 fin
  obtain ⟨hd, rfl⟩ := hd
  exact lv_istore_n C.1 C.2.1 hd rfl (lvs_list hl) (Nat.le_of_ble_eq_true hn) rfl (fun ls' hs => k _ _ _ _ _ _ _ _ _ _ _ _ _ _ _ _ _ C hW hS (lvs_put hs ho) h1 h2 fin)
theorem x_astore_2 {r : Ev} {d : Nat} {y : MethodName} {cc : ByteArray} {mr : Nat × Option FieldType} {b : Nat × Nat} {pc q : Nat} {st : List Value} {n : Nat} {I : MI} {Q : MQ2} {F : Post} {a0 a1 a2 : Option Value} {t : List (Option Value)} {x : Nat} (hd : DR cc pc (.astore_n 2) 1 q) (hn : Nat.ble (2 + 1) mr.1 = true) (ho : okst (a0 :: a1 :: a2 :: t) 2 = true) (k : X r d y cc mr b q (a0 :: a1 :: some (.ref x) :: t) st n I Q F) : X r d y cc mr b pc (a0 :: a1 :: a2 :: t) (.ref x :: st) n I Q F := by
  intro p e s m args below meth c H locs cells slots mc ms R ls Qf C hW hS hl h1 h2 fin
  obtain ⟨hd, rfl⟩ := hd
  exact lv_astore_n C.1 C.2.1 hd rfl (lvs_list hl) (Nat.le_of_ble_eq_true hn) rfl (fun ls' hs => k _ _ _ _ _ _ _ _ _ _ _ _ _ _ _ _ _ C hW hS (lvs_put hs ho) h1 h2 fin)
theorem x_iinc_2 {r : Ev} {d : Nat} {y : MethodName} {cc : ByteArray} {mr : Nat × Option FieldType} {b : Nat × Nat} {pc q : Nat} {st : List Value} {n : Nat} {I : MI} {Q : MQ2} {F : Post} {a0 a1 : Option Value} {t : List (Option Value)} {x v : Int32} {z : Int} (hd : DR cc pc (.iinc 2 z) 3 q) (hv : x + Int32.ofInt z = v) (hn : Nat.ble (2 + 1) mr.1 = true) (ho : okst (a0 :: a1 :: some (.int x) :: t) 2 = true) (k : X r d y cc mr b q (a0 :: a1 :: some (.int v) :: t) st n I Q F) : X r d y cc mr b pc (a0 :: a1 :: some (.int x) :: t) st n I Q F := by
  intro p e s m args below meth c H locs cells slots mc ms R ls Qf C hW hS hl h1 h2 fin
  obtain ⟨hd, rfl⟩ := hd
  obtain ⟨j, hj⟩ := List.getElem?_of_mem (lvs_mem (lv := (a0 :: a1 :: some (.int x) :: t)) (i := 2) (v := .int x) rfl)
  exact lv_iinc C.1 C.2.1 hd (lvs_list hl) hj hv (Nat.le_of_ble_eq_true hn) rfl (fun ls' hs => k _ _ _ _ _ _ _ _ _ _ _ _ _ _ _ _ _ C hW hS (lvs_put hs ho) h1 h2 fin)
theorem x_istore_3 {r : Ev} {d : Nat} {y : MethodName} {cc : ByteArray} {mr : Nat × Option FieldType} {b : Nat × Nat} {pc q : Nat} {st : List Value} {n : Nat} {I : MI} {Q : MQ2} {F : Post} {a0 a1 a2 a3 : Option Value} {t : List (Option Value)} {x : Int32} (hd : DR cc pc (.istore_n 3) 1 q) (hn : Nat.ble (3 + 1) mr.1 = true) (ho : okst (a0 :: a1 :: a2 :: a3 :: t) 3 = true) (k : X r d y cc mr b q (a0 :: a1 :: a2 :: some (.int x) :: t) st n I Q F) : X r d y cc mr b pc (a0 :: a1 :: a2 :: a3 :: t) (.int x :: st) n I Q F := by
  intro p e s m args below meth c H locs cells slots mc ms R ls Qf C hW hS hl h1 h2 fin
  obtain ⟨hd, rfl⟩ := hd
  exact lv_istore_n C.1 C.2.1 hd rfl (lvs_list hl) (Nat.le_of_ble_eq_true hn) rfl (fun ls' hs => k _ _ _ _ _ _ _ _ _ _ _ _ _ _ _ _ _ C hW hS (lvs_put hs ho) h1 h2 fin)
theorem x_astore_3 {r : Ev} {d : Nat} {y : MethodName} {cc : ByteArray} {mr : Nat × Option FieldType} {b : Nat × Nat} {pc q : Nat} {st : List Value} {n : Nat} {I : MI} {Q : MQ2} {F : Post} {a0 a1 a2 a3 : Option Value} {t : List (Option Value)} {x : Nat} (hd : DR cc pc (.astore_n 3) 1 q) (hn : Nat.ble (3 + 1) mr.1 = true) (ho : okst (a0 :: a1 :: a2 :: a3 :: t) 3 = true) (k : X r d y cc mr b q (a0 :: a1 :: a2 :: some (.ref x) :: t) st n I Q F) : X r d y cc mr b pc (a0 :: a1 :: a2 :: a3 :: t) (.ref x :: st) n I Q F := by
  intro p e s m args below meth c H locs cells slots mc ms R ls Qf C hW hS hl h1 h2 fin
  obtain ⟨hd, rfl⟩ := hd
  exact lv_astore_n C.1 C.2.1 hd rfl (lvs_list hl) (Nat.le_of_ble_eq_true hn) rfl (fun ls' hs => k _ _ _ _ _ _ _ _ _ _ _ _ _ _ _ _ _ C hW hS (lvs_put hs ho) h1 h2 fin)
theorem x_iinc_3 {r : Ev} {d : Nat} {y : MethodName} {cc : ByteArray} {mr : Nat × Option FieldType} {b : Nat × Nat} {pc q : Nat} {st : List Value} {n : Nat} {I : MI} {Q : MQ2} {F : Post} {a0 a1 a2 : Option Value} {t : List (Option Value)} {x v : Int32} {z : Int} (hd : DR cc pc (.iinc 3 z) 3 q) (hv : x + Int32.ofInt z = v) (hn : Nat.ble (3 + 1) mr.1 = true) (ho : okst (a0 :: a1 :: a2 :: some (.int x) :: t) 3 = true) (k : X r d y cc mr b q (a0 :: a1 :: a2 :: some (.int v) :: t) st n I Q F) : X r d y cc mr b pc (a0 :: a1 :: a2 :: some (.int x) :: t) st n I Q F := by
  intro p e s m args below meth c H locs cells slots mc ms R ls Qf C hW hS hl h1 h2 fin
  obtain ⟨hd, rfl⟩ := hd
  obtain ⟨j, hj⟩ := List.getElem?_of_mem (lvs_mem (lv := (a0 :: a1 :: a2 :: some (.int x) :: t)) (i := 3) (v := .int x) rfl)
  exact lv_iinc C.1 C.2.1 hd (lvs_list hl) hj hv (Nat.le_of_ble_eq_true hn) rfl (fun ls' hs => k _ _ _ _ _ _ _ _ _ _ _ _ _ _ _ _ _ C hW hS (lvs_put hs ho) h1 h2 fin)
theorem x_istore_4 {r : Ev} {d : Nat} {y : MethodName} {cc : ByteArray} {mr : Nat × Option FieldType} {b : Nat × Nat} {pc q : Nat} {st : List Value} {n : Nat} {I : MI} {Q : MQ2} {F : Post} {a0 a1 a2 a3 a4 : Option Value} {t : List (Option Value)} {x : Int32} (hd : DR cc pc (.istore 4) 2 q) (hn : Nat.ble (4 + 1) mr.1 = true) (ho : okst (a0 :: a1 :: a2 :: a3 :: a4 :: t) 4 = true) (k : X r d y cc mr b q (a0 :: a1 :: a2 :: a3 :: some (.int x) :: t) st n I Q F) : X r d y cc mr b pc (a0 :: a1 :: a2 :: a3 :: a4 :: t) (.int x :: st) n I Q F := by
  intro p e s m args below meth c H locs cells slots mc ms R ls Qf C hW hS hl h1 h2 fin
  obtain ⟨hd, rfl⟩ := hd
  exact lv_istore C.1 C.2.1 hd (lvs_list hl) (Nat.le_of_ble_eq_true hn) rfl (fun ls' hs => k _ _ _ _ _ _ _ _ _ _ _ _ _ _ _ _ _ C hW hS (lvs_put hs ho) h1 h2 fin)
theorem x_astore_4 {r : Ev} {d : Nat} {y : MethodName} {cc : ByteArray} {mr : Nat × Option FieldType} {b : Nat × Nat} {pc q : Nat} {st : List Value} {n : Nat} {I : MI} {Q : MQ2} {F : Post} {a0 a1 a2 a3 a4 : Option Value} {t : List (Option Value)} {x : Nat} (hd : DR cc pc (.astore 4) 2 q) (hn : Nat.ble (4 + 1) mr.1 = true) (ho : okst (a0 :: a1 :: a2 :: a3 :: a4 :: t) 4 = true) (k : X r d y cc mr b q (a0 :: a1 :: a2 :: a3 :: some (.ref x) :: t) st n I Q F) : X r d y cc mr b pc (a0 :: a1 :: a2 :: a3 :: a4 :: t) (.ref x :: st) n I Q F := by
  intro p e s m args below meth c H locs cells slots mc ms R ls Qf C hW hS hl h1 h2 fin
  obtain ⟨hd, rfl⟩ := hd
  exact lv_astore C.1 C.2.1 hd (lvs_list hl) (Nat.le_of_ble_eq_true hn) rfl (fun ls' hs => k _ _ _ _ _ _ _ _ _ _ _ _ _ _ _ _ _ C hW hS (lvs_put hs ho) h1 h2 fin)
theorem x_iinc_4 {r : Ev} {d : Nat} {y : MethodName} {cc : ByteArray} {mr : Nat × Option FieldType} {b : Nat × Nat} {pc q : Nat} {st : List Value} {n : Nat} {I : MI} {Q : MQ2} {F : Post} {a0 a1 a2 a3 : Option Value} {t : List (Option Value)} {x v : Int32} {z : Int} (hd : DR cc pc (.iinc 4 z) 3 q) (hv : x + Int32.ofInt z = v) (hn : Nat.ble (4 + 1) mr.1 = true) (ho : okst (a0 :: a1 :: a2 :: a3 :: some (.int x) :: t) 4 = true) (k : X r d y cc mr b q (a0 :: a1 :: a2 :: a3 :: some (.int v) :: t) st n I Q F) : X r d y cc mr b pc (a0 :: a1 :: a2 :: a3 :: some (.int x) :: t) st n I Q F := by
  intro p e s m args below meth c H locs cells slots mc ms R ls Qf C hW hS hl h1 h2 fin
  obtain ⟨hd, rfl⟩ := hd
  obtain ⟨j, hj⟩ := List.getElem?_of_mem (lvs_mem (lv := (a0 :: a1 :: a2 :: a3 :: some (.int x) :: t)) (i := 4) (v := .int x) rfl)
  exact lv_iinc C.1 C.2.1 hd (lvs_list hl) hj hv (Nat.le_of_ble_eq_true hn) rfl (fun ls' hs => k _ _ _ _ _ _ _ _ _ _ _ _ _ _ _ _ _ C hW hS (lvs_put hs ho) h1 h2 fin)
theorem x_istore_5 {r : Ev} {d : Nat} {y : MethodName} {cc : ByteArray} {mr : Nat × Option FieldType} {b : Nat × Nat} {pc q : Nat} {st : List Value} {n : Nat} {I : MI} {Q : MQ2} {F : Post} {a0 a1 a2 a3 a4 a5 : Option Value} {t : List (Option Value)} {x : Int32} (hd : DR cc pc (.istore 5) 2 q) (hn : Nat.ble (5 + 1) mr.1 = true) (ho : okst (a0 :: a1 :: a2 :: a3 :: a4 :: a5 :: t) 5 = true) (k : X r d y cc mr b q (a0 :: a1 :: a2 :: a3 :: a4 :: some (.int x) :: t) st n I Q F) : X r d y cc mr b pc (a0 :: a1 :: a2 :: a3 :: a4 :: a5 :: t) (.int x :: st) n I Q F := by
  intro p e s m args below meth c H locs cells slots mc ms R ls Qf C hW hS hl h1 h2 fin
  obtain ⟨hd, rfl⟩ := hd
  exact lv_istore C.1 C.2.1 hd (lvs_list hl) (Nat.le_of_ble_eq_true hn) rfl (fun ls' hs => k _ _ _ _ _ _ _ _ _ _ _ _ _ _ _ _ _ C hW hS (lvs_put hs ho) h1 h2 fin)
theorem x_astore_5 {r : Ev} {d : Nat} {y : MethodName} {cc : ByteArray} {mr : Nat × Option FieldType} {b : Nat × Nat} {pc q : Nat} {st : List Value} {n : Nat} {I : MI} {Q : MQ2} {F : Post} {a0 a1 a2 a3 a4 a5 : Option Value} {t : List (Option Value)} {x : Nat} (hd : DR cc pc (.astore 5) 2 q) (hn : Nat.ble (5 + 1) mr.1 = true) (ho : okst (a0 :: a1 :: a2 :: a3 :: a4 :: a5 :: t) 5 = true) (k : X r d y cc mr b q (a0 :: a1 :: a2 :: a3 :: a4 :: some (.ref x) :: t) st n I Q F) : X r d y cc mr b pc (a0 :: a1 :: a2 :: a3 :: a4 :: a5 :: t) (.ref x :: st) n I Q F := by
  intro p e s m args below meth c H locs cells slots mc ms R ls Qf C hW hS hl h1 h2 fin
  obtain ⟨hd, rfl⟩ := hd
  exact lv_astore C.1 C.2.1 hd (lvs_list hl) (Nat.le_of_ble_eq_true hn) rfl (fun ls' hs => k _ _ _ _ _ _ _ _ _ _ _ _ _ _ _ _ _ C hW hS (lvs_put hs ho) h1 h2 fin)
theorem x_iinc_5 {r : Ev} {d : Nat} {y : MethodName} {cc : ByteArray} {mr : Nat × Option FieldType} {b : Nat × Nat} {pc q : Nat} {st : List Value} {n : Nat} {I : MI} {Q : MQ2} {F : Post} {a0 a1 a2 a3 a4 : Option Value} {t : List (Option Value)} {x v : Int32} {z : Int} (hd : DR cc pc (.iinc 5 z) 3 q) (hv : x + Int32.ofInt z = v) (hn : Nat.ble (5 + 1) mr.1 = true) (ho : okst (a0 :: a1 :: a2 :: a3 :: a4 :: some (.int x) :: t) 5 = true) (k : X r d y cc mr b q (a0 :: a1 :: a2 :: a3 :: a4 :: some (.int v) :: t) st n I Q F) : X r d y cc mr b pc (a0 :: a1 :: a2 :: a3 :: a4 :: some (.int x) :: t) st n I Q F := by
  intro p e s m args below meth c H locs cells slots mc ms R ls Qf C hW hS hl h1 h2 fin
  obtain ⟨hd, rfl⟩ := hd
  obtain ⟨j, hj⟩ := List.getElem?_of_mem (lvs_mem (lv := (a0 :: a1 :: a2 :: a3 :: a4 :: some (.int x) :: t)) (i := 5) (v := .int x) rfl)
  exact lv_iinc C.1 C.2.1 hd (lvs_list hl) hj hv (Nat.le_of_ble_eq_true hn) rfl (fun ls' hs => k _ _ _ _ _ _ _ _ _ _ _ _ _ _ _ _ _ C hW hS (lvs_put hs ho) h1 h2 fin)
theorem x_istore_6 {r : Ev} {d : Nat} {y : MethodName} {cc : ByteArray} {mr : Nat × Option FieldType} {b : Nat × Nat} {pc q : Nat} {st : List Value} {n : Nat} {I : MI} {Q : MQ2} {F : Post} {a0 a1 a2 a3 a4 a5 a6 : Option Value} {t : List (Option Value)} {x : Int32} (hd : DR cc pc (.istore 6) 2 q) (hn : Nat.ble (6 + 1) mr.1 = true) (ho : okst (a0 :: a1 :: a2 :: a3 :: a4 :: a5 :: a6 :: t) 6 = true) (k : X r d y cc mr b q (a0 :: a1 :: a2 :: a3 :: a4 :: a5 :: some (.int x) :: t) st n I Q F) : X r d y cc mr b pc (a0 :: a1 :: a2 :: a3 :: a4 :: a5 :: a6 :: t) (.int x :: st) n I Q F := by
  intro p e s m args below meth c H locs cells slots mc ms R ls Qf C hW hS hl h1 h2 fin
  obtain ⟨hd, rfl⟩ := hd
  exact lv_istore C.1 C.2.1 hd (lvs_list hl) (Nat.le_of_ble_eq_true hn) rfl (fun ls' hs => k _ _ _ _ _ _ _ _ _ _ _ _ _ _ _ _ _ C hW hS (lvs_put hs ho) h1 h2 fin)
theorem x_astore_6 {r : Ev} {d : Nat} {y : MethodName} {cc : ByteArray} {mr : Nat × Option FieldType} {b : Nat × Nat} {pc q : Nat} {st : List Value} {n : Nat} {I : MI} {Q : MQ2} {F : Post} {a0 a1 a2 a3 a4 a5 a6 : Option Value} {t : List (Option Value)} {x : Nat} (hd : DR cc pc (.astore 6) 2 q) (hn : Nat.ble (6 + 1) mr.1 = true) (ho : okst (a0 :: a1 :: a2 :: a3 :: a4 :: a5 :: a6 :: t) 6 = true) (k : X r d y cc mr b q (a0 :: a1 :: a2 :: a3 :: a4 :: a5 :: some (.ref x) :: t) st n I Q F) : X r d y cc mr b pc (a0 :: a1 :: a2 :: a3 :: a4 :: a5 :: a6 :: t) (.ref x :: st) n I Q F := by
  intro p e s m args below meth c H locs cells slots mc ms R ls Qf C hW hS hl h1 h2 fin
  obtain ⟨hd, rfl⟩ := hd
  exact lv_astore C.1 C.2.1 hd (lvs_list hl) (Nat.le_of_ble_eq_true hn) rfl (fun ls' hs => k _ _ _ _ _ _ _ _ _ _ _ _ _ _ _ _ _ C hW hS (lvs_put hs ho) h1 h2 fin)
theorem x_iinc_6 {r : Ev} {d : Nat} {y : MethodName} {cc : ByteArray} {mr : Nat × Option FieldType} {b : Nat × Nat} {pc q : Nat} {st : List Value} {n : Nat} {I : MI} {Q : MQ2} {F : Post} {a0 a1 a2 a3 a4 a5 : Option Value} {t : List (Option Value)} {x v : Int32} {z : Int} (hd : DR cc pc (.iinc 6 z) 3 q) (hv : x + Int32.ofInt z = v) (hn : Nat.ble (6 + 1) mr.1 = true) (ho : okst (a0 :: a1 :: a2 :: a3 :: a4 :: a5 :: some (.int x) :: t) 6 = true) (k : X r d y cc mr b q (a0 :: a1 :: a2 :: a3 :: a4 :: a5 :: some (.int v) :: t) st n I Q F) : X r d y cc mr b pc (a0 :: a1 :: a2 :: a3 :: a4 :: a5 :: some (.int x) :: t) st n I Q F := by
  intro p e s m args below meth c H locs cells slots mc ms R ls Qf C hW hS hl h1 h2 fin
  obtain ⟨hd, rfl⟩ := hd
  obtain ⟨j, hj⟩ := List.getElem?_of_mem (lvs_mem (lv := (a0 :: a1 :: a2 :: a3 :: a4 :: a5 :: some (.int x) :: t)) (i := 6) (v := .int x) rfl)
  exact lv_iinc C.1 C.2.1 hd (lvs_list hl) hj hv (Nat.le_of_ble_eq_true hn) rfl (fun ls' hs => k _ _ _ _ _ _ _ _ _ _ _ _ _ _ _ _ _ C hW hS (lvs_put hs ho) h1 h2 fin)
theorem x_istore_7 {r : Ev} {d : Nat} {y : MethodName} {cc : ByteArray} {mr : Nat × Option FieldType} {b : Nat × Nat} {pc q : Nat} {st : List Value} {n : Nat} {I : MI} {Q : MQ2} {F : Post} {a0 a1 a2 a3 a4 a5 a6 a7 : Option Value} {t : List (Option Value)} {x : Int32} (hd : DR cc pc (.istore 7) 2 q) (hn : Nat.ble (7 + 1) mr.1 = true) (ho : okst (a0 :: a1 :: a2 :: a3 :: a4 :: a5 :: a6 :: a7 :: t) 7 = true) (k : X r d y cc mr b q (a0 :: a1 :: a2 :: a3 :: a4 :: a5 :: a6 :: some (.int x) :: t) st n I Q F) : X r d y cc mr b pc (a0 :: a1 :: a2 :: a3 :: a4 :: a5 :: a6 :: a7 :: t) (.int x :: st) n I Q F := by
  intro p e s m args below meth c H locs cells slots mc ms R ls Qf C hW hS hl h1 h2 fin
  obtain ⟨hd, rfl⟩ := hd
  exact lv_istore C.1 C.2.1 hd (lvs_list hl) (Nat.le_of_ble_eq_true hn) rfl (fun ls' hs => k _ _ _ _ _ _ _ _ _ _ _ _ _ _ _ _ _ C hW hS (lvs_put hs ho) h1 h2 fin)
theorem x_astore_7 {r : Ev} {d : Nat} {y : MethodName} {cc : ByteArray} {mr : Nat × Option FieldType} {b : Nat × Nat} {pc q : Nat} {st : List Value} {n : Nat} {I : MI} {Q : MQ2} {F : Post} {a0 a1 a2 a3 a4 a5 a6 a7 : Option Value} {t : List (Option Value)} {x : Nat} (hd : DR cc pc (.astore 7) 2 q) (hn : Nat.ble (7 + 1) mr.1 = true) (ho : okst (a0 :: a1 :: a2 :: a3 :: a4 :: a5 :: a6 :: a7 :: t) 7 = true) (k : X r d y cc mr b q (a0 :: a1 :: a2 :: a3 :: a4 :: a5 :: a6 :: some (.ref x) :: t) st n I Q F) : X r d y cc mr b pc (a0 :: a1 :: a2 :: a3 :: a4 :: a5 :: a6 :: a7 :: t) (.ref x :: st) n I Q F := by
  intro p e s m args below meth c H locs cells slots mc ms R ls Qf C hW hS hl h1 h2 fin
  obtain ⟨hd, rfl⟩ := hd
  exact lv_astore C.1 C.2.1 hd (lvs_list hl) (Nat.le_of_ble_eq_true hn) rfl (fun ls' hs => k _ _ _ _ _ _ _ _ _ _ _ _ _ _ _ _ _ C hW hS (lvs_put hs ho) h1 h2 fin)
theorem x_iinc_7 {r : Ev} {d : Nat} {y : MethodName} {cc : ByteArray} {mr : Nat × Option FieldType} {b : Nat × Nat} {pc q : Nat} {st : List Value} {n : Nat} {I : MI} {Q : MQ2} {F : Post} {a0 a1 a2 a3 a4 a5 a6 : Option Value} {t : List (Option Value)} {x v : Int32} {z : Int} (hd : DR cc pc (.iinc 7 z) 3 q) (hv : x + Int32.ofInt z = v) (hn : Nat.ble (7 + 1) mr.1 = true) (ho : okst (a0 :: a1 :: a2 :: a3 :: a4 :: a5 :: a6 :: some (.int x) :: t) 7 = true) (k : X r d y cc mr b q (a0 :: a1 :: a2 :: a3 :: a4 :: a5 :: a6 :: some (.int v) :: t) st n I Q F) : X r d y cc mr b pc (a0 :: a1 :: a2 :: a3 :: a4 :: a5 :: a6 :: some (.int x) :: t) st n I Q F := by
  intro p e s m args below meth c H locs cells slots mc ms R ls Qf C hW hS hl h1 h2 fin
  obtain ⟨hd, rfl⟩ := hd
  obtain ⟨j, hj⟩ := List.getElem?_of_mem (lvs_mem (lv := (a0 :: a1 :: a2 :: a3 :: a4 :: a5 :: a6 :: some (.int x) :: t)) (i := 7) (v := .int x) rfl)
  exact lv_iinc C.1 C.2.1 hd (lvs_list hl) hj hv (Nat.le_of_ble_eq_true hn) rfl (fun ls' hs => k _ _ _ _ _ _ _ _ _ _ _ _ _ _ _ _ _ C hW hS (lvs_put hs ho) h1 h2 fin)
theorem x_istore_8 {r : Ev} {d : Nat} {y : MethodName} {cc : ByteArray} {mr : Nat × Option FieldType} {b : Nat × Nat} {pc q : Nat} {st : List Value} {n : Nat} {I : MI} {Q : MQ2} {F : Post} {a0 a1 a2 a3 a4 a5 a6 a7 a8 : Option Value} {t : List (Option Value)} {x : Int32} (hd : DR cc pc (.istore 8) 2 q) (hn : Nat.ble (8 + 1) mr.1 = true) (ho : okst (a0 :: a1 :: a2 :: a3 :: a4 :: a5 :: a6 :: a7 :: a8 :: t) 8 = true) (k : X r d y cc mr b q (a0 :: a1 :: a2 :: a3 :: a4 :: a5 :: a6 :: a7 :: some (.int x) :: t) st n I Q F) : X r d y cc mr b pc (a0 :: a1 :: a2 :: a3 :: a4 :: a5 :: a6 :: a7 :: a8 :: t) (.int x :: st) n I Q F := by
  intro p e s m args below meth c H locs cells slots mc ms R ls Qf C hW hS hl h1 h2 fin
  obtain ⟨hd, rfl⟩ := hd
  exact lv_istore C.1 C.2.1 hd (lvs_list hl) (Nat.le_of_ble_eq_true hn) rfl (fun ls' hs => k _ _ _ _ _ _ _ _ _ _ _ _ _ _ _ _ _ C hW hS (lvs_put hs ho) h1 h2 fin)
theorem x_astore_8 {r : Ev} {d : Nat} {y : MethodName} {cc : ByteArray} {mr : Nat × Option FieldType} {b : Nat × Nat} {pc q : Nat} {st : List Value} {n : Nat} {I : MI} {Q : MQ2} {F : Post} {a0 a1 a2 a3 a4 a5 a6 a7 a8 : Option Value} {t : List (Option Value)} {x : Nat} (hd : DR cc pc (.astore 8) 2 q) (hn : Nat.ble (8 + 1) mr.1 = true) (ho : okst (a0 :: a1 :: a2 :: a3 :: a4 :: a5 :: a6 :: a7 :: a8 :: t) 8 = true) (k : X r d y cc mr b q (a0 :: a1 :: a2 :: a3 :: a4 :: a5 :: a6 :: a7 :: some (.ref x) :: t) st n I Q F) : X r d y cc mr b pc (a0 :: a1 :: a2 :: a3 :: a4 :: a5 :: a6 :: a7 :: a8 :: t) (.ref x :: st) n I Q F := by
  intro p e s m args below meth c H locs cells slots mc ms R ls Qf C hW hS hl h1 h2 fin
  obtain ⟨hd, rfl⟩ := hd
  exact lv_astore C.1 C.2.1 hd (lvs_list hl) (Nat.le_of_ble_eq_true hn) rfl (fun ls' hs => k _ _ _ _ _ _ _ _ _ _ _ _ _ _ _ _ _ C hW hS (lvs_put hs ho) h1 h2 fin)
theorem x_iinc_8 {r : Ev} {d : Nat} {y : MethodName} {cc : ByteArray} {mr : Nat × Option FieldType} {b : Nat × Nat} {pc q : Nat} {st : List Value} {n : Nat} {I : MI} {Q : MQ2} {F : Post} {a0 a1 a2 a3 a4 a5 a6 a7 : Option Value} {t : List (Option Value)} {x v : Int32} {z : Int} (hd : DR cc pc (.iinc 8 z) 3 q) (hv : x + Int32.ofInt z = v) (hn : Nat.ble (8 + 1) mr.1 = true) (ho : okst (a0 :: a1 :: a2 :: a3 :: a4 :: a5 :: a6 :: a7 :: some (.int x) :: t) 8 = true) (k : X r d y cc mr b q (a0 :: a1 :: a2 :: a3 :: a4 :: a5 :: a6 :: a7 :: some (.int v) :: t) st n I Q F) : X r d y cc mr b pc (a0 :: a1 :: a2 :: a3 :: a4 :: a5 :: a6 :: a7 :: some (.int x) :: t) st n I Q F := by
  intro p e s m args below meth c H locs cells slots mc ms R ls Qf C hW hS hl h1 h2 fin
  obtain ⟨hd, rfl⟩ := hd
  obtain ⟨j, hj⟩ := List.getElem?_of_mem (lvs_mem (lv := (a0 :: a1 :: a2 :: a3 :: a4 :: a5 :: a6 :: a7 :: some (.int x) :: t)) (i := 8) (v := .int x) rfl)
  exact lv_iinc C.1 C.2.1 hd (lvs_list hl) hj hv (Nat.le_of_ble_eq_true hn) rfl (fun ls' hs => k _ _ _ _ _ _ _ _ _ _ _ _ _ _ _ _ _ C hW hS (lvs_put hs ho) h1 h2 fin)
theorem x_istore_9 {r : Ev} {d : Nat} {y : MethodName} {cc : ByteArray} {mr : Nat × Option FieldType} {b : Nat × Nat} {pc q : Nat} {st : List Value} {n : Nat} {I : MI} {Q : MQ2} {F : Post} {a0 a1 a2 a3 a4 a5 a6 a7 a8 a9 : Option Value} {t : List (Option Value)} {x : Int32} (hd : DR cc pc (.istore 9) 2 q) (hn : Nat.ble (9 + 1) mr.1 = true) (ho : okst (a0 :: a1 :: a2 :: a3 :: a4 :: a5 :: a6 :: a7 :: a8 :: a9 :: t) 9 = true) (k : X r d y cc mr b q (a0 :: a1 :: a2 :: a3 :: a4 :: a5 :: a6 :: a7 :: a8 :: some (.int x) :: t) st n I Q F) : X r d y cc mr b pc (a0 :: a1 :: a2 :: a3 :: a4 :: a5 :: a6 :: a7 :: a8 :: a9 :: t) (.int x :: st) n I Q F := by
  intro p e s m args below meth c H locs cells slots mc ms R ls Qf C hW hS hl h1 h2 fin
  obtain ⟨hd, rfl⟩ := hd
  exact lv_istore C.1 C.2.1 hd (lvs_list hl) (Nat.le_of_ble_eq_true hn) rfl (fun ls' hs => k _ _ _ _ _ _ _ _ _ _ _ _ _ _ _ _ _ C hW hS (lvs_put hs ho) h1 h2 fin)
theorem x_astore_9 {r : Ev} {d : Nat} {y : MethodName} {cc : ByteArray} {mr : Nat × Option FieldType} {b : Nat × Nat} {pc q : Nat} {st : List Value} {n : Nat} {I : MI} {Q : MQ2} {F : Post} {a0 a1 a2 a3 a4 a5 a6 a7 a8 a9 : Option Value} {t : List (Option Value)} {x : Nat} (hd : DR cc pc (.astore 9) 2 q) (hn : Nat.ble (9 + 1) mr.1 = true) (ho : okst (a0 :: a1 :: a2 :: a3 :: a4 :: a5 :: a6 :: a7 :: a8 :: a9 :: t) 9 = true) (k : X r d y cc mr b q (a0 :: a1 :: a2 :: a3 :: a4 :: a5 :: a6 :: a7 :: a8 :: some (.ref x) :: t) st n I Q F) : X r d y cc mr b pc (a0 :: a1 :: a2 :: a3 :: a4 :: a5 :: a6 :: a7 :: a8 :: a9 :: t) (.ref x :: st) n I Q F := by
  intro p e s m args below meth c H locs cells slots mc ms R ls Qf C hW hS hl h1 h2 fin
  obtain ⟨hd, rfl⟩ := hd
  exact lv_astore C.1 C.2.1 hd (lvs_list hl) (Nat.le_of_ble_eq_true hn) rfl (fun ls' hs => k _ _ _ _ _ _ _ _ _ _ _ _ _ _ _ _ _ C hW hS (lvs_put hs ho) h1 h2 fin)
theorem x_iinc_9 {r : Ev} {d : Nat} {y : MethodName} {cc : ByteArray} {mr : Nat × Option FieldType} {b : Nat × Nat} {pc q : Nat} {st : List Value} {n : Nat} {I : MI} {Q : MQ2} {F : Post} {a0 a1 a2 a3 a4 a5 a6 a7 a8 : Option Value} {t : List (Option Value)} {x v : Int32} {z : Int} (hd : DR cc pc (.iinc 9 z) 3 q) (hv : x + Int32.ofInt z = v) (hn : Nat.ble (9 + 1) mr.1 = true) (ho : okst (a0 :: a1 :: a2 :: a3 :: a4 :: a5 :: a6 :: a7 :: a8 :: some (.int x) :: t) 9 = true) (k : X r d y cc mr b q (a0 :: a1 :: a2 :: a3 :: a4 :: a5 :: a6 :: a7 :: a8 :: some (.int v) :: t) st n I Q F) : X r d y cc mr b pc (a0 :: a1 :: a2 :: a3 :: a4 :: a5 :: a6 :: a7 :: a8 :: some (.int x) :: t) st n I Q F := by
  intro p e s m args below meth c H locs cells slots mc ms R ls Qf C hW hS hl h1 h2 fin
  obtain ⟨hd, rfl⟩ := hd
  obtain ⟨j, hj⟩ := List.getElem?_of_mem (lvs_mem (lv := (a0 :: a1 :: a2 :: a3 :: a4 :: a5 :: a6 :: a7 :: a8 :: some (.int x) :: t)) (i := 9) (v := .int x) rfl)
  exact lv_iinc C.1 C.2.1 hd (lvs_list hl) hj hv (Nat.le_of_ble_eq_true hn) rfl (fun ls' hs => k _ _ _ _ _ _ _ _ _ _ _ _ _ _ _ _ _ C hW hS (lvs_put hs ho) h1 h2 fin)
theorem x_istore_10 {r : Ev} {d : Nat} {y : MethodName} {cc : ByteArray} {mr : Nat × Option FieldType} {b : Nat × Nat} {pc q : Nat} {st : List Value} {n : Nat} {I : MI} {Q : MQ2} {F : Post} {a0 a1 a2 a3 a4 a5 a6 a7 a8 a9 a10 : Option Value} {t : List (Option Value)} {x : Int32} (hd : DR cc pc (.istore 10) 2 q) (hn : Nat.ble (10 + 1) mr.1 = true) (ho : okst (a0 :: a1 :: a2 :: a3 :: a4 :: a5 :: a6 :: a7 :: a8 :: a9 :: a10 :: t) 10 = true) (k : X r d y cc mr b q (a0 :: a1 :: a2 :: a3 :: a4 :: a5 :: a6 :: a7 :: a8 :: a9 :: some (.int x) :: t) st n I Q F) : X r d y cc mr b pc (a0 :: a1 :: a2 :: a3 :: a4 :: a5 :: a6 :: a7 :: a8 :: a9 :: a10 :: t) (.int x :: st) n I Q F := by
  intro p e s m args below meth c H locs cells slots mc ms R ls Qf C hW hS hl h1 h2 fin
  obtain ⟨hd, rfl⟩ := hd
  exact lv_istore C.1 C.2.1 hd (lvs_list hl) (Nat.le_of_ble_eq_true hn) rfl (fun ls' hs => k _ _ _ _ _ _ _ _ _ _ _ _ _ _ _ _ _ C hW hS (lvs_put hs ho) h1 h2 fin)
theorem x_astore_10 {r : Ev} {d : Nat} {y : MethodName} {cc : ByteArray} {mr : Nat × Option FieldType} {b : Nat × Nat} {pc q : Nat} {st : List Value} {n : Nat} {I : MI} {Q : MQ2} {F : Post} {a0 a1 a2 a3 a4 a5 a6 a7 a8 a9 a10 : Option Value} {t : List (Option Value)} {x : Nat} (hd : DR cc pc (.astore 10) 2 q) (hn : Nat.ble (10 + 1) mr.1 = true) (ho : okst (a0 :: a1 :: a2 :: a3 :: a4 :: a5 :: a6 :: a7 :: a8 :: a9 :: a10 :: t) 10 = true) (k : X r d y cc mr b q (a0 :: a1 :: a2 :: a3 :: a4 :: a5 :: a6 :: a7 :: a8 :: a9 :: some (.ref x) :: t) st n I Q F) : X r d y cc mr b pc (a0 :: a1 :: a2 :: a3 :: a4 :: a5 :: a6 :: a7 :: a8 :: a9 :: a10 :: t) (.ref x :: st) n I Q F := by
  intro p e s m args below meth c H locs cells slots mc ms R ls Qf C hW hS hl h1 h2 fin
  obtain ⟨hd, rfl⟩ := hd
  exact lv_astore C.1 C.2.1 hd (lvs_list hl) (Nat.le_of_ble_eq_true hn) rfl (fun ls' hs => k _ _ _ _ _ _ _ _ _ _ _ _ _ _ _ _ _ C hW hS (lvs_put hs ho) h1 h2 fin)
theorem x_iinc_10 {r : Ev} {d : Nat} {y : MethodName} {cc : ByteArray} {mr : Nat × Option FieldType} {b : Nat × Nat} {pc q : Nat} {st : List Value} {n : Nat} {I : MI} {Q : MQ2} {F : Post} {a0 a1 a2 a3 a4 a5 a6 a7 a8 a9 : Option Value} {t : List (Option Value)} {x v : Int32} {z : Int} (hd : DR cc pc (.iinc 10 z) 3 q) (hv : x + Int32.ofInt z = v) (hn : Nat.ble (10 + 1) mr.1 = true) (ho : okst (a0 :: a1 :: a2 :: a3 :: a4 :: a5 :: a6 :: a7 :: a8 :: a9 :: some (.int x) :: t) 10 = true) (k : X r d y cc mr b q (a0 :: a1 :: a2 :: a3 :: a4 :: a5 :: a6 :: a7 :: a8 :: a9 :: some (.int v) :: t) st n I Q F) : X r d y cc mr b pc (a0 :: a1 :: a2 :: a3 :: a4 :: a5 :: a6 :: a7 :: a8 :: a9 :: some (.int x) :: t) st n I Q F := by
  intro p e s m args below meth c H locs cells slots mc ms R ls Qf C hW hS hl h1 h2 fin
  obtain ⟨hd, rfl⟩ := hd
  obtain ⟨j, hj⟩ := List.getElem?_of_mem (lvs_mem (lv := (a0 :: a1 :: a2 :: a3 :: a4 :: a5 :: a6 :: a7 :: a8 :: a9 :: some (.int x) :: t)) (i := 10) (v := .int x) rfl)
  exact lv_iinc C.1 C.2.1 hd (lvs_list hl) hj hv (Nat.le_of_ble_eq_true hn) rfl (fun ls' hs => k _ _ _ _ _ _ _ _ _ _ _ _ _ _ _ _ _ C hW hS (lvs_put hs ho) h1 h2 fin)
theorem x_istore_11 {r : Ev} {d : Nat} {y : MethodName} {cc : ByteArray} {mr : Nat × Option FieldType} {b : Nat × Nat} {pc q : Nat} {st : List Value} {n : Nat} {I : MI} {Q : MQ2} {F : Post} {a0 a1 a2 a3 a4 a5 a6 a7 a8 a9 a10 a11 : Option Value} {t : List (Option Value)} {x : Int32} (hd : DR cc pc (.istore 11) 2 q) (hn : Nat.ble (11 + 1) mr.1 = true) (ho : okst (a0 :: a1 :: a2 :: a3 :: a4 :: a5 :: a6 :: a7 :: a8 :: a9 :: a10 :: a11 :: t) 11 = true) (k : X r d y cc mr b q (a0 :: a1 :: a2 :: a3 :: a4 :: a5 :: a6 :: a7 :: a8 :: a9 :: a10 :: some (.int x) :: t) st n I Q F) : X r d y cc mr b pc (a0 :: a1 :: a2 :: a3 :: a4 :: a5 :: a6 :: a7 :: a8 :: a9 :: a10 :: a11 :: t) (.int x :: st) n I Q F := by
  intro p e s m args below meth c H locs cells slots mc ms R ls Qf C hW hS hl h1 h2 fin
  obtain ⟨hd, rfl⟩ := hd
  exact lv_istore C.1 C.2.1 hd (lvs_list hl) (Nat.le_of_ble_eq_true hn) rfl (fun ls' hs => k _ _ _ _ _ _ _ _ _ _ _ _ _ _ _ _ _ C hW hS (lvs_put hs ho) h1 h2 fin)
theorem x_astore_11 {r : Ev} {d : Nat} {y : MethodName} {cc : ByteArray} {mr : Nat × Option FieldType} {b : Nat × Nat} {pc q : Nat} {st : List Value} {n : Nat} {I : MI} {Q : MQ2} {F : Post} {a0 a1 a2 a3 a4 a5 a6 a7 a8 a9 a10 a11 : Option Value} {t : List (Option Value)} {x : Nat} (hd : DR cc pc (.astore 11) 2 q) (hn : Nat.ble (11 + 1) mr.1 = true) (ho : okst (a0 :: a1 :: a2 :: a3 :: a4 :: a5 :: a6 :: a7 :: a8 :: a9 :: a10 :: a11 :: t) 11 = true) (k : X r d y cc mr b q (a0 :: a1 :: a2 :: a3 :: a4 :: a5 :: a6 :: a7 :: a8 :: a9 :: a10 :: some (.ref x) :: t) st n I Q F) : X r d y cc mr b pc (a0 :: a1 :: a2 :: a3 :: a4 :: a5 :: a6 :: a7 :: a8 :: a9 :: a10 :: a11 :: t) (.ref x :: st) n I Q F := by
  intro p e s m args below meth c H locs cells slots mc ms R ls Qf C hW hS hl h1 h2 fin
  obtain ⟨hd, rfl⟩ := hd
  exact lv_astore C.1 C.2.1 hd (lvs_list hl) (Nat.le_of_ble_eq_true hn) rfl (fun ls' hs => k _ _ _ _ _ _ _ _ _ _ _ _ _ _ _ _ _ C hW hS (lvs_put hs ho) h1 h2 fin)
theorem x_iinc_11 {r : Ev} {d : Nat} {y : MethodName} {cc : ByteArray} {mr : Nat × Option FieldType} {b : Nat × Nat} {pc q : Nat} {st : List Value} {n : Nat} {I : MI} {Q : MQ2} {F : Post} {a0 a1 a2 a3 a4 a5 a6 a7 a8 a9 a10 : Option Value} {t : List (Option Value)} {x v : Int32} {z : Int} (hd : DR cc pc (.iinc 11 z) 3 q) (hv : x + Int32.ofInt z = v) (hn : Nat.ble (11 + 1) mr.1 = true) (ho : okst (a0 :: a1 :: a2 :: a3 :: a4 :: a5 :: a6 :: a7 :: a8 :: a9 :: a10 :: some (.int x) :: t) 11 = true) (k : X r d y cc mr b q (a0 :: a1 :: a2 :: a3 :: a4 :: a5 :: a6 :: a7 :: a8 :: a9 :: a10 :: some (.int v) :: t) st n I Q F) : X r d y cc mr b pc (a0 :: a1 :: a2 :: a3 :: a4 :: a5 :: a6 :: a7 :: a8 :: a9 :: a10 :: some (.int x) :: t) st n I Q F := by
  intro p e s m args below meth c H locs cells slots mc ms R ls Qf C hW hS hl h1 h2 fin
  obtain ⟨hd, rfl⟩ := hd
  obtain ⟨j, hj⟩ := List.getElem?_of_mem (lvs_mem (lv := (a0 :: a1 :: a2 :: a3 :: a4 :: a5 :: a6 :: a7 :: a8 :: a9 :: a10 :: some (.int x) :: t)) (i := 11) (v := .int x) rfl)
  exact lv_iinc C.1 C.2.1 hd (lvs_list hl) hj hv (Nat.le_of_ble_eq_true hn) rfl (fun ls' hs => k _ _ _ _ _ _ _ _ _ _ _ _ _ _ _ _ _ C hW hS (lvs_put hs ho) h1 h2 fin)
theorem x_istore_12 {r : Ev} {d : Nat} {y : MethodName} {cc : ByteArray} {mr : Nat × Option FieldType} {b : Nat × Nat} {pc q : Nat} {st : List Value} {n : Nat} {I : MI} {Q : MQ2} {F : Post} {a0 a1 a2 a3 a4 a5 a6 a7 a8 a9 a10 a11 a12 : Option Value} {t : List (Option Value)} {x : Int32} (hd : DR cc pc (.istore 12) 2 q) (hn : Nat.ble (12 + 1) mr.1 = true) (ho : okst (a0 :: a1 :: a2 :: a3 :: a4 :: a5 :: a6 :: a7 :: a8 :: a9 :: a10 :: a11 :: a12 :: t) 12 = true) (k : X r d y cc mr b q (a0 :: a1 :: a2 :: a3 :: a4 :: a5 :: a6 :: a7 :: a8 :: a9 :: a10 :: a11 :: some (.int x) :: t) st n I Q F) : X r d y cc mr b pc (a0 :: a1 :: a2 :: a3 :: a4 :: a5 :: a6 :: a7 :: a8 :: a9 :: a10 :: a11 :: a12 :: t) (.int x :: st) n I Q F := by
  intro p e s m args below meth c H locs cells slots mc ms R ls Qf C hW hS hl h1 h2 fin
  obtain ⟨hd, rfl⟩ := hd
  exact lv_istore C.1 C.2.1 hd (lvs_list hl) (Nat.le_of_ble_eq_true hn) rfl (fun ls' hs => k _ _ _ _ _ _ _ _ _ _ _ _ _ _ _ _ _ C hW hS (lvs_put hs ho) h1 h2 fin)
theorem x_astore_12 {r : Ev} {d : Nat} {y : MethodName} {cc : ByteArray} {mr : Nat × Option FieldType} {b : Nat × Nat} {pc q : Nat} {st : List Value} {n : Nat} {I : MI} {Q : MQ2} {F : Post} {a0 a1 a2 a3 a4 a5 a6 a7 a8 a9 a10 a11 a12 : Option Value} {t : List (Option Value)} {x : Nat} (hd : DR cc pc (.astore 12) 2 q) (hn : Nat.ble (12 + 1) mr.1 = true) (ho : okst (a0 :: a1 :: a2 :: a3 :: a4 :: a5 :: a6 :: a7 :: a8 :: a9 :: a10 :: a11 :: a12 :: t) 12 = true) (k : X r d y cc mr b q (a0 :: a1 :: a2 :: a3 :: a4 :: a5 :: a6 :: a7 :: a8 :: a9 :: a10 :: a11 :: some (.ref x) :: t) st n I Q F) : X r d y cc mr b pc (a0 :: a1 :: a2 :: a3 :: a4 :: a5 :: a6 :: a7 :: a8 :: a9 :: a10 :: a11 :: a12 :: t) (.ref x :: st) n I Q F := by
  intro p e s m args below meth c H locs cells slots mc ms R ls Qf C hW hS hl h1 h2 fin
  obtain ⟨hd, rfl⟩ := hd
  exact lv_astore C.1 C.2.1 hd (lvs_list hl) (Nat.le_of_ble_eq_true hn) rfl (fun ls' hs => k _ _ _ _ _ _ _ _ _ _ _ _ _ _ _ _ _ C hW hS (lvs_put hs ho) h1 h2 fin)
theorem x_iinc_12 {r : Ev} {d : Nat} {y : MethodName} {cc : ByteArray} {mr : Nat × Option FieldType} {b : Nat × Nat} {pc q : Nat} {st : List Value} {n : Nat} {I : MI} {Q : MQ2} {F : Post} {a0 a1 a2 a3 a4 a5 a6 a7 a8 a9 a10 a11 : Option Value} {t : List (Option Value)} {x v : Int32} {z : Int} (hd : DR cc pc (.iinc 12 z) 3 q) (hv : x + Int32.ofInt z = v) (hn : Nat.ble (12 + 1) mr.1 = true) (ho : okst (a0 :: a1 :: a2 :: a3 :: a4 :: a5 :: a6 :: a7 :: a8 :: a9 :: a10 :: a11 :: some (.int x) :: t) 12 = true) (k : X r d y cc mr b q (a0 :: a1 :: a2 :: a3 :: a4 :: a5 :: a6 :: a7 :: a8 :: a9 :: a10 :: a11 :: some (.int v) :: t) st n I Q F) : X r d y cc mr b pc (a0 :: a1 :: a2 :: a3 :: a4 :: a5 :: a6 :: a7 :: a8 :: a9 :: a10 :: a11 :: some (.int x) :: t) st n I Q F := by
  intro p e s m args below meth c H locs cells slots mc ms R ls Qf C hW hS hl h1 h2 fin
  obtain ⟨hd, rfl⟩ := hd
  obtain ⟨j, hj⟩ := List.getElem?_of_mem (lvs_mem (lv := (a0 :: a1 :: a2 :: a3 :: a4 :: a5 :: a6 :: a7 :: a8 :: a9 :: a10 :: a11 :: some (.int x) :: t)) (i := 12) (v := .int x) rfl)
  exact lv_iinc C.1 C.2.1 hd (lvs_list hl) hj hv (Nat.le_of_ble_eq_true hn) rfl (fun ls' hs => k _ _ _ _ _ _ _ _ _ _ _ _ _ _ _ _ _ C hW hS (lvs_put hs ho) h1 h2 fin)
theorem x_lstore_0 {r : Ev} {d : Nat} {y : MethodName} {cc : ByteArray} {mr : Nat × Option FieldType} {b : Nat × Nat} {pc q : Nat} {st : List Value} {n : Nat} {I : MI} {Q : MQ2} {F : Post} {a0 a1 : Option Value} {t : List (Option Value)} {x : Int64} (hd : DR cc pc (.lstore_n 0) 1 q) (hn : Nat.ble (0 + 2) mr.1 = true) (ho : okst (a0 :: a1 :: t) 0 = true) (k : X r d y cc mr b q (some (.long x) :: none :: t) st n I Q F) : X r d y cc mr b pc (a0 :: a1 :: t) (.long x :: st) n I Q F := by
  intro p e s m args below meth c H locs cells slots mc ms R ls Qf C hW hS hl h1 h2 fin
  obtain ⟨hd, rfl⟩ := hd
  exact lv_lstore_n C.1 C.2.1 hd rfl (lvs_list hl) (Nat.le_of_ble_eq_true hn) rfl (fun ls' hs => k _ _ _ _ _ _ _ _ _ _ _ _ _ _ _ _ _ C hW hS (lvs_putL hs ho) h1 h2 fin)
theorem x_lstore_1 {r : Ev} {d : Nat} {y : MethodName} {cc : ByteArray} {mr : Nat × Option FieldType} {b : Nat × Nat} {pc q : Nat} {st : List Value} {n : Nat} {I : MI} {Q : MQ2} {F : Post} {a0 a1 a2 : Option Value} {t : List (Option Value)} {x : Int64} (hd : DR cc pc (.lstore_n 1) 1 q) (hn : Nat.ble (1 + 2) mr.1 = true) (ho : okst (a0 :: a1 :: a2 :: t) 1 = true) (k : X r d y cc mr b q (a0 :: some (.long x) :: none :: t) st n I Q F) : X r d y cc mr b pc (a0 :: a1 :: a2 :: t) (.long x :: st) n I Q F := by
  intro p e s m args below meth c H locs cells slots mc ms R ls Qf C hW hS hl h1 h2 fin
  obtain ⟨hd, rfl⟩ := hd
  exact lv_lstore_n C.1 C.2.1 hd rfl (lvs_list hl) (Nat.le_of_ble_eq_true hn) rfl (fun ls' hs => k _ _ _ _ _ _ _ _ _ _ _ _ _ _ _ _ _ C hW hS (lvs_putL hs ho) h1 h2 fin)
theorem x_lstore_2 {r : Ev} {d : Nat} {y : MethodName} {cc : ByteArray} {mr : Nat × Option FieldType} {b : Nat × Nat} {pc q : Nat} {st : List Value} {n : Nat} {I : MI} {Q : MQ2} {F : Post} {a0 a1 a2 a3 : Option Value} {t : List (Option Value)} {x : Int64} (hd : DR cc pc (.lstore_n 2) 1 q) (hn : Nat.ble (2 + 2) mr.1 = true) (ho : okst (a0 :: a1 :: a2 :: a3 :: t) 2 = true) (k : X r d y cc mr b q (a0 :: a1 :: some (.long x) :: none :: t) st n I Q F) : X r d y cc mr b pc (a0 :: a1 :: a2 :: a3 :: t) (.long x :: st) n I Q F := by
  intro p e s m args below meth c H locs cells slots mc ms R ls Qf C hW hS hl h1 h2 fin
  obtain ⟨hd, rfl⟩ := hd
  exact lv_lstore_n C.1 C.2.1 hd rfl (lvs_list hl) (Nat.le_of_ble_eq_true hn) rfl (fun ls' hs => k _ _ _ _ _ _ _ _ _ _ _ _ _ _ _ _ _ C hW hS (lvs_putL hs ho) h1 h2 fin)
theorem x_lstore_3 {r : Ev} {d : Nat} {y : MethodName} {cc : ByteArray} {mr : Nat × Option FieldType} {b : Nat × Nat} {pc q : Nat} {st : List Value} {n : Nat} {I : MI} {Q : MQ2} {F : Post} {a0 a1 a2 a3 a4 : Option Value} {t : List (Option Value)} {x : Int64} (hd : DR cc pc (.lstore_n 3) 1 q) (hn : Nat.ble (3 + 2) mr.1 = true) (ho : okst (a0 :: a1 :: a2 :: a3 :: a4 :: t) 3 = true) (k : X r d y cc mr b q (a0 :: a1 :: a2 :: some (.long x) :: none :: t) st n I Q F) : X r d y cc mr b pc (a0 :: a1 :: a2 :: a3 :: a4 :: t) (.long x :: st) n I Q F := by
  intro p e s m args below meth c H locs cells slots mc ms R ls Qf C hW hS hl h1 h2 fin
  obtain ⟨hd, rfl⟩ := hd
  exact lv_lstore_n C.1 C.2.1 hd rfl (lvs_list hl) (Nat.le_of_ble_eq_true hn) rfl (fun ls' hs => k _ _ _ _ _ _ _ _ _ _ _ _ _ _ _ _ _ C hW hS (lvs_putL hs ho) h1 h2 fin)
theorem x_lstore_4 {r : Ev} {d : Nat} {y : MethodName} {cc : ByteArray} {mr : Nat × Option FieldType} {b : Nat × Nat} {pc q : Nat} {st : List Value} {n : Nat} {I : MI} {Q : MQ2} {F : Post} {a0 a1 a2 a3 a4 a5 : Option Value} {t : List (Option Value)} {x : Int64} (hd : DR cc pc (.lstore 4) 2 q) (hn : Nat.ble (4 + 2) mr.1 = true) (ho : okst (a0 :: a1 :: a2 :: a3 :: a4 :: a5 :: t) 4 = true) (k : X r d y cc mr b q (a0 :: a1 :: a2 :: a3 :: some (.long x) :: none :: t) st n I Q F) : X r d y cc mr b pc (a0 :: a1 :: a2 :: a3 :: a4 :: a5 :: t) (.long x :: st) n I Q F := by
  intro p e s m args below meth c H locs cells slots mc ms R ls Qf C hW hS hl h1 h2 fin
  obtain ⟨hd, rfl⟩ := hd
  exact lv_lstore C.1 C.2.1 hd (lvs_list hl) (Nat.le_of_ble_eq_true hn) rfl (fun ls' hs => k _ _ _ _ _ _ _ _ _ _ _ _ _ _ _ _ _ C hW hS (lvs_putL hs ho) h1 h2 fin)
theorem x_lstore_5 {r : Ev} {d : Nat} {y : MethodName} {cc : ByteArray} {mr : Nat × Option FieldType} {b : Nat × Nat} {pc q : Nat} {st : List Value} {n : Nat} {I : MI} {Q : MQ2} {F : Post} {a0 a1 a2 a3 a4 a5 a6 : Option Value} {t : List (Option Value)} {x : Int64} (hd : DR cc pc (.lstore 5) 2 q) (hn : Nat.ble (5 + 2) mr.1 = true) (ho : okst (a0 :: a1 :: a2 :: a3 :: a4 :: a5 :: a6 :: t) 5 = true) (k : X r d y cc mr b q (a0 :: a1 :: a2 :: a3 :: a4 :: some (.long x) :: none :: t) st n I Q F) : X r d y cc mr b pc (a0 :: a1 :: a2 :: a3 :: a4 :: a5 :: a6 :: t) (.long x :: st) n I Q F := by
  intro p e s m args below meth c H locs cells slots mc ms R ls Qf C hW hS hl h1 h2 fin
  obtain ⟨hd, rfl⟩ := hd
  exact lv_lstore C.1 C.2.1 hd (lvs_list hl) (Nat.le_of_ble_eq_true hn) rfl (fun ls' hs => k _ _ _ _ _ _ _ _ _ _ _ _ _ _ _ _ _ C hW hS (lvs_putL hs ho) h1 h2 fin)
theorem x_lstore_6 {r : Ev} {d : Nat} {y : MethodName} {cc : ByteArray} {mr : Nat × Option FieldType} {b : Nat × Nat} {pc q : Nat} {st : List Value} {n : Nat} {I : MI} {Q : MQ2} {F : Post} {a0 a1 a2 a3 a4 a5 a6 a7 : Option Value} {t : List (Option Value)} {x : Int64} (hd : DR cc pc (.lstore 6) 2 q) (hn : Nat.ble (6 + 2) mr.1 = true) (ho : okst (a0 :: a1 :: a2 :: a3 :: a4 :: a5 :: a6 :: a7 :: t) 6 = true) (k : X r d y cc mr b q (a0 :: a1 :: a2 :: a3 :: a4 :: a5 :: some (.long x) :: none :: t) st n I Q F) : X r d y cc mr b pc (a0 :: a1 :: a2 :: a3 :: a4 :: a5 :: a6 :: a7 :: t) (.long x :: st) n I Q F := by
  intro p e s m args below meth c H locs cells slots mc ms R ls Qf C hW hS hl h1 h2 fin
  obtain ⟨hd, rfl⟩ := hd
  exact lv_lstore C.1 C.2.1 hd (lvs_list hl) (Nat.le_of_ble_eq_true hn) rfl (fun ls' hs => k _ _ _ _ _ _ _ _ _ _ _ _ _ _ _ _ _ C hW hS (lvs_putL hs ho) h1 h2 fin)
theorem x_lstore_7 {r : Ev} {d : Nat} {y : MethodName} {cc : ByteArray} {mr : Nat × Option FieldType} {b : Nat × Nat} {pc q : Nat} {st : List Value} {n : Nat} {I : MI} {Q : MQ2} {F : Post} {a0 a1 a2 a3 a4 a5 a6 a7 a8 : Option Value} {t : List (Option Value)} {x : Int64} (hd : DR cc pc (.lstore 7) 2 q) (hn : Nat.ble (7 + 2) mr.1 = true) (ho : okst (a0 :: a1 :: a2 :: a3 :: a4 :: a5 :: a6 :: a7 :: a8 :: t) 7 = true) (k : X r d y cc mr b q (a0 :: a1 :: a2 :: a3 :: a4 :: a5 :: a6 :: some (.long x) :: none :: t) st n I Q F) : X r d y cc mr b pc (a0 :: a1 :: a2 :: a3 :: a4 :: a5 :: a6 :: a7 :: a8 :: t) (.long x :: st) n I Q F := by
  intro p e s m args below meth c H locs cells slots mc ms R ls Qf C hW hS hl h1 h2 fin
  obtain ⟨hd, rfl⟩ := hd
  exact lv_lstore C.1 C.2.1 hd (lvs_list hl) (Nat.le_of_ble_eq_true hn) rfl (fun ls' hs => k _ _ _ _ _ _ _ _ _ _ _ _ _ _ _ _ _ C hW hS (lvs_putL hs ho) h1 h2 fin)
theorem x_lstore_8 {r : Ev} {d : Nat} {y : MethodName} {cc : ByteArray} {mr : Nat × Option FieldType} {b : Nat × Nat} {pc q : Nat} {st : List Value} {n : Nat} {I : MI} {Q : MQ2} {F : Post} {a0 a1 a2 a3 a4 a5 a6 a7 a8 a9 : Option Value} {t : List (Option Value)} {x : Int64} (hd : DR cc pc (.lstore 8) 2 q) (hn : Nat.ble (8 + 2) mr.1 = true) (ho : okst (a0 :: a1 :: a2 :: a3 :: a4 :: a5 :: a6 :: a7 :: a8 :: a9 :: t) 8 = true) (k : X r d y cc mr b q (a0 :: a1 :: a2 :: a3 :: a4 :: a5 :: a6 :: a7 :: some (.long x) :: none :: t) st n I Q F) : X r d y cc mr b pc (a0 :: a1 :: a2 :: a3 :: a4 :: a5 :: a6 :: a7 :: a8 :: a9 :: t) (.long x :: st) n I Q F := by
  intro p e s m args below meth c H locs cells slots mc ms R ls Qf C hW hS hl h1 h2 fin
  obtain ⟨hd, rfl⟩ := hd
  exact lv_lstore C.1 C.2.1 hd (lvs_list hl) (Nat.le_of_ble_eq_true hn) rfl (fun ls' hs => k _ _ _ _ _ _ _ _ _ _ _ _ _ _ _ _ _ C hW hS (lvs_putL hs ho) h1 h2 fin)
theorem x_lstore_9 {r : Ev} {d : Nat} {y : MethodName} {cc : ByteArray} {mr : Nat × Option FieldType} {b : Nat × Nat} {pc q : Nat} {st : List Value} {n : Nat} {I : MI} {Q : MQ2} {F : Post} {a0 a1 a2 a3 a4 a5 a6 a7 a8 a9 a10 : Option Value} {t : List (Option Value)} {x : Int64} (hd : DR cc pc (.lstore 9) 2 q) (hn : Nat.ble (9 + 2) mr.1 = true) (ho : okst (a0 :: a1 :: a2 :: a3 :: a4 :: a5 :: a6 :: a7 :: a8 :: a9 :: a10 :: t) 9 = true) (k : X r d y cc mr b q (a0 :: a1 :: a2 :: a3 :: a4 :: a5 :: a6 :: a7 :: a8 :: some (.long x) :: none :: t) st n I Q F) : X r d y cc mr b pc (a0 :: a1 :: a2 :: a3 :: a4 :: a5 :: a6 :: a7 :: a8 :: a9 :: a10 :: t) (.long x :: st) n I Q F := by
  intro p e s m args below meth c H locs cells slots mc ms R ls Qf C hW hS hl h1 h2 fin
  obtain ⟨hd, rfl⟩ := hd
  exact lv_lstore C.1 C.2.1 hd (lvs_list hl) (Nat.le_of_ble_eq_true hn) rfl (fun ls' hs => k _ _ _ _ _ _ _ _ _ _ _ _ _ _ _ _ _ C hW hS (lvs_putL hs ho) h1 h2 fin)
theorem x_lstore_10 {r : Ev} {d : Nat} {y : MethodName} {cc : ByteArray} {mr : Nat × Option FieldType} {b : Nat × Nat} {pc q : Nat} {st : List Value} {n : Nat} {I : MI} {Q : MQ2} {F : Post} {a0 a1 a2 a3 a4 a5 a6 a7 a8 a9 a10 a11 : Option Value} {t : List (Option Value)} {x : Int64} (hd : DR cc pc (.lstore 10) 2 q) (hn : Nat.ble (10 + 2) mr.1 = true) (ho : okst (a0 :: a1 :: a2 :: a3 :: a4 :: a5 :: a6 :: a7 :: a8 :: a9 :: a10 :: a11 :: t) 10 = true) (k : X r d y cc mr b q (a0 :: a1 :: a2 :: a3 :: a4 :: a5 :: a6 :: a7 :: a8 :: a9 :: some (.long x) :: none :: t) st n I Q F) : X r d y cc mr b pc (a0 :: a1 :: a2 :: a3 :: a4 :: a5 :: a6 :: a7 :: a8 :: a9 :: a10 :: a11 :: t) (.long x :: st) n I Q F := by
  intro p e s m args below meth c H locs cells slots mc ms R ls Qf C hW hS hl h1 h2 fin
  obtain ⟨hd, rfl⟩ := hd
  exact lv_lstore C.1 C.2.1 hd (lvs_list hl) (Nat.le_of_ble_eq_true hn) rfl (fun ls' hs => k _ _ _ _ _ _ _ _ _ _ _ _ _ _ _ _ _ C hW hS (lvs_putL hs ho) h1 h2 fin)
theorem x_lstore_11 {r : Ev} {d : Nat} {y : MethodName} {cc : ByteArray} {mr : Nat × Option FieldType} {b : Nat × Nat} {pc q : Nat} {st : List Value} {n : Nat} {I : MI} {Q : MQ2} {F : Post} {a0 a1 a2 a3 a4 a5 a6 a7 a8 a9 a10 a11 a12 : Option Value} {t : List (Option Value)} {x : Int64} (hd : DR cc pc (.lstore 11) 2 q) (hn : Nat.ble (11 + 2) mr.1 = true) (ho : okst (a0 :: a1 :: a2 :: a3 :: a4 :: a5 :: a6 :: a7 :: a8 :: a9 :: a10 :: a11 :: a12 :: t) 11 = true) (k : X r d y cc mr b q (a0 :: a1 :: a2 :: a3 :: a4 :: a5 :: a6 :: a7 :: a8 :: a9 :: a10 :: some (.long x) :: none :: t) st n I Q F) : X r d y cc mr b pc (a0 :: a1 :: a2 :: a3 :: a4 :: a5 :: a6 :: a7 :: a8 :: a9 :: a10 :: a11 :: a12 :: t) (.long x :: st) n I Q F := by
  intro p e s m args below meth c H locs cells slots mc ms R ls Qf C hW hS hl h1 h2 fin
  obtain ⟨hd, rfl⟩ := hd
  exact lv_lstore C.1 C.2.1 hd (lvs_list hl) (Nat.le_of_ble_eq_true hn) rfl (fun ls' hs => k _ _ _ _ _ _ _ _ _ _ _ _ _ _ _ _ _ C hW hS (lvs_putL hs ho) h1 h2 fin)
end
section
/-! fields -/
def clC (ci : Nat) : String := (vwCl.getD ci ("", (fun _ => ("", "", "", false)), 0)).1
def clT (ci : Nat) : u_T := (vwCl.getD ci ("", (fun _ => ("", "", "", false)), 0)).2.1
def tyOf (ci : Nat) : Nat → FieldType := [tyX0, tyX1, tyX2, tyX3, tyX4, tyX5, tyX6, tyX7, tyX8, tyX9].getD ci (fun _ => .int)
def CFok (ci : Nat) : Prop := vwCl[ci]? = some (clC ci, clT ci, nf ci) ∧ (∀ w ∈ u_ws (clC ci) (clT ci) (nf ci), w ∈ wT) ∧ (∀ k, k < nf ci → parseFieldDescriptor (clT ci k).2.2.1 = some (tyOf ci k)) ∧ ∀ a, a < nf ci → ∀ b, b < nf ci → a ≠ b → (clT ci a).2.1 ≠ (clT ci b).2.1
theorem wsl_0 : ∀ w ∈ u_ws RX0 TX0 (nf 0), w ∈ wT := fun w h => List.mem_filter.mpr ⟨(show ∀ w ∈ u_ws RX0 TX0 (nf 0), w ∈ lw_tbl by decide +kernel) w h, (show ∀ w ∈ u_ws RX0 TX0 (nf 0), goodWord w = true by decide +kernel) w h⟩
theorem cfo_0 : CFok 0 := ⟨rfl, wsl_0, tyX0_ok, nmX0⟩
theorem wsl_1 : ∀ w ∈ u_ws RX1 TX1 (nf 1), w ∈ wT := fun w h => List.mem_filter.mpr ⟨(show ∀ w ∈ u_ws RX1 TX1 (nf 1), w ∈ lw_tbl by decide +kernel) w h, (show ∀ w ∈ u_ws RX1 TX1 (nf 1), goodWord w = true by decide +kernel) w h⟩
theorem cfo_1 : CFok 1 := ⟨rfl, wsl_1, tyX1_ok, nmX1⟩
theorem wsl_2 : ∀ w ∈ u_ws RX2 TX2 (nf 2), w ∈ wT := fun w h => List.mem_filter.mpr ⟨(show ∀ w ∈ u_ws RX2 TX2 (nf 2), w ∈ lw_tbl by decide +kernel) w h, (show ∀ w ∈ u_ws RX2 TX2 (nf 2), goodWord w = true by decide +kernel) w h⟩
theorem cfo_2 : CFok 2 := ⟨rfl, wsl_2, tyX2_ok, nmX2⟩
theorem wsl_3 : ∀ w ∈ u_ws RX3 TX3 (nf 3), w ∈ wT := fun w h => List.mem_filter.mpr ⟨(show ∀ w ∈ u_ws RX3 TX3 (nf 3), w ∈ lw_tbl by decide +kernel) w h, (show ∀ w ∈ u_ws RX3 TX3 (nf 3), goodWord w = true by decide +kernel) w h⟩
theorem cfo_3 : CFok 3 := ⟨rfl, wsl_3, tyX3_ok, nmX3⟩
theorem wsl_4 : ∀ w ∈ u_ws RX4 TX4 (nf 4), w ∈ wT := fun w h => List.mem_filter.mpr ⟨(show ∀ w ∈ u_ws RX4 TX4 (nf 4), w ∈ lw_tbl by decide +kernel) w h, (show ∀ w ∈ u_ws RX4 TX4 (nf 4), goodWord w = true by decide +kernel) w h⟩
theorem cfo_4 : CFok 4 := ⟨rfl, wsl_4, tyX4_ok, nmX4⟩
theorem wsl_5 : ∀ w ∈ u_ws RX5 TX5 (nf 5), w ∈ wT := fun w h => List.mem_filter.mpr ⟨(show ∀ w ∈ u_ws RX5 TX5 (nf 5), w ∈ lw_tbl by decide +kernel) w h, (show ∀ w ∈ u_ws RX5 TX5 (nf 5), goodWord w = true by decide +kernel) w h⟩
theorem cfo_5 : CFok 5 := ⟨rfl, wsl_5, tyX5_ok, nmX5⟩
theorem wsl_6 : ∀ w ∈ u_ws RX6 TX6 (nf 6), w ∈ wT := fun w h => List.mem_filter.mpr ⟨(show ∀ w ∈ u_ws RX6 TX6 (nf 6), w ∈ lw_tbl by decide +kernel) w h, (show ∀ w ∈ u_ws RX6 TX6 (nf 6), goodWord w = true by decide +kernel) w h⟩
theorem cfo_6 : CFok 6 := ⟨rfl, wsl_6, tyX6_ok, nmX6⟩
theorem wsl_7 : ∀ w ∈ u_ws RX7 TX7 (nf 7), w ∈ wT := fun w h => List.mem_filter.mpr ⟨(show ∀ w ∈ u_ws RX7 TX7 (nf 7), w ∈ lw_tbl by decide +kernel) w h, (show ∀ w ∈ u_ws RX7 TX7 (nf 7), goodWord w = true by decide +kernel) w h⟩
theorem cfo_7 : CFok 7 := ⟨rfl, wsl_7, tyX7_ok, nmX7⟩
theorem wsl_8 : ∀ w ∈ u_ws RX8 TX8 (nf 8), w ∈ wT := fun w h => List.mem_filter.mpr ⟨(show ∀ w ∈ u_ws RX8 TX8 (nf 8), w ∈ lw_tbl by decide +kernel) w h, (show ∀ w ∈ u_ws RX8 TX8 (nf 8), goodWord w = true by decide +kernel) w h⟩
theorem cfo_8 : CFok 8 := ⟨rfl, wsl_8, tyX8_ok, nmX8⟩
theorem wsl_9 : ∀ w ∈ u_ws RX9 TX9 (nf 9), w ∈ wT := fun w h => List.mem_filter.mpr ⟨(show ∀ w ∈ u_ws RX9 TX9 (nf 9), w ∈ lw_tbl by decide +kernel) w h, (show ∀ w ∈ u_ws RX9 TX9 (nf 9), goodWord w = true by decide +kernel) w h⟩
theorem cfo_9 : CFok 9 := ⟨rfl, wsl_9, tyX9_ok, nmX9⟩
theorem cf_ok : ∀ ci, ci < 10 → CFok ci := by
  intro ci h
  rcases (show ci = 0 ∨ ci = 1 ∨ ci = 2 ∨ ci = 3 ∨ ci = 4 ∨ ci = 5 ∨ ci = 6 ∨ ci = 7 ∨ ci = 8 ∨ ci = 9 by omega) with rfl | rfl | rfl | rfl | rfl | rfl | rfl | rfl | rfl | rfl
  · exact cfo_0
  · exact cfo_1
  · exact cfo_2
  · exact cfo_3
  · exact cfo_4
  · exact cfo_5
  · exact cfo_6
  · exact cfo_7
  · exact cfo_8
  · exact cfo_9
/-- an object of class ci, an array of kind k and length N, that are made -/
def Ob (n ci id : Nat) : Prop := kd id = ci ∧ id < n
def Ar (n k id N : Nat) : Prop := kd id = k ∧ nn id = N ∧ id < n
def FLk (own : String) (idx ci k : Nat) : Prop := Cond.fieldLink own idx (clT ci k).1 (clT ci k).2.1 (clT ci k).2.2.1 ∈ wT ∨ Cond.fieldLinkNest own idx (clT ci k).1 (clT ci k).2.1 (clT ci k).2.2.1 "DewLooms" ∈ wN
def FI (own : String) (idx ci k : Nat) : Prop := ci < 10 ∧ k < nf ci ∧ isR ci k = false ∧ FLk own idx ci k
def FR (own : String) (idx ci k : Nat) : Prop := ci < 10 ∧ k < nf ci ∧ isR ci k = true ∧ FLk own idx ci k
def NF (ci k : Nat) : Prop := (clT ci k).2.2.2 = false
theorem nn_all : ∀ x ∈ nnL, x ≤ 208 := by decide +kernel
theorem nn_lt (id : Nat) : nn id < 2 ^ 31 := by
  unfold nn
  rw [List.getD_eq_getElem?_getD]
  cases h : nnL[id]? with
  | none => exact Nat.le_of_ble_eq_true rfl
  | some x => exact Nat.lt_of_le_of_lt (nn_all x (List.mem_of_getElem? h)) (Nat.le_of_ble_eq_true rfl)
theorem Ar.lt {n k id N : Nat} (h : Ar n k id N) : N < 2 ^ 31 := by rw [← h.2.1]; exact nn_lt id
theorem wd_at {r : Ev} {n : Nat} {I : MI} {Q : MQ2} {ci id : Nat} (h : Ob n ci id) (hc : ci < 10) : (pool (evc r) (evz r) n I Q)[id]? = some (evz r + id, .inr (ci, flds (evz r) I Q id)) := by rw [pool_get h.2, cel_o h.1 hc]
theorem wd_ai {r : Ev} {n : Nat} {I : MI} {Q : MQ2} {k id N : Nat} (h : Ar n k id N) (hc : k = 10 ∨ k = 11) : (pool (evc r) (evz r) n I Q)[id]? = some (evz r + id, .inl (evc r k, N, .inl (I id))) := by rw [pool_get h.2.2, cel_i h.1 hc, h.2.1]
theorem wd_aq {r : Ev} {n : Nat} {I : MI} {Q : MQ2} {k id N : Nat} (h : Ar n k id N) (hc : k = 12 ∨ k = 13) : (pool (evc r) (evz r) n I Q)[id]? = some (evz r + id, .inl (evc r k, N, .inr (.inr (.inr (.inr (fun j => (Q id j).map (fun x => evz r + x))))))) := by rw [pool_get h.2.2, cel_q h.1 hc, h.2.1]
theorem x_geti {r : Ev} {d : Nat} {y : MethodName} {cc : ByteArray} {mr : Nat × Option FieldType} {b : Nat × Nat} {pc q : Nat} {lv : List (Option Value)} {st : List Value} {n : Nat} {I : MI} {Q : MQ2} {F : Post} {idx ci k id : Nat} (hd : DR cc pc (.getfield idx) 3 q) (f : FI y.cls idx ci k) (ho : Ob n ci id) (kk : X r d y cc mr b q lv (.int (I id k) :: st) n I Q F) : X r d y cc mr b pc lv (.ref (evz r + id) :: st) n I Q F := by
  intro p e s m args below meth c H locs cells slots mc ms R ls Qf C hW hS hl h1 h2 fin
  obtain ⟨hd, rfl⟩ := hd
  obtain ⟨f1, f2, f3, f4⟩ := f
  obtain ⟨g1, g2, g3, g4⟩ := cf_ok ci f1
  have hv : (flds (evz r) I Q id)[k]? = some (.int (I id k)) := by rw [flds_get (by rw [ho.1]; exact f2), ho.1, f3]; rfl
  rcases f4 with f4 | f4
  · exact va_get C.1 C.2.1 C.2.2.2.2.1 g2 C.2.2.2.1 hW.1 hW.2 id (wd_at ho f1) g1 k f2 (C.2.2.2.2.1 _ f4) (fun _ h => h) hv hd (kk _ _ _ _ _ _ _ _ _ _ _ _ _ _ _ _ _ C hW hS hl h1 h2 fin)
  · exact va_getN C.1 C.2.1 C.2.2.2.2.1 g2 C.2.2.2.1 hW.1 hW.2 id (wd_at ho f1) g1 k f2 (va_Nw.use rfl (C.2.2.2.2.2.2.2.2.2.2.2.1 _ f4)) (fun _ h => h) hv hd (kk _ _ _ _ _ _ _ _ _ _ _ _ _ _ _ _ _ C hW hS hl h1 h2 fin)
theorem x_getr {r : Ev} {d : Nat} {y : MethodName} {cc : ByteArray} {mr : Nat × Option FieldType} {b : Nat × Nat} {pc q : Nat} {lv : List (Option Value)} {st : List Value} {n : Nat} {I : MI} {Q : MQ2} {F : Post} {idx ci k id r2 : Nat} (hd : DR cc pc (.getfield idx) 3 q) (f : FR y.cls idx ci k) (ho : Ob n ci id) (hq : Q id k = some r2) (kk : X r d y cc mr b q lv (.ref (evz r + r2) :: st) n I Q F) : X r d y cc mr b pc lv (.ref (evz r + id) :: st) n I Q F := by
  intro p e s m args below meth c H locs cells slots mc ms R ls Qf C hW hS hl h1 h2 fin
  obtain ⟨hd, rfl⟩ := hd
  obtain ⟨f1, f2, f3, f4⟩ := f
  obtain ⟨g1, g2, g3, g4⟩ := cf_ok ci f1
  have hv : (flds (evz r) I Q id)[k]? = some (.ref (evz r + r2)) := by rw [flds_get (by rw [ho.1]; exact f2), ho.1, f3, hq]; rfl
  rcases f4 with f4 | f4
  · exact va_get C.1 C.2.1 C.2.2.2.2.1 g2 C.2.2.2.1 hW.1 hW.2 id (wd_at ho f1) g1 k f2 (C.2.2.2.2.1 _ f4) (fun _ h => h) hv hd (kk _ _ _ _ _ _ _ _ _ _ _ _ _ _ _ _ _ C hW hS hl h1 h2 fin)
  · exact va_getN C.1 C.2.1 C.2.2.2.2.1 g2 C.2.2.2.1 hW.1 hW.2 id (wd_at ho f1) g1 k f2 (va_Nw.use rfl (C.2.2.2.2.2.2.2.2.2.2.2.1 _ f4)) (fun _ h => h) hv hd (kk _ _ _ _ _ _ _ _ _ _ _ _ _ _ _ _ _ C hW hS hl h1 h2 fin)
theorem x_puti {r : Ev} {d : Nat} {y : MethodName} {cc : ByteArray} {mr : Nat × Option FieldType} {b : Nat × Nat} {pc q : Nat} {lv : List (Option Value)} {st : List Value} {n : Nat} {I : MI} {Q : MQ2} {F : Post} {idx ci k id : Nat} {x : Int32} {ty : FieldType} (hd : DR cc pc (.putfield idx) 3 q) (f : FI y.cls idx ci k) (hfn : NF ci k) (hnar : narrow (tyOf ci k) (.int x) = .int x) (hfit : fits (tyOf ci k) (.int x) = true) (ho : Ob n ci id) (kk : X r d y cc mr b q lv st n (up2 I id k x) Q F) : X r d y cc mr b pc lv (.int x :: .ref (evz r + id) :: st) n I Q F := by
  intro p e s m args below meth c H locs cells slots mc ms R ls Qf C hW hS hl h1 h2 fin
  obtain ⟨hd, rfl⟩ := hd
  obtain ⟨f1, f2, f3, f4⟩ := f
  obtain ⟨g1, g2, g3, g4⟩ := cf_ok ci f1
  have hpo : (pool (evc r) (evz r) n I Q).set id (evz r + id, .inr (ci, (flds (evz r) I Q id).set k (.int x))) = pool (evc r) (evz r) n (up2 I id k x) Q := by
    refine pool_set ho.2 ?_ (fun b hb => cel_cong (up2_row hb) rfl)
    rw [cel_o ho.1 f1, flds_set (I := I) (Q := Q) (by rw [ho.1]; exact f2) ?_ (fun j hj => up2_ne (fun e => hj e.2)) (fun j hj => rfl)]
    rw [ho.1, f3]
    first | (simp [up2]; done) | (simp [up2]; rfl)
  rcases f4 with f4 | f4
  · refine va_put C.1 C.2.1 C.2.2.2.2.1 g2 (tyOf ci) g3 g4 C.2.2.2.1 hW.1 hW.2 pool_D hS id (wd_at ho f1) g1 k f2 (C.2.2.2.2.1 _ f4) (fun _ h => h) hfn (g3 k f2) hnar hfit (by rw [flds_len, ho.1]; exact f2) hd (fun H1 locs1 hP hD hS1 => ?_)
    rw [hpo] at hP
    exact kk _ _ _ _ _ _ _ _ _ _ _ _ _ _ _ _ _ C ⟨hW.1, hP⟩ hS1 hl h1 h2 fin
  · refine va_putN C.1 C.2.1 C.2.2.2.2.1 g2 (tyOf ci) g3 g4 C.2.2.2.1 hW.1 hW.2 pool_D hS id (wd_at ho f1) g1 k f2 (va_Nw.use rfl (C.2.2.2.2.2.2.2.2.2.2.2.1 _ f4)) (fun _ h => h) hfn (g3 k f2) hnar hfit (by rw [flds_len, ho.1]; exact f2) hd (fun H1 locs1 hP hD hS1 => ?_)
    rw [hpo] at hP
    exact kk _ _ _ _ _ _ _ _ _ _ _ _ _ _ _ _ _ C ⟨hW.1, hP⟩ hS1 hl h1 h2 fin
theorem x_putr {r : Ev} {d : Nat} {y : MethodName} {cc : ByteArray} {mr : Nat × Option FieldType} {b : Nat × Nat} {pc q : Nat} {lv : List (Option Value)} {st : List Value} {n : Nat} {I : MI} {Q : MQ2} {F : Post} {idx ci k id r2 : Nat} (hd : DR cc pc (.putfield idx) 3 q) (f : FR y.cls idx ci k) (hfn : NF ci k) (hnar : narrow (tyOf ci k) (.ref (evz r + r2)) = .ref (evz r + r2)) (hfit : fits (tyOf ci k) (.ref (evz r + r2)) = true) (ho : Ob n ci id) (kk : X r d y cc mr b q lv st n I (up2 Q id k (some r2)) F) : X r d y cc mr b pc lv (.ref (evz r + r2) :: .ref (evz r + id) :: st) n I Q F := by
  intro p e s m args below meth c H locs cells slots mc ms R ls Qf C hW hS hl h1 h2 fin
  obtain ⟨hd, rfl⟩ := hd
  obtain ⟨f1, f2, f3, f4⟩ := f
  obtain ⟨g1, g2, g3, g4⟩ := cf_ok ci f1
  have hpo : (pool (evc r) (evz r) n I Q).set id (evz r + id, .inr (ci, (flds (evz r) I Q id).set k (.ref (evz r + r2)))) = pool (evc r) (evz r) n I (up2 Q id k (some r2)) := by
    refine pool_set ho.2 ?_ (fun b hb => cel_cong rfl (up2_row hb))
    rw [cel_o ho.1 f1, flds_set (I := I) (Q := Q) (by rw [ho.1]; exact f2) ?_ (fun j hj => rfl) (fun j hj => up2_ne (fun e => hj e.2))]
    rw [ho.1, f3]
    first | (simp [up2]; done) | (simp [up2]; rfl)
  rcases f4 with f4 | f4
  · refine va_put C.1 C.2.1 C.2.2.2.2.1 g2 (tyOf ci) g3 g4 C.2.2.2.1 hW.1 hW.2 pool_D hS id (wd_at ho f1) g1 k f2 (C.2.2.2.2.1 _ f4) (fun _ h => h) hfn (g3 k f2) hnar hfit (by rw [flds_len, ho.1]; exact f2) hd (fun H1 locs1 hP hD hS1 => ?_)
    rw [hpo] at hP
    exact kk _ _ _ _ _ _ _ _ _ _ _ _ _ _ _ _ _ C ⟨hW.1, hP⟩ hS1 hl h1 h2 fin
  · refine va_putN C.1 C.2.1 C.2.2.2.2.1 g2 (tyOf ci) g3 g4 C.2.2.2.1 hW.1 hW.2 pool_D hS id (wd_at ho f1) g1 k f2 (va_Nw.use rfl (C.2.2.2.2.2.2.2.2.2.2.2.1 _ f4)) (fun _ h => h) hfn (g3 k f2) hnar hfit (by rw [flds_len, ho.1]; exact f2) hd (fun H1 locs1 hP hD hS1 => ?_)
    rw [hpo] at hP
    exact kk _ _ _ _ _ _ _ _ _ _ _ _ _ _ _ _ _ C ⟨hW.1, hP⟩ hS1 hl h1 h2 fin
theorem x_putrF {r : Ev} {d : Nat} {y : MethodName} {cc : ByteArray} {mr : Nat × Option FieldType} {b : Nat × Nat} {pc q : Nat} {lv : List (Option Value)} {st : List Value} {n : Nat} {I : MI} {Q : MQ2} {F : Post} {idx ci k id r2 : Nat} (hd : DR cc pc (.putfield idx) 3 q) (f : FR y.cls idx ci k) (hnn : Cond.fieldLink y.cls idx (clT ci k).1 (clT ci k).2.1 (clT ci k).2.2.1 ∈ wT) (hfn : (clT ci k).2.2.2 = true) (hini : y.name = "<init>") (hdec : (clT ci k).1 = y.cls) (hnar : narrow (tyOf ci k) (.ref (evz r + r2)) = .ref (evz r + r2)) (hfit : fits (tyOf ci k) (.ref (evz r + r2)) = true) (ho : Ob n ci id) (kk : X r d y cc mr b q lv st n I (up2 Q id k (some r2)) F) : X r d y cc mr b pc lv (.ref (evz r + r2) :: .ref (evz r + id) :: st) n I Q F := by
  intro p e s m args below meth c H locs cells slots mc ms R ls Qf C hW hS hl h1 h2 fin
  obtain ⟨hd, rfl⟩ := hd
  obtain ⟨f1, f2, f3, f4⟩ := f
  obtain ⟨g1, g2, g3, g4⟩ := cf_ok ci f1
  have hpo : (pool (evc r) (evz r) n I Q).set id (evz r + id, .inr (ci, (flds (evz r) I Q id).set k (.ref (evz r + r2)))) = pool (evc r) (evz r) n I (up2 Q id k (some r2)) := by
    refine pool_set ho.2 ?_ (fun b hb => cel_cong rfl (up2_row hb))
    rw [cel_o ho.1 f1, flds_set (I := I) (Q := Q) (by rw [ho.1]; exact f2) ?_ (fun j hj => rfl) (fun j hj => up2_ne (fun e => hj e.2))]
    rw [ho.1, f3]
    first | (simp [up2]; done) | (simp [up2]; rfl)
  have f4 := hnn
  · refine va_putF C.1 C.2.1 C.2.2.2.2.1 g2 (tyOf ci) g3 g4 C.2.2.2.1 hW.1 hW.2 pool_D hS id (wd_at ho f1) g1 k f2 (C.2.2.2.2.1 _ f4) (fun _ h => h) hfn (C.2.2.2.2.2.1 hini) hdec (g3 k f2) hnar hfit (by rw [flds_len, ho.1]; exact f2) hd (fun H1 locs1 hP hD hS1 => ?_)
    rw [hpo] at hP
    exact kk _ _ _ _ _ _ _ _ _ _ _ _ _ _ _ _ _ C ⟨hW.1, hP⟩ hS1 hl h1 h2 fin
theorem up2_upd (I : MI) (id i : Nat) (v : Int32) : up2 I id i v id = upd (I id) i v := by
  funext j
  by_cases e : j = i <;> simp [up2, upd, e]
theorem up2_vup (Q : MQ2) (z id i r2 : Nat) : (fun j => (up2 Q id i (some r2) id j).map (fun x => z + x)) = va_up (fun j => (Q id j).map (fun x => z + x)) i (some (z + r2)) := by
  funext j
  by_cases e : j = i <;> simp [up2, va_up, e]
theorem nI_cl {N i : Nat} (hi : i < N) (hN : N < 2 ^ 31) : (nI i).toNatClampNeg = i := nI_clamp (Nat.lt_trans hi hN)
theorem x_iald {r : Ev} {d : Nat} {y : MethodName} {cc : ByteArray} {mr : Nat × Option FieldType} {b : Nat × Nat} {pc q : Nat} {lv : List (Option Value)} {st : List Value} {n : Nat} {I : MI} {Q : MQ2} {F : Post} {id N i : Nat} {x : Int32} (hd : DR cc pc .iaload 1 q) (ha : Ar n 11 id N) (hx : x = nI i) (hi : i < N) (kk : X r d y cc mr b q lv (.int (I id i) :: st) n I Q F) : X r d y cc mr b pc lv (.int x :: .ref (evz r + id) :: st) n I Q F := by
  intro p e s m args below meth c H locs cells slots mc ms R ls Qf C hW hS hl h1 h2 fin
  obtain ⟨hd, rfl⟩ := hd
  subst hx
  refine va_iald C.1 C.2.1 hW.1 hW.2 id 1 (wd_ai ha (Or.inr rfl)) rfl (vp_in_nI hi ha.lt) hd ?_
  rw [nI_cl hi ha.lt]
  exact kk _ _ _ _ _ _ _ _ _ _ _ _ _ _ _ _ _ C hW hS hl h1 h2 fin
theorem x_iast {r : Ev} {d : Nat} {y : MethodName} {cc : ByteArray} {mr : Nat × Option FieldType} {b : Nat × Nat} {pc q : Nat} {lv : List (Option Value)} {st : List Value} {n : Nat} {I : MI} {Q : MQ2} {F : Post} {id N i : Nat} {x v : Int32} (hd : DR cc pc .iastore 1 q) (ha : Ar n 11 id N) (hx : x = nI i) (hi : i < N)  (kk : X r d y cc mr b q lv st n (up2 I id i v) Q F) : X r d y cc mr b pc lv (.int v :: .int x :: .ref (evz r + id) :: st) n I Q F := by
  intro p e s m args below meth c H locs cells slots mc ms R ls Qf C hW hS hl h1 h2 fin
  obtain ⟨hd, rfl⟩ := hd
  subst hx
  refine va_iast C.1 C.2.1 hW.1 hW.2 pool_D hS id 1 (wd_ai ha (Or.inr rfl)) rfl (vp_in_nI hi ha.lt) hd (fun H1 locs1 hP hD hS1 => ?_)
  rw [nI_cl hi ha.lt] at hP
  rw [pool_set (I' := up2 I id i v) (Q' := Q) ha.2.2 (by rw [cel_i ha.1 (Or.inr rfl), ha.2.1]; rw [up2_upd]) (fun b hb => cel_cong (up2_row hb) rfl)] at hP
  exact kk _ _ _ _ _ _ _ _ _ _ _ _ _ _ _ _ _ C ⟨hW.1, hP⟩ hS1 hl h1 h2 fin
theorem x_cald {r : Ev} {d : Nat} {y : MethodName} {cc : ByteArray} {mr : Nat × Option FieldType} {b : Nat × Nat} {pc q : Nat} {lv : List (Option Value)} {st : List Value} {n : Nat} {I : MI} {Q : MQ2} {F : Post} {id N i : Nat} {x : Int32} (hd : DR cc pc .caload 1 q) (ha : Ar n 10 id N) (hx : x = nI i) (hi : i < N) (kk : X r d y cc mr b q lv (.int (I id i) :: st) n I Q F) : X r d y cc mr b pc lv (.int x :: .ref (evz r + id) :: st) n I Q F := by
  intro p e s m args below meth c H locs cells slots mc ms R ls Qf C hW hS hl h1 h2 fin
  obtain ⟨hd, rfl⟩ := hd
  subst hx
  refine va_cald C.1 C.2.1 hW.1 hW.2 id 0 (wd_ai ha (Or.inl rfl)) rfl (vp_in_nI hi ha.lt) hd ?_
  rw [nI_cl hi ha.lt]
  exact kk _ _ _ _ _ _ _ _ _ _ _ _ _ _ _ _ _ C hW hS hl h1 h2 fin
theorem x_cast {r : Ev} {d : Nat} {y : MethodName} {cc : ByteArray} {mr : Nat × Option FieldType} {b : Nat × Nat} {pc q : Nat} {lv : List (Option Value)} {st : List Value} {n : Nat} {I : MI} {Q : MQ2} {F : Post} {id N i : Nat} {x v : Int32} (hd : DR cc pc .castore 1 q) (ha : Ar n 10 id N) (hx : x = nI i) (hi : i < N) (hv : vp_nar .char v = v) (kk : X r d y cc mr b q lv st n (up2 I id i v) Q F) : X r d y cc mr b pc lv (.int v :: .int x :: .ref (evz r + id) :: st) n I Q F := by
  intro p e s m args below meth c H locs cells slots mc ms R ls Qf C hW hS hl h1 h2 fin
  obtain ⟨hd, rfl⟩ := hd
  subst hx
  refine va_cast C.1 C.2.1 hW.1 hW.2 pool_D hS id 0 (wd_ai ha (Or.inl rfl)) rfl (vp_in_nI hi ha.lt) hd (fun H1 locs1 hP hD hS1 => ?_)
  rw [nI_cl hi ha.lt] at hP
  rw [hv] at hP
  rw [pool_set (I' := up2 I id i v) (Q' := Q) ha.2.2 (by rw [cel_i ha.1 (Or.inl rfl), ha.2.1]; rw [up2_upd]) (fun b hb => cel_cong (up2_row hb) rfl)] at hP
  exact kk _ _ _ _ _ _ _ _ _ _ _ _ _ _ _ _ _ C ⟨hW.1, hP⟩ hS1 hl h1 h2 fin
theorem x_alen {r : Ev} {d : Nat} {y : MethodName} {cc : ByteArray} {mr : Nat × Option FieldType} {b : Nat × Nat} {pc q : Nat} {lv : List (Option Value)} {st : List Value} {n : Nat} {I : MI} {Q : MQ2} {F : Post} {id N k : Nat} (hd : DR cc pc .arraylength 1 q) (ha : Ar n k id N) (hk : k = 10 ∨ k = 11 ∨ k = 12 ∨ k = 13) (kk : X r d y cc mr b q lv (.int (nI N) :: st) n I Q F) : X r d y cc mr b pc lv (.ref (evz r + id) :: st) n I Q F := by
  intro p e s m args below meth c H locs cells slots mc ms R ls Qf C hW hS hl h1 h2 fin
  obtain ⟨hd, rfl⟩ := hd
  rcases hk with rfl | rfl | rfl | rfl
  · exact va_alen C.1 C.2.1 hW.1 hW.2 id 0 (wd_ai ha (Or.inl rfl)) rfl (v := nI N) rfl hd (kk _ _ _ _ _ _ _ _ _ _ _ _ _ _ _ _ _ C hW hS hl h1 h2 fin)
  · exact va_alen C.1 C.2.1 hW.1 hW.2 id 1 (wd_ai ha (Or.inr rfl)) rfl (v := nI N) rfl hd (kk _ _ _ _ _ _ _ _ _ _ _ _ _ _ _ _ _ C hW hS hl h1 h2 fin)
  · exact va_alen C.1 C.2.1 hW.1 hW.2 id 2 (wd_aq ha (Or.inl rfl)) rfl (v := nI N) rfl hd (kk _ _ _ _ _ _ _ _ _ _ _ _ _ _ _ _ _ C hW hS hl h1 h2 fin)
  · exact va_alen C.1 C.2.1 hW.1 hW.2 id 3 (wd_aq ha (Or.inr rfl)) rfl (v := nI N) rfl hd (kk _ _ _ _ _ _ _ _ _ _ _ _ _ _ _ _ _ C hW hS hl h1 h2 fin)
theorem x_aaldL {r : Ev} {d : Nat} {y : MethodName} {cc : ByteArray} {mr : Nat × Option FieldType} {b : Nat × Nat} {pc q : Nat} {lv : List (Option Value)} {st : List Value} {n : Nat} {I : MI} {Q : MQ2} {F : Post} {id N i r2 : Nat} {x : Int32} (hd : DR cc pc .aaload 1 q) (ha : Ar n 12 id N) (hx : x = nI i) (hi : i < N) (hq : Q id i = some r2) (kk : X r d y cc mr b q lv (.ref (evz r + r2) :: st) n I Q F) : X r d y cc mr b pc lv (.int x :: .ref (evz r + id) :: st) n I Q F := by
  intro p e s m args below meth c H locs cells slots mc ms R ls Qf C hW hS hl h1 h2 fin
  obtain ⟨hd, rfl⟩ := hd
  subst hx
  refine va_aldq C.1 C.2.1 hW.1 hW.2 id 2 (wd_aq ha (Or.inl rfl)) rfl (vp_in_nI hi ha.lt) hd ?_
  rw [nI_cl hi ha.lt, hq]
  exact kk _ _ _ _ _ _ _ _ _ _ _ _ _ _ _ _ _ C hW hS hl h1 h2 fin
theorem x_aastL {r : Ev} {d : Nat} {y : MethodName} {cc : ByteArray} {mr : Nat × Option FieldType} {b : Nat × Nat} {pc q : Nat} {lv : List (Option Value)} {st : List Value} {n : Nat} {I : MI} {Q : MQ2} {F : Post} {id N i r2 : Nat} {x : Int32} (hd : DR cc pc .aastore 1 q) (ha : Ar n 12 id N) (hx : x = nI i) (hi : i < N) (hr : Ob n 0 r2) (kk : X r d y cc mr b q lv st n I (up2 Q id i (some r2)) F) : X r d y cc mr b pc lv (.ref (evz r + r2) :: .int x :: .ref (evz r + id) :: st) n I Q F := by
  intro p e s m args below meth c H locs cells slots mc ms R ls Qf C hW hS hl h1 h2 fin
  obtain ⟨hd, rfl⟩ := hd
  subst hx
  refine va_astq C.1 C.2.1 hW.1 hW.2 pool_D hS id 2 r2 0 (wd_aq ha (Or.inl rfl)) rfl (wd_at hr (Nat.le_of_ble_eq_true rfl)) (cf_ok 0 (Nat.le_of_ble_eq_true rfl)).1 (vp_in_nI hi ha.lt) hd (fun H1 locs1 hP hD hS1 => ?_)
  rw [nI_cl hi ha.lt] at hP
  rw [pool_set (I' := I) (Q' := up2 Q id i (some r2)) ha.2.2 (by rw [cel_q ha.1 (Or.inl rfl), ha.2.1]; rw [up2_vup]) (fun b hb => cel_cong rfl (up2_row hb))] at hP
  exact kk _ _ _ _ _ _ _ _ _ _ _ _ _ _ _ _ _ C ⟨hW.1, hP⟩ hS1 hl h1 h2 fin
theorem x_aaldS {r : Ev} {d : Nat} {y : MethodName} {cc : ByteArray} {mr : Nat × Option FieldType} {b : Nat × Nat} {pc q : Nat} {lv : List (Option Value)} {st : List Value} {n : Nat} {I : MI} {Q : MQ2} {F : Post} {id N i r2 : Nat} {x : Int32} (hd : DR cc pc .aaload 1 q) (ha : Ar n 13 id N) (hx : x = nI i) (hi : i < N) (hq : Q id i = some r2) (kk : X r d y cc mr b q lv (.ref (evz r + r2) :: st) n I Q F) : X r d y cc mr b pc lv (.int x :: .ref (evz r + id) :: st) n I Q F := by
  intro p e s m args below meth c H locs cells slots mc ms R ls Qf C hW hS hl h1 h2 fin
  obtain ⟨hd, rfl⟩ := hd
  subst hx
  refine va_aldq C.1 C.2.1 hW.1 hW.2 id 3 (wd_aq ha (Or.inr rfl)) rfl (vp_in_nI hi ha.lt) hd ?_
  rw [nI_cl hi ha.lt, hq]
  exact kk _ _ _ _ _ _ _ _ _ _ _ _ _ _ _ _ _ C hW hS hl h1 h2 fin
theorem x_aastS {r : Ev} {d : Nat} {y : MethodName} {cc : ByteArray} {mr : Nat × Option FieldType} {b : Nat × Nat} {pc q : Nat} {lv : List (Option Value)} {st : List Value} {n : Nat} {I : MI} {Q : MQ2} {F : Post} {id N i r2 : Nat} {x : Int32} (hd : DR cc pc .aastore 1 q) (ha : Ar n 13 id N) (hx : x = nI i) (hi : i < N) (hr : Ob n 5 r2) (kk : X r d y cc mr b q lv st n I (up2 Q id i (some r2)) F) : X r d y cc mr b pc lv (.ref (evz r + r2) :: .int x :: .ref (evz r + id) :: st) n I Q F := by
  intro p e s m args below meth c H locs cells slots mc ms R ls Qf C hW hS hl h1 h2 fin
  obtain ⟨hd, rfl⟩ := hd
  subst hx
  refine va_astq C.1 C.2.1 hW.1 hW.2 pool_D hS id 3 r2 5 (wd_aq ha (Or.inr rfl)) rfl (wd_at hr (Nat.le_of_ble_eq_true rfl)) (cf_ok 5 (Nat.le_of_ble_eq_true rfl)).1 (vp_in_nI hi ha.lt) hd (fun H1 locs1 hP hD hS1 => ?_)
  rw [nI_cl hi ha.lt] at hP
  rw [pool_set (I' := I) (Q' := up2 Q id i (some r2)) ha.2.2 (by rw [cel_q ha.1 (Or.inr rfl), ha.2.1]; rw [up2_vup]) (fun b hb => cel_cong rfl (up2_row hb))] at hP
  exact kk _ _ _ _ _ _ _ _ _ _ _ _ _ _ _ _ _ C ⟨hW.1, hP⟩ hS1 hl h1 h2 fin
end
section
/-! ends, contracts, calls -/
theorem x_size {p : Program} {l : Launch} {e : Env} {R : Room} {s : State} {m : MethodId} {args : Array Value} {below : List Frame} {meth : Method} {c : Code} {T : State} {locs : List Loc} {cells slots : Nat} {r : Ev} {n : Nat} {I : MI} {Q : MQ2} {H : Heap} (X0 : Stand p l e R s m args below meth c T locs cells slots) (hT : T.heap = H) (hz : s.heap.size + cells = evz r + n) (hle : evz r ≤ s.heap.size) (hW : WD r n I Q s H) (hS : va_S (fun q : Nat => evz r ≤ q) s.heap H locs) : H.size = evz r + n := by
  have h1 : T.heap.size ≤ s.heap.size + cells := X0.same.2.2.1
  rw [hT] at h1
  have h2 : evz r + n ≤ H.size := by
    cases n with
    | zero => exact Nat.le_trans hle hS.1
    | succ k => exact (hW.2 k _ (pool_get (Nat.lt_succ_self k))).lt
  omega
theorem x_iret {r : Ev} {d : Nat} {y : MethodName} {cc : ByteArray} {mr : Nat × Option FieldType} {k9 : Nat} {pc q : Nat} {lv : List (Option Value)} {st : List Value} {n : Nat} {I : MI} {Q : MQ2} {F : Post} {x : Int32} {ty : FieldType} (hd : DR cc pc .ireturn 1 q) (hr : mr.2 = some ty) (hn : narrow ty (.int x) = .int x) (h : F (some (.int x)) I Q) : X r d y cc mr (0, k9) pc lv [.int x] n I Q F := by
  intro p e s m args below meth c H locs cells slots mc ms R ls Qf C hW hS hl h1 h2 fin
  exact W.widen (Nat.le_of_eq h1.2) (by omega) (fin pc ls _ H locs _ I Q (Or.inl ⟨hd.1, x, ty, rfl, rfl, hr, hn⟩) h hW hS)
theorem x_vret {r : Ev} {d : Nat} {y : MethodName} {cc : ByteArray} {mr : Nat × Option FieldType} {k9 : Nat} {pc q : Nat} {lv : List (Option Value)} {st : List Value} {n : Nat} {I : MI} {Q : MQ2} {F : Post}  (hd : DR cc pc .return_ 1 q) (hr : mr.2 = none) (h : F (none) I Q) : X r d y cc mr (0, k9) pc lv [] n I Q F := by
  intro p e s m args below meth c H locs cells slots mc ms R ls Qf C hW hS hl h1 h2 fin
  exact W.widen (Nat.le_of_eq h1.2) (by omega) (fin pc ls _ H locs _ I Q (Or.inr (Or.inl ⟨hd.1, rfl, rfl, hr⟩)) h hW hS)
theorem x_aret {r : Ev} {d : Nat} {y : MethodName} {cc : ByteArray} {mr : Nat × Option FieldType} {k9 : Nat} {pc q : Nat} {lv : List (Option Value)} {st : List Value} {n : Nat} {I : MI} {Q : MQ2} {F : Post} {a : Nat} {rt : FieldType} (hd : DR cc pc .areturn 1 q) (hr : mr.2 = some rt) (hn : ∃ nm, rt = .object nm) (h : F (some (.ref a)) I Q) : X r d y cc mr (0, k9) pc lv [.ref a] n I Q F := by
  intro p e s m args below meth c H locs cells slots mc ms R ls Qf C hW hS hl h1 h2 fin
  exact W.widen (Nat.le_of_eq h1.2) (by omega) (fin pc ls _ H locs _ I Q (Or.inr (Or.inr ⟨hd.1, a, rt, rfl, rfl, hr, hn⟩)) h hW hS)
theorem x_mono {r : Ev} {d : Nat} {y : MethodName} {cc : ByteArray} {mr : Nat × Option FieldType} {b : Nat × Nat} {pc : Nat} {lv : List (Option Value)} {st : List Value} {n : Nat} {I : MI} {Q : MQ2} {F G : Post} (h : X r d y cc mr b pc lv st n I Q F) (hm : ∀ v I' Q', F v I' Q' → G v I' Q') : X r d y cc mr b pc lv st n I Q G :=
  fun p e s m args below meth c H locs cells slots mc ms R ls Qf C hW hS hl h1 h2 fin => h p e s m args below meth c H locs cells slots mc ms R ls Qf C hW hS hl h1 h2 (fun pc' ls' st' H' locs' v I' Q' hr hF => fin pc' ls' st' H' locs' v I' Q' hr (hm v I' Q' hF))
theorem lvs_entry (As : List Value) (mL : Nat) (hc : ∀ v ∈ As, v.category = 1) (hl : As.length ≤ mL) : LVS (lg_sl As ++ List.replicate (mL - (lg_sl As).length) Slot.unset).toArray mL (As.map some ++ List.replicate (mL - As.length) none) := by
  have hsl : lg_sl As = As.map Slot.val := by
    unfold lg_sl
    induction As with
    | nil => rfl
    | cons a t ih =>
      have h1 : a.category = 1 := hc a List.mem_cons_self
      rw [List.flatMap_cons, if_neg (by omega), ih (fun v hv => hc v (List.mem_cons_of_mem _ hv)) (by simp at hl; omega)]
      rfl
  have hlen : (lg_sl As).length ≤ mL := by rw [hsl, List.length_map]; exact hl
  have h := lv_entry As hlen
  refine ⟨h.1, h.2.1, fun i v hv => ?_⟩
  have hi : i < As.length := by
    by_cases hi : i < As.length
    · exact hi
    · rw [List.getElem?_append_right (by rw [List.length_map]; omega)] at hv
      exact absurd (List.eq_of_mem_replicate (List.mem_of_getElem? hv)) (by simp)
  rw [List.getElem?_append_left (by rw [List.length_map]; exact hi), List.getElem?_map, List.getElem?_eq_getElem hi] at hv
  have hv2 : As[i] = v := by simpa using hv
  rw [List.getElem?_toArray, hsl, List.getElem?_append_left (by rw [List.length_map]; exact hi), List.getElem?_map, List.getElem?_eq_getElem hi, hv2]
  rfl
/-- a walk from a method's first place gives its contract -/
theorem ct_of {r : Ev} {d : Nat} {y : MethodName} {cc : ByteArray} {mr : Nat × Option FieldType} {b : Nat × Nat} {As : List Value} {lv : List (Option Value)} {n : Nat} {I : MI} {Q : MQ2} {F : Post} (hy : plainName y.cls = true) (hc : As.all (fun v => v.category == 1) = true) (hl : Nat.ble As.length mr.1 = true) (hlv : As.map some ++ List.replicate (mr.1 - As.length) none = lv) (h : X r d y cc mr b 0 lv [] n I Q F) : CT r d y cc mr b As n I Q F := by
  refine Met.ofW (cc := cc) (maxL := mr.1) (ret := mr.2) hy rfl ?_
  intro p e s m args below meth c s₁ B hml hv
  obtain ⟨rfl, hsz, hWD, hZS⟩ := hv
  have hts := atoms_spec (ws := .code y cc mr.1 mr.2 :: wT) B.pre
  have hown : s.vm.findClass y.cls = some m.cls := findClass_of_methodNamed B.named
  have hr := B.returns
  rw [lg_entry_eq]
  refine h p e s m As.toArray below meth c s.heap [] 0 0 b.1 b.2 _ _ _ ⟨B.exec, B.bytes, hml, hown, fun w hw => hts w (List.mem_cons_of_mem _ hw), fun hn => (name_of_methodNamed B.named B.method).1.trans hn, by omega, Nat.le_refl d, Nat.le_refl _, Nat.le_refl _, Nat.le_refl _, hZS⟩ hWD va_S.rf (by rw [← hlv]; exact lvs_entry As mr.1 (fun v hv => by have := List.all_eq_true.mp hc v hv; simpa using this) (Nat.le_of_ble_eq_true hl)) ⟨by omega, by omega⟩ (by omega) ?_
  intro pc' ls' st' H' locs' v I' Q' hR hF hW hS
  rcases hR with ⟨hd, x, ty, rfl, rfl, hret, hn⟩ | ⟨hd, rfl, rfl, hret⟩ | ⟨hd, a, rt, rfl, rfl, hret, hn⟩
  · exact W.zret (v := x) B.exec B.bytes (hr.trans hret) hn (fun t ht hWm => ⟨⟨_, I', Q', rfl, hF, va_K.moved hWm.alike hW.1, by rw [ht]; exact hW.2⟩, hS.F ht⟩) hS.2.2 hd B.notSynchronized
  · exact W.vret B.exec B.bytes (hr.trans hret) (fun t ht hWm => ⟨⟨_, I', Q', rfl, hF, va_K.moved hWm.alike hW.1, by rw [ht]; exact hW.2⟩, hS.F ht⟩) hS.2.2 hd B.notSynchronized
  · exact W.aret B.exec B.bytes (hr.trans hret) (Or.inl hn) (Or.inr ⟨a, rfl⟩) (fun t ht hWm => ⟨⟨_, I', Q', rfl, hF, va_K.moved hWm.alike hW.1, by rw [ht]; exact hW.2⟩, hS.F ht⟩) hS.2.2 hd B.notSynchronized
/-- behind a call -/
theorem x_after {r : Ev} {d : Nat} {y : MethodName} {cc : ByteArray} {mr : Nat × Option FieldType} {b b' b2 : Nat × Nat} {pc : Nat} {lv : List (Option Value)} {st st0 : List Value} {n : Nat} {F F' : Post} {p : Program} {e : Env} {s : State} {m : MethodId} {args : Array Value} {below : List Frame} {meth : Method} {c : Code} {H : Heap} {locs : List Loc} {cells slots mc ms : Nat} {R : Room} {ls : Array Slot} {Qf : State → Prop}
    (C : XC r d y cc mr p s m args meth c R mc ms) (hS : va_S (fun q : Nat => evz r ≤ q) s.heap H locs) (hl : LVS ls mr.1 lv) (h1 : s.heap.size + cells = evz r + n ∧ cells + b.1 = mc) (h2 : slots + b.2 ≤ ms) (hb : b'.1 + b2.1 = b.1 ∧ b'.2 + b2.2 ≤ b.2)
    (hrun : va_Run p (evl r) e R s m args below meth c H locs cells slots b'.1 b'.2 (F0 m pc ls st0) st (fun st oc t => (∃ (v : Option Value) (I' : MI) (Q' : MQ2), oc = .returned v ∧ F' v I' Q' ∧ WD r (n + b'.1) I' Q' t t.heap) ∧ va_F (fun q : Nat => evz r ≤ q) st t) (fun q : Nat => evz r ≤ q))
    (k : ∀ (v : Option Value) (I' : MI) (Q' : MQ2), F' v I' Q' → X r d y cc mr b2 (pc + 3) lv (v.toList ++ st) (n + b'.1) I' Q' F)
    (fin : ∀ (pc' : Nat) (ls' : Array Slot) (st' : List Value) (H' : Heap) (locs' : List Loc) (v : Option Value) (I' : MI) (Q' : MQ2), RETS cc mr.2 pc' st' v → F v I' Q' → WD r (n + b.1) I' Q' s H' → va_S (fun q : Nat => evz r ≤ q) s.heap H' locs' → W p (evl r) e R s m args below meth c H' locs' mc ms Qf (F0 m pc' ls' st')) :
    W p (evl r) e R s m args below meth c H locs cells slots Qf (F0 m pc ls st0) := by
  intro T hT X0
  obtain ⟨v, st₀, t, T', L, h0, X', hL, e1, e2, ⟨⟨v', I', Q', hv, hF, hWD⟩, hz, hk⟩, stp⟩ := hrun T hT X0
  cases hv
  rw [h0] at hz hk
  have hWs : WD r (n + b'.1) I' Q' s T'.heap := ⟨va_K.moved (by rw [← e2]; exact X'.warmed.alike.symm) hWD.1, by rw [e1]; exact hWD.2⟩
  have hS' : va_S (fun q : Nat => evz r ≤ q) s.heap T'.heap (locs ++ L) := ⟨Nat.le_trans hS.1 (by rw [e1]; exact hz), fun q g1 g2 => by rw [e1, hk q (Nat.lt_of_lt_of_le g1 hS.1) g2]; exact hS.2.1 q g1 g2, fun q hq => by
      rcases List.mem_append.mp hq with h | h
      · exact hS.2.2 q h
      · exact hL q h⟩
  have hn : n + b'.1 + b2.1 = n + b.1 := by omega
  obtain ⟨t2, a1, b1⟩ := k v I' Q' hF p e s m args below meth c T'.heap (locs ++ L) (cells + b'.1) (slots + b'.2) mc ms R ls Qf C hWs hS' hl ⟨by omega, by omega⟩ (by omega) (by rw [hn]; exact fin) T' rfl X'
  exact ⟨t2, stp t2 a1, b1⟩
/-! what the tables say of a method that is called -/
def MFB (y : MethodName) (cc : ByteArray) (mr : Nat × Option FieldType) (k : Nat) : Prop := Cond.initialized y.cls ∈ wT ∧ Cond.code y cc mr.1 mr.2 ∈ wT ∧ (y.cls ≠ "java/lang/invoke/MethodHandle" ∧ y.cls ≠ "java/lang/invoke/VarHandle" ∧ (parseMethodDescriptor y.desc).map (fun d => d.parameters.length) = some k) ∧ mr.1 ≤ 21
def MLk (own : String) (idx : Nat) (y : MethodName) : Prop := Cond.methodLink own idx y ∈ wT
def MLn (own : String) (idx : Nat) (y : MethodName) : Prop := Cond.methodLinkNest own idx y "DewLooms" ∈ wN
def MFV (own : String) (idx : Nat) (y : MethodName) (cc : ByteArray) (mr : Nat × Option FieldType) (k : Nat) : Prop := MFB y cc mr k ∧ MLk own idx y ∧ Cond.instanceMethod y ∈ wT ∧ Cond.selects y.cls y y ∈ wT
def MFS (own : String) (idx : Nat) (y : MethodName) (cc : ByteArray) (mr : Nat × Option FieldType) (k : Nat) : Prop := MFB y cc mr k ∧ (MLk own idx y ∨ MLn own idx y) ∧ Cond.static y ∈ wT
def MFI (own : String) (idx : Nat) (y : MethodName) (cc : ByteArray) (mr : Nat × Option FieldType) (k : Nat) : Prop := MFB y cc mr k ∧ (MLk own idx y ∨ MLn own idx y) ∧ Cond.instanceMethod y ∈ wT ∧ y.name = "<init>"
theorem x_callB {r : Ev} {d d' : Nat} {y y' : MethodName} {cc cc' : ByteArray} {mr mr' : Nat × Option FieldType} {b' : Nat × Nat} {p : Program} {s : State} {m : MethodId} {args : Array Value} {meth : Method} {c : Code} {R : Room} {mc ms idx k : Nat} (C : XC r d y cc mr p s m args meth c R mc ms) (f : MFB y' cc' mr' k) (fl : MLk y.cls idx y') (hd : d' + 1 ≤ d) : CallB R s args y.cls idx y' cc' mr'.1 mr'.2 (.code y' cc' mr'.1 mr'.2 :: wT) ({ frames := d', cells := b'.1, slots := b'.2, locals := 40 * d' } : Room) b'.1 b'.2 k := by
  obtain ⟨f2, f3, f4, f5⟩ := f
  have hts := C.2.2.2.2.1
  have hR1 := C.2.2.2.2.2.2.2.1
  have hR2 := C.2.2.2.2.2.2.2.2.1
  exact callB_of (ws' := wT) k hts (wT_good (fun w hw => (List.mem_cons.mp hw).elim (fun e => by rw [e]; exact f3) id)) rfl rfl rfl (hts _ f2) (hts _ fl) f4 ⟨by show d' + 1 ≤ R.frames; omega, by show 8 + (mr'.1 + 11) + 40 * d' ≤ R.locals; omega⟩
theorem x_callN {r : Ev} {d d' : Nat} {y y' : MethodName} {cc cc' : ByteArray} {mr mr' : Nat × Option FieldType} {b' : Nat × Nat} {p : Program} {s : State} {m : MethodId} {args : Array Value} {meth : Method} {c : Code} {R : Room} {mc ms idx k : Nat} (C : XC r d y cc mr p s m args meth c R mc ms) (f : MFB y' cc' mr' k) (fl : MLn y.cls idx y') (hd : d' + 1 ≤ d) : va_CN R s args y.cls idx y' "DewLooms" cc' mr'.1 mr'.2 (.code y' cc' mr'.1 mr'.2 :: wT) ({ frames := d', cells := b'.1, slots := b'.2, locals := 40 * d' } : Room) b'.1 b'.2 k := by
  obtain ⟨f2, f3, f4, f5⟩ := f
  have hts := C.2.2.2.2.1
  have hR1 := C.2.2.2.2.2.2.2.1
  have hR2 := C.2.2.2.2.2.2.2.2.1
  exact va_cnB (ws' := wT) k hts (wT_good (fun w hw => (List.mem_cons.mp hw).elim (fun e => by rw [e]; exact f3) id)) rfl rfl rfl (C.2.2.2.2.2.2.2.2.2.2.2.1 _ fl) (hts _ f2) f4 ⟨by show d' + 1 ≤ R.frames; omega, by show 8 + (mr'.1 + 11) + 40 * d' ≤ R.locals; omega⟩
theorem x_pre {r : Ev} {n : Nat} {I : MI} {Q : MQ2} {As : List Value} : FrameBlind (va_Pc As (fun U => U.heap.size = evz r + n ∧ WD r n I Q U U.heap ∧ ZS r U U.heap)) := by
  intro a U g mk q
  obtain ⟨q0, q1, q2, z0, z9, adK, adV, z1, z2, z3, z4⟩ := q
  exact ⟨q0, q1, ⟨va_K.moved (u := U) (U := U.calling g mk a) (Vm.Alike.refl U.vm) q2.1, q2.2⟩, fun w hw => va_Nw.same (nest_tab (List.mem_filter.mp hw).2) (u := U) rfl (z0 w hw), ⟨z9.1.moved (u := U) (U := U.calling g mk a) (Vm.Alike.refl U.vm), z9.2.moved (u := U) (U := U.calling g mk a) (Vm.Alike.refl U.vm)⟩, adK, adV, z1.moved (u := U) (U := U.calling g mk a) (Vm.Alike.refl U.vm), vk_R.same (u := U) rfl z2, z3.moved (u := U) (U := U.calling g mk a) (Vm.Alike.refl U.vm), z4.moved (u := U) (U := U.calling g mk a) (Vm.Alike.refl U.vm)⟩

theorem x_callV {r : Ev} {d : Nat} {y : MethodName} {cc : ByteArray} {mr : Nat × Option FieldType} {b : Nat × Nat} {pc q : Nat} {lv : List (Option Value)} {st : List Value} {n : Nat} {I : MI} {Q : MQ2} {F : Post} {d' : Nat} {y' : MethodName} {cc' : ByteArray} {mr' : Nat × Option FieldType} {b' b2 : Nat × Nat} {idx k0 : Nat} {F' : Post} {As : List Value} {ci id : Nat} (hd : DR cc pc (.invokevirtual idx) 3 q) (f : MFV y.cls idx y' cc' mr' k0) (ho : Ob n ci id) (hci : ci < 10) (hcl : clC ci = y'.cls) (hc : CT r d' y' cc' mr' b' (.ref (evz r + id) :: As) n I Q F') (hdd : Nat.ble (d' + 1) d = true) (hlen : As.length = k0) (hst : Nat.ble (st.map (fun v => v.category)).sum 8 = true) (hb : b'.1 + b2.1 = b.1 ∧ b'.2 + b2.2 ≤ b.2) (k : ∀ (v : Option Value) (I' : MI) (Q' : MQ2), F' v I' Q' → X r d y cc mr b2 q lv (v.toList ++ st) (n + b'.1) I' Q' F) : X r d y cc mr b pc lv (As.reverse ++ .ref (evz r + id) :: st) n I Q F := by
  intro p e s m args below meth c H locs cells slots mc ms R ls Qf C hW hS hl h1 h2 fin
  obtain ⟨hd, rfl⟩ := hd
  intro T hT X0
  have hsz := x_size X0 hT h1.1 C.2.2.2.2.2.2.1 hW hS
  have hf : cells + b'.1 ≤ R.cells ∧ slots + b'.2 ≤ R.slots := by have := C.2.2.2.2.2.2.2.2.2.1; have := C.2.2.2.2.2.2.2.2.2.2.1; omega
  have fl := f.2.1
  · have hcb := x_callB (b' := b') C f.1 fl (Nat.le_of_ble_eq_true hdd)
    refine x_after C hS hl h1 h2 hb (va_runV (As := As) (rest := st) ⟨C.1, C.2.1, C.2.2.1, C.2.2.2.1, C.2.2.2.2.1⟩ hc ⟨hcb, C.2.2.2.2.1 _ f.2.2.1, C.2.2.2.2.1 _ f.2.2.2⟩ ⟨x_pre, (by rw [← hcl]; exact va_recv (q := (clC ci, clT ci, nf ci)) hW.1 hW.2 (ci := ci) (q0 := id) (cf_ok ci hci).1 (wd_at ho hci)), fun U hU hWm => ⟨rfl, by rw [hU]; exact hsz, ⟨va_K.moved hWm.alike hW.1, by rw [hU]; exact hW.2⟩, by rw [hU]; exact C.2.2.2.2.2.2.2.2.2.2.2.goes hS hWm⟩⟩ rfl hlen hl.1 rfl (by show 2 * 0 + _ ≤ 8; have := Nat.le_of_ble_eq_true hst; omega) hd hf) k fin T hT X0
theorem x_callS {r : Ev} {d : Nat} {y : MethodName} {cc : ByteArray} {mr : Nat × Option FieldType} {b : Nat × Nat} {pc q : Nat} {lv : List (Option Value)} {st : List Value} {n : Nat} {I : MI} {Q : MQ2} {F : Post} {d' : Nat} {y' : MethodName} {cc' : ByteArray} {mr' : Nat × Option FieldType} {b' b2 : Nat × Nat} {idx k0 : Nat} {F' : Post} {As : List Value} (hd : DR cc pc (.invokestatic idx) 3 q) (f : MFS y.cls idx y' cc' mr' k0)  (hc : CT r d' y' cc' mr' b' As n I Q F') (hdd : Nat.ble (d' + 1) d = true) (hlen : As.length = k0) (hst : Nat.ble (st.map (fun v => v.category)).sum 8 = true) (hb : b'.1 + b2.1 = b.1 ∧ b'.2 + b2.2 ≤ b.2) (k : ∀ (v : Option Value) (I' : MI) (Q' : MQ2), F' v I' Q' → X r d y cc mr b2 q lv (v.toList ++ st) (n + b'.1) I' Q' F) : X r d y cc mr b pc lv (As.reverse ++ st) n I Q F := by
  intro p e s m args below meth c H locs cells slots mc ms R ls Qf C hW hS hl h1 h2 fin
  obtain ⟨hd, rfl⟩ := hd
  intro T hT X0
  have hsz := x_size X0 hT h1.1 C.2.2.2.2.2.2.1 hW hS
  have hf : cells + b'.1 ≤ R.cells ∧ slots + b'.2 ≤ R.slots := by have := C.2.2.2.2.2.2.2.2.2.1; have := C.2.2.2.2.2.2.2.2.2.2.1; omega
  rcases f.2.1 with fl | fl
  · have hcb := x_callB (b' := b') C f.1 fl (Nat.le_of_ble_eq_true hdd)
    refine x_after C hS hl h1 h2 hb (va_runS (As := As) (rest := st) ⟨C.1, C.2.1, C.2.2.1, C.2.2.2.1, C.2.2.2.2.1⟩ hc ⟨hcb, C.2.2.2.2.1 _ f.2.2⟩ ⟨x_pre, fun U hU hWm => ⟨rfl, by rw [hU]; exact hsz, ⟨va_K.moved hWm.alike hW.1, by rw [hU]; exact hW.2⟩, by rw [hU]; exact C.2.2.2.2.2.2.2.2.2.2.2.goes hS hWm⟩⟩ rfl hlen hl.1 rfl (by show 2 * 0 + _ ≤ 8; have := Nat.le_of_ble_eq_true hst; omega) hd hf) k fin T hT X0
  · have hcb := x_callN (b' := b') C f.1 fl (Nat.le_of_ble_eq_true hdd)
    refine x_after C hS hl h1 h2 hb (va_runSN (As := As) (rest := st) ⟨C.1, C.2.1, C.2.2.1, C.2.2.2.1, C.2.2.2.2.1⟩ hc ⟨hcb, C.2.2.2.2.1 _ f.2.2, trivial⟩ ⟨x_pre, fun U hU hWm => ⟨rfl, by rw [hU]; exact hsz, ⟨va_K.moved hWm.alike hW.1, by rw [hU]; exact hW.2⟩, by rw [hU]; exact C.2.2.2.2.2.2.2.2.2.2.2.goes hS hWm⟩⟩ rfl hlen hl.1 rfl (by show 2 * 0 + _ ≤ 8; have := Nat.le_of_ble_eq_true hst; omega) hd hf) k fin T hT X0
theorem x_callI {r : Ev} {d : Nat} {y : MethodName} {cc : ByteArray} {mr : Nat × Option FieldType} {b : Nat × Nat} {pc q : Nat} {lv : List (Option Value)} {st : List Value} {n : Nat} {I : MI} {Q : MQ2} {F : Post} {d' : Nat} {y' : MethodName} {cc' : ByteArray} {b' b2 : Nat × Nat} {idx k0 : Nat} {F' : Post} {As : List Value} {a mL9 : Nat} (hd : DR cc pc (.invokespecial idx) 3 q) (f : MFI y.cls idx y' cc' (mL9, none) k0)  (hc : CT r d' y' cc' (mL9, none) b' (.ref a :: As) n I Q F') (hdd : Nat.ble (d' + 1) d = true) (hlen : As.length = k0) (hst : Nat.ble (st.map (fun v => v.category)).sum 8 = true) (hb : b'.1 + b2.1 = b.1 ∧ b'.2 + b2.2 ≤ b.2) (k : ∀ (v : Option Value) (I' : MI) (Q' : MQ2), F' v I' Q' → X r d y cc mr b2 q lv (v.toList ++ st) (n + b'.1) I' Q' F) : X r d y cc mr b pc lv (As.reverse ++ .ref a :: st) n I Q F := by
  intro p e s m args below meth c H locs cells slots mc ms R ls Qf C hW hS hl h1 h2 fin
  obtain ⟨hd, rfl⟩ := hd
  intro T hT X0
  have hsz := x_size X0 hT h1.1 C.2.2.2.2.2.2.1 hW hS
  have hf : cells + b'.1 ≤ R.cells ∧ slots + b'.2 ≤ R.slots := by have := C.2.2.2.2.2.2.2.2.2.1; have := C.2.2.2.2.2.2.2.2.2.2.1; omega
  rcases f.2.1 with fl | fl
  · have hcb := x_callB (b' := b') C f.1 fl (Nat.le_of_ble_eq_true hdd)
    refine x_after C hS hl h1 h2 hb (va_runI (As := As) (rest := st) ⟨C.1, C.2.1, C.2.2.1, C.2.2.2.1, C.2.2.2.2.1⟩ hc ⟨hcb, f.2.2.2, C.2.2.2.2.1 _ f.2.2.1⟩ ⟨x_pre, fun U hU hWm => ⟨rfl, by rw [hU]; exact hsz, ⟨va_K.moved hWm.alike hW.1, by rw [hU]; exact hW.2⟩, by rw [hU]; exact C.2.2.2.2.2.2.2.2.2.2.2.goes hS hWm⟩⟩ rfl hlen hl.1 rfl (by show 2 * 0 + _ ≤ 8; have := Nat.le_of_ble_eq_true hst; omega) hd hf) k fin T hT X0
  · have hcb := x_callN (b' := b') C f.1 fl (Nat.le_of_ble_eq_true hdd)
    refine x_after C hS hl h1 h2 hb (va_runIN (As := As) (rest := st) ⟨C.1, C.2.1, C.2.2.1, C.2.2.2.1, C.2.2.2.2.1⟩ hc ⟨hcb, f.2.2.2, C.2.2.2.2.1 _ f.2.2.1⟩ ⟨x_pre, fun U hU hWm => ⟨rfl, by rw [hU]; exact hsz, ⟨va_K.moved hWm.alike hW.1, by rw [hU]; exact hW.2⟩, by rw [hU]; exact C.2.2.2.2.2.2.2.2.2.2.2.goes hS hWm⟩⟩ rfl hlen hl.1 rfl (by show 2 * 0 + _ ≤ 8; have := Nat.le_of_ble_eq_true hst; omega) hd hf) k fin T hT X0
end
section
/-! answers: ri an int, rv nothing, ro an object; the references stay -/
def ri (Q : MQ2) (G : Int32 → MI → Prop) : Post := fun v I' Q' => ∃ x : Int32, v = some (.int x) ∧ Q' = Q ∧ G x I'
def rv (Q : MQ2) (G : MI → Prop) : Post := fun v I' Q' => v = none ∧ Q' = Q ∧ G I'
def ro (r : Ev) (I : MI) (Q : MQ2) (id : Nat) : Post := fun v I' Q' => v = some (.ref (evz r + id)) ∧ Q' = Q ∧ I' = I
def RI (G : Int32 → MI → MQ2 → Prop) : Post := fun v I' Q' => ∃ x : Int32, v = some (.int x) ∧ G x I' Q'
def RV (G : MI → MQ2 → Prop) : Post := fun v I' Q' => v = none ∧ G I' Q'
def Fits8 (st : List Value) : Prop := Nat.ble (st.map (fun v => v.category)).sum 8 = true
theorem x_V0i {r : Ev} {d : Nat} {y : MethodName} {cc : ByteArray} {mr : Nat × Option FieldType} {b : Nat × Nat} {pc q : Nat} {lv : List (Option Value)} {st : List Value} {n : Nat} {I : MI} {Q : MQ2} {F : Post} {d' : Nat} {y' : MethodName} {cc' : ByteArray} {mr' : Nat × Option FieldType} {idx : Nat} {ci id : Nat} {G : Int32 → MI → Prop} (hd : DR cc pc (.invokevirtual idx) 3 q) (f : MFV y.cls idx y' cc' mr' 0) (hc : CT r d' y' cc' mr' (0, 0) [.ref (evz r + id)] n I Q (ri Q G)) (ho : Ob n ci id) (k : ∀ (x : Int32) (I' : MI), G x I' → X r d y cc mr b q lv (.int x :: st) n I' Q F) (hci : Nat.ble (ci + 1) 10 = true := by rfl) (hcl : clC ci = y'.cls := by rfl) (hdd : Nat.ble (d' + 1) d = true := by rfl) (hst : Fits8 st := by rfl) : X r d y cc mr b pc lv (.ref (evz r + id) :: st) n I Q F :=
  x_callV (As := []) (b2 := b) hd f ho (Nat.le_of_ble_eq_true hci) hcl hc hdd rfl hst ⟨Nat.zero_add _, Nat.le_of_eq (Nat.zero_add _)⟩ (fun v I' Q' h => by obtain ⟨x, rfl, rfl, h⟩ := h; exact k x I' h)
theorem x_S0i {r : Ev} {d : Nat} {y : MethodName} {cc : ByteArray} {mr : Nat × Option FieldType} {b : Nat × Nat} {pc q : Nat} {lv : List (Option Value)} {st : List Value} {n : Nat} {I : MI} {Q : MQ2} {F : Post} {d' : Nat} {y' : MethodName} {cc' : ByteArray} {mr' : Nat × Option FieldType} {idx : Nat} {G : Int32 → MI → Prop} (hd : DR cc pc (.invokestatic idx) 3 q) (f : MFS y.cls idx y' cc' mr' 0) (hc : CT r d' y' cc' mr' (0, 0) [] n I Q (ri Q G)) (k : ∀ (x : Int32) (I' : MI), G x I' → X r d y cc mr b q lv (.int x :: st) n I' Q F) (hdd : Nat.ble (d' + 1) d = true := by rfl) (hst : Fits8 st := by rfl) : X r d y cc mr b pc lv (st) n I Q F :=
  x_callS (As := []) (b2 := b) hd f hc hdd rfl hst ⟨Nat.zero_add _, Nat.le_of_eq (Nat.zero_add _)⟩ (fun v I' Q' h => by obtain ⟨x, rfl, rfl, h⟩ := h; exact k x I' h)
theorem x_V1i {r : Ev} {d : Nat} {y : MethodName} {cc : ByteArray} {mr : Nat × Option FieldType} {b : Nat × Nat} {pc q : Nat} {lv : List (Option Value)} {st : List Value} {n : Nat} {I : MI} {Q : MQ2} {F : Post} {d' : Nat} {y' : MethodName} {cc' : ByteArray} {mr' : Nat × Option FieldType} {idx : Nat} {v1 : Value} {ci id : Nat} {G : Int32 → MI → Prop} (hd : DR cc pc (.invokevirtual idx) 3 q) (f : MFV y.cls idx y' cc' mr' 1) (hc : CT r d' y' cc' mr' (0, 0) [.ref (evz r + id), v1] n I Q (ri Q G)) (ho : Ob n ci id) (k : ∀ (x : Int32) (I' : MI), G x I' → X r d y cc mr b q lv (.int x :: st) n I' Q F) (hci : Nat.ble (ci + 1) 10 = true := by rfl) (hcl : clC ci = y'.cls := by rfl) (hdd : Nat.ble (d' + 1) d = true := by rfl) (hst : Fits8 st := by rfl) : X r d y cc mr b pc lv (v1 :: .ref (evz r + id) :: st) n I Q F :=
  x_callV (As := [v1]) (b2 := b) hd f ho (Nat.le_of_ble_eq_true hci) hcl hc hdd rfl hst ⟨Nat.zero_add _, Nat.le_of_eq (Nat.zero_add _)⟩ (fun v I' Q' h => by obtain ⟨x, rfl, rfl, h⟩ := h; exact k x I' h)
theorem x_S1i {r : Ev} {d : Nat} {y : MethodName} {cc : ByteArray} {mr : Nat × Option FieldType} {b : Nat × Nat} {pc q : Nat} {lv : List (Option Value)} {st : List Value} {n : Nat} {I : MI} {Q : MQ2} {F : Post} {d' : Nat} {y' : MethodName} {cc' : ByteArray} {mr' : Nat × Option FieldType} {idx : Nat} {v1 : Value} {G : Int32 → MI → Prop} (hd : DR cc pc (.invokestatic idx) 3 q) (f : MFS y.cls idx y' cc' mr' 1) (hc : CT r d' y' cc' mr' (0, 0) [v1] n I Q (ri Q G)) (k : ∀ (x : Int32) (I' : MI), G x I' → X r d y cc mr b q lv (.int x :: st) n I' Q F) (hdd : Nat.ble (d' + 1) d = true := by rfl) (hst : Fits8 st := by rfl) : X r d y cc mr b pc lv (v1 :: st) n I Q F :=
  x_callS (As := [v1]) (b2 := b) hd f hc hdd rfl hst ⟨Nat.zero_add _, Nat.le_of_eq (Nat.zero_add _)⟩ (fun v I' Q' h => by obtain ⟨x, rfl, rfl, h⟩ := h; exact k x I' h)
theorem x_V2i {r : Ev} {d : Nat} {y : MethodName} {cc : ByteArray} {mr : Nat × Option FieldType} {b : Nat × Nat} {pc q : Nat} {lv : List (Option Value)} {st : List Value} {n : Nat} {I : MI} {Q : MQ2} {F : Post} {d' : Nat} {y' : MethodName} {cc' : ByteArray} {mr' : Nat × Option FieldType} {idx : Nat} {v1 v2 : Value} {ci id : Nat} {G : Int32 → MI → Prop} (hd : DR cc pc (.invokevirtual idx) 3 q) (f : MFV y.cls idx y' cc' mr' 2) (hc : CT r d' y' cc' mr' (0, 0) [.ref (evz r + id), v1, v2] n I Q (ri Q G)) (ho : Ob n ci id) (k : ∀ (x : Int32) (I' : MI), G x I' → X r d y cc mr b q lv (.int x :: st) n I' Q F) (hci : Nat.ble (ci + 1) 10 = true := by rfl) (hcl : clC ci = y'.cls := by rfl) (hdd : Nat.ble (d' + 1) d = true := by rfl) (hst : Fits8 st := by rfl) : X r d y cc mr b pc lv (v2 :: v1 :: .ref (evz r + id) :: st) n I Q F :=
  x_callV (As := [v1, v2]) (b2 := b) hd f ho (Nat.le_of_ble_eq_true hci) hcl hc hdd rfl hst ⟨Nat.zero_add _, Nat.le_of_eq (Nat.zero_add _)⟩ (fun v I' Q' h => by obtain ⟨x, rfl, rfl, h⟩ := h; exact k x I' h)
theorem x_S2i {r : Ev} {d : Nat} {y : MethodName} {cc : ByteArray} {mr : Nat × Option FieldType} {b : Nat × Nat} {pc q : Nat} {lv : List (Option Value)} {st : List Value} {n : Nat} {I : MI} {Q : MQ2} {F : Post} {d' : Nat} {y' : MethodName} {cc' : ByteArray} {mr' : Nat × Option FieldType} {idx : Nat} {v1 v2 : Value} {G : Int32 → MI → Prop} (hd : DR cc pc (.invokestatic idx) 3 q) (f : MFS y.cls idx y' cc' mr' 2) (hc : CT r d' y' cc' mr' (0, 0) [v1, v2] n I Q (ri Q G)) (k : ∀ (x : Int32) (I' : MI), G x I' → X r d y cc mr b q lv (.int x :: st) n I' Q F) (hdd : Nat.ble (d' + 1) d = true := by rfl) (hst : Fits8 st := by rfl) : X r d y cc mr b pc lv (v2 :: v1 :: st) n I Q F :=
  x_callS (As := [v1, v2]) (b2 := b) hd f hc hdd rfl hst ⟨Nat.zero_add _, Nat.le_of_eq (Nat.zero_add _)⟩ (fun v I' Q' h => by obtain ⟨x, rfl, rfl, h⟩ := h; exact k x I' h)
theorem x_V3i {r : Ev} {d : Nat} {y : MethodName} {cc : ByteArray} {mr : Nat × Option FieldType} {b : Nat × Nat} {pc q : Nat} {lv : List (Option Value)} {st : List Value} {n : Nat} {I : MI} {Q : MQ2} {F : Post} {d' : Nat} {y' : MethodName} {cc' : ByteArray} {mr' : Nat × Option FieldType} {idx : Nat} {v1 v2 v3 : Value} {ci id : Nat} {G : Int32 → MI → Prop} (hd : DR cc pc (.invokevirtual idx) 3 q) (f : MFV y.cls idx y' cc' mr' 3) (hc : CT r d' y' cc' mr' (0, 0) [.ref (evz r + id), v1, v2, v3] n I Q (ri Q G)) (ho : Ob n ci id) (k : ∀ (x : Int32) (I' : MI), G x I' → X r d y cc mr b q lv (.int x :: st) n I' Q F) (hci : Nat.ble (ci + 1) 10 = true := by rfl) (hcl : clC ci = y'.cls := by rfl) (hdd : Nat.ble (d' + 1) d = true := by rfl) (hst : Fits8 st := by rfl) : X r d y cc mr b pc lv (v3 :: v2 :: v1 :: .ref (evz r + id) :: st) n I Q F :=
  x_callV (As := [v1, v2, v3]) (b2 := b) hd f ho (Nat.le_of_ble_eq_true hci) hcl hc hdd rfl hst ⟨Nat.zero_add _, Nat.le_of_eq (Nat.zero_add _)⟩ (fun v I' Q' h => by obtain ⟨x, rfl, rfl, h⟩ := h; exact k x I' h)
theorem x_S3i {r : Ev} {d : Nat} {y : MethodName} {cc : ByteArray} {mr : Nat × Option FieldType} {b : Nat × Nat} {pc q : Nat} {lv : List (Option Value)} {st : List Value} {n : Nat} {I : MI} {Q : MQ2} {F : Post} {d' : Nat} {y' : MethodName} {cc' : ByteArray} {mr' : Nat × Option FieldType} {idx : Nat} {v1 v2 v3 : Value} {G : Int32 → MI → Prop} (hd : DR cc pc (.invokestatic idx) 3 q) (f : MFS y.cls idx y' cc' mr' 3) (hc : CT r d' y' cc' mr' (0, 0) [v1, v2, v3] n I Q (ri Q G)) (k : ∀ (x : Int32) (I' : MI), G x I' → X r d y cc mr b q lv (.int x :: st) n I' Q F) (hdd : Nat.ble (d' + 1) d = true := by rfl) (hst : Fits8 st := by rfl) : X r d y cc mr b pc lv (v3 :: v2 :: v1 :: st) n I Q F :=
  x_callS (As := [v1, v2, v3]) (b2 := b) hd f hc hdd rfl hst ⟨Nat.zero_add _, Nat.le_of_eq (Nat.zero_add _)⟩ (fun v I' Q' h => by obtain ⟨x, rfl, rfl, h⟩ := h; exact k x I' h)
theorem x_V4i {r : Ev} {d : Nat} {y : MethodName} {cc : ByteArray} {mr : Nat × Option FieldType} {b : Nat × Nat} {pc q : Nat} {lv : List (Option Value)} {st : List Value} {n : Nat} {I : MI} {Q : MQ2} {F : Post} {d' : Nat} {y' : MethodName} {cc' : ByteArray} {mr' : Nat × Option FieldType} {idx : Nat} {v1 v2 v3 v4 : Value} {ci id : Nat} {G : Int32 → MI → Prop} (hd : DR cc pc (.invokevirtual idx) 3 q) (f : MFV y.cls idx y' cc' mr' 4) (hc : CT r d' y' cc' mr' (0, 0) [.ref (evz r + id), v1, v2, v3, v4] n I Q (ri Q G)) (ho : Ob n ci id) (k : ∀ (x : Int32) (I' : MI), G x I' → X r d y cc mr b q lv (.int x :: st) n I' Q F) (hci : Nat.ble (ci + 1) 10 = true := by rfl) (hcl : clC ci = y'.cls := by rfl) (hdd : Nat.ble (d' + 1) d = true := by rfl) (hst : Fits8 st := by rfl) : X r d y cc mr b pc lv (v4 :: v3 :: v2 :: v1 :: .ref (evz r + id) :: st) n I Q F :=
  x_callV (As := [v1, v2, v3, v4]) (b2 := b) hd f ho (Nat.le_of_ble_eq_true hci) hcl hc hdd rfl hst ⟨Nat.zero_add _, Nat.le_of_eq (Nat.zero_add _)⟩ (fun v I' Q' h => by obtain ⟨x, rfl, rfl, h⟩ := h; exact k x I' h)
theorem x_S4i {r : Ev} {d : Nat} {y : MethodName} {cc : ByteArray} {mr : Nat × Option FieldType} {b : Nat × Nat} {pc q : Nat} {lv : List (Option Value)} {st : List Value} {n : Nat} {I : MI} {Q : MQ2} {F : Post} {d' : Nat} {y' : MethodName} {cc' : ByteArray} {mr' : Nat × Option FieldType} {idx : Nat} {v1 v2 v3 v4 : Value} {G : Int32 → MI → Prop} (hd : DR cc pc (.invokestatic idx) 3 q) (f : MFS y.cls idx y' cc' mr' 4) (hc : CT r d' y' cc' mr' (0, 0) [v1, v2, v3, v4] n I Q (ri Q G)) (k : ∀ (x : Int32) (I' : MI), G x I' → X r d y cc mr b q lv (.int x :: st) n I' Q F) (hdd : Nat.ble (d' + 1) d = true := by rfl) (hst : Fits8 st := by rfl) : X r d y cc mr b pc lv (v4 :: v3 :: v2 :: v1 :: st) n I Q F :=
  x_callS (As := [v1, v2, v3, v4]) (b2 := b) hd f hc hdd rfl hst ⟨Nat.zero_add _, Nat.le_of_eq (Nat.zero_add _)⟩ (fun v I' Q' h => by obtain ⟨x, rfl, rfl, h⟩ := h; exact k x I' h)
theorem x_V0v {r : Ev} {d : Nat} {y : MethodName} {cc : ByteArray} {mr : Nat × Option FieldType} {b : Nat × Nat} {pc q : Nat} {lv : List (Option Value)} {st : List Value} {n : Nat} {I : MI} {Q : MQ2} {F : Post} {d' : Nat} {y' : MethodName} {cc' : ByteArray} {mr' : Nat × Option FieldType} {idx : Nat} {ci id : Nat} {G : MI → Prop} (hd : DR cc pc (.invokevirtual idx) 3 q) (f : MFV y.cls idx y' cc' mr' 0) (hc : CT r d' y' cc' mr' (0, 0) [.ref (evz r + id)] n I Q (rv Q G)) (ho : Ob n ci id) (k : ∀ (I' : MI), G I' → X r d y cc mr b q lv st n I' Q F) (hci : Nat.ble (ci + 1) 10 = true := by rfl) (hcl : clC ci = y'.cls := by rfl) (hdd : Nat.ble (d' + 1) d = true := by rfl) (hst : Fits8 st := by rfl) : X r d y cc mr b pc lv (.ref (evz r + id) :: st) n I Q F :=
  x_callV (As := []) (b2 := b) hd f ho (Nat.le_of_ble_eq_true hci) hcl hc hdd rfl hst ⟨Nat.zero_add _, Nat.le_of_eq (Nat.zero_add _)⟩ (fun v I' Q' h => by obtain ⟨rfl, rfl, h⟩ := h; exact k I' h)
theorem x_S0v {r : Ev} {d : Nat} {y : MethodName} {cc : ByteArray} {mr : Nat × Option FieldType} {b : Nat × Nat} {pc q : Nat} {lv : List (Option Value)} {st : List Value} {n : Nat} {I : MI} {Q : MQ2} {F : Post} {d' : Nat} {y' : MethodName} {cc' : ByteArray} {mr' : Nat × Option FieldType} {idx : Nat} {G : MI → Prop} (hd : DR cc pc (.invokestatic idx) 3 q) (f : MFS y.cls idx y' cc' mr' 0) (hc : CT r d' y' cc' mr' (0, 0) [] n I Q (rv Q G)) (k : ∀ (I' : MI), G I' → X r d y cc mr b q lv st n I' Q F) (hdd : Nat.ble (d' + 1) d = true := by rfl) (hst : Fits8 st := by rfl) : X r d y cc mr b pc lv (st) n I Q F :=
  x_callS (As := []) (b2 := b) hd f hc hdd rfl hst ⟨Nat.zero_add _, Nat.le_of_eq (Nat.zero_add _)⟩ (fun v I' Q' h => by obtain ⟨rfl, rfl, h⟩ := h; exact k I' h)
theorem x_V1v {r : Ev} {d : Nat} {y : MethodName} {cc : ByteArray} {mr : Nat × Option FieldType} {b : Nat × Nat} {pc q : Nat} {lv : List (Option Value)} {st : List Value} {n : Nat} {I : MI} {Q : MQ2} {F : Post} {d' : Nat} {y' : MethodName} {cc' : ByteArray} {mr' : Nat × Option FieldType} {idx : Nat} {v1 : Value} {ci id : Nat} {G : MI → Prop} (hd : DR cc pc (.invokevirtual idx) 3 q) (f : MFV y.cls idx y' cc' mr' 1) (hc : CT r d' y' cc' mr' (0, 0) [.ref (evz r + id), v1] n I Q (rv Q G)) (ho : Ob n ci id) (k : ∀ (I' : MI), G I' → X r d y cc mr b q lv st n I' Q F) (hci : Nat.ble (ci + 1) 10 = true := by rfl) (hcl : clC ci = y'.cls := by rfl) (hdd : Nat.ble (d' + 1) d = true := by rfl) (hst : Fits8 st := by rfl) : X r d y cc mr b pc lv (v1 :: .ref (evz r + id) :: st) n I Q F :=
  x_callV (As := [v1]) (b2 := b) hd f ho (Nat.le_of_ble_eq_true hci) hcl hc hdd rfl hst ⟨Nat.zero_add _, Nat.le_of_eq (Nat.zero_add _)⟩ (fun v I' Q' h => by obtain ⟨rfl, rfl, h⟩ := h; exact k I' h)
theorem x_S1v {r : Ev} {d : Nat} {y : MethodName} {cc : ByteArray} {mr : Nat × Option FieldType} {b : Nat × Nat} {pc q : Nat} {lv : List (Option Value)} {st : List Value} {n : Nat} {I : MI} {Q : MQ2} {F : Post} {d' : Nat} {y' : MethodName} {cc' : ByteArray} {mr' : Nat × Option FieldType} {idx : Nat} {v1 : Value} {G : MI → Prop} (hd : DR cc pc (.invokestatic idx) 3 q) (f : MFS y.cls idx y' cc' mr' 1) (hc : CT r d' y' cc' mr' (0, 0) [v1] n I Q (rv Q G)) (k : ∀ (I' : MI), G I' → X r d y cc mr b q lv st n I' Q F) (hdd : Nat.ble (d' + 1) d = true := by rfl) (hst : Fits8 st := by rfl) : X r d y cc mr b pc lv (v1 :: st) n I Q F :=
  x_callS (As := [v1]) (b2 := b) hd f hc hdd rfl hst ⟨Nat.zero_add _, Nat.le_of_eq (Nat.zero_add _)⟩ (fun v I' Q' h => by obtain ⟨rfl, rfl, h⟩ := h; exact k I' h)
theorem x_V2v {r : Ev} {d : Nat} {y : MethodName} {cc : ByteArray} {mr : Nat × Option FieldType} {b : Nat × Nat} {pc q : Nat} {lv : List (Option Value)} {st : List Value} {n : Nat} {I : MI} {Q : MQ2} {F : Post} {d' : Nat} {y' : MethodName} {cc' : ByteArray} {mr' : Nat × Option FieldType} {idx : Nat} {v1 v2 : Value} {ci id : Nat} {G : MI → Prop} (hd : DR cc pc (.invokevirtual idx) 3 q) (f : MFV y.cls idx y' cc' mr' 2) (hc : CT r d' y' cc' mr' (0, 0) [.ref (evz r + id), v1, v2] n I Q (rv Q G)) (ho : Ob n ci id) (k : ∀ (I' : MI), G I' → X r d y cc mr b q lv st n I' Q F) (hci : Nat.ble (ci + 1) 10 = true := by rfl) (hcl : clC ci = y'.cls := by rfl) (hdd : Nat.ble (d' + 1) d = true := by rfl) (hst : Fits8 st := by rfl) : X r d y cc mr b pc lv (v2 :: v1 :: .ref (evz r + id) :: st) n I Q F :=
  x_callV (As := [v1, v2]) (b2 := b) hd f ho (Nat.le_of_ble_eq_true hci) hcl hc hdd rfl hst ⟨Nat.zero_add _, Nat.le_of_eq (Nat.zero_add _)⟩ (fun v I' Q' h => by obtain ⟨rfl, rfl, h⟩ := h; exact k I' h)
theorem x_S2v {r : Ev} {d : Nat} {y : MethodName} {cc : ByteArray} {mr : Nat × Option FieldType} {b : Nat × Nat} {pc q : Nat} {lv : List (Option Value)} {st : List Value} {n : Nat} {I : MI} {Q : MQ2} {F : Post} {d' : Nat} {y' : MethodName} {cc' : ByteArray} {mr' : Nat × Option FieldType} {idx : Nat} {v1 v2 : Value} {G : MI → Prop} (hd : DR cc pc (.invokestatic idx) 3 q) (f : MFS y.cls idx y' cc' mr' 2) (hc : CT r d' y' cc' mr' (0, 0) [v1, v2] n I Q (rv Q G)) (k : ∀ (I' : MI), G I' → X r d y cc mr b q lv st n I' Q F) (hdd : Nat.ble (d' + 1) d = true := by rfl) (hst : Fits8 st := by rfl) : X r d y cc mr b pc lv (v2 :: v1 :: st) n I Q F :=
  x_callS (As := [v1, v2]) (b2 := b) hd f hc hdd rfl hst ⟨Nat.zero_add _, Nat.le_of_eq (Nat.zero_add _)⟩ (fun v I' Q' h => by obtain ⟨rfl, rfl, h⟩ := h; exact k I' h)
theorem x_V3v {r : Ev} {d : Nat} {y : MethodName} {cc : ByteArray} {mr : Nat × Option FieldType} {b : Nat × Nat} {pc q : Nat} {lv : List (Option Value)} {st : List Value} {n : Nat} {I : MI} {Q : MQ2} {F : Post} {d' : Nat} {y' : MethodName} {cc' : ByteArray} {mr' : Nat × Option FieldType} {idx : Nat} {v1 v2 v3 : Value} {ci id : Nat} {G : MI → Prop} (hd : DR cc pc (.invokevirtual idx) 3 q) (f : MFV y.cls idx y' cc' mr' 3) (hc : CT r d' y' cc' mr' (0, 0) [.ref (evz r + id), v1, v2, v3] n I Q (rv Q G)) (ho : Ob n ci id) (k : ∀ (I' : MI), G I' → X r d y cc mr b q lv st n I' Q F) (hci : Nat.ble (ci + 1) 10 = true := by rfl) (hcl : clC ci = y'.cls := by rfl) (hdd : Nat.ble (d' + 1) d = true := by rfl) (hst : Fits8 st := by rfl) : X r d y cc mr b pc lv (v3 :: v2 :: v1 :: .ref (evz r + id) :: st) n I Q F :=
  x_callV (As := [v1, v2, v3]) (b2 := b) hd f ho (Nat.le_of_ble_eq_true hci) hcl hc hdd rfl hst ⟨Nat.zero_add _, Nat.le_of_eq (Nat.zero_add _)⟩ (fun v I' Q' h => by obtain ⟨rfl, rfl, h⟩ := h; exact k I' h)
theorem x_S3v {r : Ev} {d : Nat} {y : MethodName} {cc : ByteArray} {mr : Nat × Option FieldType} {b : Nat × Nat} {pc q : Nat} {lv : List (Option Value)} {st : List Value} {n : Nat} {I : MI} {Q : MQ2} {F : Post} {d' : Nat} {y' : MethodName} {cc' : ByteArray} {mr' : Nat × Option FieldType} {idx : Nat} {v1 v2 v3 : Value} {G : MI → Prop} (hd : DR cc pc (.invokestatic idx) 3 q) (f : MFS y.cls idx y' cc' mr' 3) (hc : CT r d' y' cc' mr' (0, 0) [v1, v2, v3] n I Q (rv Q G)) (k : ∀ (I' : MI), G I' → X r d y cc mr b q lv st n I' Q F) (hdd : Nat.ble (d' + 1) d = true := by rfl) (hst : Fits8 st := by rfl) : X r d y cc mr b pc lv (v3 :: v2 :: v1 :: st) n I Q F :=
  x_callS (As := [v1, v2, v3]) (b2 := b) hd f hc hdd rfl hst ⟨Nat.zero_add _, Nat.le_of_eq (Nat.zero_add _)⟩ (fun v I' Q' h => by obtain ⟨rfl, rfl, h⟩ := h; exact k I' h)
theorem x_V4v {r : Ev} {d : Nat} {y : MethodName} {cc : ByteArray} {mr : Nat × Option FieldType} {b : Nat × Nat} {pc q : Nat} {lv : List (Option Value)} {st : List Value} {n : Nat} {I : MI} {Q : MQ2} {F : Post} {d' : Nat} {y' : MethodName} {cc' : ByteArray} {mr' : Nat × Option FieldType} {idx : Nat} {v1 v2 v3 v4 : Value} {ci id : Nat} {G : MI → Prop} (hd : DR cc pc (.invokevirtual idx) 3 q) (f : MFV y.cls idx y' cc' mr' 4) (hc : CT r d' y' cc' mr' (0, 0) [.ref (evz r + id), v1, v2, v3, v4] n I Q (rv Q G)) (ho : Ob n ci id) (k : ∀ (I' : MI), G I' → X r d y cc mr b q lv st n I' Q F) (hci : Nat.ble (ci + 1) 10 = true := by rfl) (hcl : clC ci = y'.cls := by rfl) (hdd : Nat.ble (d' + 1) d = true := by rfl) (hst : Fits8 st := by rfl) : X r d y cc mr b pc lv (v4 :: v3 :: v2 :: v1 :: .ref (evz r + id) :: st) n I Q F :=
  x_callV (As := [v1, v2, v3, v4]) (b2 := b) hd f ho (Nat.le_of_ble_eq_true hci) hcl hc hdd rfl hst ⟨Nat.zero_add _, Nat.le_of_eq (Nat.zero_add _)⟩ (fun v I' Q' h => by obtain ⟨rfl, rfl, h⟩ := h; exact k I' h)
theorem x_S4v {r : Ev} {d : Nat} {y : MethodName} {cc : ByteArray} {mr : Nat × Option FieldType} {b : Nat × Nat} {pc q : Nat} {lv : List (Option Value)} {st : List Value} {n : Nat} {I : MI} {Q : MQ2} {F : Post} {d' : Nat} {y' : MethodName} {cc' : ByteArray} {mr' : Nat × Option FieldType} {idx : Nat} {v1 v2 v3 v4 : Value} {G : MI → Prop} (hd : DR cc pc (.invokestatic idx) 3 q) (f : MFS y.cls idx y' cc' mr' 4) (hc : CT r d' y' cc' mr' (0, 0) [v1, v2, v3, v4] n I Q (rv Q G)) (k : ∀ (I' : MI), G I' → X r d y cc mr b q lv st n I' Q F) (hdd : Nat.ble (d' + 1) d = true := by rfl) (hst : Fits8 st := by rfl) : X r d y cc mr b pc lv (v4 :: v3 :: v2 :: v1 :: st) n I Q F :=
  x_callS (As := [v1, v2, v3, v4]) (b2 := b) hd f hc hdd rfl hst ⟨Nat.zero_add _, Nat.le_of_eq (Nat.zero_add _)⟩ (fun v I' Q' h => by obtain ⟨rfl, rfl, h⟩ := h; exact k I' h)
theorem x_V0o {r : Ev} {d : Nat} {y : MethodName} {cc : ByteArray} {mr : Nat × Option FieldType} {b : Nat × Nat} {pc q : Nat} {lv : List (Option Value)} {st : List Value} {n : Nat} {I : MI} {Q : MQ2} {F : Post} {d' : Nat} {y' : MethodName} {cc' : ByteArray} {mr' : Nat × Option FieldType} {idx : Nat} {ci id : Nat} {id2 : Nat} (hd : DR cc pc (.invokevirtual idx) 3 q) (f : MFV y.cls idx y' cc' mr' 0) (hc : CT r d' y' cc' mr' (0, 0) [.ref (evz r + id)] n I Q (ro r I Q id2)) (ho : Ob n ci id) (k : X r d y cc mr b q lv (.ref (evz r + id2) :: st) n I Q F) (hci : Nat.ble (ci + 1) 10 = true := by rfl) (hcl : clC ci = y'.cls := by rfl) (hdd : Nat.ble (d' + 1) d = true := by rfl) (hst : Fits8 st := by rfl) : X r d y cc mr b pc lv (.ref (evz r + id) :: st) n I Q F :=
  x_callV (As := []) (b2 := b) hd f ho (Nat.le_of_ble_eq_true hci) hcl hc hdd rfl hst ⟨Nat.zero_add _, Nat.le_of_eq (Nat.zero_add _)⟩ (fun v I' Q' h => by obtain ⟨rfl, rfl, rfl⟩ := h; exact k)
theorem x_V1o {r : Ev} {d : Nat} {y : MethodName} {cc : ByteArray} {mr : Nat × Option FieldType} {b : Nat × Nat} {pc q : Nat} {lv : List (Option Value)} {st : List Value} {n : Nat} {I : MI} {Q : MQ2} {F : Post} {d' : Nat} {y' : MethodName} {cc' : ByteArray} {mr' : Nat × Option FieldType} {idx : Nat} {v1 : Value} {ci id : Nat} {id2 : Nat} (hd : DR cc pc (.invokevirtual idx) 3 q) (f : MFV y.cls idx y' cc' mr' 1) (hc : CT r d' y' cc' mr' (0, 0) [.ref (evz r + id), v1] n I Q (ro r I Q id2)) (ho : Ob n ci id) (k : X r d y cc mr b q lv (.ref (evz r + id2) :: st) n I Q F) (hci : Nat.ble (ci + 1) 10 = true := by rfl) (hcl : clC ci = y'.cls := by rfl) (hdd : Nat.ble (d' + 1) d = true := by rfl) (hst : Fits8 st := by rfl) : X r d y cc mr b pc lv (v1 :: .ref (evz r + id) :: st) n I Q F :=
  x_callV (As := [v1]) (b2 := b) hd f ho (Nat.le_of_ble_eq_true hci) hcl hc hdd rfl hst ⟨Nat.zero_add _, Nat.le_of_eq (Nat.zero_add _)⟩ (fun v I' Q' h => by obtain ⟨rfl, rfl, rfl⟩ := h; exact k)
theorem x_V0I {r : Ev} {d : Nat} {y : MethodName} {cc : ByteArray} {mr : Nat × Option FieldType} {b : Nat × Nat} {pc q : Nat} {lv : List (Option Value)} {st : List Value} {n : Nat} {I : MI} {Q : MQ2} {F : Post} {d' : Nat} {y' : MethodName} {cc' : ByteArray} {mr' : Nat × Option FieldType} {idx : Nat} {ci id : Nat} {G : Int32 → MI → MQ2 → Prop} (hd : DR cc pc (.invokevirtual idx) 3 q) (f : MFV y.cls idx y' cc' mr' 0) (hc : CT r d' y' cc' mr' (0, 0) [.ref (evz r + id)] n I Q (RI G)) (ho : Ob n ci id) (k : ∀ (x : Int32) (I' : MI) (Q' : MQ2), G x I' Q' → X r d y cc mr b q lv (.int x :: st) n I' Q' F) (hci : Nat.ble (ci + 1) 10 = true := by rfl) (hcl : clC ci = y'.cls := by rfl) (hdd : Nat.ble (d' + 1) d = true := by rfl) (hst : Fits8 st := by rfl) : X r d y cc mr b pc lv (.ref (evz r + id) :: st) n I Q F :=
  x_callV (As := []) (b2 := b) hd f ho (Nat.le_of_ble_eq_true hci) hcl hc hdd rfl hst ⟨Nat.zero_add _, Nat.le_of_eq (Nat.zero_add _)⟩ (fun v I' Q' h => by obtain ⟨x, rfl, h⟩ := h; exact k x I' Q' h)
theorem x_S0I {r : Ev} {d : Nat} {y : MethodName} {cc : ByteArray} {mr : Nat × Option FieldType} {b : Nat × Nat} {pc q : Nat} {lv : List (Option Value)} {st : List Value} {n : Nat} {I : MI} {Q : MQ2} {F : Post} {d' : Nat} {y' : MethodName} {cc' : ByteArray} {mr' : Nat × Option FieldType} {idx : Nat} {G : Int32 → MI → MQ2 → Prop} (hd : DR cc pc (.invokestatic idx) 3 q) (f : MFS y.cls idx y' cc' mr' 0) (hc : CT r d' y' cc' mr' (0, 0) [] n I Q (RI G)) (k : ∀ (x : Int32) (I' : MI) (Q' : MQ2), G x I' Q' → X r d y cc mr b q lv (.int x :: st) n I' Q' F) (hdd : Nat.ble (d' + 1) d = true := by rfl) (hst : Fits8 st := by rfl) : X r d y cc mr b pc lv (st) n I Q F :=
  x_callS (As := []) (b2 := b) hd f hc hdd rfl hst ⟨Nat.zero_add _, Nat.le_of_eq (Nat.zero_add _)⟩ (fun v I' Q' h => by obtain ⟨x, rfl, h⟩ := h; exact k x I' Q' h)
theorem x_V1I {r : Ev} {d : Nat} {y : MethodName} {cc : ByteArray} {mr : Nat × Option FieldType} {b : Nat × Nat} {pc q : Nat} {lv : List (Option Value)} {st : List Value} {n : Nat} {I : MI} {Q : MQ2} {F : Post} {d' : Nat} {y' : MethodName} {cc' : ByteArray} {mr' : Nat × Option FieldType} {idx : Nat} {v1 : Value} {ci id : Nat} {G : Int32 → MI → MQ2 → Prop} (hd : DR cc pc (.invokevirtual idx) 3 q) (f : MFV y.cls idx y' cc' mr' 1) (hc : CT r d' y' cc' mr' (0, 0) [.ref (evz r + id), v1] n I Q (RI G)) (ho : Ob n ci id) (k : ∀ (x : Int32) (I' : MI) (Q' : MQ2), G x I' Q' → X r d y cc mr b q lv (.int x :: st) n I' Q' F) (hci : Nat.ble (ci + 1) 10 = true := by rfl) (hcl : clC ci = y'.cls := by rfl) (hdd : Nat.ble (d' + 1) d = true := by rfl) (hst : Fits8 st := by rfl) : X r d y cc mr b pc lv (v1 :: .ref (evz r + id) :: st) n I Q F :=
  x_callV (As := [v1]) (b2 := b) hd f ho (Nat.le_of_ble_eq_true hci) hcl hc hdd rfl hst ⟨Nat.zero_add _, Nat.le_of_eq (Nat.zero_add _)⟩ (fun v I' Q' h => by obtain ⟨x, rfl, h⟩ := h; exact k x I' Q' h)
theorem x_S1I {r : Ev} {d : Nat} {y : MethodName} {cc : ByteArray} {mr : Nat × Option FieldType} {b : Nat × Nat} {pc q : Nat} {lv : List (Option Value)} {st : List Value} {n : Nat} {I : MI} {Q : MQ2} {F : Post} {d' : Nat} {y' : MethodName} {cc' : ByteArray} {mr' : Nat × Option FieldType} {idx : Nat} {v1 : Value} {G : Int32 → MI → MQ2 → Prop} (hd : DR cc pc (.invokestatic idx) 3 q) (f : MFS y.cls idx y' cc' mr' 1) (hc : CT r d' y' cc' mr' (0, 0) [v1] n I Q (RI G)) (k : ∀ (x : Int32) (I' : MI) (Q' : MQ2), G x I' Q' → X r d y cc mr b q lv (.int x :: st) n I' Q' F) (hdd : Nat.ble (d' + 1) d = true := by rfl) (hst : Fits8 st := by rfl) : X r d y cc mr b pc lv (v1 :: st) n I Q F :=
  x_callS (As := [v1]) (b2 := b) hd f hc hdd rfl hst ⟨Nat.zero_add _, Nat.le_of_eq (Nat.zero_add _)⟩ (fun v I' Q' h => by obtain ⟨x, rfl, h⟩ := h; exact k x I' Q' h)
theorem x_V2I {r : Ev} {d : Nat} {y : MethodName} {cc : ByteArray} {mr : Nat × Option FieldType} {b : Nat × Nat} {pc q : Nat} {lv : List (Option Value)} {st : List Value} {n : Nat} {I : MI} {Q : MQ2} {F : Post} {d' : Nat} {y' : MethodName} {cc' : ByteArray} {mr' : Nat × Option FieldType} {idx : Nat} {v1 v2 : Value} {ci id : Nat} {G : Int32 → MI → MQ2 → Prop} (hd : DR cc pc (.invokevirtual idx) 3 q) (f : MFV y.cls idx y' cc' mr' 2) (hc : CT r d' y' cc' mr' (0, 0) [.ref (evz r + id), v1, v2] n I Q (RI G)) (ho : Ob n ci id) (k : ∀ (x : Int32) (I' : MI) (Q' : MQ2), G x I' Q' → X r d y cc mr b q lv (.int x :: st) n I' Q' F) (hci : Nat.ble (ci + 1) 10 = true := by rfl) (hcl : clC ci = y'.cls := by rfl) (hdd : Nat.ble (d' + 1) d = true := by rfl) (hst : Fits8 st := by rfl) : X r d y cc mr b pc lv (v2 :: v1 :: .ref (evz r + id) :: st) n I Q F :=
  x_callV (As := [v1, v2]) (b2 := b) hd f ho (Nat.le_of_ble_eq_true hci) hcl hc hdd rfl hst ⟨Nat.zero_add _, Nat.le_of_eq (Nat.zero_add _)⟩ (fun v I' Q' h => by obtain ⟨x, rfl, h⟩ := h; exact k x I' Q' h)
theorem x_S2I {r : Ev} {d : Nat} {y : MethodName} {cc : ByteArray} {mr : Nat × Option FieldType} {b : Nat × Nat} {pc q : Nat} {lv : List (Option Value)} {st : List Value} {n : Nat} {I : MI} {Q : MQ2} {F : Post} {d' : Nat} {y' : MethodName} {cc' : ByteArray} {mr' : Nat × Option FieldType} {idx : Nat} {v1 v2 : Value} {G : Int32 → MI → MQ2 → Prop} (hd : DR cc pc (.invokestatic idx) 3 q) (f : MFS y.cls idx y' cc' mr' 2) (hc : CT r d' y' cc' mr' (0, 0) [v1, v2] n I Q (RI G)) (k : ∀ (x : Int32) (I' : MI) (Q' : MQ2), G x I' Q' → X r d y cc mr b q lv (.int x :: st) n I' Q' F) (hdd : Nat.ble (d' + 1) d = true := by rfl) (hst : Fits8 st := by rfl) : X r d y cc mr b pc lv (v2 :: v1 :: st) n I Q F :=
  x_callS (As := [v1, v2]) (b2 := b) hd f hc hdd rfl hst ⟨Nat.zero_add _, Nat.le_of_eq (Nat.zero_add _)⟩ (fun v I' Q' h => by obtain ⟨x, rfl, h⟩ := h; exact k x I' Q' h)
theorem x_V3I {r : Ev} {d : Nat} {y : MethodName} {cc : ByteArray} {mr : Nat × Option FieldType} {b : Nat × Nat} {pc q : Nat} {lv : List (Option Value)} {st : List Value} {n : Nat} {I : MI} {Q : MQ2} {F : Post} {d' : Nat} {y' : MethodName} {cc' : ByteArray} {mr' : Nat × Option FieldType} {idx : Nat} {v1 v2 v3 : Value} {ci id : Nat} {G : Int32 → MI → MQ2 → Prop} (hd : DR cc pc (.invokevirtual idx) 3 q) (f : MFV y.cls idx y' cc' mr' 3) (hc : CT r d' y' cc' mr' (0, 0) [.ref (evz r + id), v1, v2, v3] n I Q (RI G)) (ho : Ob n ci id) (k : ∀ (x : Int32) (I' : MI) (Q' : MQ2), G x I' Q' → X r d y cc mr b q lv (.int x :: st) n I' Q' F) (hci : Nat.ble (ci + 1) 10 = true := by rfl) (hcl : clC ci = y'.cls := by rfl) (hdd : Nat.ble (d' + 1) d = true := by rfl) (hst : Fits8 st := by rfl) : X r d y cc mr b pc lv (v3 :: v2 :: v1 :: .ref (evz r + id) :: st) n I Q F :=
  x_callV (As := [v1, v2, v3]) (b2 := b) hd f ho (Nat.le_of_ble_eq_true hci) hcl hc hdd rfl hst ⟨Nat.zero_add _, Nat.le_of_eq (Nat.zero_add _)⟩ (fun v I' Q' h => by obtain ⟨x, rfl, h⟩ := h; exact k x I' Q' h)
theorem x_S3I {r : Ev} {d : Nat} {y : MethodName} {cc : ByteArray} {mr : Nat × Option FieldType} {b : Nat × Nat} {pc q : Nat} {lv : List (Option Value)} {st : List Value} {n : Nat} {I : MI} {Q : MQ2} {F : Post} {d' : Nat} {y' : MethodName} {cc' : ByteArray} {mr' : Nat × Option FieldType} {idx : Nat} {v1 v2 v3 : Value} {G : Int32 → MI → MQ2 → Prop} (hd : DR cc pc (.invokestatic idx) 3 q) (f : MFS y.cls idx y' cc' mr' 3) (hc : CT r d' y' cc' mr' (0, 0) [v1, v2, v3] n I Q (RI G)) (k : ∀ (x : Int32) (I' : MI) (Q' : MQ2), G x I' Q' → X r d y cc mr b q lv (.int x :: st) n I' Q' F) (hdd : Nat.ble (d' + 1) d = true := by rfl) (hst : Fits8 st := by rfl) : X r d y cc mr b pc lv (v3 :: v2 :: v1 :: st) n I Q F :=
  x_callS (As := [v1, v2, v3]) (b2 := b) hd f hc hdd rfl hst ⟨Nat.zero_add _, Nat.le_of_eq (Nat.zero_add _)⟩ (fun v I' Q' h => by obtain ⟨x, rfl, h⟩ := h; exact k x I' Q' h)
theorem x_V4I {r : Ev} {d : Nat} {y : MethodName} {cc : ByteArray} {mr : Nat × Option FieldType} {b : Nat × Nat} {pc q : Nat} {lv : List (Option Value)} {st : List Value} {n : Nat} {I : MI} {Q : MQ2} {F : Post} {d' : Nat} {y' : MethodName} {cc' : ByteArray} {mr' : Nat × Option FieldType} {idx : Nat} {v1 v2 v3 v4 : Value} {ci id : Nat} {G : Int32 → MI → MQ2 → Prop} (hd : DR cc pc (.invokevirtual idx) 3 q) (f : MFV y.cls idx y' cc' mr' 4) (hc : CT r d' y' cc' mr' (0, 0) [.ref (evz r + id), v1, v2, v3, v4] n I Q (RI G)) (ho : Ob n ci id) (k : ∀ (x : Int32) (I' : MI) (Q' : MQ2), G x I' Q' → X r d y cc mr b q lv (.int x :: st) n I' Q' F) (hci : Nat.ble (ci + 1) 10 = true := by rfl) (hcl : clC ci = y'.cls := by rfl) (hdd : Nat.ble (d' + 1) d = true := by rfl) (hst : Fits8 st := by rfl) : X r d y cc mr b pc lv (v4 :: v3 :: v2 :: v1 :: .ref (evz r + id) :: st) n I Q F :=
  x_callV (As := [v1, v2, v3, v4]) (b2 := b) hd f ho (Nat.le_of_ble_eq_true hci) hcl hc hdd rfl hst ⟨Nat.zero_add _, Nat.le_of_eq (Nat.zero_add _)⟩ (fun v I' Q' h => by obtain ⟨x, rfl, h⟩ := h; exact k x I' Q' h)
theorem x_S4I {r : Ev} {d : Nat} {y : MethodName} {cc : ByteArray} {mr : Nat × Option FieldType} {b : Nat × Nat} {pc q : Nat} {lv : List (Option Value)} {st : List Value} {n : Nat} {I : MI} {Q : MQ2} {F : Post} {d' : Nat} {y' : MethodName} {cc' : ByteArray} {mr' : Nat × Option FieldType} {idx : Nat} {v1 v2 v3 v4 : Value} {G : Int32 → MI → MQ2 → Prop} (hd : DR cc pc (.invokestatic idx) 3 q) (f : MFS y.cls idx y' cc' mr' 4) (hc : CT r d' y' cc' mr' (0, 0) [v1, v2, v3, v4] n I Q (RI G)) (k : ∀ (x : Int32) (I' : MI) (Q' : MQ2), G x I' Q' → X r d y cc mr b q lv (.int x :: st) n I' Q' F) (hdd : Nat.ble (d' + 1) d = true := by rfl) (hst : Fits8 st := by rfl) : X r d y cc mr b pc lv (v4 :: v3 :: v2 :: v1 :: st) n I Q F :=
  x_callS (As := [v1, v2, v3, v4]) (b2 := b) hd f hc hdd rfl hst ⟨Nat.zero_add _, Nat.le_of_eq (Nat.zero_add _)⟩ (fun v I' Q' h => by obtain ⟨x, rfl, h⟩ := h; exact k x I' Q' h)
theorem x_V0W {r : Ev} {d : Nat} {y : MethodName} {cc : ByteArray} {mr : Nat × Option FieldType} {b : Nat × Nat} {pc q : Nat} {lv : List (Option Value)} {st : List Value} {n : Nat} {I : MI} {Q : MQ2} {F : Post} {d' : Nat} {y' : MethodName} {cc' : ByteArray} {mr' : Nat × Option FieldType} {idx : Nat} {ci id : Nat} {G : MI → MQ2 → Prop} (hd : DR cc pc (.invokevirtual idx) 3 q) (f : MFV y.cls idx y' cc' mr' 0) (hc : CT r d' y' cc' mr' (0, 0) [.ref (evz r + id)] n I Q (RV G)) (ho : Ob n ci id) (k : ∀ (I' : MI) (Q' : MQ2), G I' Q' → X r d y cc mr b q lv st n I' Q' F) (hci : Nat.ble (ci + 1) 10 = true := by rfl) (hcl : clC ci = y'.cls := by rfl) (hdd : Nat.ble (d' + 1) d = true := by rfl) (hst : Fits8 st := by rfl) : X r d y cc mr b pc lv (.ref (evz r + id) :: st) n I Q F :=
  x_callV (As := []) (b2 := b) hd f ho (Nat.le_of_ble_eq_true hci) hcl hc hdd rfl hst ⟨Nat.zero_add _, Nat.le_of_eq (Nat.zero_add _)⟩ (fun v I' Q' h => by obtain ⟨rfl, h⟩ := h; exact k I' Q' h)
theorem x_S0W {r : Ev} {d : Nat} {y : MethodName} {cc : ByteArray} {mr : Nat × Option FieldType} {b : Nat × Nat} {pc q : Nat} {lv : List (Option Value)} {st : List Value} {n : Nat} {I : MI} {Q : MQ2} {F : Post} {d' : Nat} {y' : MethodName} {cc' : ByteArray} {mr' : Nat × Option FieldType} {idx : Nat} {G : MI → MQ2 → Prop} (hd : DR cc pc (.invokestatic idx) 3 q) (f : MFS y.cls idx y' cc' mr' 0) (hc : CT r d' y' cc' mr' (0, 0) [] n I Q (RV G)) (k : ∀ (I' : MI) (Q' : MQ2), G I' Q' → X r d y cc mr b q lv st n I' Q' F) (hdd : Nat.ble (d' + 1) d = true := by rfl) (hst : Fits8 st := by rfl) : X r d y cc mr b pc lv (st) n I Q F :=
  x_callS (As := []) (b2 := b) hd f hc hdd rfl hst ⟨Nat.zero_add _, Nat.le_of_eq (Nat.zero_add _)⟩ (fun v I' Q' h => by obtain ⟨rfl, h⟩ := h; exact k I' Q' h)
theorem x_V1W {r : Ev} {d : Nat} {y : MethodName} {cc : ByteArray} {mr : Nat × Option FieldType} {b : Nat × Nat} {pc q : Nat} {lv : List (Option Value)} {st : List Value} {n : Nat} {I : MI} {Q : MQ2} {F : Post} {d' : Nat} {y' : MethodName} {cc' : ByteArray} {mr' : Nat × Option FieldType} {idx : Nat} {v1 : Value} {ci id : Nat} {G : MI → MQ2 → Prop} (hd : DR cc pc (.invokevirtual idx) 3 q) (f : MFV y.cls idx y' cc' mr' 1) (hc : CT r d' y' cc' mr' (0, 0) [.ref (evz r + id), v1] n I Q (RV G)) (ho : Ob n ci id) (k : ∀ (I' : MI) (Q' : MQ2), G I' Q' → X r d y cc mr b q lv st n I' Q' F) (hci : Nat.ble (ci + 1) 10 = true := by rfl) (hcl : clC ci = y'.cls := by rfl) (hdd : Nat.ble (d' + 1) d = true := by rfl) (hst : Fits8 st := by rfl) : X r d y cc mr b pc lv (v1 :: .ref (evz r + id) :: st) n I Q F :=
  x_callV (As := [v1]) (b2 := b) hd f ho (Nat.le_of_ble_eq_true hci) hcl hc hdd rfl hst ⟨Nat.zero_add _, Nat.le_of_eq (Nat.zero_add _)⟩ (fun v I' Q' h => by obtain ⟨rfl, h⟩ := h; exact k I' Q' h)
theorem x_S1W {r : Ev} {d : Nat} {y : MethodName} {cc : ByteArray} {mr : Nat × Option FieldType} {b : Nat × Nat} {pc q : Nat} {lv : List (Option Value)} {st : List Value} {n : Nat} {I : MI} {Q : MQ2} {F : Post} {d' : Nat} {y' : MethodName} {cc' : ByteArray} {mr' : Nat × Option FieldType} {idx : Nat} {v1 : Value} {G : MI → MQ2 → Prop} (hd : DR cc pc (.invokestatic idx) 3 q) (f : MFS y.cls idx y' cc' mr' 1) (hc : CT r d' y' cc' mr' (0, 0) [v1] n I Q (RV G)) (k : ∀ (I' : MI) (Q' : MQ2), G I' Q' → X r d y cc mr b q lv st n I' Q' F) (hdd : Nat.ble (d' + 1) d = true := by rfl) (hst : Fits8 st := by rfl) : X r d y cc mr b pc lv (v1 :: st) n I Q F :=
  x_callS (As := [v1]) (b2 := b) hd f hc hdd rfl hst ⟨Nat.zero_add _, Nat.le_of_eq (Nat.zero_add _)⟩ (fun v I' Q' h => by obtain ⟨rfl, h⟩ := h; exact k I' Q' h)
theorem x_V2W {r : Ev} {d : Nat} {y : MethodName} {cc : ByteArray} {mr : Nat × Option FieldType} {b : Nat × Nat} {pc q : Nat} {lv : List (Option Value)} {st : List Value} {n : Nat} {I : MI} {Q : MQ2} {F : Post} {d' : Nat} {y' : MethodName} {cc' : ByteArray} {mr' : Nat × Option FieldType} {idx : Nat} {v1 v2 : Value} {ci id : Nat} {G : MI → MQ2 → Prop} (hd : DR cc pc (.invokevirtual idx) 3 q) (f : MFV y.cls idx y' cc' mr' 2) (hc : CT r d' y' cc' mr' (0, 0) [.ref (evz r + id), v1, v2] n I Q (RV G)) (ho : Ob n ci id) (k : ∀ (I' : MI) (Q' : MQ2), G I' Q' → X r d y cc mr b q lv st n I' Q' F) (hci : Nat.ble (ci + 1) 10 = true := by rfl) (hcl : clC ci = y'.cls := by rfl) (hdd : Nat.ble (d' + 1) d = true := by rfl) (hst : Fits8 st := by rfl) : X r d y cc mr b pc lv (v2 :: v1 :: .ref (evz r + id) :: st) n I Q F :=
  x_callV (As := [v1, v2]) (b2 := b) hd f ho (Nat.le_of_ble_eq_true hci) hcl hc hdd rfl hst ⟨Nat.zero_add _, Nat.le_of_eq (Nat.zero_add _)⟩ (fun v I' Q' h => by obtain ⟨rfl, h⟩ := h; exact k I' Q' h)
theorem x_S2W {r : Ev} {d : Nat} {y : MethodName} {cc : ByteArray} {mr : Nat × Option FieldType} {b : Nat × Nat} {pc q : Nat} {lv : List (Option Value)} {st : List Value} {n : Nat} {I : MI} {Q : MQ2} {F : Post} {d' : Nat} {y' : MethodName} {cc' : ByteArray} {mr' : Nat × Option FieldType} {idx : Nat} {v1 v2 : Value} {G : MI → MQ2 → Prop} (hd : DR cc pc (.invokestatic idx) 3 q) (f : MFS y.cls idx y' cc' mr' 2) (hc : CT r d' y' cc' mr' (0, 0) [v1, v2] n I Q (RV G)) (k : ∀ (I' : MI) (Q' : MQ2), G I' Q' → X r d y cc mr b q lv st n I' Q' F) (hdd : Nat.ble (d' + 1) d = true := by rfl) (hst : Fits8 st := by rfl) : X r d y cc mr b pc lv (v2 :: v1 :: st) n I Q F :=
  x_callS (As := [v1, v2]) (b2 := b) hd f hc hdd rfl hst ⟨Nat.zero_add _, Nat.le_of_eq (Nat.zero_add _)⟩ (fun v I' Q' h => by obtain ⟨rfl, h⟩ := h; exact k I' Q' h)
theorem x_V3W {r : Ev} {d : Nat} {y : MethodName} {cc : ByteArray} {mr : Nat × Option FieldType} {b : Nat × Nat} {pc q : Nat} {lv : List (Option Value)} {st : List Value} {n : Nat} {I : MI} {Q : MQ2} {F : Post} {d' : Nat} {y' : MethodName} {cc' : ByteArray} {mr' : Nat × Option FieldType} {idx : Nat} {v1 v2 v3 : Value} {ci id : Nat} {G : MI → MQ2 → Prop} (hd : DR cc pc (.invokevirtual idx) 3 q) (f : MFV y.cls idx y' cc' mr' 3) (hc : CT r d' y' cc' mr' (0, 0) [.ref (evz r + id), v1, v2, v3] n I Q (RV G)) (ho : Ob n ci id) (k : ∀ (I' : MI) (Q' : MQ2), G I' Q' → X r d y cc mr b q lv st n I' Q' F) (hci : Nat.ble (ci + 1) 10 = true := by rfl) (hcl : clC ci = y'.cls := by rfl) (hdd : Nat.ble (d' + 1) d = true := by rfl) (hst : Fits8 st := by rfl) : X r d y cc mr b pc lv (v3 :: v2 :: v1 :: .ref (evz r + id) :: st) n I Q F :=
  x_callV (As := [v1, v2, v3]) (b2 := b) hd f ho (Nat.le_of_ble_eq_true hci) hcl hc hdd rfl hst ⟨Nat.zero_add _, Nat.le_of_eq (Nat.zero_add _)⟩ (fun v I' Q' h => by obtain ⟨rfl, h⟩ := h; exact k I' Q' h)
theorem x_S3W {r : Ev} {d : Nat} {y : MethodName} {cc : ByteArray} {mr : Nat × Option FieldType} {b : Nat × Nat} {pc q : Nat} {lv : List (Option Value)} {st : List Value} {n : Nat} {I : MI} {Q : MQ2} {F : Post} {d' : Nat} {y' : MethodName} {cc' : ByteArray} {mr' : Nat × Option FieldType} {idx : Nat} {v1 v2 v3 : Value} {G : MI → MQ2 → Prop} (hd : DR cc pc (.invokestatic idx) 3 q) (f : MFS y.cls idx y' cc' mr' 3) (hc : CT r d' y' cc' mr' (0, 0) [v1, v2, v3] n I Q (RV G)) (k : ∀ (I' : MI) (Q' : MQ2), G I' Q' → X r d y cc mr b q lv st n I' Q' F) (hdd : Nat.ble (d' + 1) d = true := by rfl) (hst : Fits8 st := by rfl) : X r d y cc mr b pc lv (v3 :: v2 :: v1 :: st) n I Q F :=
  x_callS (As := [v1, v2, v3]) (b2 := b) hd f hc hdd rfl hst ⟨Nat.zero_add _, Nat.le_of_eq (Nat.zero_add _)⟩ (fun v I' Q' h => by obtain ⟨rfl, h⟩ := h; exact k I' Q' h)
theorem x_V4W {r : Ev} {d : Nat} {y : MethodName} {cc : ByteArray} {mr : Nat × Option FieldType} {b : Nat × Nat} {pc q : Nat} {lv : List (Option Value)} {st : List Value} {n : Nat} {I : MI} {Q : MQ2} {F : Post} {d' : Nat} {y' : MethodName} {cc' : ByteArray} {mr' : Nat × Option FieldType} {idx : Nat} {v1 v2 v3 v4 : Value} {ci id : Nat} {G : MI → MQ2 → Prop} (hd : DR cc pc (.invokevirtual idx) 3 q) (f : MFV y.cls idx y' cc' mr' 4) (hc : CT r d' y' cc' mr' (0, 0) [.ref (evz r + id), v1, v2, v3, v4] n I Q (RV G)) (ho : Ob n ci id) (k : ∀ (I' : MI) (Q' : MQ2), G I' Q' → X r d y cc mr b q lv st n I' Q' F) (hci : Nat.ble (ci + 1) 10 = true := by rfl) (hcl : clC ci = y'.cls := by rfl) (hdd : Nat.ble (d' + 1) d = true := by rfl) (hst : Fits8 st := by rfl) : X r d y cc mr b pc lv (v4 :: v3 :: v2 :: v1 :: .ref (evz r + id) :: st) n I Q F :=
  x_callV (As := [v1, v2, v3, v4]) (b2 := b) hd f ho (Nat.le_of_ble_eq_true hci) hcl hc hdd rfl hst ⟨Nat.zero_add _, Nat.le_of_eq (Nat.zero_add _)⟩ (fun v I' Q' h => by obtain ⟨rfl, h⟩ := h; exact k I' Q' h)
theorem x_S4W {r : Ev} {d : Nat} {y : MethodName} {cc : ByteArray} {mr : Nat × Option FieldType} {b : Nat × Nat} {pc q : Nat} {lv : List (Option Value)} {st : List Value} {n : Nat} {I : MI} {Q : MQ2} {F : Post} {d' : Nat} {y' : MethodName} {cc' : ByteArray} {mr' : Nat × Option FieldType} {idx : Nat} {v1 v2 v3 v4 : Value} {G : MI → MQ2 → Prop} (hd : DR cc pc (.invokestatic idx) 3 q) (f : MFS y.cls idx y' cc' mr' 4) (hc : CT r d' y' cc' mr' (0, 0) [v1, v2, v3, v4] n I Q (RV G)) (k : ∀ (I' : MI) (Q' : MQ2), G I' Q' → X r d y cc mr b q lv st n I' Q' F) (hdd : Nat.ble (d' + 1) d = true := by rfl) (hst : Fits8 st := by rfl) : X r d y cc mr b pc lv (v4 :: v3 :: v2 :: v1 :: st) n I Q F :=
  x_callS (As := [v1, v2, v3, v4]) (b2 := b) hd f hc hdd rfl hst ⟨Nat.zero_add _, Nat.le_of_eq (Nat.zero_add _)⟩ (fun v I' Q' h => by obtain ⟨rfl, h⟩ := h; exact k I' Q' h)
theorem x_I0 {r : Ev} {d : Nat} {y : MethodName} {cc : ByteArray} {mr : Nat × Option FieldType} {b : Nat × Nat} {pc q : Nat} {lv : List (Option Value)} {st : List Value} {n : Nat} {I : MI} {Q : MQ2} {F : Post} {d' : Nat} {y' : MethodName} {cc' : ByteArray} {mL9 a : Nat} {b' : Nat × Nat} {idx : Nat} {G : MI → MQ2 → Prop} (b2 : Nat × Nat) (hd : DR cc pc (.invokespecial idx) 3 q) (f : MFI y.cls idx y' cc' (mL9, none) 0) (hc : CT r d' y' cc' (mL9, none) b' [.ref a] n I Q (RV G)) (hb : b'.1 + b2.1 = b.1 ∧ Nat.ble (b'.2 + b2.2) b.2 = true) (k : ∀ (I' : MI) (Q' : MQ2), G I' Q' → X r d y cc mr b2 q lv st (n + b'.1) I' Q' F) (hdd : Nat.ble (d' + 1) d = true := by rfl) (hst : Fits8 st := by rfl) : X r d y cc mr b pc lv (.ref a :: st) n I Q F :=
  x_callI (As := []) (b2 := b2) hd f hc hdd rfl hst ⟨hb.1, Nat.le_of_ble_eq_true hb.2⟩ (fun v I' Q' h => by obtain ⟨rfl, h⟩ := h; exact k I' Q' h)
theorem x_I1 {r : Ev} {d : Nat} {y : MethodName} {cc : ByteArray} {mr : Nat × Option FieldType} {b : Nat × Nat} {pc q : Nat} {lv : List (Option Value)} {st : List Value} {n : Nat} {I : MI} {Q : MQ2} {F : Post} {d' : Nat} {y' : MethodName} {cc' : ByteArray} {mL9 a : Nat} {b' : Nat × Nat} {idx : Nat} {G : MI → MQ2 → Prop} {v1 : Value} (b2 : Nat × Nat) (hd : DR cc pc (.invokespecial idx) 3 q) (f : MFI y.cls idx y' cc' (mL9, none) 1) (hc : CT r d' y' cc' (mL9, none) b' [.ref a, v1] n I Q (RV G)) (hb : b'.1 + b2.1 = b.1 ∧ Nat.ble (b'.2 + b2.2) b.2 = true) (k : ∀ (I' : MI) (Q' : MQ2), G I' Q' → X r d y cc mr b2 q lv st (n + b'.1) I' Q' F) (hdd : Nat.ble (d' + 1) d = true := by rfl) (hst : Fits8 st := by rfl) : X r d y cc mr b pc lv (v1 :: .ref a :: st) n I Q F :=
  x_callI (As := [v1]) (b2 := b2) hd f hc hdd rfl hst ⟨hb.1, Nat.le_of_ble_eq_true hb.2⟩ (fun v I' Q' h => by obtain ⟨rfl, h⟩ := h; exact k I' Q' h)
/-! new objects, new arrays -/
def NW (own : String) (idx ci : Nat) : Prop := ci < 10 ∧ Cond.classLink own idx (clC ci) ∈ wT ∧ Cond.instantiable (clC ci) (nf ci) ∈ wT ∧ Cond.initialized (clC ci) ∈ wT
theorem x_fresh {r : Ev} {p : Program} {l : Launch} {e : Env} {R : Room} {s : State} {m : MethodId} {args : Array Value} {below : List Frame} {meth : Method} {c : Code} {T : State} {locs : List Loc} {cells slots : Nat} {n : Nat} {I : MI} {Q : MQ2} {H1 : Heap} {q0 : Nat} {en : va_E} (X0 : Stand p l e R s m args below meth c T locs (cells + 1) slots) (hT : T.heap = H1) (hz : s.heap.size + cells = evz r + n) (hP : va_P (evD r) vwCl (pool (evc r) (evz r) n I Q ++ [(q0, en)]) H1) (hD : va_D (fun q : Nat => evz r ≤ q) (pool (evc r) (evz r) n I Q ++ [(q0, en)])) : q0 = evz r + n := by
  have h1 : T.heap.size ≤ s.heap.size + (cells + 1) := X0.same.2.2.1
  rw [hT] at h1
  have hlast : (pool (evc r) (evz r) n I Q ++ [(q0, en)])[n]? = some (q0, en) := by
    rw [List.getElem?_append_right (by rw [pool_len]; exact Nat.le_refl n), pool_len, Nat.sub_self]
    rfl
  have h2 := (hP n _ hlast).lt
  have h3 := hD.2 n _ hlast
  have h2 : q0 < H1.size := h2
  have h3 : evz r ≤ q0 := h3
  by_cases h4 : q0 < evz r + n
  · have h5 : q0 - evz r < n := by omega
    have h6 : (pool (evc r) (evz r) n I Q ++ [(q0, en)])[q0 - evz r]? = some (evz r + (q0 - evz r), cel (evc r) (evz r) I Q (q0 - evz r)) := by
      rw [List.getElem?_append_left (by rw [pool_len]; exact h5), pool_get h5]
    have h7 := hD.1 _ _ _ _ h6 hlast (by show evz r + (q0 - evz r) = q0; omega)
    omega
  · omega
theorem dflt_ok : ∀ ci, ci < 10 → ∀ j, j < nf ci → defaultValue (tyOf ci j) = (some (if isR ci j then va_rf (((fun _ _ => none : MQ2) 0 j).map (fun x => x)) else .int (0 : Int32))).getD .null := by decide +kernel
theorem x_new {r : Ev} {d : Nat} {y : MethodName} {cc : ByteArray} {mr : Nat × Option FieldType} {b : Nat × Nat} {pc q : Nat} {lv : List (Option Value)} {st : List Value} {n : Nat} {I : MI} {Q : MQ2} {F : Post} {idx ci : Nat} (b2 : Nat × Nat) (hd : DR cc pc (.new idx) 3 q) (f : NW y.cls idx ci) (hk : kd n = ci) (hb : b2.1 + 1 = b.1 ∧ Nat.ble (b2.2 + nf ci) b.2 = true) (k : X r d y cc mr b2 q lv (.ref (evz r + n) :: st) (n + 1) (setRow I n (fun _ => 0)) (setRow Q n (fun _ => none)) F) : X r d y cc mr b pc lv st n I Q F := by
  intro p e s m args below meth c H locs cells slots mc ms R ls Qf C hW hS hl h1 h2 fin
  obtain ⟨hd, rfl⟩ := hd
  obtain ⟨f1, f2, f3, f4⟩ := f
  obtain ⟨g1, g2, g3, g4⟩ := cf_ok ci f1
  have hts := C.2.2.2.2.1
  have hb2 := Nat.le_of_ble_eq_true hb.2
  have hR1 := C.2.2.2.2.2.2.2.2.2.1
  have hR2 := C.2.2.2.2.2.2.2.2.2.2.1
  have hn9 : n + 1 + b2.1 = n + b.1 := by have := hb.1; omega
  refine va_new (ci := ci) (fs := flds (evz r) (fun _ _ => 0) (fun _ _ => none) n) C.1 C.2.1 hts g2 (tyOf ci) g3 C.2.2.2.1 (hts _ f2) (hts _ f3) (hts _ f4) hW.1 hW.2 pool_D hS (fun q0 hq0 => Nat.le_trans C.2.2.2.2.2.2.1 hq0) g1 ?_ (by omega) (by omega) hd (fun q0 H1 hP hD hS1 => ?_)
  · intro j hj
    have h9 : (flds (evz r) (fun _ _ => 0) (fun _ _ => none) n)[j]? = _ := flds_get (by rw [hk]; exact hj)
    show defaultValue (tyOf ci j) = ((flds (evz r) (fun _ _ => 0) (fun _ _ => none) n)).getD j .null
    rw [List.getD_eq_getElem?_getD, h9, hk]
    exact dflt_ok ci f1 j hj
  · intro T hT X0
    have hq0 := x_fresh X0 hT h1.1 hP hD
    subst hq0
    rw [pool_push (I' := setRow I n (fun _ => 0)) (Q' := setRow Q n (fun _ => none)) (by rw [cel_o hk f1]; congr 2; unfold flds; rw [setRow_same, setRow_same]) (fun b hb => cel_cong (setRow_ne (by omega)) (setRow_ne (by omega)))] at hP
    have hb1 := hb.1
    exact k _ _ _ _ _ _ _ _ _ _ _ _ _ _ _ _ _ C ⟨hW.1, hP⟩ hS1 hl ⟨by omega, by omega⟩ (by omega) (by rw [hn9]; exact fin) T hT X0
theorem x_newI {r : Ev} {d : Nat} {y : MethodName} {cc : ByteArray} {mr : Nat × Option FieldType} {b : Nat × Nat} {pc q : Nat} {lv : List (Option Value)} {st : List Value} {n : Nat} {I : MI} {Q : MQ2} {F : Post} {x : Int32} {N : Nat} (b2 : Nat × Nat) (hd : DR cc pc (.newarray .int) 2 q) (hw : Cond.arrayClass .int ∈ wT) (hk : kd n = 11 ∧ nn n = N) (hx : x = nI N) (hb : b2.1 + 1 = b.1 ∧ Nat.ble (b2.2 + N) b.2 = true) (k : X r d y cc mr b2 q lv (.ref (evz r + n) :: st) (n + 1) (setRow I n (fun _ => 0)) (setRow Q n (fun _ => none)) F) : X r d y cc mr b pc lv (.int x :: st) n I Q F := by
  intro p e s m args below meth c H locs cells slots mc ms R ls Qf C hW hS hl h1 h2 fin
  obtain ⟨hd, rfl⟩ := hd
  have hts := C.2.2.2.2.1
  have hb2 := Nat.le_of_ble_eq_true hb.2
  have hR1 := C.2.2.2.2.2.2.2.2.2.1
  have hR2 := C.2.2.2.2.2.2.2.2.2.2.1
  have hn9 : n + 1 + b2.1 = n + b.1 := by have := hb.1; omega
  have hN : N ≤ 208 := by
    rw [← hk.2]
    unfold nn
    rw [List.getD_eq_getElem?_getD]
    cases h : nnL[n]? with
    | none => exact Nat.zero_le _
    | some v => exact nn_all v (List.mem_of_getElem? h)
  subst hx
  refine va_newa (atype := .int) (ty := .int) (N' := N) (a0 := (N, .inl (fun _ => 0))) C.1 C.2.1 (hts _ hw) rfl hW.1 hW.2 pool_D hS (fun q0 hq0 => Nat.le_trans C.2.2.2.2.2.2.1 hq0) (fun cA => rfl) (nI_pos (by omega)) (nI_clamp (by omega)) (by simp [componentBytes]; omega) (by omega) (by omega) hd (fun q0 cA H1 hK1 hP hD hS1 => ?_)
  intro T hT X0
  have hq0 := x_fresh X0 hT h1.1 hP hD
  subst hq0
  have hc : cA = evc r 11 := by
    have e1 := (hK1.2 4 (cA, .int) rfl).2
    have e2 := (hW.1.2 1 (evc r 11, .int) rfl).2
    exact Option.some.inj (e1.symm.trans e2)
  subst hc
  rw [pool_push (I' := setRow I n (fun _ => 0)) (Q' := setRow Q n (fun _ => none)) (by rw [cel_i hk.1 (Or.inr rfl), hk.2, setRow_same]) (fun b hb => cel_cong (setRow_ne (by omega)) (setRow_ne (by omega)))] at hP
  have hb1 := hb.1
  exact k _ _ _ _ _ _ _ _ _ _ _ _ _ _ _ _ _ C ⟨hW.1, hP⟩ hS1 hl ⟨by omega, by omega⟩ (by omega) (by rw [hn9]; exact fin) T hT X0
theorem x_newC {r : Ev} {d : Nat} {y : MethodName} {cc : ByteArray} {mr : Nat × Option FieldType} {b : Nat × Nat} {pc q : Nat} {lv : List (Option Value)} {st : List Value} {n : Nat} {I : MI} {Q : MQ2} {F : Post} {x : Int32} {N : Nat} (b2 : Nat × Nat) (hd : DR cc pc (.newarray .char) 2 q) (hw : Cond.arrayClass .char ∈ wT) (hk : kd n = 10 ∧ nn n = N) (hx : x = nI N) (hb : b2.1 + 1 = b.1 ∧ Nat.ble (b2.2 + N) b.2 = true) (k : X r d y cc mr b2 q lv (.ref (evz r + n) :: st) (n + 1) (setRow I n (fun _ => 0)) (setRow Q n (fun _ => none)) F) : X r d y cc mr b pc lv (.int x :: st) n I Q F := by
  intro p e s m args below meth c H locs cells slots mc ms R ls Qf C hW hS hl h1 h2 fin
  obtain ⟨hd, rfl⟩ := hd
  have hts := C.2.2.2.2.1
  have hb2 := Nat.le_of_ble_eq_true hb.2
  have hR1 := C.2.2.2.2.2.2.2.2.2.1
  have hR2 := C.2.2.2.2.2.2.2.2.2.2.1
  have hn9 : n + 1 + b2.1 = n + b.1 := by have := hb.1; omega
  have hN : N ≤ 208 := by
    rw [← hk.2]
    unfold nn
    rw [List.getD_eq_getElem?_getD]
    cases h : nnL[n]? with
    | none => exact Nat.zero_le _
    | some v => exact nn_all v (List.mem_of_getElem? h)
  subst hx
  refine va_newa (atype := .char) (ty := .char) (N' := N) (a0 := (N, .inl (fun _ => 0))) C.1 C.2.1 (hts _ hw) rfl hW.1 hW.2 pool_D hS (fun q0 hq0 => Nat.le_trans C.2.2.2.2.2.2.1 hq0) (fun cA => rfl) (nI_pos (by omega)) (nI_clamp (by omega)) (by simp [componentBytes]; omega) (by omega) (by omega) hd (fun q0 cA H1 hK1 hP hD hS1 => ?_)
  intro T hT X0
  have hq0 := x_fresh X0 hT h1.1 hP hD
  subst hq0
  have hc : cA = evc r 10 := by
    have e1 := (hK1.2 4 (cA, .char) rfl).2
    have e2 := (hW.1.2 0 (evc r 10, .char) rfl).2
    exact Option.some.inj (e1.symm.trans e2)
  subst hc
  rw [pool_push (I' := setRow I n (fun _ => 0)) (Q' := setRow Q n (fun _ => none)) (by rw [cel_i hk.1 (Or.inl rfl), hk.2, setRow_same]) (fun b hb => cel_cong (setRow_ne (by omega)) (setRow_ne (by omega)))] at hP
  have hb1 := hb.1
  exact k _ _ _ _ _ _ _ _ _ _ _ _ _ _ _ _ _ C ⟨hW.1, hP⟩ hS1 hl ⟨by omega, by omega⟩ (by omega) (by rw [hn9]; exact fin) T hT X0
theorem x_newL {r : Ev} {d : Nat} {y : MethodName} {cc : ByteArray} {mr : Nat × Option FieldType} {b : Nat × Nat} {pc q : Nat} {lv : List (Option Value)} {st : List Value} {n : Nat} {I : MI} {Q : MQ2} {F : Post} {x : Int32} {N idx : Nat} (b2 : Nat × Nat) (hd : DR cc pc (.anewarray idx) 3 q) (hw : Cond.classLink y.cls idx "DewLooms$Loom" ∈ wT) (hk : kd n = 12 ∧ nn n = N) (hx : x = nI N) (hb : b2.1 + 1 = b.1 ∧ Nat.ble (b2.2 + N) b.2 = true) (k : X r d y cc mr b2 q lv (.ref (evz r + n) :: st) (n + 1) (setRow I n (fun _ => 0)) (setRow Q n (fun _ => none)) F) : X r d y cc mr b pc lv (.int x :: st) n I Q F := by
  intro p e s m args below meth c H locs cells slots mc ms R ls Qf C hW hS hl h1 h2 fin
  obtain ⟨hd, rfl⟩ := hd
  have hts := C.2.2.2.2.1
  have hb2 := Nat.le_of_ble_eq_true hb.2
  have hR1 := C.2.2.2.2.2.2.2.2.2.1
  have hR2 := C.2.2.2.2.2.2.2.2.2.2.1
  have hn9 : n + 1 + b2.1 = n + b.1 := by have := hb.1; omega
  have hN : N ≤ 208 := by
    rw [← hk.2]
    unfold nn
    rw [List.getD_eq_getElem?_getD]
    cases h : nnL[n]? with
    | none => exact Nat.zero_le _
    | some v => exact nn_all v (List.mem_of_getElem? h)
  subst hx
  refine va_newq (C := "DewLooms$Loom") (N' := N) C.1 C.2.1 C.2.2.2.1 (hts _ hw) C.2.2.2.2.2.2.2.2.2.2.2.2.1.1 hW.1 hW.2 pool_D hS (fun q0 hq0 => Nat.le_trans C.2.2.2.2.2.2.1 hq0) (nI_pos (by omega)) (nI_clamp (by omega)) (by omega) (by omega) (by omega) hd (fun q0 cA H1 hK1 hP hD hS1 => ?_)
  intro T hT X0
  have hq0 := x_fresh X0 hT h1.1 hP hD
  subst hq0
  have hc : cA = evc r 12 := by
    obtain ⟨_, _, -, -, -, e1⟩ := (hK1.2 4 (cA, .object "DewLooms$Loom") rfl).2
    obtain ⟨_, _, -, -, -, e2⟩ := (hW.1.2 2 (evc r 12, .object "DewLooms$Loom") rfl).2
    exact Option.some.inj (e1.symm.trans e2)
  subst hc
  rw [pool_push (I' := setRow I n (fun _ => 0)) (Q' := setRow Q n (fun _ => none)) (by rw [cel_q hk.1 (Or.inl rfl), hk.2, setRow_same]; rfl) (fun b hb => cel_cong (setRow_ne (by omega)) (setRow_ne (by omega)))] at hP
  have hb1 := hb.1
  exact k _ _ _ _ _ _ _ _ _ _ _ _ _ _ _ _ _ C ⟨hW.1, hP⟩ hS1 hl ⟨by omega, by omega⟩ (by omega) (by rw [hn9]; exact fin) T hT X0
theorem x_newS {r : Ev} {d : Nat} {y : MethodName} {cc : ByteArray} {mr : Nat × Option FieldType} {b : Nat × Nat} {pc q : Nat} {lv : List (Option Value)} {st : List Value} {n : Nat} {I : MI} {Q : MQ2} {F : Post} {x : Int32} {N idx : Nat} (b2 : Nat × Nat) (hd : DR cc pc (.anewarray idx) 3 q) (hw : Cond.classLink y.cls idx "DewLooms$Slope" ∈ wT) (hk : kd n = 13 ∧ nn n = N) (hx : x = nI N) (hb : b2.1 + 1 = b.1 ∧ Nat.ble (b2.2 + N) b.2 = true) (k : X r d y cc mr b2 q lv (.ref (evz r + n) :: st) (n + 1) (setRow I n (fun _ => 0)) (setRow Q n (fun _ => none)) F) : X r d y cc mr b pc lv (.int x :: st) n I Q F := by
  intro p e s m args below meth c H locs cells slots mc ms R ls Qf C hW hS hl h1 h2 fin
  obtain ⟨hd, rfl⟩ := hd
  have hts := C.2.2.2.2.1
  have hb2 := Nat.le_of_ble_eq_true hb.2
  have hR1 := C.2.2.2.2.2.2.2.2.2.1
  have hR2 := C.2.2.2.2.2.2.2.2.2.2.1
  have hn9 : n + 1 + b2.1 = n + b.1 := by have := hb.1; omega
  have hN : N ≤ 208 := by
    rw [← hk.2]
    unfold nn
    rw [List.getD_eq_getElem?_getD]
    cases h : nnL[n]? with
    | none => exact Nat.zero_le _
    | some v => exact nn_all v (List.mem_of_getElem? h)
  subst hx
  refine va_newq (C := "DewLooms$Slope") (N' := N) C.1 C.2.1 C.2.2.2.1 (hts _ hw) C.2.2.2.2.2.2.2.2.2.2.2.2.1.2 hW.1 hW.2 pool_D hS (fun q0 hq0 => Nat.le_trans C.2.2.2.2.2.2.1 hq0) (nI_pos (by omega)) (nI_clamp (by omega)) (by omega) (by omega) (by omega) hd (fun q0 cA H1 hK1 hP hD hS1 => ?_)
  intro T hT X0
  have hq0 := x_fresh X0 hT h1.1 hP hD
  subst hq0
  have hc : cA = evc r 13 := by
    obtain ⟨_, _, -, -, -, e1⟩ := (hK1.2 4 (cA, .object "DewLooms$Slope") rfl).2
    obtain ⟨_, _, -, -, -, e2⟩ := (hW.1.2 3 (evc r 13, .object "DewLooms$Slope") rfl).2
    exact Option.some.inj (e1.symm.trans e2)
  subst hc
  rw [pool_push (I' := setRow I n (fun _ => 0)) (Q' := setRow Q n (fun _ => none)) (by rw [cel_q hk.1 (Or.inr rfl), hk.2, setRow_same]; rfl) (fun b hb => cel_cong (setRow_ne (by omega)) (setRow_ne (by omega)))] at hP
  have hb1 := hb.1
  exact k _ _ _ _ _ _ _ _ _ _ _ _ _ _ _ _ _ C ⟨hW.1, hP⟩ hS1 hl ⟨by omega, by omega⟩ (by omega) (by rw [hn9]; exact fin) T hT X0
def OI (own : String) (idx : Nat) : Prop := Cond.methodLink own idx Lib.objectInit ∈ wT ∧ Cond.instanceMethod Lib.objectInit ∈ wT ∧ Cond.code Lib.objectInit ⟨#[0xb1]⟩ 1 none ∈ wT
theorem sum8 {st : List Value} (h : Fits8 st) : (st.map (fun v => v.category)).sum ≤ 8 := Nat.le_of_ble_eq_true h
theorem x_objinit {r : Ev} {d : Nat} {y : MethodName} {cc : ByteArray} {mr : Nat × Option FieldType} {b : Nat × Nat} {pc q : Nat} {lv : List (Option Value)} {st : List Value} {n : Nat} {I : MI} {Q : MQ2} {F : Post} {idx a : Nat} (hd : DR cc pc (.invokespecial idx) 3 q) (f : OI y.cls idx) (k : X r d y cc mr b q lv st n I Q F) (hdd : Nat.ble 1 d = true := by rfl) (hst : Fits8 st := by rfl) : X r d y cc mr b pc lv (.ref a :: st) n I Q F := by
  intro p e s m args below meth c H locs cells slots mc ms R ls Qf C hW hS hl h1 h2 fin
  obtain ⟨hd, rfl⟩ := hd
  have hts := C.2.2.2.2.1
  have hR1 := C.2.2.2.2.2.2.2.1
  have hR2 := C.2.2.2.2.2.2.2.2.1
  have hd1 := Nat.le_of_ble_eq_true hdd
  have h8 := sum8 hst
  exact W.objInit C.1 C.2.1 C.2.2.2.1 (hts _ f.1) (hts _ f.2.1) (hts _ f.2.2) rfl (hl.1.trans C.2.2.1.symm) rfl hd (by omega) (by show 2 * 0 + _ + 12 ≤ _; omega) (k _ _ _ _ _ _ _ _ _ _ _ _ _ _ _ _ _ C hW hS hl h1 h2 fin)
def M_max (own : String) (idx : Nat) : Prop := Cond.methodLink own idx Lib.Math.max.name ∈ wT ∧ Cond.static Lib.Math.max.name ∈ wT ∧ Cond.initialized "java/lang/Math" ∈ wT ∧ Cond.code Lib.Math.max.name Lib.Math.max.code 2 (some .int) ∈ wT
theorem x_max {r : Ev} {d : Nat} {y : MethodName} {cc : ByteArray} {mr : Nat × Option FieldType} {b : Nat × Nat} {pc q : Nat} {lv : List (Option Value)} {st : List Value} {n : Nat} {I : MI} {Q : MQ2} {F : Post} {idx : Nat} {x x2 : Int32} (hd : DR cc pc (.invokestatic idx) 3 q) (f : M_max y.cls idx) (k : X r d y cc mr b q lv (.int (if x < x2 then x2 else x) :: st) n I Q F) (hdd : Nat.ble 1 d = true := by rfl) (hst : Fits8 st := by rfl) : X r d y cc mr b pc lv (.int x2 :: .int x :: st) n I Q F := by
  intro p e s m args below meth c H locs cells slots mc ms R ls Qf C hW hS hl h1 h2 fin
  obtain ⟨hd, rfl⟩ := hd
  have hts := C.2.2.2.2.1
  have hR1 := C.2.2.2.2.2.2.2.1
  have hR2 := C.2.2.2.2.2.2.2.2.1
  have hR3 := C.2.2.2.2.2.2.2.2.2.1
  have hR4 := C.2.2.2.2.2.2.2.2.2.2.1
  have hd1 := Nat.le_of_ble_eq_true hdd
  have h8 := sum8 hst
  exact va_mmax C.1 C.2.1 (C.2.2.1.trans hl.1.symm) C.2.2.2.1 (hts _ f.1) (hts _ f.2.1) (hts _ f.2.2.1) (hts _ f.2.2.2) (by omega) (by omega) (by omega) (by omega) hd (k _ _ _ _ _ _ _ _ _ _ _ _ _ _ _ _ _ C hW hS hl h1 h2 fin)
def M_min (own : String) (idx : Nat) : Prop := Cond.methodLink own idx Lib.Math.min.name ∈ wT ∧ Cond.static Lib.Math.min.name ∈ wT ∧ Cond.initialized "java/lang/Math" ∈ wT ∧ Cond.code Lib.Math.min.name Lib.Math.min.code 2 (some .int) ∈ wT
theorem x_min {r : Ev} {d : Nat} {y : MethodName} {cc : ByteArray} {mr : Nat × Option FieldType} {b : Nat × Nat} {pc q : Nat} {lv : List (Option Value)} {st : List Value} {n : Nat} {I : MI} {Q : MQ2} {F : Post} {idx : Nat} {x x2 : Int32} (hd : DR cc pc (.invokestatic idx) 3 q) (f : M_min y.cls idx) (k : X r d y cc mr b q lv (.int (if x2 < x then x2 else x) :: st) n I Q F) (hdd : Nat.ble 1 d = true := by rfl) (hst : Fits8 st := by rfl) : X r d y cc mr b pc lv (.int x2 :: .int x :: st) n I Q F := by
  intro p e s m args below meth c H locs cells slots mc ms R ls Qf C hW hS hl h1 h2 fin
  obtain ⟨hd, rfl⟩ := hd
  have hts := C.2.2.2.2.1
  have hR1 := C.2.2.2.2.2.2.2.1
  have hR2 := C.2.2.2.2.2.2.2.2.1
  have hR3 := C.2.2.2.2.2.2.2.2.2.1
  have hR4 := C.2.2.2.2.2.2.2.2.2.2.1
  have hd1 := Nat.le_of_ble_eq_true hdd
  have h8 := sum8 hst
  exact va_mmin C.1 C.2.1 (C.2.2.1.trans hl.1.symm) C.2.2.2.1 (hts _ f.1) (hts _ f.2.1) (hts _ f.2.2.1) (hts _ f.2.2.2) (by omega) (by omega) (by omega) (by omega) hd (k _ _ _ _ _ _ _ _ _ _ _ _ _ _ _ _ _ C hW hS hl h1 h2 fin)
def AC (own : String) (idx : Nat) : Prop := Cond.methodLink own idx arraycopyName ∈ wT ∧ Cond.native arraycopyName ∈ wT ∧ Cond.static arraycopyName ∈ wT ∧ Cond.initialized "java/lang/System" ∈ wT
def cpN (I : MI) (a0 a1 N : Nat) : MI := setRow I a1 (fun k => if k < N then I a0 k else I a1 k)
theorem cpN_row (I : MI) (a0 a1 N : Nat) : cpN I a0 a1 N a1 = va_cpy (I a0) (I a1) 0 0 N := by
  unfold cpN
  rw [setRow_same]
  funext j
  simp [va_cpy]
theorem x_acopy {r : Ev} {d : Nat} {y : MethodName} {cc : ByteArray} {mr : Nat × Option FieldType} {b : Nat × Nat} {pc q : Nat} {lv : List (Option Value)} {st : List Value} {n : Nat} {I : MI} {Q : MQ2} {F : Post} {idx a0 a1 N N0 N1 : Nat} {x : Int32} (hd : DR cc pc (.invokestatic idx) 3 q) (f : AC y.cls idx) (ha0 : Ar n 11 a0 N0) (ha1 : Ar n 11 a1 N1) (hx : x = nI N) (hN0 : N ≤ N0) (hN1 : N ≤ N1) (k : X r d y cc mr b q lv st n (cpN I a0 a1 N) Q F) (hdd : Nat.ble 1 d = true := by rfl) (hst : Fits8 st := by rfl) : X r d y cc mr b pc lv (.int x :: .int 0 :: .ref (evz r + a1) :: .int 0 :: .ref (evz r + a0) :: st) n I Q F := by
  intro p e s m args below meth c H locs cells slots mc ms R ls Qf C hW hS hl h1 h2 fin
  obtain ⟨hd, rfl⟩ := hd
  have hts := C.2.2.2.2.1
  have hR1 := C.2.2.2.2.2.2.2.1
  have hR2 := C.2.2.2.2.2.2.2.2.1
  have hd1 := Nat.le_of_ble_eq_true hdd
  have h8 := sum8 hst
  have hN := ha0.lt
  subst hx
  have hc : (nI N).toNatClampNeg = N := nI_clamp (by omega)
  have h0 : (0 : Int32).toNatClampNeg = 0 := rfl
  have hnw : nativeFrameWords "java/lang/System" "arraycopy" 5 + 11 ≤ 32 := Nat.le_of_ble_eq_true rfl
  refine va_copyi C.1 C.2.1 (C.2.2.1.trans hl.1.symm) C.2.2.2.1 (hts _ f.1) (hts _ f.2.1) (hts _ f.2.2.1) (hts _ f.2.2.2) hW.1 hW.2 pool_D hS a0 a1 1 1 (ty := .int) (wd_ai ha0 (Or.inr rfl)) (wd_ai ha1 (Or.inr rfl)) rfl rfl rfl (by decide) (by decide) (nI_pos (by omega)) (by rw [hc, h0]; omega) (by rw [hc, h0]; omega) (fun i hi => rfl) (by omega) (by omega) hd (fun H1 locs1 hP hD hS1 => ?_)
  rw [hc, h0, pool_set (I' := cpN I a0 a1 N) (Q' := Q) ha1.2.2 (by rw [cel_i ha1.1 (Or.inr rfl), ha1.2.1]; rw [cpN_row]) (fun b hb => cel_cong (setRow_ne hb) rfl)] at hP
  exact k _ _ _ _ _ _ _ _ _ _ _ _ _ _ _ _ _ C ⟨hW.1, hP⟩ hS1 hl h1 h2 fin
theorem x_ldc2 {r : Ev} {d : Nat} {y : MethodName} {cc : ByteArray} {mr : Nat × Option FieldType} {b : Nat × Nat} {pc q : Nat} {lv : List (Option Value)} {st : List Value} {n : Nat} {I : MI} {Q : MQ2} {F : Post} {idx : Nat} {v : Int64} (hd : DR cc pc (.ldc2_w idx) 3 q) (f : Cond.constantLong y.cls idx v ∈ wT) (k : X r d y cc mr b q lv (.long v :: st) n I Q F) : X r d y cc mr b pc lv st n I Q F := by
  intro p e s m args below meth c H locs cells slots mc ms R ls Qf C hW hS hl h1 h2 fin
  obtain ⟨hd, rfl⟩ := hd
  exact lv_ldc2 C.1 C.2.1 C.2.2.2.1 (C.2.2.2.2.1 _ f) hd (k _ _ _ _ _ _ _ _ _ _ _ _ _ _ _ _ _ C hW hS hl h1 h2 fin)
theorem x_ldcw {r : Ev} {d : Nat} {y : MethodName} {cc : ByteArray} {mr : Nat × Option FieldType} {b : Nat × Nat} {pc q : Nat} {lv : List (Option Value)} {st : List Value} {n : Nat} {I : MI} {Q : MQ2} {F : Post} {idx : Nat} {v : Int32} (hd : DR cc pc (.ldc_w idx) 3 q) (f : Cond.constant y.cls idx v ∈ wT) (k : X r d y cc mr b q lv (.int v :: st) n I Q F) : X r d y cc mr b pc lv st n I Q F := by
  intro p e s m args below meth c H locs cells slots mc ms R ls Qf C hW hS hl h1 h2 fin
  obtain ⟨hd, rfl⟩ := hd
  exact lv_ldcw C.1 C.2.1 C.2.2.2.1 (C.2.2.2.2.1 _ f) hd (k _ _ _ _ _ _ _ _ _ _ _ _ _ _ _ _ _ C hW hS hl h1 h2 fin)
theorem x_ldc {r : Ev} {d : Nat} {y : MethodName} {cc : ByteArray} {mr : Nat × Option FieldType} {b : Nat × Nat} {pc q : Nat} {lv : List (Option Value)} {st : List Value} {n : Nat} {I : MI} {Q : MQ2} {F : Post} {idx : Nat} {v : Int32} (hd : DR cc pc (.ldc idx) 2 q) (f : Cond.constant y.cls idx v ∈ wT) (k : X r d y cc mr b q lv (.int v :: st) n I Q F) : X r d y cc mr b pc lv st n I Q F := by
  intro p e s m args below meth c H locs cells slots mc ms R ls Qf C hW hS hl h1 h2 fin
  obtain ⟨hd, rfl⟩ := hd
  exact lv_ldc C.1 C.2.1 C.2.2.2.1 (C.2.2.2.2.1 _ f) hd (k _ _ _ _ _ _ _ _ _ _ _ _ _ _ _ _ _ C hW hS hl h1 h2 fin)
theorem x_tsIn {r : Ev} {d : Nat} {y : MethodName} {cc : ByteArray} {mr : Nat × Option FieldType} {b : Nat × Nat} {pc q : Nat} {lv : List (Option Value)} {st : List Value} {n : Nat} {I : MI} {Q : MQ2} {F : Post} {dflt lo hi off : Int} {offs : Array Int} {len t : Nat} {x : Int32} (hd : DR cc pc (.tableswitch dflt lo hi offs) len q) (g1 : ¬ x.toInt < lo) (g2 : ¬ hi < x.toInt) (ho : offs[(x.toInt - lo).toNat]? = some off) (ht : (pc : Int) + off = (t : Int)) (k : X r d y cc mr b t lv st n I Q F) : X r d y cc mr b pc lv (.int x :: st) n I Q F := by
  intro p e s m args below meth c H locs cells slots mc ms R ls Qf C hW hS hl h1 h2 fin
  exact lv_tableIn C.1 C.2.1 hd.1 g1 g2 ho ht (k _ _ _ _ _ _ _ _ _ _ _ _ _ _ _ _ _ C hW hS hl h1 h2 fin)
theorem x_tsOut {r : Ev} {d : Nat} {y : MethodName} {cc : ByteArray} {mr : Nat × Option FieldType} {b : Nat × Nat} {pc q : Nat} {lv : List (Option Value)} {st : List Value} {n : Nat} {I : MI} {Q : MQ2} {F : Post} {dflt lo hi : Int} {offs : Array Int} {len t : Nat} {x : Int32} (hd : DR cc pc (.tableswitch dflt lo hi offs) len q) (g : x.toInt < lo ∨ hi < x.toInt) (ht : (pc : Int) + dflt = (t : Int)) (k : X r d y cc mr b t lv st n I Q F) : X r d y cc mr b pc lv (.int x :: st) n I Q F := by
  intro p e s m args below meth c H locs cells slots mc ms R ls Qf C hW hS hl h1 h2 fin
  exact lv_tableOut C.1 C.2.1 hd.1 g ht (k _ _ _ _ _ _ _ _ _ _ _ _ _ _ _ _ _ C hW hS hl h1 h2 fin)
theorem x_ls {r : Ev} {d : Nat} {y : MethodName} {cc : ByteArray} {mr : Nat × Option FieldType} {b : Nat × Nat} {pc q : Nat} {lv : List (Option Value)} {st : List Value} {n : Nat} {I : MI} {Q : MQ2} {F : Post} {dflt off : Int} {ps : Array (Int × Int)} {len t : Nat} {x : Int32} (hd : DR cc pc (.lookupswitch dflt ps) len q) (hp : (ps.toList.zip (ps.toList.drop 1)).all (fun (a, next) => a.1 < next.1) = true) (ho : Op.lookupswitch.offset ps.toList dflt x.toInt = off) (ht : (pc : Int) + off = (t : Int)) (k : X r d y cc mr b t lv st n I Q F) : X r d y cc mr b pc lv (.int x :: st) n I Q F := by
  intro p e s m args below meth c H locs cells slots mc ms R ls Qf C hW hS hl h1 h2 fin
  exact lv_lookup C.1 C.2.1 hd.1 hp ho ht (k _ _ _ _ _ _ _ _ _ _ _ _ _ _ _ _ _ C hW hS hl h1 h2 fin)
end
section
/-! what the tables say of the fields and methods that the code names -/
theorem m_X0_3 : OI RX0 3 := ⟨tw 115 (by decide +kernel) (by decide +kernel), tw 71 (by decide +kernel) (by decide +kernel), tw 72 (by decide +kernel) (by decide +kernel)⟩
theorem f_X0_9 : FI RX0 9 0 0 := ⟨by decide, by decide, rfl, Or.inl (tw 116 (by decide +kernel) (by decide +kernel))⟩
theorem f_X0_15 : FI RX0 15 0 1 := ⟨by decide, by decide, rfl, Or.inl (tw 117 (by decide +kernel) (by decide +kernel))⟩
theorem f_X0_18 : FI RX0 18 0 2 := ⟨by decide, by decide, rfl, Or.inl (tw 121 (by decide +kernel) (by decide +kernel))⟩
theorem f_X0_21 : FI RX0 21 0 3 := ⟨by decide, by decide, rfl, Or.inl (tw 123 (by decide +kernel) (by decide +kernel))⟩
theorem f_X0_24 : FI RX0 24 0 4 := ⟨by decide, by decide, rfl, Or.inl (tw 127 (by decide +kernel) (by decide +kernel))⟩
theorem f_X0_27 : FI RX0 27 0 5 := ⟨by decide, by decide, rfl, Or.inl (tw 130 (by decide +kernel) (by decide +kernel))⟩
theorem f_X0_30 : FI RX0 30 0 6 := ⟨by decide, by decide, rfl, Or.inl (tw 133 (by decide +kernel) (by decide +kernel))⟩
theorem m_X0_34 : MFV RX0 34 yX0_holds cX0_holds (1, (some .int)) 0 := ⟨⟨tw 52 (by decide +kernel) (by decide +kernel), tw 555 (by decide +kernel) (by decide +kernel), ⟨by decide +kernel, by decide +kernel, by decide +kernel⟩, by decide⟩, (tw 552 (by decide +kernel) (by decide +kernel)), tw 553 (by decide +kernel) (by decide +kernel), tw 554 (by decide +kernel) (by decide +kernel)⟩
theorem m_X0_38 : M_min RX0 38 := ⟨tw 556 (by decide +kernel) (by decide +kernel), tw 501 (by decide +kernel) (by decide +kernel), tw 54 (by decide +kernel) (by decide +kernel), tw 502 (by decide +kernel) (by decide +kernel)⟩
theorem m_X0_44 : MFV RX0 44 yX0_settling cX0_settling (4, (some .int)) 2 := ⟨⟨tw 52 (by decide +kernel) (by decide +kernel), tw 551 (by decide +kernel) (by decide +kernel), ⟨by decide +kernel, by decide +kernel, by decide +kernel⟩, by decide⟩, (tw 548 (by decide +kernel) (by decide +kernel)), tw 550 (by decide +kernel) (by decide +kernel), tw 7 (by decide +kernel) (by decide +kernel)⟩
theorem m_X0_47 : M_max RX0 47 := ⟨tw 565 (by decide +kernel) (by decide +kernel), tw 178 (by decide +kernel) (by decide +kernel), tw 54 (by decide +kernel) (by decide +kernel), tw 179 (by decide +kernel) (by decide +kernel)⟩
theorem m_X1_3 : OI RX1 3 := ⟨tw 236 (by decide +kernel) (by decide +kernel), tw 71 (by decide +kernel) (by decide +kernel), tw 72 (by decide +kernel) (by decide +kernel)⟩
theorem n_X1_9 : NW RX1 9 5 := ⟨by decide, tw 237 (by decide +kernel) (by decide +kernel), tw 104 (by decide +kernel) (by decide +kernel), tw 51 (by decide +kernel) (by decide +kernel)⟩
theorem m_X1_11 : MFI RX1 11 yX5_init cX5_init (2, none) 0 := ⟨⟨tw 51 (by decide +kernel) (by decide +kernel), tw 107 (by decide +kernel) (by decide +kernel), ⟨by decide +kernel, by decide +kernel, by decide +kernel⟩, by decide⟩, Or.inl (tw 238 (by decide +kernel) (by decide +kernel)), tw 106 (by decide +kernel) (by decide +kernel), rfl⟩
theorem f_X1_12 : FR RX1 12 1 0 := ⟨by decide, by decide, rfl, Or.inl (tw 239 (by decide +kernel) (by decide +kernel))⟩
theorem f_X1_12_l : Cond.fieldLink RX1 12 (clT 1 0).1 (clT 1 0).2.1 (clT 1 0).2.2.1 ∈ wT := tw 239 (by decide +kernel) (by decide +kernel)
theorem f_X1_18 : FR RX1 18 1 1 := ⟨by decide, by decide, rfl, Or.inl (tw 242 (by decide +kernel) (by decide +kernel))⟩
theorem f_X1_18_l : Cond.fieldLink RX1 18 (clT 1 1).1 (clT 1 1).2.1 (clT 1 1).2.2.1 ∈ wT := tw 242 (by decide +kernel) (by decide +kernel)
theorem f_X1_22 : FR RX1 22 1 2 := ⟨by decide, by decide, rfl, Or.inl (tw 243 (by decide +kernel) (by decide +kernel))⟩
theorem f_X1_22_l : Cond.fieldLink RX1 22 (clT 1 2).1 (clT 1 2).2.1 (clT 1 2).2.2.1 ∈ wT := tw 243 (by decide +kernel) (by decide +kernel)
theorem m_X1_25 : MFV RX1 25 yX5_clear cX5_clear (1, none) 0 := ⟨⟨tw 51 (by decide +kernel) (by decide +kernel), tw 333 (by decide +kernel) (by decide +kernel), ⟨by decide +kernel, by decide +kernel, by decide +kernel⟩, by decide⟩, (tw 330 (by decide +kernel) (by decide +kernel)), tw 331 (by decide +kernel) (by decide +kernel), tw 332 (by decide +kernel) (by decide +kernel)⟩
theorem f_X1_28 : FI RX1 28 1 3 := ⟨by decide, by decide, rfl, Or.inl (tw 244 (by decide +kernel) (by decide +kernel))⟩
theorem f_X1_32 : FI RX1 32 1 4 := ⟨by decide, by decide, rfl, Or.inl (tw 245 (by decide +kernel) (by decide +kernel))⟩
theorem f_X1_35 : FI RX1 35 1 5 := ⟨by decide, by decide, rfl, Or.inl (tw 246 (by decide +kernel) (by decide +kernel))⟩
theorem f_X1_38 : FI RX1 38 1 6 := ⟨by decide, by decide, rfl, Or.inl (tw 248 (by decide +kernel) (by decide +kernel))⟩
theorem m_X1_41 : MFS RX1 41 yX8_isOutside cX8_isOutside (3, (some .boolean)) 3 := ⟨⟨tw 48 (by decide +kernel) (by decide +kernel), tw 362 (by decide +kernel) (by decide +kernel), ⟨by decide +kernel, by decide +kernel, by decide +kernel⟩, by decide⟩, Or.inr (tn 387 (by decide +kernel) (by decide +kernel)), tw 361 (by decide +kernel) (by decide +kernel)⟩
theorem m_X1_45 : MFV RX1 45 yX1_ofHour cX1_ofHour (5, (some .int)) 3 := ⟨⟨tw 57 (by decide +kernel) (by decide +kernel), tw 499 (by decide +kernel) (by decide +kernel), ⟨by decide +kernel, by decide +kernel, by decide +kernel⟩, by decide⟩, (tw 496 (by decide +kernel) (by decide +kernel)), tw 498 (by decide +kernel) (by decide +kernel), tw 5 (by decide +kernel) (by decide +kernel)⟩
theorem m_X1_49 : M_min RX1 49 := ⟨tw 500 (by decide +kernel) (by decide +kernel), tw 501 (by decide +kernel) (by decide +kernel), tw 54 (by decide +kernel) (by decide +kernel), tw 502 (by decide +kernel) (by decide +kernel)⟩
theorem f_X1_55 : FI RX1 55 5 3 := ⟨by decide, by decide, rfl, Or.inr (tn 157 (by decide +kernel) (by decide +kernel))⟩
theorem m_X1_58 : MFV RX1 58 yX1_coldOf cX1_coldOf (2, (some .int)) 1 := ⟨⟨tw 57 (by decide +kernel) (by decide +kernel), tw 495 (by decide +kernel) (by decide +kernel), ⟨by decide +kernel, by decide +kernel, by decide +kernel⟩, by decide⟩, (tw 534 (by decide +kernel) (by decide +kernel)), tw 493 (by decide +kernel) (by decide +kernel), tw 494 (by decide +kernel) (by decide +kernel)⟩
theorem m_X1_62 : MFV RX1 62 yX1_mistOf cX1_mistOf (2, (some .int)) 1 := ⟨⟨tw 57 (by decide +kernel) (by decide +kernel), tw 506 (by decide +kernel) (by decide +kernel), ⟨by decide +kernel, by decide +kernel, by decide +kernel⟩, by decide⟩, (tw 535 (by decide +kernel) (by decide +kernel)), tw 504 (by decide +kernel) (by decide +kernel), tw 505 (by decide +kernel) (by decide +kernel)⟩
theorem m_X1_65 : MFV RX1 65 yX1_goByOne cX1_goByOne (4, none) 3 := ⟨⟨tw 57 (by decide +kernel) (by decide +kernel), tw 539 (by decide +kernel) (by decide +kernel), ⟨by decide +kernel, by decide +kernel, by decide +kernel⟩, by decide⟩, (tw 536 (by decide +kernel) (by decide +kernel)), tw 537 (by decide +kernel) (by decide +kernel), tw 538 (by decide +kernel) (by decide +kernel)⟩
theorem m_X1_69 : MFV RX1 69 yX5_gather cX5_gather (6, none) 2 := ⟨⟨tw 51 (by decide +kernel) (by decide +kernel), tw 543 (by decide +kernel) (by decide +kernel), ⟨by decide +kernel, by decide +kernel, by decide +kernel⟩, by decide⟩, (tw 540 (by decide +kernel) (by decide +kernel)), tw 541 (by decide +kernel) (by decide +kernel), tw 542 (by decide +kernel) (by decide +kernel)⟩
theorem m_X1_73 : MFV RX1 73 yX5_dry cX5_dry (2, none) 0 := ⟨⟨tw 51 (by decide +kernel) (by decide +kernel), tw 560 (by decide +kernel) (by decide +kernel), ⟨by decide +kernel, by decide +kernel, by decide +kernel⟩, by decide⟩, (tw 557 (by decide +kernel) (by decide +kernel)), tw 558 (by decide +kernel) (by decide +kernel), tw 559 (by decide +kernel) (by decide +kernel)⟩
theorem m_X2_1 : OI RX2 1 := ⟨tw 176 (by decide +kernel) (by decide +kernel), tw 71 (by decide +kernel) (by decide +kernel), tw 72 (by decide +kernel) (by decide +kernel)⟩
theorem m_X2_7 : M_max RX2 7 := ⟨tw 177 (by decide +kernel) (by decide +kernel), tw 178 (by decide +kernel) (by decide +kernel), tw 54 (by decide +kernel) (by decide +kernel), tw 179 (by decide +kernel) (by decide +kernel)⟩
theorem a_X2_13 : Cond.classLink RX2 13 "DewLooms$Slope" ∈ wT := tw 180 (by decide +kernel) (by decide +kernel)
theorem f_X2_15 : FR RX2 15 2 0 := ⟨by decide, by decide, rfl, Or.inl (tw 183 (by decide +kernel) (by decide +kernel))⟩
theorem f_X2_15_l : Cond.fieldLink RX2 15 (clT 2 0).1 (clT 2 0).2.1 (clT 2 0).2.2.1 ∈ wT := tw 183 (by decide +kernel) (by decide +kernel)
theorem n_X2_13 : NW RX2 13 5 := ⟨by decide, tw 180 (by decide +kernel) (by decide +kernel), tw 104 (by decide +kernel) (by decide +kernel), tw 51 (by decide +kernel) (by decide +kernel)⟩
theorem m_X2_21 : MFI RX2 21 yX5_init cX5_init (2, none) 0 := ⟨⟨tw 51 (by decide +kernel) (by decide +kernel), tw 107 (by decide +kernel) (by decide +kernel), ⟨by decide +kernel, by decide +kernel, by decide +kernel⟩, by decide⟩, Or.inl (tw 182 (by decide +kernel) (by decide +kernel)), tw 106 (by decide +kernel) (by decide +kernel), rfl⟩
theorem f_X2_22 : FI RX2 22 2 1 := ⟨by decide, by decide, rfl, Or.inl (tw 184 (by decide +kernel) (by decide +kernel))⟩
theorem m_X2_26 : MFV RX2 26 yX2_isFull cX2_isFull (1, (some .boolean)) 0 := ⟨⟨tw 53 (by decide +kernel) (by decide +kernel), tw 524 (by decide +kernel) (by decide +kernel), ⟨by decide +kernel, by decide +kernel, by decide +kernel⟩, by decide⟩, (tw 521 (by decide +kernel) (by decide +kernel)), tw 522 (by decide +kernel) (by decide +kernel), tw 523 (by decide +kernel) (by decide +kernel)⟩
theorem m_X2_30 : MFV RX2 30 yX2_loseOldest cX2_loseOldest (3, none) 0 := ⟨⟨tw 53 (by decide +kernel) (by decide +kernel), tw 528 (by decide +kernel) (by decide +kernel), ⟨by decide +kernel, by decide +kernel, by decide +kernel⟩, by decide⟩, (tw 525 (by decide +kernel) (by decide +kernel)), tw 527 (by decide +kernel) (by decide +kernel), tw 6 (by decide +kernel) (by decide +kernel)⟩
theorem m_X2_33 : MFV RX2 33 yX5_copy cX5_copy (3, none) 1 := ⟨⟨tw 51 (by decide +kernel) (by decide +kernel), tw 403 (by decide +kernel) (by decide +kernel), ⟨by decide +kernel, by decide +kernel, by decide +kernel⟩, by decide⟩, (tw 529 (by decide +kernel) (by decide +kernel)), tw 401 (by decide +kernel) (by decide +kernel), tw 402 (by decide +kernel) (by decide +kernel)⟩
theorem m_X3_3 : OI RX3 3 := ⟨tw 94 (by decide +kernel) (by decide +kernel), tw 71 (by decide +kernel) (by decide +kernel), tw 72 (by decide +kernel) (by decide +kernel)⟩
theorem f_X3_9 : FR RX3 9 3 0 := ⟨by decide, by decide, rfl, Or.inl (tw 95 (by decide +kernel) (by decide +kernel))⟩
theorem f_X3_9_l : Cond.fieldLink RX3 9 (clT 3 0).1 (clT 3 0).2.1 (clT 3 0).2.2.1 ∈ wT := tw 95 (by decide +kernel) (by decide +kernel)
theorem m_X3_15 : MFV RX3 15 yX1_clear cX1_clear (1, none) 0 := ⟨⟨tw 57 (by decide +kernel) (by decide +kernel), tw 329 (by decide +kernel) (by decide +kernel), ⟨by decide +kernel, by decide +kernel, by decide +kernel⟩, by decide⟩, (tw 326 (by decide +kernel) (by decide +kernel)), tw 327 (by decide +kernel) (by decide +kernel), tw 328 (by decide +kernel) (by decide +kernel)⟩
theorem f_X3_20 : FI RX3 20 3 1 := ⟨by decide, by decide, rfl, Or.inl (tw 96 (by decide +kernel) (by decide +kernel))⟩
theorem f_X3_24 : FI RX3 24 6 1 := ⟨by decide, by decide, rfl, Or.inr (tn 81 (by decide +kernel) (by decide +kernel))⟩
theorem m_X3_29 : MFV RX3 29 yX6_letterOn cX6_letterOn (2, (some .int)) 1 := ⟨⟨tw 49 (by decide +kernel) (by decide +kernel), tw 337 (by decide +kernel) (by decide +kernel), ⟨by decide +kernel, by decide +kernel, by decide +kernel⟩, by decide⟩, (tw 334 (by decide +kernel) (by decide +kernel)), tw 335 (by decide +kernel) (by decide +kernel), tw 336 (by decide +kernel) (by decide +kernel)⟩
theorem m_X3_33 : MFS RX3 33 yX3_numbersBehind cX3_numbersBehind (1, (some .int)) 1 := ⟨⟨tw 50 (by decide +kernel) (by decide +kernel), tw 340 (by decide +kernel) (by decide +kernel), ⟨by decide +kernel, by decide +kernel, by decide +kernel⟩, by decide⟩, Or.inl (tw 338 (by decide +kernel) (by decide +kernel)), tw 339 (by decide +kernel) (by decide +kernel)⟩
theorem m_X3_36 : MFV RX3 36 yX3_readNumbers cX3_readNumbers (5, (some .boolean)) 2 := ⟨⟨tw 50 (by decide +kernel) (by decide +kernel), tw 344 (by decide +kernel) (by decide +kernel), ⟨by decide +kernel, by decide +kernel, by decide +kernel⟩, by decide⟩, (tw 341 (by decide +kernel) (by decide +kernel)), tw 343 (by decide +kernel) (by decide +kernel), tw 1 (by decide +kernel) (by decide +kernel)⟩
theorem m_X3_40 : MFV RX3 40 yX3_tellNight cX3_tellNight (3, (some .boolean)) 2 := ⟨⟨tw 50 (by decide +kernel) (by decide +kernel), tw 355 (by decide +kernel) (by decide +kernel), ⟨by decide +kernel, by decide +kernel, by decide +kernel⟩, by decide⟩, (tw 352 (by decide +kernel) (by decide +kernel)), tw 354 (by decide +kernel) (by decide +kernel), tw 3 (by decide +kernel) (by decide +kernel)⟩
theorem m_X3_44 : MFS RX3 44 yX3_isFigure cX3_isFigure (1, (some .boolean)) 1 := ⟨⟨tw 50 (by decide +kernel) (by decide +kernel), tw 347 (by decide +kernel) (by decide +kernel), ⟨by decide +kernel, by decide +kernel, by decide +kernel⟩, by decide⟩, Or.inl (tw 345 (by decide +kernel) (by decide +kernel)), tw 346 (by decide +kernel) (by decide +kernel)⟩
theorem m_X3_48 : MFV RX3 48 yX3_readNumber cX3_readNumber (3, (some .int)) 1 := ⟨⟨tw 50 (by decide +kernel) (by decide +kernel), tw 351 (by decide +kernel) (by decide +kernel), ⟨by decide +kernel, by decide +kernel, by decide +kernel⟩, by decide⟩, (tw 348 (by decide +kernel) (by decide +kernel)), tw 350 (by decide +kernel) (by decide +kernel), tw 2 (by decide +kernel) (by decide +kernel)⟩
theorem f_X3_52 : FR RX3 52 1 0 := ⟨by decide, by decide, rfl, Or.inr (tn 240 (by decide +kernel) (by decide +kernel))⟩
theorem m_X3_56 : MFV RX3 56 yX5_addLoom cX5_addLoom (4, (some .boolean)) 3 := ⟨⟨tw 51 (by decide +kernel) (by decide +kernel), tw 359 (by decide +kernel) (by decide +kernel), ⟨by decide +kernel, by decide +kernel, by decide +kernel⟩, by decide⟩, (tw 356 (by decide +kernel) (by decide +kernel)), tw 357 (by decide +kernel) (by decide +kernel), tw 358 (by decide +kernel) (by decide +kernel)⟩
theorem m_X3_62 : MFV RX3 62 yX1_addHour cX1_addHour (3, (some .boolean)) 2 := ⟨⟨tw 57 (by decide +kernel) (by decide +kernel), tw 386 (by decide +kernel) (by decide +kernel), ⟨by decide +kernel, by decide +kernel, by decide +kernel⟩, by decide⟩, (tw 383 (by decide +kernel) (by decide +kernel)), tw 384 (by decide +kernel) (by decide +kernel), tw 385 (by decide +kernel) (by decide +kernel)⟩
theorem m_X3_66 : MFV RX3 66 yX1_tellSun cX1_tellSun (2, (some .boolean)) 1 := ⟨⟨tw 57 (by decide +kernel) (by decide +kernel), tw 391 (by decide +kernel) (by decide +kernel), ⟨by decide +kernel, by decide +kernel, by decide +kernel⟩, by decide⟩, (tw 388 (by decide +kernel) (by decide +kernel)), tw 389 (by decide +kernel) (by decide +kernel), tw 390 (by decide +kernel) (by decide +kernel)⟩
theorem m_X3_69 : MFV RX3 69 yX1_tellMerchants cX1_tellMerchants (2, (some .boolean)) 1 := ⟨⟨tw 57 (by decide +kernel) (by decide +kernel), tw 395 (by decide +kernel) (by decide +kernel), ⟨by decide +kernel, by decide +kernel, by decide +kernel⟩, by decide⟩, (tw 392 (by decide +kernel) (by decide +kernel)), tw 393 (by decide +kernel) (by decide +kernel), tw 394 (by decide +kernel) (by decide +kernel)⟩
theorem m_X3_72 : MFV RX3 72 yX1_tellYard cX1_tellYard (2, (some .boolean)) 1 := ⟨⟨tw 57 (by decide +kernel) (by decide +kernel), tw 399 (by decide +kernel) (by decide +kernel), ⟨by decide +kernel, by decide +kernel, by decide +kernel⟩, by decide⟩, (tw 396 (by decide +kernel) (by decide +kernel)), tw 397 (by decide +kernel) (by decide +kernel), tw 398 (by decide +kernel) (by decide +kernel)⟩
theorem m_X4_3 : OI RX4 3 := ⟨tw 196 (by decide +kernel) (by decide +kernel), tw 71 (by decide +kernel) (by decide +kernel), tw 72 (by decide +kernel) (by decide +kernel)⟩
theorem f_X4_9 : FR RX4 9 4 0 := ⟨by decide, by decide, rfl, Or.inl (tw 197 (by decide +kernel) (by decide +kernel))⟩
theorem f_X4_9_l : Cond.fieldLink RX4 9 (clT 4 0).1 (clT 4 0).2.1 (clT 4 0).2.2.1 ∈ wT := tw 197 (by decide +kernel) (by decide +kernel)
theorem f_X4_15 : FR RX4 15 4 1 := ⟨by decide, by decide, rfl, Or.inl (tw 198 (by decide +kernel) (by decide +kernel))⟩
theorem f_X4_15_l : Cond.fieldLink RX4 15 (clT 4 1).1 (clT 4 1).2.1 (clT 4 1).2.2.1 ∈ wT := tw 198 (by decide +kernel) (by decide +kernel)
theorem f_X4_18 : FR RX4 18 4 2 := ⟨by decide, by decide, rfl, Or.inl (tw 199 (by decide +kernel) (by decide +kernel))⟩
theorem f_X4_18_l : Cond.fieldLink RX4 18 (clT 4 2).1 (clT 4 2).2.1 (clT 4 2).2.2.1 ∈ wT := tw 199 (by decide +kernel) (by decide +kernel)
theorem f_X4_21 : FI RX4 21 4 3 := ⟨by decide, by decide, rfl, Or.inl (tw 200 (by decide +kernel) (by decide +kernel))⟩
theorem m_X4_25 : MFV RX4 25 yX5_pick cX5_pick (2, (some (.object "DewLooms$Loom"))) 1 := ⟨⟨tw 51 (by decide +kernel) (by decide +kernel), tw 374 (by decide +kernel) (by decide +kernel), ⟨by decide +kernel, by decide +kernel, by decide +kernel⟩, by decide⟩, (tw 744 (by decide +kernel) (by decide +kernel)), tw 372 (by decide +kernel) (by decide +kernel), tw 373 (by decide +kernel) (by decide +kernel)⟩
theorem f_X4_31 : FI RX4 31 0 3 := ⟨by decide, by decide, rfl, Or.inr (tn 124 (by decide +kernel) (by decide +kernel))⟩
theorem m_X5_3 : OI RX5 3 := ⟨tw 108 (by decide +kernel) (by decide +kernel), tw 71 (by decide +kernel) (by decide +kernel), tw 72 (by decide +kernel) (by decide +kernel)⟩
theorem a_X5_9 : Cond.classLink RX5 9 "DewLooms$Loom" ∈ wT := tw 109 (by decide +kernel) (by decide +kernel)
theorem f_X5_11 : FR RX5 11 5 0 := ⟨by decide, by decide, rfl, Or.inl (tw 151 (by decide +kernel) (by decide +kernel))⟩
theorem f_X5_11_l : Cond.fieldLink RX5 11 (clT 5 0).1 (clT 5 0).2.1 (clT 5 0).2.2.1 ∈ wT := tw 151 (by decide +kernel) (by decide +kernel)
theorem f_X5_17 : FR RX5 17 5 1 := ⟨by decide, by decide, rfl, Or.inl (tw 152 (by decide +kernel) (by decide +kernel))⟩
theorem f_X5_17_l : Cond.fieldLink RX5 17 (clT 5 1).1 (clT 5 1).2.1 (clT 5 1).2.2.1 ∈ wT := tw 152 (by decide +kernel) (by decide +kernel)
theorem n_X5_9 : NW RX5 9 0 := ⟨by decide, tw 109 (by decide +kernel) (by decide +kernel), tw 111 (by decide +kernel) (by decide +kernel), tw 52 (by decide +kernel) (by decide +kernel)⟩
theorem m_X5_21 : MFI RX5 21 yX0_init cX0_init (1, none) 0 := ⟨⟨tw 52 (by decide +kernel) (by decide +kernel), tw 114 (by decide +kernel) (by decide +kernel), ⟨by decide +kernel, by decide +kernel, by decide +kernel⟩, by decide⟩, Or.inr (tn 112 (by decide +kernel) (by decide +kernel)), tw 113 (by decide +kernel) (by decide +kernel), rfl⟩
theorem f_X5_22 : FI RX5 22 5 2 := ⟨by decide, by decide, rfl, Or.inl (tw 153 (by decide +kernel) (by decide +kernel))⟩
theorem f_X5_26 : FI RX5 26 5 3 := ⟨by decide, by decide, rfl, Or.inl (tw 155 (by decide +kernel) (by decide +kernel))⟩
theorem f_X5_29 : FI RX5 29 5 4 := ⟨by decide, by decide, rfl, Or.inl (tw 158 (by decide +kernel) (by decide +kernel))⟩
theorem m_X5_32 : MFV RX5 32 yX5_pick cX5_pick (2, (some (.object "DewLooms$Loom"))) 1 := ⟨⟨tw 51 (by decide +kernel) (by decide +kernel), tw 374 (by decide +kernel) (by decide +kernel), ⟨by decide +kernel, by decide +kernel, by decide +kernel⟩, by decide⟩, (tw 371 (by decide +kernel) (by decide +kernel)), tw 372 (by decide +kernel) (by decide +kernel), tw 373 (by decide +kernel) (by decide +kernel)⟩
theorem m_X5_36 : MFV RX5 36 yX0_copy cX0_copy (2, none) 1 := ⟨⟨tw 52 (by decide +kernel) (by decide +kernel), tw 407 (by decide +kernel) (by decide +kernel), ⟨by decide +kernel, by decide +kernel, by decide +kernel⟩, by decide⟩, (tw 404 (by decide +kernel) (by decide +kernel)), tw 405 (by decide +kernel) (by decide +kernel), tw 406 (by decide +kernel) (by decide +kernel)⟩
theorem m_X5_40 : AC RX5 40 := ⟨tw 408 (by decide +kernel) (by decide +kernel), tw 410 (by decide +kernel) (by decide +kernel), tw 409 (by decide +kernel) (by decide +kernel), tw 62 (by decide +kernel) (by decide +kernel)⟩
theorem m_X5_46 : MFS RX5 46 yX8_isOutside cX8_isOutside (3, (some .boolean)) 3 := ⟨⟨tw 48 (by decide +kernel) (by decide +kernel), tw 362 (by decide +kernel) (by decide +kernel), ⟨by decide +kernel, by decide +kernel, by decide +kernel⟩, by decide⟩, Or.inr (tn 360 (by decide +kernel) (by decide +kernel)), tw 361 (by decide +kernel) (by decide +kernel)⟩
theorem m_X5_50 : MFS RX5 50 yX8_isNoPlace cX8_isNoPlace (1, (some .boolean)) 1 := ⟨⟨tw 48 (by decide +kernel) (by decide +kernel), tw 365 (by decide +kernel) (by decide +kernel), ⟨by decide +kernel, by decide +kernel, by decide +kernel⟩, by decide⟩, Or.inr (tn 363 (by decide +kernel) (by decide +kernel)), tw 364 (by decide +kernel) (by decide +kernel)⟩
theorem m_X5_54 : MFV RX5 54 yX5_loomOn cX5_loomOn (3, (some .int)) 1 := ⟨⟨tw 51 (by decide +kernel) (by decide +kernel), tw 370 (by decide +kernel) (by decide +kernel), ⟨by decide +kernel, by decide +kernel, by decide +kernel⟩, by decide⟩, (tw 367 (by decide +kernel) (by decide +kernel)), tw 368 (by decide +kernel) (by decide +kernel), tw 369 (by decide +kernel) (by decide +kernel)⟩
theorem m_X5_58 : MFV RX5 58 yX0_clear cX0_clear (4, none) 3 := ⟨⟨tw 52 (by decide +kernel) (by decide +kernel), tw 378 (by decide +kernel) (by decide +kernel), ⟨by decide +kernel, by decide +kernel, by decide +kernel⟩, by decide⟩, (tw 375 (by decide +kernel) (by decide +kernel)), tw 376 (by decide +kernel) (by decide +kernel), tw 377 (by decide +kernel) (by decide +kernel)⟩
theorem m_X5_62 : MFV RX5 62 yX5_rank cX5_rank (4, none) 0 := ⟨⟨tw 51 (by decide +kernel) (by decide +kernel), tw 382 (by decide +kernel) (by decide +kernel), ⟨by decide +kernel, by decide +kernel, by decide +kernel⟩, by decide⟩, (tw 379 (by decide +kernel) (by decide +kernel)), tw 380 (by decide +kernel) (by decide +kernel), tw 381 (by decide +kernel) (by decide +kernel)⟩
theorem f_X5_65 : FI RX5 65 0 1 := ⟨by decide, by decide, rfl, Or.inr (tn 119 (by decide +kernel) (by decide +kernel))⟩
theorem m_X5_68 : MFV RX5 68 yX0_gather cX0_gather (5, none) 3 := ⟨⟨tw 52 (by decide +kernel) (by decide +kernel), tw 547 (by decide +kernel) (by decide +kernel), ⟨by decide +kernel, by decide +kernel, by decide +kernel⟩, by decide⟩, (tw 544 (by decide +kernel) (by decide +kernel)), tw 545 (by decide +kernel) (by decide +kernel), tw 546 (by decide +kernel) (by decide +kernel)⟩
theorem f_X5_71 : FI RX5 71 0 5 := ⟨by decide, by decide, rfl, Or.inr (tn 131 (by decide +kernel) (by decide +kernel))⟩
theorem m_X5_74 : MFV RX5 74 yX0_dry cX0_dry (1, none) 0 := ⟨⟨tw 52 (by decide +kernel) (by decide +kernel), tw 564 (by decide +kernel) (by decide +kernel), ⟨by decide +kernel, by decide +kernel, by decide +kernel⟩, by decide⟩, (tw 561 (by decide +kernel) (by decide +kernel)), tw 562 (by decide +kernel) (by decide +kernel), tw 563 (by decide +kernel) (by decide +kernel)⟩
theorem f_X5_77 : FI RX5 77 0 3 := ⟨by decide, by decide, rfl, Or.inr (tn 125 (by decide +kernel) (by decide +kernel))⟩
theorem f_X5_80 : FI RX5 80 0 4 := ⟨by decide, by decide, rfl, Or.inr (tn 128 (by decide +kernel) (by decide +kernel))⟩
theorem f_X5_83 : FI RX5 83 0 6 := ⟨by decide, by decide, rfl, Or.inr (tn 135 (by decide +kernel) (by decide +kernel))⟩
theorem m_X6_3 : OI RX6 3 := ⟨tw 78 (by decide +kernel) (by decide +kernel), tw 71 (by decide +kernel) (by decide +kernel), tw 72 (by decide +kernel) (by decide +kernel)⟩
theorem f_X6_9 : FR RX6 9 6 0 := ⟨by decide, by decide, rfl, Or.inl (tw 79 (by decide +kernel) (by decide +kernel))⟩
theorem f_X6_9_l : Cond.fieldLink RX6 9 (clT 6 0).1 (clT 6 0).2.1 (clT 6 0).2.2.1 ∈ wT := tw 79 (by decide +kernel) (by decide +kernel)
theorem f_X6_15 : FI RX6 15 6 1 := ⟨by decide, by decide, rfl, Or.inl (tw 80 (by decide +kernel) (by decide +kernel))⟩
theorem m_X7_3 : OI RX7 3 := ⟨tw 216 (by decide +kernel) (by decide +kernel), tw 71 (by decide +kernel) (by decide +kernel), tw 72 (by decide +kernel) (by decide +kernel)⟩
theorem f_X7_9 : FR RX7 9 7 0 := ⟨by decide, by decide, rfl, Or.inl (tw 217 (by decide +kernel) (by decide +kernel))⟩
theorem f_X7_9_l : Cond.fieldLink RX7 9 (clT 7 0).1 (clT 7 0).2.1 (clT 7 0).2.2.1 ∈ wT := tw 217 (by decide +kernel) (by decide +kernel)
theorem f_X7_15 : FR RX7 15 7 1 := ⟨by decide, by decide, rfl, Or.inl (tw 218 (by decide +kernel) (by decide +kernel))⟩
theorem f_X7_15_l : Cond.fieldLink RX7 15 (clT 7 1).1 (clT 7 1).2.1 (clT 7 1).2.2.1 ∈ wT := tw 218 (by decide +kernel) (by decide +kernel)
theorem f_X7_18 : FI RX7 18 7 2 := ⟨by decide, by decide, rfl, Or.inl (tw 219 (by decide +kernel) (by decide +kernel))⟩
theorem f_X7_22 : FI RX7 22 7 3 := ⟨by decide, by decide, rfl, Or.inl (tw 220 (by decide +kernel) (by decide +kernel))⟩
theorem m_X7_25 : MFV RX7 25 yX5_loomOn cX5_loomOn (3, (some .int)) 1 := ⟨⟨tw 51 (by decide +kernel) (by decide +kernel), tw 370 (by decide +kernel) (by decide +kernel), ⟨by decide +kernel, by decide +kernel, by decide +kernel⟩, by decide⟩, (tw 641 (by decide +kernel) (by decide +kernel)), tw 368 (by decide +kernel) (by decide +kernel), tw 369 (by decide +kernel) (by decide +kernel)⟩
theorem m_X7_31 : MFV RX7 31 yX5_pick cX5_pick (2, (some (.object "DewLooms$Loom"))) 1 := ⟨⟨tw 51 (by decide +kernel) (by decide +kernel), tw 374 (by decide +kernel) (by decide +kernel), ⟨by decide +kernel, by decide +kernel, by decide +kernel⟩, by decide⟩, (tw 646 (by decide +kernel) (by decide +kernel)), tw 372 (by decide +kernel) (by decide +kernel), tw 373 (by decide +kernel) (by decide +kernel)⟩
theorem f_X7_35 : FI RX7 35 0 1 := ⟨by decide, by decide, rfl, Or.inr (tn 118 (by decide +kernel) (by decide +kernel))⟩
theorem m_X7_40 : MFV RX7 40 yX5_rank cX5_rank (4, none) 0 := ⟨⟨tw 51 (by decide +kernel) (by decide +kernel), tw 382 (by decide +kernel) (by decide +kernel), ⟨by decide +kernel, by decide +kernel, by decide +kernel⟩, by decide⟩, (tw 647 (by decide +kernel) (by decide +kernel)), tw 380 (by decide +kernel) (by decide +kernel), tw 381 (by decide +kernel) (by decide +kernel)⟩
theorem m_X7_43 : AC RX7 43 := ⟨tw 658 (by decide +kernel) (by decide +kernel), tw 410 (by decide +kernel) (by decide +kernel), tw 409 (by decide +kernel) (by decide +kernel), tw 62 (by decide +kernel) (by decide +kernel)⟩
theorem m_X7_49 : M_min RX7 49 := ⟨tw 663 (by decide +kernel) (by decide +kernel), tw 501 (by decide +kernel) (by decide +kernel), tw 54 (by decide +kernel) (by decide +kernel), tw 502 (by decide +kernel) (by decide +kernel)⟩
theorem m_X7_55 : MFV RX7 55 yX7_leastAbove cX7_leastAbove (4, (some .int)) 1 := ⟨⟨tw 56 (by decide +kernel) (by decide +kernel), tw 667 (by decide +kernel) (by decide +kernel), ⟨by decide +kernel, by decide +kernel, by decide +kernel⟩, by decide⟩, (tw 664 (by decide +kernel) (by decide +kernel)), tw 666 (by decide +kernel) (by decide +kernel), tw 10 (by decide +kernel) (by decide +kernel)⟩
theorem m_X7_58 : MFV RX7 58 yX7_swap cX7_swap (4, none) 2 := ⟨⟨tw 56 (by decide +kernel) (by decide +kernel), tw 671 (by decide +kernel) (by decide +kernel), ⟨by decide +kernel, by decide +kernel, by decide +kernel⟩, by decide⟩, (tw 668 (by decide +kernel) (by decide +kernel)), tw 670 (by decide +kernel) (by decide +kernel), tw 11 (by decide +kernel) (by decide +kernel)⟩
theorem m_X7_62 : MFV RX7 62 yX7_turnBehind cX7_turnBehind (4, none) 1 := ⟨⟨tw 56 (by decide +kernel) (by decide +kernel), tw 676 (by decide +kernel) (by decide +kernel), ⟨by decide +kernel, by decide +kernel, by decide +kernel⟩, by decide⟩, (tw 673 (by decide +kernel) (by decide +kernel)), tw 675 (by decide +kernel) (by decide +kernel), tw 12 (by decide +kernel) (by decide +kernel)⟩
theorem m_X7_66 : MFS RX7 66 yX8_isOutside cX8_isOutside (3, (some .boolean)) 3 := ⟨⟨tw 48 (by decide +kernel) (by decide +kernel), tw 362 (by decide +kernel) (by decide +kernel), ⟨by decide +kernel, by decide +kernel, by decide +kernel⟩, by decide⟩, Or.inr (tn 672 (by decide +kernel) (by decide +kernel)), tw 361 (by decide +kernel) (by decide +kernel)⟩
theorem m_X8_3 : OI RX8 3 := ⟨tw 70 (by decide +kernel) (by decide +kernel), tw 71 (by decide +kernel) (by decide +kernel), tw 72 (by decide +kernel) (by decide +kernel)⟩
theorem n_X8_9 : NW RX8 9 6 := ⟨by decide, tw 73 (by decide +kernel) (by decide +kernel), tw 74 (by decide +kernel) (by decide +kernel), tw 49 (by decide +kernel) (by decide +kernel)⟩
theorem m_X8_11 : MFI RX8 11 yX6_init cX6_init (1, none) 0 := ⟨⟨tw 49 (by decide +kernel) (by decide +kernel), tw 77 (by decide +kernel) (by decide +kernel), ⟨by decide +kernel, by decide +kernel, by decide +kernel⟩, by decide⟩, Or.inr (tn 75 (by decide +kernel) (by decide +kernel)), tw 76 (by decide +kernel) (by decide +kernel), rfl⟩
theorem f_X8_12 : FR RX8 12 8 0 := ⟨by decide, by decide, rfl, Or.inl (tw 423 (by decide +kernel) (by decide +kernel))⟩
theorem f_X8_12_l : Cond.fieldLink RX8 12 (clT 8 0).1 (clT 8 0).2.1 (clT 8 0).2.2.1 ∈ wT := tw 423 (by decide +kernel) (by decide +kernel)
theorem n_X8_16 : NW RX8 16 3 := ⟨by decide, tw 89 (by decide +kernel) (by decide +kernel), tw 90 (by decide +kernel) (by decide +kernel), tw 50 (by decide +kernel) (by decide +kernel)⟩
theorem m_X8_18 : MFI RX8 18 yX3_init cX3_init (1, none) 0 := ⟨⟨tw 50 (by decide +kernel) (by decide +kernel), tw 93 (by decide +kernel) (by decide +kernel), ⟨by decide +kernel, by decide +kernel, by decide +kernel⟩, by decide⟩, Or.inr (tn 91 (by decide +kernel) (by decide +kernel)), tw 92 (by decide +kernel) (by decide +kernel), rfl⟩
theorem f_X8_19 : FR RX8 19 8 1 := ⟨by decide, by decide, rfl, Or.inl (tw 424 (by decide +kernel) (by decide +kernel))⟩
theorem f_X8_19_l : Cond.fieldLink RX8 19 (clT 8 1).1 (clT 8 1).2.1 (clT 8 1).2.2.1 ∈ wT := tw 424 (by decide +kernel) (by decide +kernel)
theorem n_X8_23 : NW RX8 23 5 := ⟨by decide, tw 103 (by decide +kernel) (by decide +kernel), tw 104 (by decide +kernel) (by decide +kernel), tw 51 (by decide +kernel) (by decide +kernel)⟩
theorem m_X8_25 : MFI RX8 25 yX5_init cX5_init (2, none) 0 := ⟨⟨tw 51 (by decide +kernel) (by decide +kernel), tw 107 (by decide +kernel) (by decide +kernel), ⟨by decide +kernel, by decide +kernel, by decide +kernel⟩, by decide⟩, Or.inl (tw 105 (by decide +kernel) (by decide +kernel)), tw 106 (by decide +kernel) (by decide +kernel), rfl⟩
theorem f_X8_26 : FR RX8 26 8 2 := ⟨by decide, by decide, rfl, Or.inl (tw 425 (by decide +kernel) (by decide +kernel))⟩
theorem f_X8_26_l : Cond.fieldLink RX8 26 (clT 8 2).1 (clT 8 2).2.1 (clT 8 2).2.2.1 ∈ wT := tw 425 (by decide +kernel) (by decide +kernel)
theorem f_X8_30 : FR RX8 30 8 3 := ⟨by decide, by decide, rfl, Or.inl (tw 426 (by decide +kernel) (by decide +kernel))⟩
theorem f_X8_30_l : Cond.fieldLink RX8 30 (clT 8 3).1 (clT 8 3).2.1 (clT 8 3).2.2.1 ∈ wT := tw 426 (by decide +kernel) (by decide +kernel)
theorem n_X8_33 : NW RX8 33 2 := ⟨by decide, tw 171 (by decide +kernel) (by decide +kernel), tw 172 (by decide +kernel) (by decide +kernel), tw 53 (by decide +kernel) (by decide +kernel)⟩
theorem m_X8_35 : MFI RX8 35 yX2_init cX2_init (3, none) 1 := ⟨⟨tw 53 (by decide +kernel) (by decide +kernel), tw 175 (by decide +kernel) (by decide +kernel), ⟨by decide +kernel, by decide +kernel, by decide +kernel⟩, by decide⟩, Or.inl (tw 173 (by decide +kernel) (by decide +kernel)), tw 174 (by decide +kernel) (by decide +kernel), rfl⟩
theorem f_X8_38 : FR RX8 38 8 4 := ⟨by decide, by decide, rfl, Or.inl (tw 427 (by decide +kernel) (by decide +kernel))⟩
theorem f_X8_38_l : Cond.fieldLink RX8 38 (clT 8 4).1 (clT 8 4).2.1 (clT 8 4).2.2.1 ∈ wT := tw 427 (by decide +kernel) (by decide +kernel)
theorem f_X8_42 : FR RX8 42 8 5 := ⟨by decide, by decide, rfl, Or.inl (tw 428 (by decide +kernel) (by decide +kernel))⟩
theorem f_X8_42_l : Cond.fieldLink RX8 42 (clT 8 5).1 (clT 8 5).2.1 (clT 8 5).2.2.1 ∈ wT := tw 428 (by decide +kernel) (by decide +kernel)
theorem n_X8_45 : NW RX8 45 4 := ⟨by decide, tw 191 (by decide +kernel) (by decide +kernel), tw 192 (by decide +kernel) (by decide +kernel), tw 55 (by decide +kernel) (by decide +kernel)⟩
theorem m_X8_47 : MFI RX8 47 yX4_init cX4_init (1, none) 0 := ⟨⟨tw 55 (by decide +kernel) (by decide +kernel), tw 195 (by decide +kernel) (by decide +kernel), ⟨by decide +kernel, by decide +kernel, by decide +kernel⟩, by decide⟩, Or.inr (tn 193 (by decide +kernel) (by decide +kernel)), tw 194 (by decide +kernel) (by decide +kernel), rfl⟩
theorem f_X8_48 : FR RX8 48 8 6 := ⟨by decide, by decide, rfl, Or.inl (tw 429 (by decide +kernel) (by decide +kernel))⟩
theorem f_X8_48_l : Cond.fieldLink RX8 48 (clT 8 6).1 (clT 8 6).2.1 (clT 8 6).2.2.1 ∈ wT := tw 429 (by decide +kernel) (by decide +kernel)
theorem n_X8_52 : NW RX8 52 7 := ⟨by decide, tw 211 (by decide +kernel) (by decide +kernel), tw 212 (by decide +kernel) (by decide +kernel), tw 56 (by decide +kernel) (by decide +kernel)⟩
theorem m_X8_54 : MFI RX8 54 yX7_init cX7_init (1, none) 0 := ⟨⟨tw 56 (by decide +kernel) (by decide +kernel), tw 215 (by decide +kernel) (by decide +kernel), ⟨by decide +kernel, by decide +kernel, by decide +kernel⟩, by decide⟩, Or.inr (tn 213 (by decide +kernel) (by decide +kernel)), tw 214 (by decide +kernel) (by decide +kernel), rfl⟩
theorem f_X8_55 : FR RX8 55 8 7 := ⟨by decide, by decide, rfl, Or.inl (tw 430 (by decide +kernel) (by decide +kernel))⟩
theorem f_X8_55_l : Cond.fieldLink RX8 55 (clT 8 7).1 (clT 8 7).2.1 (clT 8 7).2.2.1 ∈ wT := tw 430 (by decide +kernel) (by decide +kernel)
theorem n_X8_59 : NW RX8 59 1 := ⟨by decide, tw 231 (by decide +kernel) (by decide +kernel), tw 232 (by decide +kernel) (by decide +kernel), tw 57 (by decide +kernel) (by decide +kernel)⟩
theorem m_X8_61 : MFI RX8 61 yX1_init cX1_init (1, none) 0 := ⟨⟨tw 57 (by decide +kernel) (by decide +kernel), tw 235 (by decide +kernel) (by decide +kernel), ⟨by decide +kernel, by decide +kernel, by decide +kernel⟩, by decide⟩, Or.inr (tn 233 (by decide +kernel) (by decide +kernel)), tw 234 (by decide +kernel) (by decide +kernel), rfl⟩
theorem f_X8_62 : FR RX8 62 8 8 := ⟨by decide, by decide, rfl, Or.inl (tw 431 (by decide +kernel) (by decide +kernel))⟩
theorem f_X8_66 : FR RX8 66 8 9 := ⟨by decide, by decide, rfl, Or.inl (tw 432 (by decide +kernel) (by decide +kernel))⟩
theorem m_X8_71 : MFV RX8 71 yJ0_length_8abf5 cJ0_length_8abf5 (1, (some .int)) 0 := ⟨⟨tw 58 (by decide +kernel) (by decide +kernel), tw 269 (by decide +kernel) (by decide +kernel), ⟨by decide +kernel, by decide +kernel, by decide +kernel⟩, by decide⟩, (tw 266 (by decide +kernel) (by decide +kernel)), tw 267 (by decide +kernel) (by decide +kernel), tw 268 (by decide +kernel) (by decide +kernel)⟩
theorem m_X8_77 : MFV RX8 77 yJ0_charAt_5068e cJ0_charAt_5068e (2, (some .char)) 1 := ⟨⟨tw 58 (by decide +kernel) (by decide +kernel), tw 279 (by decide +kernel) (by decide +kernel), ⟨by decide +kernel, by decide +kernel, by decide +kernel⟩, by decide⟩, (tw 276 (by decide +kernel) (by decide +kernel)), tw 277 (by decide +kernel) (by decide +kernel), tw 278 (by decide +kernel) (by decide +kernel)⟩
theorem m_X8_81 : MFV RX8 81 yX6_append cX6_append (2, none) 1 := ⟨⟨tw 49 (by decide +kernel) (by decide +kernel), tw 317 (by decide +kernel) (by decide +kernel), ⟨by decide +kernel, by decide +kernel, by decide +kernel⟩, by decide⟩, (tw 314 (by decide +kernel) (by decide +kernel)), tw 315 (by decide +kernel) (by decide +kernel), tw 316 (by decide +kernel) (by decide +kernel)⟩
theorem m_X8_85 : MFV RX8 85 yX8_layText cX8_layText (2, (some .int)) 0 := ⟨⟨tw 48 (by decide +kernel) (by decide +kernel), tw 321 (by decide +kernel) (by decide +kernel), ⟨by decide +kernel, by decide +kernel, by decide +kernel⟩, by decide⟩, (tw 318 (by decide +kernel) (by decide +kernel)), tw 320 (by decide +kernel) (by decide +kernel), tw 0 (by decide +kernel) (by decide +kernel)⟩
theorem m_X8_88 : MFV RX8 88 yX6_clear cX6_clear (1, none) 0 := ⟨⟨tw 49 (by decide +kernel) (by decide +kernel), tw 422 (by decide +kernel) (by decide +kernel), ⟨by decide +kernel, by decide +kernel, by decide +kernel⟩, by decide⟩, (tw 419 (by decide +kernel) (by decide +kernel)), tw 420 (by decide +kernel) (by decide +kernel), tw 421 (by decide +kernel) (by decide +kernel)⟩
theorem m_X8_91 : MFS RX8 91 yX8_isOutside cX8_isOutside (3, (some .boolean)) 3 := ⟨⟨tw 48 (by decide +kernel) (by decide +kernel), tw 362 (by decide +kernel) (by decide +kernel), ⟨by decide +kernel, by decide +kernel, by decide +kernel⟩, by decide⟩, Or.inl (tw 366 (by decide +kernel) (by decide +kernel)), tw 361 (by decide +kernel) (by decide +kernel)⟩
theorem m_X8_95 : MFV RX8 95 yX6_isFull cX6_isFull (1, (some .boolean)) 0 := ⟨⟨tw 49 (by decide +kernel) (by decide +kernel), tw 462 (by decide +kernel) (by decide +kernel), ⟨by decide +kernel, by decide +kernel, by decide +kernel⟩, by decide⟩, (tw 459 (by decide +kernel) (by decide +kernel)), tw 460 (by decide +kernel) (by decide +kernel), tw 461 (by decide +kernel) (by decide +kernel)⟩
theorem f_X8_99 : FI RX8 99 6 1 := ⟨by decide, by decide, rfl, Or.inr (tn 82 (by decide +kernel) (by decide +kernel))⟩
theorem m_X8_103 : MFV RX8 103 yX3_read cX3_read (6, (some .int)) 2 := ⟨⟨tw 50 (by decide +kernel) (by decide +kernel), tw 325 (by decide +kernel) (by decide +kernel), ⟨by decide +kernel, by decide +kernel, by decide +kernel⟩, by decide⟩, (tw 322 (by decide +kernel) (by decide +kernel)), tw 323 (by decide +kernel) (by decide +kernel), tw 324 (by decide +kernel) (by decide +kernel)⟩
theorem m_X8_107 : MFV RX8 107 yX8_isNoLoom cX8_isNoLoom (2, (some .boolean)) 1 := ⟨⟨tw 48 (by decide +kernel) (by decide +kernel), tw 482 (by decide +kernel) (by decide +kernel), ⟨by decide +kernel, by decide +kernel, by decide +kernel⟩, by decide⟩, (tw 479 (by decide +kernel) (by decide +kernel)), tw 481 (by decide +kernel) (by decide +kernel), tw 4 (by decide +kernel) (by decide +kernel)⟩
theorem m_X8_111 : MFV RX8 111 yX5_pick cX5_pick (2, (some (.object "DewLooms$Loom"))) 1 := ⟨⟨tw 51 (by decide +kernel) (by decide +kernel), tw 374 (by decide +kernel) (by decide +kernel), ⟨by decide +kernel, by decide +kernel, by decide +kernel⟩, by decide⟩, (tw 483 (by decide +kernel) (by decide +kernel)), tw 372 (by decide +kernel) (by decide +kernel), tw 373 (by decide +kernel) (by decide +kernel)⟩
theorem m_X8_115 : MFV RX8 115 yX0_tell cX0_tell (2, (some .int)) 1 := ⟨⟨tw 52 (by decide +kernel) (by decide +kernel), tw 487 (by decide +kernel) (by decide +kernel), ⟨by decide +kernel, by decide +kernel, by decide +kernel⟩, by decide⟩, (tw 484 (by decide +kernel) (by decide +kernel)), tw 485 (by decide +kernel) (by decide +kernel), tw 486 (by decide +kernel) (by decide +kernel)⟩
theorem m_X8_121 : MFV RX8 121 yX1_coldOf cX1_coldOf (2, (some .int)) 1 := ⟨⟨tw 57 (by decide +kernel) (by decide +kernel), tw 495 (by decide +kernel) (by decide +kernel), ⟨by decide +kernel, by decide +kernel, by decide +kernel⟩, by decide⟩, (tw 492 (by decide +kernel) (by decide +kernel)), tw 493 (by decide +kernel) (by decide +kernel), tw 494 (by decide +kernel) (by decide +kernel)⟩
theorem m_X8_124 : MFV RX8 124 yX1_mistOf cX1_mistOf (2, (some .int)) 1 := ⟨⟨tw 57 (by decide +kernel) (by decide +kernel), tw 506 (by decide +kernel) (by decide +kernel), ⟨by decide +kernel, by decide +kernel, by decide +kernel⟩, by decide⟩, (tw 503 (by decide +kernel) (by decide +kernel)), tw 504 (by decide +kernel) (by decide +kernel), tw 505 (by decide +kernel) (by decide +kernel)⟩
theorem m_X8_127 : MFS RX8 127 yX8_isNoPlace cX8_isNoPlace (1, (some .boolean)) 1 := ⟨⟨tw 48 (by decide +kernel) (by decide +kernel), tw 365 (by decide +kernel) (by decide +kernel), ⟨by decide +kernel, by decide +kernel, by decide +kernel⟩, by decide⟩, Or.inl (tw 511 (by decide +kernel) (by decide +kernel)), tw 364 (by decide +kernel) (by decide +kernel)⟩
theorem m_X8_130 : MFV RX8 130 yX5_loomOn cX5_loomOn (3, (some .int)) 1 := ⟨⟨tw 51 (by decide +kernel) (by decide +kernel), tw 370 (by decide +kernel) (by decide +kernel), ⟨by decide +kernel, by decide +kernel, by decide +kernel⟩, by decide⟩, (tw 512 (by decide +kernel) (by decide +kernel)), tw 368 (by decide +kernel) (by decide +kernel), tw 369 (by decide +kernel) (by decide +kernel)⟩
theorem f_X8_133 : FI RX8 133 5 3 := ⟨by decide, by decide, rfl, Or.inr (tn 156 (by decide +kernel) (by decide +kernel))⟩
theorem m_X8_136 : MFV RX8 136 yX2_put cX2_put (2, none) 1 := ⟨⟨tw 53 (by decide +kernel) (by decide +kernel), tw 520 (by decide +kernel) (by decide +kernel), ⟨by decide +kernel, by decide +kernel, by decide +kernel⟩, by decide⟩, (tw 517 (by decide +kernel) (by decide +kernel)), tw 518 (by decide +kernel) (by decide +kernel), tw 519 (by decide +kernel) (by decide +kernel)⟩
theorem m_X8_140 : MFV RX8 140 yX1_goBy cX1_goBy (4, none) 2 := ⟨⟨tw 57 (by decide +kernel) (by decide +kernel), tw 533 (by decide +kernel) (by decide +kernel), ⟨by decide +kernel, by decide +kernel, by decide +kernel⟩, by decide⟩, (tw 530 (by decide +kernel) (by decide +kernel)), tw 531 (by decide +kernel) (by decide +kernel), tw 532 (by decide +kernel) (by decide +kernel)⟩
theorem m_X8_144 : MFV RX8 144 yX5_allDrops cX5_allDrops (3, (some .int)) 0 := ⟨⟨tw 51 (by decide +kernel) (by decide +kernel), tw 569 (by decide +kernel) (by decide +kernel), ⟨by decide +kernel, by decide +kernel, by decide +kernel⟩, by decide⟩, (tw 566 (by decide +kernel) (by decide +kernel)), tw 567 (by decide +kernel) (by decide +kernel), tw 568 (by decide +kernel) (by decide +kernel)⟩
theorem m_X8_147 : MFV RX8 147 yX0_turnShade cX0_turnShade (1, none) 0 := ⟨⟨tw 52 (by decide +kernel) (by decide +kernel), tw 577 (by decide +kernel) (by decide +kernel), ⟨by decide +kernel, by decide +kernel, by decide +kernel⟩, by decide⟩, (tw 574 (by decide +kernel) (by decide +kernel)), tw 575 (by decide +kernel) (by decide +kernel), tw 576 (by decide +kernel) (by decide +kernel)⟩
theorem f_X8_150 : FI RX8 150 0 6 := ⟨by decide, by decide, rfl, Or.inr (tn 134 (by decide +kernel) (by decide +kernel))⟩
theorem f_X8_154 : FI RX8 154 0 3 := ⟨by decide, by decide, rfl, Or.inr (tn 126 (by decide +kernel) (by decide +kernel))⟩
theorem m_X8_157 : MFV RX8 157 yX0_feelCow cX0_feelCow (1, none) 0 := ⟨⟨tw 52 (by decide +kernel) (by decide +kernel), tw 585 (by decide +kernel) (by decide +kernel), ⟨by decide +kernel, by decide +kernel, by decide +kernel⟩, by decide⟩, (tw 582 (by decide +kernel) (by decide +kernel)), tw 583 (by decide +kernel) (by decide +kernel), tw 584 (by decide +kernel) (by decide +kernel)⟩
theorem m_X8_160 : MFV RX8 160 yX0_holds cX0_holds (1, (some .int)) 0 := ⟨⟨tw 52 (by decide +kernel) (by decide +kernel), tw 555 (by decide +kernel) (by decide +kernel), ⟨by decide +kernel, by decide +kernel, by decide +kernel⟩, by decide⟩, (tw 590 (by decide +kernel) (by decide +kernel)), tw 553 (by decide +kernel) (by decide +kernel), tw 554 (by decide +kernel) (by decide +kernel)⟩
theorem m_X8_163 : MFV RX8 163 yX0_takeTears cX0_takeTears (1, none) 0 := ⟨⟨tw 52 (by decide +kernel) (by decide +kernel), tw 594 (by decide +kernel) (by decide +kernel), ⟨by decide +kernel, by decide +kernel, by decide +kernel⟩, by decide⟩, (tw 591 (by decide +kernel) (by decide +kernel)), tw 592 (by decide +kernel) (by decide +kernel), tw 593 (by decide +kernel) (by decide +kernel)⟩
theorem f_X8_166 : FI RX8 166 0 1 := ⟨by decide, by decide, rfl, Or.inr (tn 120 (by decide +kernel) (by decide +kernel))⟩
theorem m_X8_169 : MFV RX8 169 yX5_rank cX5_rank (4, none) 0 := ⟨⟨tw 51 (by decide +kernel) (by decide +kernel), tw 382 (by decide +kernel) (by decide +kernel), ⟨by decide +kernel, by decide +kernel, by decide +kernel⟩, by decide⟩, (tw 599 (by decide +kernel) (by decide +kernel)), tw 380 (by decide +kernel) (by decide +kernel), tw 381 (by decide +kernel) (by decide +kernel)⟩
theorem f_X8_172 : FI RX8 172 2 1 := ⟨by decide, by decide, rfl, Or.inr (tn 185 (by decide +kernel) (by decide +kernel))⟩
theorem m_X8_173 : MFV RX8 173 yX2_takeInto cX2_takeInto (2, none) 1 := ⟨⟨tw 53 (by decide +kernel) (by decide +kernel), tw 607 (by decide +kernel) (by decide +kernel), ⟨by decide +kernel, by decide +kernel, by decide +kernel⟩, by decide⟩, (tw 604 (by decide +kernel) (by decide +kernel)), tw 605 (by decide +kernel) (by decide +kernel), tw 606 (by decide +kernel) (by decide +kernel)⟩
theorem m_X8_176 : MFV RX8 176 yX5_copy cX5_copy (3, none) 1 := ⟨⟨tw 51 (by decide +kernel) (by decide +kernel), tw 403 (by decide +kernel) (by decide +kernel), ⟨by decide +kernel, by decide +kernel, by decide +kernel⟩, by decide⟩, (tw 400 (by decide +kernel) (by decide +kernel)), tw 401 (by decide +kernel) (by decide +kernel), tw 402 (by decide +kernel) (by decide +kernel)⟩
theorem f_X8_179 : FI RX8 179 0 4 := ⟨by decide, by decide, rfl, Or.inr (tn 129 (by decide +kernel) (by decide +kernel))⟩
theorem m_X8_182 : MFV RX8 182 yX8_yardsOfTrial cX8_yardsOfTrial (1, (some .int)) 0 := ⟨⟨tw 48 (by decide +kernel) (by decide +kernel), tw 619 (by decide +kernel) (by decide +kernel), ⟨by decide +kernel, by decide +kernel, by decide +kernel⟩, by decide⟩, (tw 616 (by decide +kernel) (by decide +kernel)), tw 618 (by decide +kernel) (by decide +kernel), tw 8 (by decide +kernel) (by decide +kernel)⟩
theorem f_X8_185 : FI RX8 185 5 2 := ⟨by decide, by decide, rfl, Or.inr (tn 154 (by decide +kernel) (by decide +kernel))⟩
theorem m_X8_186 : MFV RX8 186 yX5_allSpoiled cX5_allSpoiled (3, (some .int)) 0 := ⟨⟨tw 51 (by decide +kernel) (by decide +kernel), tw 636 (by decide +kernel) (by decide +kernel), ⟨by decide +kernel, by decide +kernel, by decide +kernel⟩, by decide⟩, (tw 633 (by decide +kernel) (by decide +kernel)), tw 634 (by decide +kernel) (by decide +kernel), tw 635 (by decide +kernel) (by decide +kernel)⟩
theorem m_X8_189 : MFV RX8 189 yX7_begin cX7_begin (3, none) 1 := ⟨⟨tw 56 (by decide +kernel) (by decide +kernel), tw 640 (by decide +kernel) (by decide +kernel), ⟨by decide +kernel, by decide +kernel, by decide +kernel⟩, by decide⟩, (tw 637 (by decide +kernel) (by decide +kernel)), tw 638 (by decide +kernel) (by decide +kernel), tw 639 (by decide +kernel) (by decide +kernel)⟩
theorem m_X8_192 : MFV RX8 192 yX7_applyTo cX7_applyTo (3, none) 1 := ⟨⟨tw 56 (by decide +kernel) (by decide +kernel), tw 645 (by decide +kernel) (by decide +kernel), ⟨by decide +kernel, by decide +kernel, by decide +kernel⟩, by decide⟩, (tw 642 (by decide +kernel) (by decide +kernel)), tw 643 (by decide +kernel) (by decide +kernel), tw 644 (by decide +kernel) (by decide +kernel)⟩
theorem m_X8_195 : MFS RX8 195 yJ6_bitCount_0f7a4 cJ6_bitCount_0f7a4 (1, (some .int)) 1 := ⟨⟨tw 64 (by decide +kernel) (by decide +kernel), tw 650 (by decide +kernel) (by decide +kernel), ⟨by decide +kernel, by decide +kernel, by decide +kernel⟩, by decide⟩, Or.inl (tw 648 (by decide +kernel) (by decide +kernel)), tw 649 (by decide +kernel) (by decide +kernel)⟩
theorem m_X8_200 : MFV RX8 200 yX7_weigh cX7_weigh (2, none) 1 := ⟨⟨tw 56 (by decide +kernel) (by decide +kernel), tw 657 (by decide +kernel) (by decide +kernel), ⟨by decide +kernel, by decide +kernel, by decide +kernel⟩, by decide⟩, (tw 654 (by decide +kernel) (by decide +kernel)), tw 655 (by decide +kernel) (by decide +kernel), tw 656 (by decide +kernel) (by decide +kernel)⟩
theorem m_X8_203 : MFV RX8 203 yX7_goOn cX7_goOn (2, (some .boolean)) 0 := ⟨⟨tw 56 (by decide +kernel) (by decide +kernel), tw 662 (by decide +kernel) (by decide +kernel), ⟨by decide +kernel, by decide +kernel, by decide +kernel⟩, by decide⟩, (tw 659 (by decide +kernel) (by decide +kernel)), tw 660 (by decide +kernel) (by decide +kernel), tw 661 (by decide +kernel) (by decide +kernel)⟩
theorem m_X8_206 : MFV RX8 206 yX7_isFound cX7_isFound (1, (some .boolean)) 0 := ⟨⟨tw 56 (by decide +kernel) (by decide +kernel), tw 680 (by decide +kernel) (by decide +kernel), ⟨by decide +kernel, by decide +kernel, by decide +kernel⟩, by decide⟩, (tw 677 (by decide +kernel) (by decide +kernel)), tw 678 (by decide +kernel) (by decide +kernel), tw 679 (by decide +kernel) (by decide +kernel)⟩
theorem f_X8_209 : FI RX8 209 7 3 := ⟨by decide, by decide, rfl, Or.inr (tn 221 (by decide +kernel) (by decide +kernel))⟩
theorem m_X8_212 : MFV RX8 212 yX7_bestPlace cX7_bestPlace (2, (some .int)) 1 := ⟨⟨tw 56 (by decide +kernel) (by decide +kernel), tw 684 (by decide +kernel) (by decide +kernel), ⟨by decide +kernel, by decide +kernel, by decide +kernel⟩, by decide⟩, (tw 681 (by decide +kernel) (by decide +kernel)), tw 682 (by decide +kernel) (by decide +kernel), tw 683 (by decide +kernel) (by decide +kernel)⟩
theorem m_X8_215 : MFV RX8 215 yX5_shades cX5_shades (3, (some .int)) 0 := ⟨⟨tw 51 (by decide +kernel) (by decide +kernel), tw 692 (by decide +kernel) (by decide +kernel), ⟨by decide +kernel, by decide +kernel, by decide +kernel⟩, by decide⟩, (tw 689 (by decide +kernel) (by decide +kernel)), tw 690 (by decide +kernel) (by decide +kernel), tw 691 (by decide +kernel) (by decide +kernel)⟩
theorem m_X8_218 : MFV RX8 218 yX8_shadeTrial cX8_shadeTrial (3, none) 1 := ⟨⟨tw 48 (by decide +kernel) (by decide +kernel), tw 696 (by decide +kernel) (by decide +kernel), ⟨by decide +kernel, by decide +kernel, by decide +kernel⟩, by decide⟩, (tw 693 (by decide +kernel) (by decide +kernel)), tw 695 (by decide +kernel) (by decide +kernel), tw 13 (by decide +kernel) (by decide +kernel)⟩
theorem f_X8_221 : FI RX8 221 0 2 := ⟨by decide, by decide, rfl, Or.inr (tn 122 (by decide +kernel) (by decide +kernel))⟩
theorem m_X8_224 : MFS RX8 224 yX8_hasBit cX8_hasBit (2, (some .boolean)) 2 := ⟨⟨tw 48 (by decide +kernel) (by decide +kernel), tw 699 (by decide +kernel) (by decide +kernel), ⟨by decide +kernel, by decide +kernel, by decide +kernel⟩, by decide⟩, Or.inl (tw 697 (by decide +kernel) (by decide +kernel)), tw 698 (by decide +kernel) (by decide +kernel)⟩
theorem m_X8_228 : MFV RX8 228 yX5_nextAbove cX5_nextAbove (4, (some .int)) 1 := ⟨⟨tw 51 (by decide +kernel) (by decide +kernel), tw 711 (by decide +kernel) (by decide +kernel), ⟨by decide +kernel, by decide +kernel, by decide +kernel⟩, by decide⟩, (tw 708 (by decide +kernel) (by decide +kernel)), tw 709 (by decide +kernel) (by decide +kernel), tw 710 (by decide +kernel) (by decide +kernel)⟩
theorem f_X8_231 : FI RX8 231 0 5 := ⟨by decide, by decide, rfl, Or.inr (tn 132 (by decide +kernel) (by decide +kernel))⟩
theorem m_X8_234 : MFV RX8 234 yX4_isFull cX4_isFull (1, (some .boolean)) 0 := ⟨⟨tw 55 (by decide +kernel) (by decide +kernel), tw 719 (by decide +kernel) (by decide +kernel), ⟨by decide +kernel, by decide +kernel, by decide +kernel⟩, by decide⟩, (tw 716 (by decide +kernel) (by decide +kernel)), tw 717 (by decide +kernel) (by decide +kernel), tw 718 (by decide +kernel) (by decide +kernel)⟩
theorem m_X8_235 : MFV RX8 235 yX4_put cX4_put (4, none) 3 := ⟨⟨tw 55 (by decide +kernel) (by decide +kernel), tw 723 (by decide +kernel) (by decide +kernel), ⟨by decide +kernel, by decide +kernel, by decide +kernel⟩, by decide⟩, (tw 720 (by decide +kernel) (by decide +kernel)), tw 721 (by decide +kernel) (by decide +kernel), tw 722 (by decide +kernel) (by decide +kernel)⟩
theorem f_X8_238 : FI RX8 238 4 3 := ⟨by decide, by decide, rfl, Or.inr (tn 201 (by decide +kernel) (by decide +kernel))⟩
theorem m_X8_239 : MFV RX8 239 yX4_clear cX4_clear (1, none) 0 := ⟨⟨tw 55 (by decide +kernel) (by decide +kernel), tw 414 (by decide +kernel) (by decide +kernel), ⟨by decide +kernel, by decide +kernel, by decide +kernel⟩, by decide⟩, (tw 411 (by decide +kernel) (by decide +kernel)), tw 412 (by decide +kernel) (by decide +kernel), tw 413 (by decide +kernel) (by decide +kernel)⟩
theorem m_X8_240 : MFV RX8 240 yX8_ownNextCold cX8_ownNextCold (1, (some .int)) 0 := ⟨⟨tw 48 (by decide +kernel) (by decide +kernel), tw 735 (by decide +kernel) (by decide +kernel), ⟨by decide +kernel, by decide +kernel, by decide +kernel⟩, by decide⟩, (tw 732 (by decide +kernel) (by decide +kernel)), tw 734 (by decide +kernel) (by decide +kernel), tw 14 (by decide +kernel) (by decide +kernel)⟩
theorem m_X8_243 : MFV RX8 243 yX8_isAllSeenSo cX8_isAllSeenSo (4, (some .boolean)) 1 := ⟨⟨tw 48 (by decide +kernel) (by decide +kernel), tw 739 (by decide +kernel) (by decide +kernel), ⟨by decide +kernel, by decide +kernel, by decide +kernel⟩, by decide⟩, (tw 736 (by decide +kernel) (by decide +kernel)), tw 738 (by decide +kernel) (by decide +kernel), tw 15 (by decide +kernel) (by decide +kernel)⟩
theorem m_X8_246 : MFV RX8 246 yX8_chancesOfYard cX8_chancesOfYard (7, (some .int)) 3 := ⟨⟨tw 48 (by decide +kernel) (by decide +kernel), tw 757 (by decide +kernel) (by decide +kernel), ⟨by decide +kernel, by decide +kernel, by decide +kernel⟩, by decide⟩, (tw 754 (by decide +kernel) (by decide +kernel)), tw 756 (by decide +kernel) (by decide +kernel), tw 16 (by decide +kernel) (by decide +kernel)⟩
theorem m_X8_250 : MFS RX8 250 yX8_power cX8_power (4, (some .int)) 2 := ⟨⟨tw 48 (by decide +kernel) (by decide +kernel), tw 760 (by decide +kernel) (by decide +kernel), ⟨by decide +kernel, by decide +kernel, by decide +kernel⟩, by decide⟩, Or.inl (tw 758 (by decide +kernel) (by decide +kernel)), tw 759 (by decide +kernel) (by decide +kernel)⟩
theorem m_X8_254 : MFS RX8 254 yX8_sharedPower cX8_sharedPower (6, (some .int)) 3 := ⟨⟨tw 48 (by decide +kernel) (by decide +kernel), tw 763 (by decide +kernel) (by decide +kernel), ⟨by decide +kernel, by decide +kernel, by decide +kernel⟩, by decide⟩, Or.inl (tw 761 (by decide +kernel) (by decide +kernel)), tw 762 (by decide +kernel) (by decide +kernel)⟩
theorem m_X8_257 : M_max RX8 257 := ⟨tw 624 (by decide +kernel) (by decide +kernel), tw 178 (by decide +kernel) (by decide +kernel), tw 54 (by decide +kernel) (by decide +kernel), tw 179 (by decide +kernel) (by decide +kernel)⟩
theorem m_X8_262 : MFS RX8 262 yX8_draw cX8_draw (4, (some .int)) 2 := ⟨⟨tw 48 (by decide +kernel) (by decide +kernel), tw 770 (by decide +kernel) (by decide +kernel), ⟨by decide +kernel, by decide +kernel, by decide +kernel⟩, by decide⟩, Or.inl (tw 768 (by decide +kernel) (by decide +kernel)), tw 769 (by decide +kernel) (by decide +kernel)⟩
theorem m_X8_265 : MFV RX8 265 yX8_actByDraw cX8_actByDraw (3, none) 1 := ⟨⟨tw 48 (by decide +kernel) (by decide +kernel), tw 778 (by decide +kernel) (by decide +kernel), ⟨by decide +kernel, by decide +kernel, by decide +kernel⟩, by decide⟩, (tw 775 (by decide +kernel) (by decide +kernel)), tw 777 (by decide +kernel) (by decide +kernel), tw 17 (by decide +kernel) (by decide +kernel)⟩
theorem f_X8_268 : FI RX8 268 1 6 := ⟨by decide, by decide, rfl, Or.inr (tn 249 (by decide +kernel) (by decide +kernel))⟩
theorem m_X8_271 : MFV RX8 271 yX5_yardBits cX5_yardBits (4, (some .int)) 1 := ⟨⟨tw 51 (by decide +kernel) (by decide +kernel), tw 628 (by decide +kernel) (by decide +kernel), ⟨by decide +kernel, by decide +kernel, by decide +kernel⟩, by decide⟩, (tw 625 (by decide +kernel) (by decide +kernel)), tw 626 (by decide +kernel) (by decide +kernel), tw 627 (by decide +kernel) (by decide +kernel)⟩
theorem f_X8_274 : FI RX8 274 5 4 := ⟨by decide, by decide, rfl, Or.inr (tn 159 (by decide +kernel) (by decide +kernel))⟩
theorem m_X8_277 : MFV RX8 277 yX2_isFull cX2_isFull (1, (some .boolean)) 0 := ⟨⟨tw 53 (by decide +kernel) (by decide +kernel), tw 524 (by decide +kernel) (by decide +kernel), ⟨by decide +kernel, by decide +kernel, by decide +kernel⟩, by decide⟩, (tw 783 (by decide +kernel) (by decide +kernel)), tw 522 (by decide +kernel) (by decide +kernel), tw 523 (by decide +kernel) (by decide +kernel)⟩
theorem m_X8_278 : MFV RX8 278 yX2_clear cX2_clear (1, none) 0 := ⟨⟨tw 53 (by decide +kernel) (by decide +kernel), tw 418 (by decide +kernel) (by decide +kernel), ⟨by decide +kernel, by decide +kernel, by decide +kernel⟩, by decide⟩, (tw 415 (by decide +kernel) (by decide +kernel)), tw 416 (by decide +kernel) (by decide +kernel), tw 417 (by decide +kernel) (by decide +kernel)⟩
theorem f_X8_279 : FR RX8 279 1 0 := ⟨by decide, by decide, rfl, Or.inr (tn 241 (by decide +kernel) (by decide +kernel))⟩
theorem m_X8_282 : MFV RX8 282 yX8_hoursTillMerchants cX8_hoursTillMerchants (1, (some .int)) 0 := ⟨⟨tw 48 (by decide +kernel) (by decide +kernel), tw 623 (by decide +kernel) (by decide +kernel), ⟨by decide +kernel, by decide +kernel, by decide +kernel⟩, by decide⟩, (tw 620 (by decide +kernel) (by decide +kernel)), tw 622 (by decide +kernel) (by decide +kernel), tw 9 (by decide +kernel) (by decide +kernel)⟩
theorem f_X8_285 : FI RX8 285 1 5 := ⟨by decide, by decide, rfl, Or.inr (tn 247 (by decide +kernel) (by decide +kernel))⟩
theorem m_X8_288 : MFV RX8 288 yX4_isSo cX4_isSo (4, (some .boolean)) 2 := ⟨⟨tw 55 (by decide +kernel) (by decide +kernel), tw 743 (by decide +kernel) (by decide +kernel), ⟨by decide +kernel, by decide +kernel, by decide +kernel⟩, by decide⟩, (tw 740 (by decide +kernel) (by decide +kernel)), tw 741 (by decide +kernel) (by decide +kernel), tw 742 (by decide +kernel) (by decide +kernel)⟩
theorem m_X8_292 : MFV RX8 292 yX1_goByOne cX1_goByOne (4, none) 3 := ⟨⟨tw 57 (by decide +kernel) (by decide +kernel), tw 539 (by decide +kernel) (by decide +kernel), ⟨by decide +kernel, by decide +kernel, by decide +kernel⟩, by decide⟩, (tw 745 (by decide +kernel) (by decide +kernel)), tw 537 (by decide +kernel) (by decide +kernel), tw 538 (by decide +kernel) (by decide +kernel)⟩
theorem k_X8_296 : Cond.constantLong RX8 296 7919 ∈ wT := tw 771 (by decide +kernel) (by decide +kernel)
theorem k_X8_298 : Cond.constantLong RX8 298 6151 ∈ wT := tw 772 (by decide +kernel) (by decide +kernel)
theorem k_X8_300 : Cond.constantLong RX8 300 65521 ∈ wT := tw 773 (by decide +kernel) (by decide +kernel)
theorem k_X8_302 : Cond.constantLong RX8 302 2 ∈ wT := tw 774 (by decide +kernel) (by decide +kernel)
theorem m_X9_1 : OI RX9 1 := ⟨tw 797 (by decide +kernel) (by decide +kernel), tw 71 (by decide +kernel) (by decide +kernel), tw 72 (by decide +kernel) (by decide +kernel)⟩
theorem f_X9_7 : FR RX9 7 9 0 := ⟨by decide, by decide, rfl, Or.inl (tw 814 (by decide +kernel) (by decide +kernel))⟩
theorem f_X9_7_l : Cond.fieldLink RX9 7 (clT 9 0).1 (clT 9 0).2.1 (clT 9 0).2.2.1 ∈ wT := tw 814 (by decide +kernel) (by decide +kernel)
theorem f_X9_13 : FR RX9 13 9 2 := ⟨by decide, by decide, rfl, Or.inl (tw 816 (by decide +kernel) (by decide +kernel))⟩
theorem f_X9_13_l : Cond.fieldLink RX9 13 (clT 9 2).1 (clT 9 2).2.1 (clT 9 2).2.2.1 ∈ wT := tw 816 (by decide +kernel) (by decide +kernel)
theorem f_X9_16 : FR RX9 16 9 3 := ⟨by decide, by decide, rfl, Or.inl (tw 817 (by decide +kernel) (by decide +kernel))⟩
theorem f_X9_16_l : Cond.fieldLink RX9 16 (clT 9 3).1 (clT 9 3).2.1 (clT 9 3).2.2.1 ∈ wT := tw 817 (by decide +kernel) (by decide +kernel)
theorem f_X9_19 : FR RX9 19 9 4 := ⟨by decide, by decide, rfl, Or.inl (tw 818 (by decide +kernel) (by decide +kernel))⟩
theorem f_X9_19_l : Cond.fieldLink RX9 19 (clT 9 4).1 (clT 9 4).2.1 (clT 9 4).2.2.1 ∈ wT := tw 818 (by decide +kernel) (by decide +kernel)
theorem f_X9_22 : FR RX9 22 9 5 := ⟨by decide, by decide, rfl, Or.inl (tw 819 (by decide +kernel) (by decide +kernel))⟩
theorem f_X9_22_l : Cond.fieldLink RX9 22 (clT 9 5).1 (clT 9 5).2.1 (clT 9 5).2.2.1 ∈ wT := tw 819 (by decide +kernel) (by decide +kernel)
theorem f_X9_25 : FR RX9 25 9 6 := ⟨by decide, by decide, rfl, Or.inl (tw 820 (by decide +kernel) (by decide +kernel))⟩
theorem f_X9_25_l : Cond.fieldLink RX9 25 (clT 9 6).1 (clT 9 6).2.1 (clT 9 6).2.2.1 ∈ wT := tw 820 (by decide +kernel) (by decide +kernel)
theorem f_X9_28 : FR RX9 28 9 8 := ⟨by decide, by decide, rfl, Or.inl (tw 822 (by decide +kernel) (by decide +kernel))⟩
theorem f_X9_28_l : Cond.fieldLink RX9 28 (clT 9 8).1 (clT 9 8).2.1 (clT 9 8).2.2.1 ∈ wT := tw 822 (by decide +kernel) (by decide +kernel)
theorem f_X9_31 : FR RX9 31 9 10 := ⟨by decide, by decide, rfl, Or.inl (tw 824 (by decide +kernel) (by decide +kernel))⟩
theorem f_X9_31_l : Cond.fieldLink RX9 31 (clT 9 10).1 (clT 9 10).2.1 (clT 9 10).2.2.1 ∈ wT := tw 824 (by decide +kernel) (by decide +kernel)
theorem f_X9_34 : FR RX9 34 9 13 := ⟨by decide, by decide, rfl, Or.inl (tw 827 (by decide +kernel) (by decide +kernel))⟩
theorem f_X9_34_l : Cond.fieldLink RX9 34 (clT 9 13).1 (clT 9 13).2.1 (clT 9 13).2.2.1 ∈ wT := tw 827 (by decide +kernel) (by decide +kernel)
theorem f_X9_37 : FR RX9 37 9 14 := ⟨by decide, by decide, rfl, Or.inl (tw 828 (by decide +kernel) (by decide +kernel))⟩
theorem f_X9_37_l : Cond.fieldLink RX9 37 (clT 9 14).1 (clT 9 14).2.1 (clT 9 14).2.2.1 ∈ wT := tw 828 (by decide +kernel) (by decide +kernel)
theorem m_X9_40 : MFV RX9 40 yX9_begins cX9_begins (2, none) 0 := ⟨⟨tw 63 (by decide +kernel) (by decide +kernel), tw 801 (by decide +kernel) (by decide +kernel), ⟨by decide +kernel, by decide +kernel, by decide +kernel⟩, by decide⟩, (tw 798 (by decide +kernel) (by decide +kernel)), tw 800 (by decide +kernel) (by decide +kernel), tw 18 (by decide +kernel) (by decide +kernel)⟩
theorem m_X9_43 : MFV RX9 43 yX9_loomOf cX9_loomOf (4, none) 3 := ⟨⟨tw 63 (by decide +kernel) (by decide +kernel), tw 805 (by decide +kernel) (by decide +kernel), ⟨by decide +kernel, by decide +kernel, by decide +kernel⟩, by decide⟩, (tw 802 (by decide +kernel) (by decide +kernel)), tw 804 (by decide +kernel) (by decide +kernel), tw 19 (by decide +kernel) (by decide +kernel)⟩
theorem m_X9_47 : MFV RX9 47 yX9_hourOf cX9_hourOf (3, none) 2 := ⟨⟨tw 63 (by decide +kernel) (by decide +kernel), tw 809 (by decide +kernel) (by decide +kernel), ⟨by decide +kernel, by decide +kernel, by decide +kernel⟩, by decide⟩, (tw 806 (by decide +kernel) (by decide +kernel)), tw 808 (by decide +kernel) (by decide +kernel), tw 20 (by decide +kernel) (by decide +kernel)⟩
theorem m_X9_51 : MFV RX9 51 yX9_lays cX9_lays (2, none) 0 := ⟨⟨tw 63 (by decide +kernel) (by decide +kernel), tw 813 (by decide +kernel) (by decide +kernel), ⟨by decide +kernel, by decide +kernel, by decide +kernel⟩, by decide⟩, (tw 810 (by decide +kernel) (by decide +kernel)), tw 812 (by decide +kernel) (by decide +kernel), tw 21 (by decide +kernel) (by decide +kernel)⟩
theorem m_X9_54 : MFS RX9 54 yX9_in cX9_in (3, (some .boolean)) 3 := ⟨⟨tw 63 (by decide +kernel) (by decide +kernel), tw 866 (by decide +kernel) (by decide +kernel), ⟨by decide +kernel, by decide +kernel, by decide +kernel⟩, by decide⟩, Or.inl (tw 864 (by decide +kernel) (by decide +kernel)), tw 865 (by decide +kernel) (by decide +kernel)⟩
theorem f_X9_58 : FI RX9 58 9 1 := ⟨by decide, by decide, rfl, Or.inl (tw 815 (by decide +kernel) (by decide +kernel))⟩
theorem f_X9_62 : FI RX9 62 9 12 := ⟨by decide, by decide, rfl, Or.inl (tw 826 (by decide +kernel) (by decide +kernel))⟩
theorem m_X9_65 : MFV RX9 65 yX9_letterAt cX9_letterAt (2, (some .int)) 1 := ⟨⟨tw 63 (by decide +kernel) (by decide +kernel), tw 894 (by decide +kernel) (by decide +kernel), ⟨by decide +kernel, by decide +kernel, by decide +kernel⟩, by decide⟩, (tw 891 (by decide +kernel) (by decide +kernel)), tw 893 (by decide +kernel) (by decide +kernel), tw 26 (by decide +kernel) (by decide +kernel)⟩
theorem m_X9_69 : MFS RX9 69 yX9_isFigure cX9_isFigure (1, (some .boolean)) 1 := ⟨⟨tw 63 (by decide +kernel) (by decide +kernel), tw 897 (by decide +kernel) (by decide +kernel), ⟨by decide +kernel, by decide +kernel, by decide +kernel⟩, by decide⟩, Or.inl (tw 895 (by decide +kernel) (by decide +kernel)), tw 896 (by decide +kernel) (by decide +kernel)⟩
theorem m_X9_73 : MFV RX9 73 yX9_number cX9_number (6, (some .int)) 3 := ⟨⟨tw 63 (by decide +kernel) (by decide +kernel), tw 890 (by decide +kernel) (by decide +kernel), ⟨by decide +kernel, by decide +kernel, by decide +kernel⟩, by decide⟩, (tw 887 (by decide +kernel) (by decide +kernel)), tw 889 (by decide +kernel) (by decide +kernel), tw 25 (by decide +kernel) (by decide +kernel)⟩
theorem m_X9_77 : MFV RX9 77 yX9_readsLoom cX9_readsLoom (6, (some .boolean)) 0 := ⟨⟨tw 63 (by decide +kernel) (by decide +kernel), tw 886 (by decide +kernel) (by decide +kernel), ⟨by decide +kernel, by decide +kernel, by decide +kernel⟩, by decide⟩, (tw 883 (by decide +kernel) (by decide +kernel)), tw 885 (by decide +kernel) (by decide +kernel), tw 24 (by decide +kernel) (by decide +kernel)⟩
theorem m_X9_81 : MFV RX9 81 yX9_one cX9_one (4, (some .boolean)) 3 := ⟨⟨tw 63 (by decide +kernel) (by decide +kernel), tw 901 (by decide +kernel) (by decide +kernel), ⟨by decide +kernel, by decide +kernel, by decide +kernel⟩, by decide⟩, (tw 898 (by decide +kernel) (by decide +kernel)), tw 900 (by decide +kernel) (by decide +kernel), tw 27 (by decide +kernel) (by decide +kernel)⟩
theorem m_X9_84 : MFV RX9 84 yX9_readsItem cX9_readsItem (4, (some .boolean)) 1 := ⟨⟨tw 63 (by decide +kernel) (by decide +kernel), tw 882 (by decide +kernel) (by decide +kernel), ⟨by decide +kernel, by decide +kernel, by decide +kernel⟩, by decide⟩, (tw 879 (by decide +kernel) (by decide +kernel)), tw 881 (by decide +kernel) (by decide +kernel), tw 23 (by decide +kernel) (by decide +kernel)⟩
theorem m_X9_87 : MFV RX9 87 yX9_readsAll cX9_readsAll (2, (some .int)) 0 := ⟨⟨tw 63 (by decide +kernel) (by decide +kernel), tw 878 (by decide +kernel) (by decide +kernel), ⟨by decide +kernel, by decide +kernel, by decide +kernel⟩, by decide⟩, (tw 875 (by decide +kernel) (by decide +kernel)), tw 877 (by decide +kernel) (by decide +kernel), tw 22 (by decide +kernel) (by decide +kernel)⟩
theorem f_X9_91 : FI RX9 91 9 7 := ⟨by decide, by decide, rfl, Or.inl (tw 821 (by decide +kernel) (by decide +kernel))⟩
theorem f_X9_94 : FI RX9 94 9 9 := ⟨by decide, by decide, rfl, Or.inl (tw 823 (by decide +kernel) (by decide +kernel))⟩
theorem f_X9_97 : FI RX9 97 9 11 := ⟨by decide, by decide, rfl, Or.inl (tw 825 (by decide +kernel) (by decide +kernel))⟩
theorem m_X9_100 : MFV RX9 100 yX9_isLoom cX9_isLoom (2, (some .boolean)) 1 := ⟨⟨tw 63 (by decide +kernel) (by decide +kernel), tw 913 (by decide +kernel) (by decide +kernel), ⟨by decide +kernel, by decide +kernel, by decide +kernel⟩, by decide⟩, (tw 910 (by decide +kernel) (by decide +kernel)), tw 912 (by decide +kernel) (by decide +kernel), tw 28 (by decide +kernel) (by decide +kernel)⟩
theorem m_X9_103 : MFV RX9 103 yX9_nth cX9_nth (2, (some .int)) 1 := ⟨⟨tw 63 (by decide +kernel) (by decide +kernel), tw 925 (by decide +kernel) (by decide +kernel), ⟨by decide +kernel, by decide +kernel, by decide +kernel⟩, by decide⟩, (tw 922 (by decide +kernel) (by decide +kernel)), tw 924 (by decide +kernel) (by decide +kernel), tw 30 (by decide +kernel) (by decide +kernel)⟩
theorem m_X9_106 : MFV RX9 106 yX9_coldOf cX9_coldOf (2, (some .int)) 1 := ⟨⟨tw 63 (by decide +kernel) (by decide +kernel), tw 921 (by decide +kernel) (by decide +kernel), ⟨by decide +kernel, by decide +kernel, by decide +kernel⟩, by decide⟩, (tw 918 (by decide +kernel) (by decide +kernel)), tw 920 (by decide +kernel) (by decide +kernel), tw 29 (by decide +kernel) (by decide +kernel)⟩
theorem m_X9_109 : MFV RX9 109 yX9_mistOf cX9_mistOf (2, (some .int)) 1 := ⟨⟨tw 63 (by decide +kernel) (by decide +kernel), tw 929 (by decide +kernel) (by decide +kernel), ⟨by decide +kernel, by decide +kernel, by decide +kernel⟩, by decide⟩, (tw 926 (by decide +kernel) (by decide +kernel)), tw 928 (by decide +kernel) (by decide +kernel), tw 31 (by decide +kernel) (by decide +kernel)⟩
theorem m_X9_112 : MFV RX9 112 yX9_loomAt cX9_loomAt (4, (some .int)) 1 := ⟨⟨tw 63 (by decide +kernel) (by decide +kernel), tw 937 (by decide +kernel) (by decide +kernel), ⟨by decide +kernel, by decide +kernel, by decide +kernel⟩, by decide⟩, (tw 934 (by decide +kernel) (by decide +kernel)), tw 936 (by decide +kernel) (by decide +kernel), tw 32 (by decide +kernel) (by decide +kernel)⟩
theorem m_X9_115 : MFV RX9 115 yX9_settles cX9_settles (6, (some .int)) 3 := ⟨⟨tw 63 (by decide +kernel) (by decide +kernel), tw 957 (by decide +kernel) (by decide +kernel), ⟨by decide +kernel, by decide +kernel, by decide +kernel⟩, by decide⟩, (tw 954 (by decide +kernel) (by decide +kernel)), tw 956 (by decide +kernel) (by decide +kernel), tw 36 (by decide +kernel) (by decide +kernel)⟩
theorem m_X9_118 : MFV RX9 118 yX9_holds cX9_holds (2, (some .int)) 1 := ⟨⟨tw 63 (by decide +kernel) (by decide +kernel), tw 961 (by decide +kernel) (by decide +kernel), ⟨by decide +kernel, by decide +kernel, by decide +kernel⟩, by decide⟩, (tw 958 (by decide +kernel) (by decide +kernel)), tw 960 (by decide +kernel) (by decide +kernel), tw 37 (by decide +kernel) (by decide +kernel)⟩
theorem m_X9_121 : MFV RX9 121 yX9_passes cX9_passes (9, none) 2 := ⟨⟨tw 63 (by decide +kernel) (by decide +kernel), tw 953 (by decide +kernel) (by decide +kernel), ⟨by decide +kernel, by decide +kernel, by decide +kernel⟩, by decide⟩, (tw 950 (by decide +kernel) (by decide +kernel)), tw 952 (by decide +kernel) (by decide +kernel), tw 35 (by decide +kernel) (by decide +kernel)⟩
theorem m_X9_124 : MFV RX9 124 yX9_keeps cX9_keeps (2, none) 0 := ⟨⟨tw 63 (by decide +kernel) (by decide +kernel), tw 945 (by decide +kernel) (by decide +kernel), ⟨by decide +kernel, by decide +kernel, by decide +kernel⟩, by decide⟩, (tw 942 (by decide +kernel) (by decide +kernel)), tw 944 (by decide +kernel) (by decide +kernel), tw 33 (by decide +kernel) (by decide +kernel)⟩
theorem m_X9_127 : MFV RX9 127 yX9_hours cX9_hours (3, none) 1 := ⟨⟨tw 63 (by decide +kernel) (by decide +kernel), tw 949 (by decide +kernel) (by decide +kernel), ⟨by decide +kernel, by decide +kernel, by decide +kernel⟩, by decide⟩, (tw 946 (by decide +kernel) (by decide +kernel)), tw 948 (by decide +kernel) (by decide +kernel), tw 34 (by decide +kernel) (by decide +kernel)⟩
theorem m_X9_131 : MFV RX9 131 yX9_sumOf cX9_sumOf (4, (some .int)) 1 := ⟨⟨tw 63 (by decide +kernel) (by decide +kernel), tw 965 (by decide +kernel) (by decide +kernel), ⟨by decide +kernel, by decide +kernel, by decide +kernel⟩, by decide⟩, (tw 962 (by decide +kernel) (by decide +kernel)), tw 964 (by decide +kernel) (by decide +kernel), tw 38 (by decide +kernel) (by decide +kernel)⟩
theorem m_X9_134 : MFV RX9 134 yX9_weeps cX9_weeps (3, none) 1 := ⟨⟨tw 63 (by decide +kernel) (by decide +kernel), tw 981 (by decide +kernel) (by decide +kernel), ⟨by decide +kernel, by decide +kernel, by decide +kernel⟩, by decide⟩, (tw 978 (by decide +kernel) (by decide +kernel)), tw 980 (by decide +kernel) (by decide +kernel), tw 39 (by decide +kernel) (by decide +kernel)⟩
theorem m_X9_137 : MFV RX9 137 yX9_keepsAside cX9_keepsAside (2, none) 0 := ⟨⟨tw 63 (by decide +kernel) (by decide +kernel), tw 997 (by decide +kernel) (by decide +kernel), ⟨by decide +kernel, by decide +kernel, by decide +kernel⟩, by decide⟩, (tw 994 (by decide +kernel) (by decide +kernel)), tw 996 (by decide +kernel) (by decide +kernel), tw 40 (by decide +kernel) (by decide +kernel)⟩
theorem m_X9_140 : MFV RX9 140 yX9_bringsBack cX9_bringsBack (2, none) 0 := ⟨⟨tw 63 (by decide +kernel) (by decide +kernel), tw 1001 (by decide +kernel) (by decide +kernel), ⟨by decide +kernel, by decide +kernel, by decide +kernel⟩, by decide⟩, (tw 998 (by decide +kernel) (by decide +kernel)), tw 1000 (by decide +kernel) (by decide +kernel), tw 41 (by decide +kernel) (by decide +kernel)⟩
theorem m_X9_143 : MFV RX9 143 yX9_sells cX9_sells (1, none) 0 := ⟨⟨tw 63 (by decide +kernel) (by decide +kernel), tw 1009 (by decide +kernel) (by decide +kernel), ⟨by decide +kernel, by decide +kernel, by decide +kernel⟩, by decide⟩, (tw 1006 (by decide +kernel) (by decide +kernel)), tw 1008 (by decide +kernel) (by decide +kernel), tw 42 (by decide +kernel) (by decide +kernel)⟩
theorem m_X9_146 : MFV RX9 146 yX9_yardsNow cX9_yardsNow (3, (some .int)) 0 := ⟨⟨tw 63 (by decide +kernel) (by decide +kernel), tw 1013 (by decide +kernel) (by decide +kernel), ⟨by decide +kernel, by decide +kernel, by decide +kernel⟩, by decide⟩, (tw 1010 (by decide +kernel) (by decide +kernel)), tw 1012 (by decide +kernel) (by decide +kernel), tw 43 (by decide +kernel) (by decide +kernel)⟩
theorem m_X9_149 : MFV RX9 149 yX9_placeOf cX9_placeOf (7, (some .int)) 1 := ⟨⟨tw 63 (by decide +kernel) (by decide +kernel), tw 1021 (by decide +kernel) (by decide +kernel), ⟨by decide +kernel, by decide +kernel, by decide +kernel⟩, by decide⟩, (tw 1018 (by decide +kernel) (by decide +kernel)), tw 1020 (by decide +kernel) (by decide +kernel), tw 44 (by decide +kernel) (by decide +kernel)⟩
theorem m_X9_152 : MFS RX9 152 yX9_ones cX9_ones (3, (some .int)) 1 := ⟨⟨tw 63 (by decide +kernel) (by decide +kernel), tw 1024 (by decide +kernel) (by decide +kernel), ⟨by decide +kernel, by decide +kernel, by decide +kernel⟩, by decide⟩, Or.inl (tw 1022 (by decide +kernel) (by decide +kernel)), tw 1023 (by decide +kernel) (by decide +kernel)⟩
theorem m_X9_155 : MFV RX9 155 yX9_isSo cX9_isSo (6, (some .boolean)) 1 := ⟨⟨tw 63 (by decide +kernel) (by decide +kernel), tw 1052 (by decide +kernel) (by decide +kernel), ⟨by decide +kernel, by decide +kernel, by decide +kernel⟩, by decide⟩, (tw 1049 (by decide +kernel) (by decide +kernel)), tw 1051 (by decide +kernel) (by decide +kernel), tw 45 (by decide +kernel) (by decide +kernel)⟩
theorem k_X9_158 : Cond.constantLong RX9 158 7919 ∈ wT := tw 1065 (by decide +kernel) (by decide +kernel)
theorem k_X9_160 : Cond.constantLong RX9 160 6151 ∈ wT := tw 1066 (by decide +kernel) (by decide +kernel)
theorem k_X9_162 : Cond.constantLong RX9 162 65521 ∈ wT := tw 1067 (by decide +kernel) (by decide +kernel)
theorem m_X9_164 : MFV RX9 164 yX9_turn cX9_turn (4, none) 1 := ⟨⟨tw 63 (by decide +kernel) (by decide +kernel), tw 1071 (by decide +kernel) (by decide +kernel), ⟨by decide +kernel, by decide +kernel, by decide +kernel⟩, by decide⟩, (tw 1068 (by decide +kernel) (by decide +kernel)), tw 1070 (by decide +kernel) (by decide +kernel), tw 46 (by decide +kernel) (by decide +kernel)⟩
theorem k_J6_265 : Cond.constant RJ6 265 1431655765 ∈ wT := tw 651 (by decide +kernel) (by decide +kernel)
theorem k_J6_266 : Cond.constant RJ6 266 858993459 ∈ wT := tw 652 (by decide +kernel) (by decide +kernel)
theorem k_J6_267 : Cond.constant RJ6 267 252645135 ∈ wT := tw 653 (by decide +kernel) (by decide +kernel)
theorem m_J0_335 : MFV RJ0 335 yJ0_coder_7d493 cJ0_coder_7d493 (1, (some .byte)) 0 := ⟨⟨tw 58 (by decide +kernel) (by decide +kernel), tw 273 (by decide +kernel) (by decide +kernel), ⟨by decide +kernel, by decide +kernel, by decide +kernel⟩, by decide⟩, (tw 270 (by decide +kernel) (by decide +kernel)), tw 271 (by decide +kernel) (by decide +kernel), tw 272 (by decide +kernel) (by decide +kernel)⟩
theorem m_J0_492 : MFV RJ0 492 yJ0_isLatin1_aae02 cJ0_isLatin1_aae02 (1, (some .boolean)) 0 := ⟨⟨tw 58 (by decide +kernel) (by decide +kernel), tw 283 (by decide +kernel) (by decide +kernel), ⟨by decide +kernel, by decide +kernel, by decide +kernel⟩, by decide⟩, (tw 280 (by decide +kernel) (by decide +kernel)), tw 281 (by decide +kernel) (by decide +kernel), tw 282 (by decide +kernel) (by decide +kernel)⟩
theorem m_J0_495 : MFS RJ0 495 yJ1_charAt_3b067 cJ1_charAt_3b067 (2, (some .char)) 2 := ⟨⟨tw 59 (by decide +kernel) (by decide +kernel), tw 286 (by decide +kernel) (by decide +kernel), ⟨by decide +kernel, by decide +kernel, by decide +kernel⟩, by decide⟩, Or.inl (tw 284 (by decide +kernel) (by decide +kernel)), tw 285 (by decide +kernel) (by decide +kernel)⟩
theorem m_J0_498 : MFS RJ0 498 yJ2_charAt_3b067 cJ2_charAt_3b067 (2, (some .char)) 2 := ⟨⟨tw 61 (by decide +kernel) (by decide +kernel), tw 297 (by decide +kernel) (by decide +kernel), ⟨by decide +kernel, by decide +kernel, by decide +kernel⟩, by decide⟩, Or.inl (tw 295 (by decide +kernel) (by decide +kernel)), tw 296 (by decide +kernel) (by decide +kernel)⟩
theorem m_J0_1059 : MFS RJ0 1059 yJ3_checkIndex_8e157 cJ3_checkIndex_8e157 (3, (some .int)) 3 := ⟨⟨tw 60 (by decide +kernel) (by decide +kernel), tw 294 (by decide +kernel) (by decide +kernel), ⟨by decide +kernel, by decide +kernel, by decide +kernel⟩, by decide⟩, Or.inl (tw 292 (by decide +kernel) (by decide +kernel)), tw 293 (by decide +kernel) (by decide +kernel)⟩
theorem m_J1_9 : MFS RJ1 9 yJ0_checkIndex_df160 cJ0_checkIndex_df160 (2, none) 2 := ⟨⟨tw 58 (by decide +kernel) (by decide +kernel), tw 289 (by decide +kernel) (by decide +kernel), ⟨by decide +kernel, by decide +kernel, by decide +kernel⟩, by decide⟩, Or.inl (tw 287 (by decide +kernel) (by decide +kernel)), tw 288 (by decide +kernel) (by decide +kernel)⟩
theorem m_J2_48 : MFS RJ2 48 yJ2_length_9d52b cJ2_length_9d52b (1, (some .int)) 1 := ⟨⟨tw 61 (by decide +kernel) (by decide +kernel), tw 303 (by decide +kernel) (by decide +kernel), ⟨by decide +kernel, by decide +kernel, by decide +kernel⟩, by decide⟩, Or.inl (tw 301 (by decide +kernel) (by decide +kernel)), tw 302 (by decide +kernel) (by decide +kernel)⟩
theorem m_J2_67 : MFS RJ2 67 yJ2_checkIndex_2214a cJ2_checkIndex_2214a (2, none) 2 := ⟨⟨tw 61 (by decide +kernel) (by decide +kernel), tw 300 (by decide +kernel) (by decide +kernel), ⟨by decide +kernel, by decide +kernel, by decide +kernel⟩, by decide⟩, Or.inl (tw 298 (by decide +kernel) (by decide +kernel)), tw 299 (by decide +kernel) (by decide +kernel)⟩
theorem m_J2_71 : MFS RJ2 71 yJ2_getChar_3b067 cJ2_getChar_3b067 (2, (some .char)) 2 := ⟨⟨tw 61 (by decide +kernel) (by decide +kernel), tw 307 (by decide +kernel) (by decide +kernel), ⟨by decide +kernel, by decide +kernel, by decide +kernel⟩, by decide⟩, Or.inl (tw 305 (by decide +kernel) (by decide +kernel)), tw 306 (by decide +kernel) (by decide +kernel)⟩
theorem m_J2_414 : MFS RJ2 414 yJ0_checkIndex_df160 cJ0_checkIndex_df160 (2, none) 2 := ⟨⟨tw 58 (by decide +kernel) (by decide +kernel), tw 289 (by decide +kernel) (by decide +kernel), ⟨by decide +kernel, by decide +kernel, by decide +kernel⟩, by decide⟩, Or.inl (tw 304 (by decide +kernel) (by decide +kernel)), tw 288 (by decide +kernel) (by decide +kernel)⟩
theorem n_L_7 : NW RL 7 8 := ⟨by decide, tw 65 (by decide +kernel) (by decide +kernel), tw 66 (by decide +kernel) (by decide +kernel), tw 48 (by decide +kernel) (by decide +kernel)⟩
theorem m_L_9 : MFI RL 9 yX8_init cX8_init (2, none) 0 := ⟨⟨tw 48 (by decide +kernel) (by decide +kernel), tw 69 (by decide +kernel) (by decide +kernel), ⟨by decide +kernel, by decide +kernel, by decide +kernel⟩, by decide⟩, Or.inl (tw 67 (by decide +kernel) (by decide +kernel)), tw 68 (by decide +kernel) (by decide +kernel), rfl⟩
theorem n_L_10 : NW RL 10 9 := ⟨by decide, tw 792 (by decide +kernel) (by decide +kernel), tw 793 (by decide +kernel) (by decide +kernel), tw 63 (by decide +kernel) (by decide +kernel)⟩
theorem m_L_12 : MFI RL 12 yX9_init cX9_init (1, none) 0 := ⟨⟨tw 63 (by decide +kernel) (by decide +kernel), tw 796 (by decide +kernel) (by decide +kernel), ⟨by decide +kernel, by decide +kernel, by decide +kernel⟩, by decide⟩, Or.inl (tw 794 (by decide +kernel) (by decide +kernel)), tw 795 (by decide +kernel) (by decide +kernel), rfl⟩
theorem m_L_13 : MFV RL 13 yX8_write cX8_write (2, (some .int)) 1 := ⟨⟨tw 48 (by decide +kernel) (by decide +kernel), tw 458 (by decide +kernel) (by decide +kernel), ⟨by decide +kernel, by decide +kernel, by decide +kernel⟩, by decide⟩, (tw 455 (by decide +kernel) (by decide +kernel)), tw 456 (by decide +kernel) (by decide +kernel), tw 457 (by decide +kernel) (by decide +kernel)⟩
theorem m_L_17 : MFV RL 17 yX9_write cX9_write (2, (some .int)) 1 := ⟨⟨tw 63 (by decide +kernel) (by decide +kernel), tw 863 (by decide +kernel) (by decide +kernel), ⟨by decide +kernel, by decide +kernel, by decide +kernel⟩, by decide⟩, (tw 860 (by decide +kernel) (by decide +kernel)), tw 861 (by decide +kernel) (by decide +kernel), tw 862 (by decide +kernel) (by decide +kernel)⟩
theorem m_L_18 : MFV RL 18 yX8_wipe cX8_wipe (2, (some .int)) 0 := ⟨⟨tw 48 (by decide +kernel) (by decide +kernel), tw 466 (by decide +kernel) (by decide +kernel), ⟨by decide +kernel, by decide +kernel, by decide +kernel⟩, by decide⟩, (tw 463 (by decide +kernel) (by decide +kernel)), tw 464 (by decide +kernel) (by decide +kernel), tw 465 (by decide +kernel) (by decide +kernel)⟩
theorem m_L_22 : MFV RL 22 yX9_wipe cX9_wipe (2, (some .int)) 0 := ⟨⟨tw 63 (by decide +kernel) (by decide +kernel), tw 870 (by decide +kernel) (by decide +kernel), ⟨by decide +kernel, by decide +kernel, by decide +kernel⟩, by decide⟩, (tw 867 (by decide +kernel) (by decide +kernel)), tw 868 (by decide +kernel) (by decide +kernel), tw 869 (by decide +kernel) (by decide +kernel)⟩
theorem m_L_23 : MFV RL 23 yX8_fault cX8_fault (1, (some .int)) 0 := ⟨⟨tw 48 (by decide +kernel) (by decide +kernel), tw 470 (by decide +kernel) (by decide +kernel), ⟨by decide +kernel, by decide +kernel, by decide +kernel⟩, by decide⟩, (tw 467 (by decide +kernel) (by decide +kernel)), tw 468 (by decide +kernel) (by decide +kernel), tw 469 (by decide +kernel) (by decide +kernel)⟩
theorem m_L_26 : MFV RL 26 yX9_fault cX9_fault (1, (some .int)) 0 := ⟨⟨tw 63 (by decide +kernel) (by decide +kernel), tw 874 (by decide +kernel) (by decide +kernel), ⟨by decide +kernel, by decide +kernel, by decide +kernel⟩, by decide⟩, (tw 871 (by decide +kernel) (by decide +kernel)), tw 872 (by decide +kernel) (by decide +kernel), tw 873 (by decide +kernel) (by decide +kernel)⟩
theorem m_L_27 : MFV RL 27 yX8_lay cX8_lay (1, (some .int)) 0 := ⟨⟨tw 48 (by decide +kernel) (by decide +kernel), tw 474 (by decide +kernel) (by decide +kernel), ⟨by decide +kernel, by decide +kernel, by decide +kernel⟩, by decide⟩, (tw 471 (by decide +kernel) (by decide +kernel)), tw 472 (by decide +kernel) (by decide +kernel), tw 473 (by decide +kernel) (by decide +kernel)⟩
theorem m_L_30 : MFV RL 30 yX9_lay cX9_lay (1, (some .int)) 0 := ⟨⟨tw 63 (by decide +kernel) (by decide +kernel), tw 905 (by decide +kernel) (by decide +kernel), ⟨by decide +kernel, by decide +kernel, by decide +kernel⟩, by decide⟩, (tw 902 (by decide +kernel) (by decide +kernel)), tw 903 (by decide +kernel) (by decide +kernel), tw 904 (by decide +kernel) (by decide +kernel)⟩
theorem m_L_31 : MFV RL 31 yX8_loom cX8_loom (3, (some .int)) 2 := ⟨⟨tw 48 (by decide +kernel) (by decide +kernel), tw 478 (by decide +kernel) (by decide +kernel), ⟨by decide +kernel, by decide +kernel, by decide +kernel⟩, by decide⟩, (tw 475 (by decide +kernel) (by decide +kernel)), tw 476 (by decide +kernel) (by decide +kernel), tw 477 (by decide +kernel) (by decide +kernel)⟩
theorem m_L_35 : MFV RL 35 yX9_loom cX9_loom (3, (some .int)) 2 := ⟨⟨tw 63 (by decide +kernel) (by decide +kernel), tw 909 (by decide +kernel) (by decide +kernel), ⟨by decide +kernel, by decide +kernel, by decide +kernel⟩, by decide⟩, (tw 906 (by decide +kernel) (by decide +kernel)), tw 907 (by decide +kernel) (by decide +kernel), tw 908 (by decide +kernel) (by decide +kernel)⟩
theorem m_L_36 : MFV RL 36 yX8_hour cX8_hour (3, (some .int)) 2 := ⟨⟨tw 48 (by decide +kernel) (by decide +kernel), tw 491 (by decide +kernel) (by decide +kernel), ⟨by decide +kernel, by decide +kernel, by decide +kernel⟩, by decide⟩, (tw 488 (by decide +kernel) (by decide +kernel)), tw 489 (by decide +kernel) (by decide +kernel), tw 490 (by decide +kernel) (by decide +kernel)⟩
theorem m_L_39 : MFV RL 39 yX9_hour cX9_hour (3, (some .int)) 2 := ⟨⟨tw 63 (by decide +kernel) (by decide +kernel), tw 917 (by decide +kernel) (by decide +kernel), ⟨by decide +kernel, by decide +kernel, by decide +kernel⟩, by decide⟩, (tw 914 (by decide +kernel) (by decide +kernel)), tw 915 (by decide +kernel) (by decide +kernel), tw 916 (by decide +kernel) (by decide +kernel)⟩
theorem m_L_40 : MFV RL 40 yX8_at cX8_at (2, (some .int)) 1 := ⟨⟨tw 48 (by decide +kernel) (by decide +kernel), tw 510 (by decide +kernel) (by decide +kernel), ⟨by decide +kernel, by decide +kernel, by decide +kernel⟩, by decide⟩, (tw 507 (by decide +kernel) (by decide +kernel)), tw 508 (by decide +kernel) (by decide +kernel), tw 509 (by decide +kernel) (by decide +kernel)⟩
theorem m_L_43 : MFV RL 43 yX9_at cX9_at (2, (some .int)) 1 := ⟨⟨tw 63 (by decide +kernel) (by decide +kernel), tw 933 (by decide +kernel) (by decide +kernel), ⟨by decide +kernel, by decide +kernel, by decide +kernel⟩, by decide⟩, (tw 930 (by decide +kernel) (by decide +kernel)), tw 931 (by decide +kernel) (by decide +kernel), tw 932 (by decide +kernel) (by decide +kernel)⟩
theorem m_L_44 : MFV RL 44 yX8_pass cX8_pass (2, (some .int)) 1 := ⟨⟨tw 48 (by decide +kernel) (by decide +kernel), tw 516 (by decide +kernel) (by decide +kernel), ⟨by decide +kernel, by decide +kernel, by decide +kernel⟩, by decide⟩, (tw 513 (by decide +kernel) (by decide +kernel)), tw 514 (by decide +kernel) (by decide +kernel), tw 515 (by decide +kernel) (by decide +kernel)⟩
theorem m_L_47 : MFV RL 47 yX9_pass cX9_pass (2, (some .int)) 1 := ⟨⟨tw 63 (by decide +kernel) (by decide +kernel), tw 941 (by decide +kernel) (by decide +kernel), ⟨by decide +kernel, by decide +kernel, by decide +kernel⟩, by decide⟩, (tw 938 (by decide +kernel) (by decide +kernel)), tw 939 (by decide +kernel) (by decide +kernel), tw 940 (by decide +kernel) (by decide +kernel)⟩
theorem m_L_48 : MFV RL 48 yX8_shade cX8_shade (2, (some .int)) 1 := ⟨⟨tw 48 (by decide +kernel) (by decide +kernel), tw 573 (by decide +kernel) (by decide +kernel), ⟨by decide +kernel, by decide +kernel, by decide +kernel⟩, by decide⟩, (tw 570 (by decide +kernel) (by decide +kernel)), tw 571 (by decide +kernel) (by decide +kernel), tw 572 (by decide +kernel) (by decide +kernel)⟩
theorem m_L_51 : MFV RL 51 yX9_shade cX9_shade (2, (some .int)) 1 := ⟨⟨tw 63 (by decide +kernel) (by decide +kernel), tw 969 (by decide +kernel) (by decide +kernel), ⟨by decide +kernel, by decide +kernel, by decide +kernel⟩, by decide⟩, (tw 966 (by decide +kernel) (by decide +kernel)), tw 967 (by decide +kernel) (by decide +kernel), tw 968 (by decide +kernel) (by decide +kernel)⟩
theorem m_L_52 : MFV RL 52 yX8_cow cX8_cow (2, (some .int)) 1 := ⟨⟨tw 48 (by decide +kernel) (by decide +kernel), tw 581 (by decide +kernel) (by decide +kernel), ⟨by decide +kernel, by decide +kernel, by decide +kernel⟩, by decide⟩, (tw 578 (by decide +kernel) (by decide +kernel)), tw 579 (by decide +kernel) (by decide +kernel), tw 580 (by decide +kernel) (by decide +kernel)⟩
theorem m_L_55 : MFV RL 55 yX9_cow cX9_cow (2, (some .int)) 1 := ⟨⟨tw 63 (by decide +kernel) (by decide +kernel), tw 973 (by decide +kernel) (by decide +kernel), ⟨by decide +kernel, by decide +kernel, by decide +kernel⟩, by decide⟩, (tw 970 (by decide +kernel) (by decide +kernel)), tw 971 (by decide +kernel) (by decide +kernel), tw 972 (by decide +kernel) (by decide +kernel)⟩
theorem m_L_56 : MFV RL 56 yX8_tears cX8_tears (2, (some .int)) 1 := ⟨⟨tw 48 (by decide +kernel) (by decide +kernel), tw 589 (by decide +kernel) (by decide +kernel), ⟨by decide +kernel, by decide +kernel, by decide +kernel⟩, by decide⟩, (tw 586 (by decide +kernel) (by decide +kernel)), tw 587 (by decide +kernel) (by decide +kernel), tw 588 (by decide +kernel) (by decide +kernel)⟩
theorem m_L_59 : MFV RL 59 yX9_tears cX9_tears (2, (some .int)) 1 := ⟨⟨tw 63 (by decide +kernel) (by decide +kernel), tw 977 (by decide +kernel) (by decide +kernel), ⟨by decide +kernel, by decide +kernel, by decide +kernel⟩, by decide⟩, (tw 974 (by decide +kernel) (by decide +kernel)), tw 975 (by decide +kernel) (by decide +kernel), tw 976 (by decide +kernel) (by decide +kernel)⟩
theorem m_L_60 : MFV RL 60 yX8_set cX8_set (4, (some .int)) 2 := ⟨⟨tw 48 (by decide +kernel) (by decide +kernel), tw 598 (by decide +kernel) (by decide +kernel), ⟨by decide +kernel, by decide +kernel, by decide +kernel⟩, by decide⟩, (tw 595 (by decide +kernel) (by decide +kernel)), tw 596 (by decide +kernel) (by decide +kernel), tw 597 (by decide +kernel) (by decide +kernel)⟩
theorem m_L_63 : MFV RL 63 yX9_set cX9_set (4, (some .int)) 2 := ⟨⟨tw 63 (by decide +kernel) (by decide +kernel), tw 985 (by decide +kernel) (by decide +kernel), ⟨by decide +kernel, by decide +kernel, by decide +kernel⟩, by decide⟩, (tw 982 (by decide +kernel) (by decide +kernel)), tw 983 (by decide +kernel) (by decide +kernel), tw 984 (by decide +kernel) (by decide +kernel)⟩
theorem m_L_64 : MFV RL 64 yX8_undo cX8_undo (1, (some .int)) 0 := ⟨⟨tw 48 (by decide +kernel) (by decide +kernel), tw 603 (by decide +kernel) (by decide +kernel), ⟨by decide +kernel, by decide +kernel, by decide +kernel⟩, by decide⟩, (tw 600 (by decide +kernel) (by decide +kernel)), tw 601 (by decide +kernel) (by decide +kernel), tw 602 (by decide +kernel) (by decide +kernel)⟩
theorem m_L_67 : MFV RL 67 yX9_undo cX9_undo (2, (some .int)) 0 := ⟨⟨tw 63 (by decide +kernel) (by decide +kernel), tw 989 (by decide +kernel) (by decide +kernel), ⟨by decide +kernel, by decide +kernel, by decide +kernel⟩, by decide⟩, (tw 986 (by decide +kernel) (by decide +kernel)), tw 987 (by decide +kernel) (by decide +kernel), tw 988 (by decide +kernel) (by decide +kernel)⟩
theorem m_L_68 : MFV RL 68 yX8_behind cX8_behind (4, (some .int)) 3 := ⟨⟨tw 48 (by decide +kernel) (by decide +kernel), tw 611 (by decide +kernel) (by decide +kernel), ⟨by decide +kernel, by decide +kernel, by decide +kernel⟩, by decide⟩, (tw 608 (by decide +kernel) (by decide +kernel)), tw 609 (by decide +kernel) (by decide +kernel), tw 610 (by decide +kernel) (by decide +kernel)⟩
theorem m_L_72 : MFV RL 72 yX9_behind cX9_behind (5, (some .int)) 3 := ⟨⟨tw 63 (by decide +kernel) (by decide +kernel), tw 993 (by decide +kernel) (by decide +kernel), ⟨by decide +kernel, by decide +kernel, by decide +kernel⟩, by decide⟩, (tw 990 (by decide +kernel) (by decide +kernel)), tw 991 (by decide +kernel) (by decide +kernel), tw 992 (by decide +kernel) (by decide +kernel)⟩
theorem m_L_73 : MFV RL 73 yX8_yards cX8_yards (1, (some .int)) 0 := ⟨⟨tw 48 (by decide +kernel) (by decide +kernel), tw 615 (by decide +kernel) (by decide +kernel), ⟨by decide +kernel, by decide +kernel, by decide +kernel⟩, by decide⟩, (tw 612 (by decide +kernel) (by decide +kernel)), tw 613 (by decide +kernel) (by decide +kernel), tw 614 (by decide +kernel) (by decide +kernel)⟩
theorem m_L_76 : MFV RL 76 yX9_yards cX9_yards (2, (some .int)) 0 := ⟨⟨tw 63 (by decide +kernel) (by decide +kernel), tw 1005 (by decide +kernel) (by decide +kernel), ⟨by decide +kernel, by decide +kernel, by decide +kernel⟩, by decide⟩, (tw 1002 (by decide +kernel) (by decide +kernel)), tw 1003 (by decide +kernel) (by decide +kernel), tw 1004 (by decide +kernel) (by decide +kernel)⟩
theorem m_L_77 : MFV RL 77 yX8_setting cX8_setting (6, (some .int)) 1 := ⟨⟨tw 48 (by decide +kernel) (by decide +kernel), tw 632 (by decide +kernel) (by decide +kernel), ⟨by decide +kernel, by decide +kernel, by decide +kernel⟩, by decide⟩, (tw 629 (by decide +kernel) (by decide +kernel)), tw 630 (by decide +kernel) (by decide +kernel), tw 631 (by decide +kernel) (by decide +kernel)⟩
theorem m_L_80 : MFV RL 80 yX9_setting cX9_setting (10, (some .int)) 1 := ⟨⟨tw 63 (by decide +kernel) (by decide +kernel), tw 1017 (by decide +kernel) (by decide +kernel), ⟨by decide +kernel, by decide +kernel, by decide +kernel⟩, by decide⟩, (tw 1014 (by decide +kernel) (by decide +kernel)), tw 1015 (by decide +kernel) (by decide +kernel), tw 1016 (by decide +kernel) (by decide +kernel)⟩
theorem m_L_81 : MFV RL 81 yX8_shading cX8_shading (8, (some .int)) 1 := ⟨⟨tw 48 (by decide +kernel) (by decide +kernel), tw 688 (by decide +kernel) (by decide +kernel), ⟨by decide +kernel, by decide +kernel, by decide +kernel⟩, by decide⟩, (tw 685 (by decide +kernel) (by decide +kernel)), tw 686 (by decide +kernel) (by decide +kernel), tw 687 (by decide +kernel) (by decide +kernel)⟩
theorem m_L_84 : MFV RL 84 yX9_shading cX9_shading (7, (some .int)) 1 := ⟨⟨tw 63 (by decide +kernel) (by decide +kernel), tw 1028 (by decide +kernel) (by decide +kernel), ⟨by decide +kernel, by decide +kernel, by decide +kernel⟩, by decide⟩, (tw 1025 (by decide +kernel) (by decide +kernel)), tw 1026 (by decide +kernel) (by decide +kernel), tw 1027 (by decide +kernel) (by decide +kernel)⟩
theorem m_L_85 : MFV RL 85 yX8_wants cX8_wants (3, (some .int)) 1 := ⟨⟨tw 48 (by decide +kernel) (by decide +kernel), tw 703 (by decide +kernel) (by decide +kernel), ⟨by decide +kernel, by decide +kernel, by decide +kernel⟩, by decide⟩, (tw 700 (by decide +kernel) (by decide +kernel)), tw 701 (by decide +kernel) (by decide +kernel), tw 702 (by decide +kernel) (by decide +kernel)⟩
theorem m_L_88 : MFV RL 88 yX9_wants cX9_wants (5, (some .int)) 1 := ⟨⟨tw 63 (by decide +kernel) (by decide +kernel), tw 1032 (by decide +kernel) (by decide +kernel), ⟨by decide +kernel, by decide +kernel, by decide +kernel⟩, by decide⟩, (tw 1029 (by decide +kernel) (by decide +kernel)), tw 1030 (by decide +kernel) (by decide +kernel), tw 1031 (by decide +kernel) (by decide +kernel)⟩
theorem m_L_89 : MFV RL 89 yX8_drips cX8_drips (3, (some .int)) 1 := ⟨⟨tw 48 (by decide +kernel) (by decide +kernel), tw 707 (by decide +kernel) (by decide +kernel), ⟨by decide +kernel, by decide +kernel, by decide +kernel⟩, by decide⟩, (tw 704 (by decide +kernel) (by decide +kernel)), tw 705 (by decide +kernel) (by decide +kernel), tw 706 (by decide +kernel) (by decide +kernel)⟩
theorem m_L_92 : MFV RL 92 yX9_drips cX9_drips (2, (some .int)) 1 := ⟨⟨tw 63 (by decide +kernel) (by decide +kernel), tw 1036 (by decide +kernel) (by decide +kernel), ⟨by decide +kernel, by decide +kernel, by decide +kernel⟩, by decide⟩, (tw 1033 (by decide +kernel) (by decide +kernel)), tw 1034 (by decide +kernel) (by decide +kernel), tw 1035 (by decide +kernel) (by decide +kernel)⟩
theorem m_L_93 : MFV RL 93 yX8_seen cX8_seen (4, (some .int)) 3 := ⟨⟨tw 48 (by decide +kernel) (by decide +kernel), tw 715 (by decide +kernel) (by decide +kernel), ⟨by decide +kernel, by decide +kernel, by decide +kernel⟩, by decide⟩, (tw 712 (by decide +kernel) (by decide +kernel)), tw 713 (by decide +kernel) (by decide +kernel), tw 714 (by decide +kernel) (by decide +kernel)⟩
theorem m_L_96 : MFV RL 96 yX9_seen cX9_seen (4, (some .int)) 3 := ⟨⟨tw 63 (by decide +kernel) (by decide +kernel), tw 1040 (by decide +kernel) (by decide +kernel), ⟨by decide +kernel, by decide +kernel, by decide +kernel⟩, by decide⟩, (tw 1037 (by decide +kernel) (by decide +kernel)), tw 1038 (by decide +kernel) (by decide +kernel), tw 1039 (by decide +kernel) (by decide +kernel)⟩
theorem m_L_97 : MFV RL 97 yX8_forget cX8_forget (2, (some .int)) 0 := ⟨⟨tw 48 (by decide +kernel) (by decide +kernel), tw 727 (by decide +kernel) (by decide +kernel), ⟨by decide +kernel, by decide +kernel, by decide +kernel⟩, by decide⟩, (tw 724 (by decide +kernel) (by decide +kernel)), tw 725 (by decide +kernel) (by decide +kernel), tw 726 (by decide +kernel) (by decide +kernel)⟩
theorem m_L_100 : MFV RL 100 yX9_forget cX9_forget (2, (some .int)) 0 := ⟨⟨tw 63 (by decide +kernel) (by decide +kernel), tw 1044 (by decide +kernel) (by decide +kernel), ⟨by decide +kernel, by decide +kernel, by decide +kernel⟩, by decide⟩, (tw 1041 (by decide +kernel) (by decide +kernel)), tw 1042 (by decide +kernel) (by decide +kernel), tw 1043 (by decide +kernel) (by decide +kernel)⟩
theorem m_L_101 : MFV RL 101 yX8_cows cX8_cows (3, (some .int)) 0 := ⟨⟨tw 48 (by decide +kernel) (by decide +kernel), tw 731 (by decide +kernel) (by decide +kernel), ⟨by decide +kernel, by decide +kernel, by decide +kernel⟩, by decide⟩, (tw 728 (by decide +kernel) (by decide +kernel)), tw 729 (by decide +kernel) (by decide +kernel), tw 730 (by decide +kernel) (by decide +kernel)⟩
theorem m_L_104 : MFV RL 104 yX9_cows cX9_cows (3, (some .int)) 0 := ⟨⟨tw 63 (by decide +kernel) (by decide +kernel), tw 1048 (by decide +kernel) (by decide +kernel), ⟨by decide +kernel, by decide +kernel, by decide +kernel⟩, by decide⟩, (tw 1045 (by decide +kernel) (by decide +kernel)), tw 1046 (by decide +kernel) (by decide +kernel), tw 1047 (by decide +kernel) (by decide +kernel)⟩
theorem m_L_105 : MFV RL 105 yX8_colds cX8_colds (3, (some .int)) 0 := ⟨⟨tw 48 (by decide +kernel) (by decide +kernel), tw 749 (by decide +kernel) (by decide +kernel), ⟨by decide +kernel, by decide +kernel, by decide +kernel⟩, by decide⟩, (tw 746 (by decide +kernel) (by decide +kernel)), tw 747 (by decide +kernel) (by decide +kernel), tw 748 (by decide +kernel) (by decide +kernel)⟩
theorem m_L_108 : MFV RL 108 yX9_colds cX9_colds (3, (some .int)) 0 := ⟨⟨tw 63 (by decide +kernel) (by decide +kernel), tw 1056 (by decide +kernel) (by decide +kernel), ⟨by decide +kernel, by decide +kernel, by decide +kernel⟩, by decide⟩, (tw 1053 (by decide +kernel) (by decide +kernel)), tw 1054 (by decide +kernel) (by decide +kernel), tw 1055 (by decide +kernel) (by decide +kernel)⟩
theorem m_L_109 : MFV RL 109 yX8_likely cX8_likely (8, (some .int)) 4 := ⟨⟨tw 48 (by decide +kernel) (by decide +kernel), tw 753 (by decide +kernel) (by decide +kernel), ⟨by decide +kernel, by decide +kernel, by decide +kernel⟩, by decide⟩, (tw 750 (by decide +kernel) (by decide +kernel)), tw 751 (by decide +kernel) (by decide +kernel), tw 752 (by decide +kernel) (by decide +kernel)⟩
theorem m_L_113 : MFV RL 113 yX9_likely cX9_likely (11, (some .int)) 4 := ⟨⟨tw 63 (by decide +kernel) (by decide +kernel), tw 1060 (by decide +kernel) (by decide +kernel), ⟨by decide +kernel, by decide +kernel, by decide +kernel⟩, by decide⟩, (tw 1057 (by decide +kernel) (by decide +kernel)), tw 1058 (by decide +kernel) (by decide +kernel), tw 1059 (by decide +kernel) (by decide +kernel)⟩
theorem m_L_114 : MFV RL 114 yX8_year cX8_year (5, (some .int)) 3 := ⟨⟨tw 48 (by decide +kernel) (by decide +kernel), tw 767 (by decide +kernel) (by decide +kernel), ⟨by decide +kernel, by decide +kernel, by decide +kernel⟩, by decide⟩, (tw 764 (by decide +kernel) (by decide +kernel)), tw 765 (by decide +kernel) (by decide +kernel), tw 766 (by decide +kernel) (by decide +kernel)⟩
theorem m_L_117 : MFV RL 117 yX9_year cX9_year (7, (some .int)) 3 := ⟨⟨tw 63 (by decide +kernel) (by decide +kernel), tw 1064 (by decide +kernel) (by decide +kernel), ⟨by decide +kernel, by decide +kernel, by decide +kernel⟩, by decide⟩, (tw 1061 (by decide +kernel) (by decide +kernel)), tw 1062 (by decide +kernel) (by decide +kernel), tw 1063 (by decide +kernel) (by decide +kernel)⟩
theorem m_L_118 : MFV RL 118 yX8_keep cX8_keep (1, (some .int)) 0 := ⟨⟨tw 48 (by decide +kernel) (by decide +kernel), tw 782 (by decide +kernel) (by decide +kernel), ⟨by decide +kernel, by decide +kernel, by decide +kernel⟩, by decide⟩, (tw 779 (by decide +kernel) (by decide +kernel)), tw 780 (by decide +kernel) (by decide +kernel), tw 781 (by decide +kernel) (by decide +kernel)⟩
theorem m_L_121 : MFV RL 121 yX9_keep cX9_keep (2, (some .int)) 0 := ⟨⟨tw 63 (by decide +kernel) (by decide +kernel), tw 1075 (by decide +kernel) (by decide +kernel), ⟨by decide +kernel, by decide +kernel, by decide +kernel⟩, by decide⟩, (tw 1072 (by decide +kernel) (by decide +kernel)), tw 1073 (by decide +kernel) (by decide +kernel), tw 1074 (by decide +kernel) (by decide +kernel)⟩
theorem m_L_122 : MFV RL 122 yX8_back cX8_back (1, (some .int)) 0 := ⟨⟨tw 48 (by decide +kernel) (by decide +kernel), tw 787 (by decide +kernel) (by decide +kernel), ⟨by decide +kernel, by decide +kernel, by decide +kernel⟩, by decide⟩, (tw 784 (by decide +kernel) (by decide +kernel)), tw 785 (by decide +kernel) (by decide +kernel), tw 786 (by decide +kernel) (by decide +kernel)⟩
theorem m_L_125 : MFV RL 125 yX9_back cX9_back (2, (some .int)) 0 := ⟨⟨tw 63 (by decide +kernel) (by decide +kernel), tw 1079 (by decide +kernel) (by decide +kernel), ⟨by decide +kernel, by decide +kernel, by decide +kernel⟩, by decide⟩, (tw 1076 (by decide +kernel) (by decide +kernel)), tw 1077 (by decide +kernel) (by decide +kernel), tw 1078 (by decide +kernel) (by decide +kernel)⟩
theorem m_L_126 : MFV RL 126 yX8_count cX8_count (2, (some .int)) 1 := ⟨⟨tw 48 (by decide +kernel) (by decide +kernel), tw 791 (by decide +kernel) (by decide +kernel), ⟨by decide +kernel, by decide +kernel, by decide +kernel⟩, by decide⟩, (tw 788 (by decide +kernel) (by decide +kernel)), tw 789 (by decide +kernel) (by decide +kernel), tw 790 (by decide +kernel) (by decide +kernel)⟩
theorem m_L_129 : MFV RL 129 yX9_count cX9_count (2, (some .int)) 1 := ⟨⟨tw 63 (by decide +kernel) (by decide +kernel), tw 1083 (by decide +kernel) (by decide +kernel), ⟨by decide +kernel, by decide +kernel, by decide +kernel⟩, by decide⟩, (tw 1080 (by decide +kernel) (by decide +kernel)), tw 1081 (by decide +kernel) (by decide +kernel), tw 1082 (by decide +kernel) (by decide +kernel)⟩
theorem a_int : Cond.arrayClass .int ∈ wT := tw 102 (by decide +kernel) (by decide +kernel)
theorem a_char : Cond.arrayClass .char ∈ wT := tw 88 (by decide +kernel) (by decide +kernel)
end
section
/-! decode rows with the next place (DR), a branch with its target (DB) -/
theorem dX0_init_0 : DR cX0_init 0 (.aload_n 0) 1 1 := ⟨by decide +kernel, rfl⟩
theorem dX0_init_1 : DR cX0_init 1 (.invokespecial 3) 3 4 := ⟨by decide +kernel, rfl⟩
theorem dX0_init_4 : DR cX0_init 4 (.return_) 1 5 := ⟨by decide +kernel, rfl⟩
theorem dX0_clear_0 : DR cX0_clear 0 (.aload_n 0) 1 1 := ⟨by decide +kernel, rfl⟩
theorem dX0_clear_1 : DR cX0_clear 1 (.iload_n 1) 1 2 := ⟨by decide +kernel, rfl⟩
theorem dX0_clear_2 : DR cX0_clear 2 (.putfield 9) 3 5 := ⟨by decide +kernel, rfl⟩
theorem dX0_clear_5 : DR cX0_clear 5 (.aload_n 0) 1 6 := ⟨by decide +kernel, rfl⟩
theorem dX0_clear_6 : DR cX0_clear 6 (.iload_n 2) 1 7 := ⟨by decide +kernel, rfl⟩
theorem dX0_clear_7 : DR cX0_clear 7 (.putfield 15) 3 10 := ⟨by decide +kernel, rfl⟩
theorem dX0_clear_10 : DR cX0_clear 10 (.aload_n 0) 1 11 := ⟨by decide +kernel, rfl⟩
theorem dX0_clear_11 : DR cX0_clear 11 (.iload_n 3) 1 12 := ⟨by decide +kernel, rfl⟩
theorem dX0_clear_12 : DR cX0_clear 12 (.putfield 18) 3 15 := ⟨by decide +kernel, rfl⟩
theorem dX0_clear_15 : DR cX0_clear 15 (.aload_n 0) 1 16 := ⟨by decide +kernel, rfl⟩
theorem dX0_clear_16 : DR cX0_clear 16 (.iconst 0) 1 17 := ⟨by decide +kernel, rfl⟩
theorem dX0_clear_17 : DR cX0_clear 17 (.putfield 21) 3 20 := ⟨by decide +kernel, rfl⟩
theorem dX0_clear_20 : DR cX0_clear 20 (.aload_n 0) 1 21 := ⟨by decide +kernel, rfl⟩
theorem dX0_clear_21 : DR cX0_clear 21 (.iconst 0) 1 22 := ⟨by decide +kernel, rfl⟩
theorem dX0_clear_22 : DR cX0_clear 22 (.putfield 24) 3 25 := ⟨by decide +kernel, rfl⟩
theorem dX0_clear_25 : DR cX0_clear 25 (.aload_n 0) 1 26 := ⟨by decide +kernel, rfl⟩
theorem dX0_clear_26 : DR cX0_clear 26 (.iconst 0) 1 27 := ⟨by decide +kernel, rfl⟩
theorem dX0_clear_27 : DR cX0_clear 27 (.putfield 27) 3 30 := ⟨by decide +kernel, rfl⟩
theorem dX0_clear_30 : DR cX0_clear 30 (.aload_n 0) 1 31 := ⟨by decide +kernel, rfl⟩
theorem dX0_clear_31 : DR cX0_clear 31 (.iconst 0) 1 32 := ⟨by decide +kernel, rfl⟩
theorem dX0_clear_32 : DR cX0_clear 32 (.putfield 30) 3 35 := ⟨by decide +kernel, rfl⟩
theorem dX0_clear_35 : DR cX0_clear 35 (.return_) 1 36 := ⟨by decide +kernel, rfl⟩
theorem dX0_copy_0 : DR cX0_copy 0 (.aload_n 0) 1 1 := ⟨by decide +kernel, rfl⟩
theorem dX0_copy_1 : DR cX0_copy 1 (.aload_n 1) 1 2 := ⟨by decide +kernel, rfl⟩
theorem dX0_copy_2 : DR cX0_copy 2 (.getfield 9) 3 5 := ⟨by decide +kernel, rfl⟩
theorem dX0_copy_5 : DR cX0_copy 5 (.putfield 9) 3 8 := ⟨by decide +kernel, rfl⟩
theorem dX0_copy_8 : DR cX0_copy 8 (.aload_n 0) 1 9 := ⟨by decide +kernel, rfl⟩
theorem dX0_copy_9 : DR cX0_copy 9 (.aload_n 1) 1 10 := ⟨by decide +kernel, rfl⟩
theorem dX0_copy_10 : DR cX0_copy 10 (.getfield 15) 3 13 := ⟨by decide +kernel, rfl⟩
theorem dX0_copy_13 : DR cX0_copy 13 (.putfield 15) 3 16 := ⟨by decide +kernel, rfl⟩
theorem dX0_copy_16 : DR cX0_copy 16 (.aload_n 0) 1 17 := ⟨by decide +kernel, rfl⟩
theorem dX0_copy_17 : DR cX0_copy 17 (.aload_n 1) 1 18 := ⟨by decide +kernel, rfl⟩
theorem dX0_copy_18 : DR cX0_copy 18 (.getfield 18) 3 21 := ⟨by decide +kernel, rfl⟩
theorem dX0_copy_21 : DR cX0_copy 21 (.putfield 18) 3 24 := ⟨by decide +kernel, rfl⟩
theorem dX0_copy_24 : DR cX0_copy 24 (.aload_n 0) 1 25 := ⟨by decide +kernel, rfl⟩
theorem dX0_copy_25 : DR cX0_copy 25 (.aload_n 1) 1 26 := ⟨by decide +kernel, rfl⟩
theorem dX0_copy_26 : DR cX0_copy 26 (.getfield 21) 3 29 := ⟨by decide +kernel, rfl⟩
theorem dX0_copy_29 : DR cX0_copy 29 (.putfield 21) 3 32 := ⟨by decide +kernel, rfl⟩
theorem dX0_copy_32 : DR cX0_copy 32 (.aload_n 0) 1 33 := ⟨by decide +kernel, rfl⟩
theorem dX0_copy_33 : DR cX0_copy 33 (.aload_n 1) 1 34 := ⟨by decide +kernel, rfl⟩
theorem dX0_copy_34 : DR cX0_copy 34 (.getfield 24) 3 37 := ⟨by decide +kernel, rfl⟩
theorem dX0_copy_37 : DR cX0_copy 37 (.putfield 24) 3 40 := ⟨by decide +kernel, rfl⟩
theorem dX0_copy_40 : DR cX0_copy 40 (.aload_n 0) 1 41 := ⟨by decide +kernel, rfl⟩
theorem dX0_copy_41 : DR cX0_copy 41 (.aload_n 1) 1 42 := ⟨by decide +kernel, rfl⟩
theorem dX0_copy_42 : DR cX0_copy 42 (.getfield 27) 3 45 := ⟨by decide +kernel, rfl⟩
theorem dX0_copy_45 : DR cX0_copy 45 (.putfield 27) 3 48 := ⟨by decide +kernel, rfl⟩
theorem dX0_copy_48 : DR cX0_copy 48 (.aload_n 0) 1 49 := ⟨by decide +kernel, rfl⟩
theorem dX0_copy_49 : DR cX0_copy 49 (.aload_n 1) 1 50 := ⟨by decide +kernel, rfl⟩
theorem dX0_copy_50 : DR cX0_copy 50 (.getfield 30) 3 53 := ⟨by decide +kernel, rfl⟩
theorem dX0_copy_53 : DR cX0_copy 53 (.putfield 30) 3 56 := ⟨by decide +kernel, rfl⟩
theorem dX0_copy_56 : DR cX0_copy 56 (.return_) 1 57 := ⟨by decide +kernel, rfl⟩
theorem dX0_tell_0 : DR cX0_tell 0 (.iload_n 1) 1 1 := ⟨by decide +kernel, rfl⟩
theorem dX0_tell_1 : DR cX0_tell 1 (.tableswitch 60 0 4 #[35, 40, 45, 50, 55]) 35 36 := ⟨by decide +kernel, rfl⟩
theorem dX0_tell_36 : DR cX0_tell 36 (.aload_n 0) 1 37 := ⟨by decide +kernel, rfl⟩
theorem dX0_tell_37 : DR cX0_tell 37 (.getfield 9) 3 40 := ⟨by decide +kernel, rfl⟩
theorem dX0_tell_40 : DR cX0_tell 40 (.ireturn) 1 41 := ⟨by decide +kernel, rfl⟩
theorem dX0_tell_41 : DR cX0_tell 41 (.aload_n 0) 1 42 := ⟨by decide +kernel, rfl⟩
theorem dX0_tell_42 : DR cX0_tell 42 (.getfield 15) 3 45 := ⟨by decide +kernel, rfl⟩
theorem dX0_tell_45 : DR cX0_tell 45 (.ireturn) 1 46 := ⟨by decide +kernel, rfl⟩
theorem dX0_tell_46 : DR cX0_tell 46 (.aload_n 0) 1 47 := ⟨by decide +kernel, rfl⟩
theorem dX0_tell_47 : DR cX0_tell 47 (.getfield 18) 3 50 := ⟨by decide +kernel, rfl⟩
theorem dX0_tell_50 : DR cX0_tell 50 (.ireturn) 1 51 := ⟨by decide +kernel, rfl⟩
theorem dX0_tell_51 : DR cX0_tell 51 (.aload_n 0) 1 52 := ⟨by decide +kernel, rfl⟩
theorem dX0_tell_52 : DR cX0_tell 52 (.getfield 21) 3 55 := ⟨by decide +kernel, rfl⟩
theorem dX0_tell_55 : DR cX0_tell 55 (.ireturn) 1 56 := ⟨by decide +kernel, rfl⟩
theorem dX0_tell_56 : DR cX0_tell 56 (.aload_n 0) 1 57 := ⟨by decide +kernel, rfl⟩
theorem dX0_tell_57 : DR cX0_tell 57 (.getfield 24) 3 60 := ⟨by decide +kernel, rfl⟩
theorem dX0_tell_60 : DR cX0_tell 60 (.ireturn) 1 61 := ⟨by decide +kernel, rfl⟩
theorem dX0_tell_61 : DR cX0_tell 61 (.aload_n 0) 1 62 := ⟨by decide +kernel, rfl⟩
theorem dX0_tell_62 : DR cX0_tell 62 (.getfield 30) 3 65 := ⟨by decide +kernel, rfl⟩
theorem dX0_tell_65 : DB cX0_tell 65 (.ifCond .eq 7) 3 (7) 68 72 := ⟨by decide +kernel, rfl, by decide⟩
theorem dX0_tell_68 : DR cX0_tell 68 (.iconst 1) 1 69 := ⟨by decide +kernel, rfl⟩
theorem dX0_tell_69 : DB cX0_tell 69 (.goto 4) 3 (4) 72 73 := ⟨by decide +kernel, rfl, by decide⟩
theorem dX0_tell_72 : DR cX0_tell 72 (.iconst 0) 1 73 := ⟨by decide +kernel, rfl⟩
theorem dX0_tell_73 : DR cX0_tell 73 (.ireturn) 1 74 := ⟨by decide +kernel, rfl⟩
theorem dX0_holds_0 : DR cX0_holds 0 (.iconst 3) 1 1 := ⟨by decide +kernel, rfl⟩
theorem dX0_holds_1 : DR cX0_holds 1 (.aload_n 0) 1 2 := ⟨by decide +kernel, rfl⟩
theorem dX0_holds_2 : DR cX0_holds 2 (.getfield 18) 3 5 := ⟨by decide +kernel, rfl⟩
theorem dX0_holds_5 : DR cX0_holds 5 (.imul) 1 6 := ⟨by decide +kernel, rfl⟩
theorem dX0_holds_6 : DR cX0_holds 6 (.ireturn) 1 7 := ⟨by decide +kernel, rfl⟩
theorem dX0_turnShade_0 : DR cX0_turnShade 0 (.aload_n 0) 1 1 := ⟨by decide +kernel, rfl⟩
theorem dX0_turnShade_1 : DR cX0_turnShade 1 (.aload_n 0) 1 2 := ⟨by decide +kernel, rfl⟩
theorem dX0_turnShade_2 : DR cX0_turnShade 2 (.getfield 30) 3 5 := ⟨by decide +kernel, rfl⟩
theorem dX0_turnShade_5 : DB cX0_turnShade 5 (.ifCond .ne 7) 3 (7) 8 12 := ⟨by decide +kernel, rfl, by decide⟩
theorem dX0_turnShade_8 : DR cX0_turnShade 8 (.iconst 1) 1 9 := ⟨by decide +kernel, rfl⟩
theorem dX0_turnShade_9 : DB cX0_turnShade 9 (.goto 4) 3 (4) 12 13 := ⟨by decide +kernel, rfl, by decide⟩
theorem dX0_turnShade_12 : DR cX0_turnShade 12 (.iconst 0) 1 13 := ⟨by decide +kernel, rfl⟩
theorem dX0_turnShade_13 : DR cX0_turnShade 13 (.putfield 30) 3 16 := ⟨by decide +kernel, rfl⟩
theorem dX0_turnShade_16 : DR cX0_turnShade 16 (.return_) 1 17 := ⟨by decide +kernel, rfl⟩
theorem dX0_feelCow_0 : DR cX0_feelCow 0 (.aload_n 0) 1 1 := ⟨by decide +kernel, rfl⟩
theorem dX0_feelCow_1 : DR cX0_feelCow 1 (.dup) 1 2 := ⟨by decide +kernel, rfl⟩
theorem dX0_feelCow_2 : DR cX0_feelCow 2 (.getfield 21) 3 5 := ⟨by decide +kernel, rfl⟩
theorem dX0_feelCow_5 : DR cX0_feelCow 5 (.iconst 2) 1 6 := ⟨by decide +kernel, rfl⟩
theorem dX0_feelCow_6 : DR cX0_feelCow 6 (.idiv) 1 7 := ⟨by decide +kernel, rfl⟩
theorem dX0_feelCow_7 : DR cX0_feelCow 7 (.putfield 21) 3 10 := ⟨by decide +kernel, rfl⟩
theorem dX0_feelCow_10 : DR cX0_feelCow 10 (.return_) 1 11 := ⟨by decide +kernel, rfl⟩
theorem dX0_takeTears_0 : DR cX0_takeTears 0 (.aload_n 0) 1 1 := ⟨by decide +kernel, rfl⟩
theorem dX0_takeTears_1 : DR cX0_takeTears 1 (.aload_n 0) 1 2 := ⟨by decide +kernel, rfl⟩
theorem dX0_takeTears_2 : DR cX0_takeTears 2 (.getfield 21) 3 5 := ⟨by decide +kernel, rfl⟩
theorem dX0_takeTears_5 : DR cX0_takeTears 5 (.aload_n 0) 1 6 := ⟨by decide +kernel, rfl⟩
theorem dX0_takeTears_6 : DR cX0_takeTears 6 (.getfield 18) 3 9 := ⟨by decide +kernel, rfl⟩
theorem dX0_takeTears_9 : DR cX0_takeTears 9 (.iadd) 1 10 := ⟨by decide +kernel, rfl⟩
theorem dX0_takeTears_10 : DR cX0_takeTears 10 (.aload_n 0) 1 11 := ⟨by decide +kernel, rfl⟩
theorem dX0_takeTears_11 : DR cX0_takeTears 11 (.invokevirtual 34) 3 14 := ⟨by decide +kernel, rfl⟩
theorem dX0_takeTears_14 : DR cX0_takeTears 14 (.invokestatic 38) 3 17 := ⟨by decide +kernel, rfl⟩
theorem dX0_takeTears_17 : DR cX0_takeTears 17 (.putfield 21) 3 20 := ⟨by decide +kernel, rfl⟩
theorem dX0_takeTears_20 : DR cX0_takeTears 20 (.return_) 1 21 := ⟨by decide +kernel, rfl⟩
theorem dX0_gather_0 : DR cX0_gather 0 (.aload_n 0) 1 1 := ⟨by decide +kernel, rfl⟩
theorem dX0_gather_1 : DR cX0_gather 1 (.getfield 21) 3 4 := ⟨by decide +kernel, rfl⟩
theorem dX0_gather_4 : DR cX0_gather 4 (.aload_n 0) 1 5 := ⟨by decide +kernel, rfl⟩
theorem dX0_gather_5 : DR cX0_gather 5 (.iload_n 2) 1 6 := ⟨by decide +kernel, rfl⟩
theorem dX0_gather_6 : DR cX0_gather 6 (.iload_n 3) 1 7 := ⟨by decide +kernel, rfl⟩
theorem dX0_gather_7 : DR cX0_gather 7 (.invokevirtual 44) 3 10 := ⟨by decide +kernel, rfl⟩
theorem dX0_gather_10 : DR cX0_gather 10 (.iadd) 1 11 := ⟨by decide +kernel, rfl⟩
theorem dX0_gather_11 : DR cX0_gather 11 (.istore 4) 2 13 := ⟨by decide +kernel, rfl⟩
theorem dX0_gather_13 : DR cX0_gather 13 (.aload_n 0) 1 14 := ⟨by decide +kernel, rfl⟩
theorem dX0_gather_14 : DR cX0_gather 14 (.getfield 9) 3 17 := ⟨by decide +kernel, rfl⟩
theorem dX0_gather_17 : DR cX0_gather 17 (.iconst 2) 1 18 := ⟨by decide +kernel, rfl⟩
theorem dX0_gather_18 : DB cX0_gather 18 (.if_icmp .ne 16) 3 (16) 21 34 := ⟨by decide +kernel, rfl, by decide⟩
theorem dX0_gather_21 : DR cX0_gather 21 (.aload_n 0) 1 22 := ⟨by decide +kernel, rfl⟩
theorem dX0_gather_22 : DR cX0_gather 22 (.dup) 1 23 := ⟨by decide +kernel, rfl⟩
theorem dX0_gather_23 : DR cX0_gather 23 (.getfield 24) 3 26 := ⟨by decide +kernel, rfl⟩
theorem dX0_gather_26 : DR cX0_gather 26 (.iload_n 1) 1 27 := ⟨by decide +kernel, rfl⟩
theorem dX0_gather_27 : DR cX0_gather 27 (.iadd) 1 28 := ⟨by decide +kernel, rfl⟩
theorem dX0_gather_28 : DR cX0_gather 28 (.putfield 24) 3 31 := ⟨by decide +kernel, rfl⟩
theorem dX0_gather_31 : DB cX0_gather 31 (.goto 9) 3 (9) 34 40 := ⟨by decide +kernel, rfl, by decide⟩
theorem dX0_gather_34 : DR cX0_gather 34 (.iload 4) 2 36 := ⟨by decide +kernel, rfl⟩
theorem dX0_gather_36 : DR cX0_gather 36 (.iload_n 1) 1 37 := ⟨by decide +kernel, rfl⟩
theorem dX0_gather_37 : DR cX0_gather 37 (.iadd) 1 38 := ⟨by decide +kernel, rfl⟩
theorem dX0_gather_38 : DR cX0_gather 38 (.istore 4) 2 40 := ⟨by decide +kernel, rfl⟩
theorem dX0_gather_40 : DR cX0_gather 40 (.aload_n 0) 1 41 := ⟨by decide +kernel, rfl⟩
theorem dX0_gather_41 : DR cX0_gather 41 (.iload 4) 2 43 := ⟨by decide +kernel, rfl⟩
theorem dX0_gather_43 : DR cX0_gather 43 (.aload_n 0) 1 44 := ⟨by decide +kernel, rfl⟩
theorem dX0_gather_44 : DR cX0_gather 44 (.invokevirtual 34) 3 47 := ⟨by decide +kernel, rfl⟩
theorem dX0_gather_47 : DR cX0_gather 47 (.invokestatic 38) 3 50 := ⟨by decide +kernel, rfl⟩
theorem dX0_gather_50 : DR cX0_gather 50 (.putfield 21) 3 53 := ⟨by decide +kernel, rfl⟩
theorem dX0_gather_53 : DR cX0_gather 53 (.aload_n 0) 1 54 := ⟨by decide +kernel, rfl⟩
theorem dX0_gather_54 : DR cX0_gather 54 (.iload 4) 2 56 := ⟨by decide +kernel, rfl⟩
theorem dX0_gather_56 : DR cX0_gather 56 (.aload_n 0) 1 57 := ⟨by decide +kernel, rfl⟩
theorem dX0_gather_57 : DR cX0_gather 57 (.getfield 21) 3 60 := ⟨by decide +kernel, rfl⟩
theorem dX0_gather_60 : DR cX0_gather 60 (.isub) 1 61 := ⟨by decide +kernel, rfl⟩
theorem dX0_gather_61 : DR cX0_gather 61 (.putfield 27) 3 64 := ⟨by decide +kernel, rfl⟩
theorem dX0_gather_64 : DR cX0_gather 64 (.return_) 1 65 := ⟨by decide +kernel, rfl⟩
theorem dX0_settling_0 : DR cX0_settling 0 (.aload_n 0) 1 1 := ⟨by decide +kernel, rfl⟩
theorem dX0_settling_1 : DR cX0_settling 1 (.getfield 9) 3 4 := ⟨by decide +kernel, rfl⟩
theorem dX0_settling_4 : DR cX0_settling 4 (.iconst 3) 1 5 := ⟨by decide +kernel, rfl⟩
theorem dX0_settling_5 : DB cX0_settling 5 (.if_icmp .ne 16) 3 (16) 8 21 := ⟨by decide +kernel, rfl, by decide⟩
theorem dX0_settling_8 : DR cX0_settling 8 (.iload_n 2) 1 9 := ⟨by decide +kernel, rfl⟩
theorem dX0_settling_9 : DR cX0_settling 9 (.iconst 1) 1 10 := ⟨by decide +kernel, rfl⟩
theorem dX0_settling_10 : DB cX0_settling 10 (.if_icmp .ne 9) 3 (9) 13 19 := ⟨by decide +kernel, rfl, by decide⟩
theorem dX0_settling_13 : DR cX0_settling 13 (.iload_n 1) 1 14 := ⟨by decide +kernel, rfl⟩
theorem dX0_settling_14 : DR cX0_settling 14 (.iconst 2) 1 15 := ⟨by decide +kernel, rfl⟩
theorem dX0_settling_15 : DR cX0_settling 15 (.iadd) 1 16 := ⟨by decide +kernel, rfl⟩
theorem dX0_settling_16 : DB cX0_settling 16 (.goto 4) 3 (4) 19 20 := ⟨by decide +kernel, rfl, by decide⟩
theorem dX0_settling_19 : DR cX0_settling 19 (.iload_n 1) 1 20 := ⟨by decide +kernel, rfl⟩
theorem dX0_settling_20 : DR cX0_settling 20 (.ireturn) 1 21 := ⟨by decide +kernel, rfl⟩
theorem dX0_settling_21 : DR cX0_settling 21 (.iload_n 2) 1 22 := ⟨by decide +kernel, rfl⟩
theorem dX0_settling_22 : DR cX0_settling 22 (.iconst 1) 1 23 := ⟨by decide +kernel, rfl⟩
theorem dX0_settling_23 : DB cX0_settling 23 (.if_icmp .ne 9) 3 (9) 26 32 := ⟨by decide +kernel, rfl, by decide⟩
theorem dX0_settling_26 : DR cX0_settling 26 (.iload_n 1) 1 27 := ⟨by decide +kernel, rfl⟩
theorem dX0_settling_27 : DR cX0_settling 27 (.iconst 2) 1 28 := ⟨by decide +kernel, rfl⟩
theorem dX0_settling_28 : DR cX0_settling 28 (.idiv) 1 29 := ⟨by decide +kernel, rfl⟩
theorem dX0_settling_29 : DB cX0_settling 29 (.goto 4) 3 (4) 32 33 := ⟨by decide +kernel, rfl, by decide⟩
theorem dX0_settling_32 : DR cX0_settling 32 (.iload_n 1) 1 33 := ⟨by decide +kernel, rfl⟩
theorem dX0_settling_33 : DR cX0_settling 33 (.istore_n 3) 1 34 := ⟨by decide +kernel, rfl⟩
theorem dX0_settling_34 : DR cX0_settling 34 (.aload_n 0) 1 35 := ⟨by decide +kernel, rfl⟩
theorem dX0_settling_35 : DR cX0_settling 35 (.getfield 9) 3 38 := ⟨by decide +kernel, rfl⟩
theorem dX0_settling_38 : DR cX0_settling 38 (.iconst 1) 1 39 := ⟨by decide +kernel, rfl⟩
theorem dX0_settling_39 : DB cX0_settling 39 (.if_icmp .ne 9) 3 (9) 42 48 := ⟨by decide +kernel, rfl, by decide⟩
theorem dX0_settling_42 : DR cX0_settling 42 (.iconst 2) 1 43 := ⟨by decide +kernel, rfl⟩
theorem dX0_settling_43 : DR cX0_settling 43 (.iload_n 3) 1 44 := ⟨by decide +kernel, rfl⟩
theorem dX0_settling_44 : DR cX0_settling 44 (.imul) 1 45 := ⟨by decide +kernel, rfl⟩
theorem dX0_settling_45 : DB cX0_settling 45 (.goto 4) 3 (4) 48 49 := ⟨by decide +kernel, rfl, by decide⟩
theorem dX0_settling_48 : DR cX0_settling 48 (.iload_n 3) 1 49 := ⟨by decide +kernel, rfl⟩
theorem dX0_settling_49 : DR cX0_settling 49 (.ireturn) 1 50 := ⟨by decide +kernel, rfl⟩
theorem dX0_dry_0 : DR cX0_dry 0 (.aload_n 0) 1 1 := ⟨by decide +kernel, rfl⟩
theorem dX0_dry_1 : DR cX0_dry 1 (.iconst 0) 1 2 := ⟨by decide +kernel, rfl⟩
theorem dX0_dry_2 : DR cX0_dry 2 (.putfield 27) 3 5 := ⟨by decide +kernel, rfl⟩
theorem dX0_dry_5 : DR cX0_dry 5 (.aload_n 0) 1 6 := ⟨by decide +kernel, rfl⟩
theorem dX0_dry_6 : DR cX0_dry 6 (.getfield 30) 3 9 := ⟨by decide +kernel, rfl⟩
theorem dX0_dry_9 : DB cX0_dry 9 (.ifCond .ne 29) 3 (29) 12 38 := ⟨by decide +kernel, rfl, by decide⟩
theorem dX0_dry_12 : DR cX0_dry 12 (.aload_n 0) 1 13 := ⟨by decide +kernel, rfl⟩
theorem dX0_dry_13 : DR cX0_dry 13 (.iconst 0) 1 14 := ⟨by decide +kernel, rfl⟩
theorem dX0_dry_14 : DR cX0_dry 14 (.aload_n 0) 1 15 := ⟨by decide +kernel, rfl⟩
theorem dX0_dry_15 : DR cX0_dry 15 (.getfield 21) 3 18 := ⟨by decide +kernel, rfl⟩
theorem dX0_dry_18 : DR cX0_dry 18 (.aload_n 0) 1 19 := ⟨by decide +kernel, rfl⟩
theorem dX0_dry_19 : DR cX0_dry 19 (.getfield 9) 3 22 := ⟨by decide +kernel, rfl⟩
theorem dX0_dry_22 : DR cX0_dry 22 (.iconst 3) 1 23 := ⟨by decide +kernel, rfl⟩
theorem dX0_dry_23 : DB cX0_dry 23 (.if_icmp .ne 7) 3 (7) 26 30 := ⟨by decide +kernel, rfl, by decide⟩
theorem dX0_dry_26 : DR cX0_dry 26 (.iconst 1) 1 27 := ⟨by decide +kernel, rfl⟩
theorem dX0_dry_27 : DB cX0_dry 27 (.goto 4) 3 (4) 30 31 := ⟨by decide +kernel, rfl, by decide⟩
theorem dX0_dry_30 : DR cX0_dry 30 (.iconst 2) 1 31 := ⟨by decide +kernel, rfl⟩
theorem dX0_dry_31 : DR cX0_dry 31 (.isub) 1 32 := ⟨by decide +kernel, rfl⟩
theorem dX0_dry_32 : DR cX0_dry 32 (.invokestatic 47) 3 35 := ⟨by decide +kernel, rfl⟩
theorem dX0_dry_35 : DR cX0_dry 35 (.putfield 21) 3 38 := ⟨by decide +kernel, rfl⟩
theorem dX0_dry_38 : DR cX0_dry 38 (.return_) 1 39 := ⟨by decide +kernel, rfl⟩
theorem dX1_init_0 : DR cX1_init 0 (.aload_n 0) 1 1 := ⟨by decide +kernel, rfl⟩
theorem dX1_init_1 : DR cX1_init 1 (.invokespecial 3) 3 4 := ⟨by decide +kernel, rfl⟩
theorem dX1_init_4 : DR cX1_init 4 (.aload_n 0) 1 5 := ⟨by decide +kernel, rfl⟩
theorem dX1_init_5 : DR cX1_init 5 (.new 9) 3 8 := ⟨by decide +kernel, rfl⟩
theorem dX1_init_8 : DR cX1_init 8 (.dup) 1 9 := ⟨by decide +kernel, rfl⟩
theorem dX1_init_9 : DR cX1_init 9 (.invokespecial 11) 3 12 := ⟨by decide +kernel, rfl⟩
theorem dX1_init_12 : DR cX1_init 12 (.putfield 12) 3 15 := ⟨by decide +kernel, rfl⟩
theorem dX1_init_15 : DR cX1_init 15 (.aload_n 0) 1 16 := ⟨by decide +kernel, rfl⟩
theorem dX1_init_16 : DR cX1_init 16 (.bipush 12) 2 18 := ⟨by decide +kernel, rfl⟩
theorem dX1_init_18 : DR cX1_init 18 (.newarray .int) 2 20 := ⟨by decide +kernel, rfl⟩
theorem dX1_init_20 : DR cX1_init 20 (.putfield 18) 3 23 := ⟨by decide +kernel, rfl⟩
theorem dX1_init_23 : DR cX1_init 23 (.aload_n 0) 1 24 := ⟨by decide +kernel, rfl⟩
theorem dX1_init_24 : DR cX1_init 24 (.bipush 12) 2 26 := ⟨by decide +kernel, rfl⟩
theorem dX1_init_26 : DR cX1_init 26 (.newarray .int) 2 28 := ⟨by decide +kernel, rfl⟩
theorem dX1_init_28 : DR cX1_init 28 (.putfield 22) 3 31 := ⟨by decide +kernel, rfl⟩
theorem dX1_init_31 : DR cX1_init 31 (.return_) 1 32 := ⟨by decide +kernel, rfl⟩
theorem dX1_clear_0 : DR cX1_clear 0 (.aload_n 0) 1 1 := ⟨by decide +kernel, rfl⟩
theorem dX1_clear_1 : DR cX1_clear 1 (.getfield 12) 3 4 := ⟨by decide +kernel, rfl⟩
theorem dX1_clear_4 : DR cX1_clear 4 (.invokevirtual 25) 3 7 := ⟨by decide +kernel, rfl⟩
theorem dX1_clear_7 : DR cX1_clear 7 (.aload_n 0) 1 8 := ⟨by decide +kernel, rfl⟩
theorem dX1_clear_8 : DR cX1_clear 8 (.iconst 0) 1 9 := ⟨by decide +kernel, rfl⟩
theorem dX1_clear_9 : DR cX1_clear 9 (.putfield 28) 3 12 := ⟨by decide +kernel, rfl⟩
theorem dX1_clear_12 : DR cX1_clear 12 (.aload_n 0) 1 13 := ⟨by decide +kernel, rfl⟩
theorem dX1_clear_13 : DR cX1_clear 13 (.bipush 6) 2 15 := ⟨by decide +kernel, rfl⟩
theorem dX1_clear_15 : DR cX1_clear 15 (.putfield 32) 3 18 := ⟨by decide +kernel, rfl⟩
theorem dX1_clear_18 : DR cX1_clear 18 (.aload_n 0) 1 19 := ⟨by decide +kernel, rfl⟩
theorem dX1_clear_19 : DR cX1_clear 19 (.bipush 9) 2 21 := ⟨by decide +kernel, rfl⟩
theorem dX1_clear_21 : DR cX1_clear 21 (.putfield 35) 3 24 := ⟨by decide +kernel, rfl⟩
theorem dX1_clear_24 : DR cX1_clear 24 (.aload_n 0) 1 25 := ⟨by decide +kernel, rfl⟩
theorem dX1_clear_25 : DR cX1_clear 25 (.bipush 6) 2 27 := ⟨by decide +kernel, rfl⟩
theorem dX1_clear_27 : DR cX1_clear 27 (.putfield 38) 3 30 := ⟨by decide +kernel, rfl⟩
theorem dX1_clear_30 : DR cX1_clear 30 (.return_) 1 31 := ⟨by decide +kernel, rfl⟩
theorem dX1_addHour_0 : DR cX1_addHour 0 (.aload_n 0) 1 1 := ⟨by decide +kernel, rfl⟩
theorem dX1_addHour_1 : DR cX1_addHour 1 (.getfield 28) 3 4 := ⟨by decide +kernel, rfl⟩
theorem dX1_addHour_4 : DR cX1_addHour 4 (.iconst 0) 1 5 := ⟨by decide +kernel, rfl⟩
theorem dX1_addHour_5 : DR cX1_addHour 5 (.bipush 11) 2 7 := ⟨by decide +kernel, rfl⟩
theorem dX1_addHour_7 : DR cX1_addHour 7 (.invokestatic 41) 3 10 := ⟨by decide +kernel, rfl⟩
theorem dX1_addHour_10 : DB cX1_addHour 10 (.ifCond .ne 22) 3 (22) 13 32 := ⟨by decide +kernel, rfl, by decide⟩
theorem dX1_addHour_13 : DR cX1_addHour 13 (.iload_n 1) 1 14 := ⟨by decide +kernel, rfl⟩
theorem dX1_addHour_14 : DR cX1_addHour 14 (.iconst 0) 1 15 := ⟨by decide +kernel, rfl⟩
theorem dX1_addHour_15 : DR cX1_addHour 15 (.bipush 9) 2 17 := ⟨by decide +kernel, rfl⟩
theorem dX1_addHour_17 : DR cX1_addHour 17 (.invokestatic 41) 3 20 := ⟨by decide +kernel, rfl⟩
theorem dX1_addHour_20 : DB cX1_addHour 20 (.ifCond .ne 12) 3 (12) 23 32 := ⟨by decide +kernel, rfl, by decide⟩
theorem dX1_addHour_23 : DR cX1_addHour 23 (.iload_n 2) 1 24 := ⟨by decide +kernel, rfl⟩
theorem dX1_addHour_24 : DR cX1_addHour 24 (.iconst 0) 1 25 := ⟨by decide +kernel, rfl⟩
theorem dX1_addHour_25 : DR cX1_addHour 25 (.iconst 1) 1 26 := ⟨by decide +kernel, rfl⟩
theorem dX1_addHour_26 : DR cX1_addHour 26 (.invokestatic 41) 3 29 := ⟨by decide +kernel, rfl⟩
theorem dX1_addHour_29 : DB cX1_addHour 29 (.ifCond .eq 5) 3 (5) 32 34 := ⟨by decide +kernel, rfl, by decide⟩
theorem dX1_addHour_32 : DR cX1_addHour 32 (.iconst 0) 1 33 := ⟨by decide +kernel, rfl⟩
theorem dX1_addHour_33 : DR cX1_addHour 33 (.ireturn) 1 34 := ⟨by decide +kernel, rfl⟩
theorem dX1_addHour_34 : DR cX1_addHour 34 (.aload_n 0) 1 35 := ⟨by decide +kernel, rfl⟩
theorem dX1_addHour_35 : DR cX1_addHour 35 (.getfield 18) 3 38 := ⟨by decide +kernel, rfl⟩
theorem dX1_addHour_38 : DR cX1_addHour 38 (.aload_n 0) 1 39 := ⟨by decide +kernel, rfl⟩
theorem dX1_addHour_39 : DR cX1_addHour 39 (.getfield 28) 3 42 := ⟨by decide +kernel, rfl⟩
theorem dX1_addHour_42 : DR cX1_addHour 42 (.iload_n 1) 1 43 := ⟨by decide +kernel, rfl⟩
theorem dX1_addHour_43 : DR cX1_addHour 43 (.iastore) 1 44 := ⟨by decide +kernel, rfl⟩
theorem dX1_addHour_44 : DR cX1_addHour 44 (.aload_n 0) 1 45 := ⟨by decide +kernel, rfl⟩
theorem dX1_addHour_45 : DR cX1_addHour 45 (.getfield 22) 3 48 := ⟨by decide +kernel, rfl⟩
theorem dX1_addHour_48 : DR cX1_addHour 48 (.aload_n 0) 1 49 := ⟨by decide +kernel, rfl⟩
theorem dX1_addHour_49 : DR cX1_addHour 49 (.getfield 28) 3 52 := ⟨by decide +kernel, rfl⟩
theorem dX1_addHour_52 : DR cX1_addHour 52 (.iload_n 2) 1 53 := ⟨by decide +kernel, rfl⟩
theorem dX1_addHour_53 : DR cX1_addHour 53 (.iastore) 1 54 := ⟨by decide +kernel, rfl⟩
theorem dX1_addHour_54 : DR cX1_addHour 54 (.aload_n 0) 1 55 := ⟨by decide +kernel, rfl⟩
theorem dX1_addHour_55 : DR cX1_addHour 55 (.dup) 1 56 := ⟨by decide +kernel, rfl⟩
theorem dX1_addHour_56 : DR cX1_addHour 56 (.getfield 28) 3 59 := ⟨by decide +kernel, rfl⟩
theorem dX1_addHour_59 : DR cX1_addHour 59 (.iconst 1) 1 60 := ⟨by decide +kernel, rfl⟩
theorem dX1_addHour_60 : DR cX1_addHour 60 (.iadd) 1 61 := ⟨by decide +kernel, rfl⟩
theorem dX1_addHour_61 : DR cX1_addHour 61 (.putfield 28) 3 64 := ⟨by decide +kernel, rfl⟩
theorem dX1_addHour_64 : DR cX1_addHour 64 (.iconst 1) 1 65 := ⟨by decide +kernel, rfl⟩
theorem dX1_addHour_65 : DR cX1_addHour 65 (.ireturn) 1 66 := ⟨by decide +kernel, rfl⟩
theorem dX1_tellSun_0 : DR cX1_tellSun 0 (.aload_n 0) 1 1 := ⟨by decide +kernel, rfl⟩
theorem dX1_tellSun_1 : DR cX1_tellSun 1 (.iload_n 1) 1 2 := ⟨by decide +kernel, rfl⟩
theorem dX1_tellSun_2 : DR cX1_tellSun 2 (.putfield 32) 3 5 := ⟨by decide +kernel, rfl⟩
theorem dX1_tellSun_5 : DR cX1_tellSun 5 (.iload_n 1) 1 6 := ⟨by decide +kernel, rfl⟩
theorem dX1_tellSun_6 : DR cX1_tellSun 6 (.iconst 0) 1 7 := ⟨by decide +kernel, rfl⟩
theorem dX1_tellSun_7 : DR cX1_tellSun 7 (.bipush 20) 2 9 := ⟨by decide +kernel, rfl⟩
theorem dX1_tellSun_9 : DR cX1_tellSun 9 (.invokestatic 41) 3 12 := ⟨by decide +kernel, rfl⟩
theorem dX1_tellSun_12 : DB cX1_tellSun 12 (.ifCond .ne 7) 3 (7) 15 19 := ⟨by decide +kernel, rfl, by decide⟩
theorem dX1_tellSun_15 : DR cX1_tellSun 15 (.iconst 1) 1 16 := ⟨by decide +kernel, rfl⟩
theorem dX1_tellSun_16 : DB cX1_tellSun 16 (.goto 4) 3 (4) 19 20 := ⟨by decide +kernel, rfl, by decide⟩
theorem dX1_tellSun_19 : DR cX1_tellSun 19 (.iconst 0) 1 20 := ⟨by decide +kernel, rfl⟩
theorem dX1_tellSun_20 : DR cX1_tellSun 20 (.ireturn) 1 21 := ⟨by decide +kernel, rfl⟩
theorem dX1_tellMerchants_0 : DR cX1_tellMerchants 0 (.aload_n 0) 1 1 := ⟨by decide +kernel, rfl⟩
theorem dX1_tellMerchants_1 : DR cX1_tellMerchants 1 (.iload_n 1) 1 2 := ⟨by decide +kernel, rfl⟩
theorem dX1_tellMerchants_2 : DR cX1_tellMerchants 2 (.putfield 35) 3 5 := ⟨by decide +kernel, rfl⟩
theorem dX1_tellMerchants_5 : DR cX1_tellMerchants 5 (.iload_n 1) 1 6 := ⟨by decide +kernel, rfl⟩
theorem dX1_tellMerchants_6 : DR cX1_tellMerchants 6 (.iconst 1) 1 7 := ⟨by decide +kernel, rfl⟩
theorem dX1_tellMerchants_7 : DR cX1_tellMerchants 7 (.bipush 24) 2 9 := ⟨by decide +kernel, rfl⟩
theorem dX1_tellMerchants_9 : DR cX1_tellMerchants 9 (.invokestatic 41) 3 12 := ⟨by decide +kernel, rfl⟩
theorem dX1_tellMerchants_12 : DB cX1_tellMerchants 12 (.ifCond .ne 7) 3 (7) 15 19 := ⟨by decide +kernel, rfl, by decide⟩
theorem dX1_tellMerchants_15 : DR cX1_tellMerchants 15 (.iconst 1) 1 16 := ⟨by decide +kernel, rfl⟩
theorem dX1_tellMerchants_16 : DB cX1_tellMerchants 16 (.goto 4) 3 (4) 19 20 := ⟨by decide +kernel, rfl, by decide⟩
theorem dX1_tellMerchants_19 : DR cX1_tellMerchants 19 (.iconst 0) 1 20 := ⟨by decide +kernel, rfl⟩
theorem dX1_tellMerchants_20 : DR cX1_tellMerchants 20 (.ireturn) 1 21 := ⟨by decide +kernel, rfl⟩
theorem dX1_tellYard_0 : DR cX1_tellYard 0 (.aload_n 0) 1 1 := ⟨by decide +kernel, rfl⟩
theorem dX1_tellYard_1 : DR cX1_tellYard 1 (.iload_n 1) 1 2 := ⟨by decide +kernel, rfl⟩
theorem dX1_tellYard_2 : DR cX1_tellYard 2 (.putfield 38) 3 5 := ⟨by decide +kernel, rfl⟩
theorem dX1_tellYard_5 : DR cX1_tellYard 5 (.iload_n 1) 1 6 := ⟨by decide +kernel, rfl⟩
theorem dX1_tellYard_6 : DR cX1_tellYard 6 (.iconst 1) 1 7 := ⟨by decide +kernel, rfl⟩
theorem dX1_tellYard_7 : DR cX1_tellYard 7 (.bipush 27) 2 9 := ⟨by decide +kernel, rfl⟩
theorem dX1_tellYard_9 : DR cX1_tellYard 9 (.invokestatic 41) 3 12 := ⟨by decide +kernel, rfl⟩
theorem dX1_tellYard_12 : DB cX1_tellYard 12 (.ifCond .ne 7) 3 (7) 15 19 := ⟨by decide +kernel, rfl, by decide⟩
theorem dX1_tellYard_15 : DR cX1_tellYard 15 (.iconst 1) 1 16 := ⟨by decide +kernel, rfl⟩
theorem dX1_tellYard_16 : DB cX1_tellYard 16 (.goto 4) 3 (4) 19 20 := ⟨by decide +kernel, rfl, by decide⟩
theorem dX1_tellYard_19 : DR cX1_tellYard 19 (.iconst 0) 1 20 := ⟨by decide +kernel, rfl⟩
theorem dX1_tellYard_20 : DR cX1_tellYard 20 (.ireturn) 1 21 := ⟨by decide +kernel, rfl⟩
theorem dX1_coldOf_0 : DR cX1_coldOf 0 (.aload_n 0) 1 1 := ⟨by decide +kernel, rfl⟩
theorem dX1_coldOf_1 : DR cX1_coldOf 1 (.aload_n 0) 1 2 := ⟨by decide +kernel, rfl⟩
theorem dX1_coldOf_2 : DR cX1_coldOf 2 (.getfield 18) 3 5 := ⟨by decide +kernel, rfl⟩
theorem dX1_coldOf_5 : DR cX1_coldOf 5 (.iload_n 1) 1 6 := ⟨by decide +kernel, rfl⟩
theorem dX1_coldOf_6 : DR cX1_coldOf 6 (.iconst 4) 1 7 := ⟨by decide +kernel, rfl⟩
theorem dX1_coldOf_7 : DR cX1_coldOf 7 (.invokevirtual 45) 3 10 := ⟨by decide +kernel, rfl⟩
theorem dX1_coldOf_10 : DR cX1_coldOf 10 (.ireturn) 1 11 := ⟨by decide +kernel, rfl⟩
theorem dX1_mistOf_0 : DR cX1_mistOf 0 (.aload_n 0) 1 1 := ⟨by decide +kernel, rfl⟩
theorem dX1_mistOf_1 : DR cX1_mistOf 1 (.aload_n 0) 1 2 := ⟨by decide +kernel, rfl⟩
theorem dX1_mistOf_2 : DR cX1_mistOf 2 (.getfield 22) 3 5 := ⟨by decide +kernel, rfl⟩
theorem dX1_mistOf_5 : DR cX1_mistOf 5 (.iload_n 1) 1 6 := ⟨by decide +kernel, rfl⟩
theorem dX1_mistOf_6 : DR cX1_mistOf 6 (.iconst 0) 1 7 := ⟨by decide +kernel, rfl⟩
theorem dX1_mistOf_7 : DR cX1_mistOf 7 (.invokevirtual 45) 3 10 := ⟨by decide +kernel, rfl⟩
theorem dX1_mistOf_10 : DR cX1_mistOf 10 (.ireturn) 1 11 := ⟨by decide +kernel, rfl⟩
theorem dX1_ofHour_0 : DR cX1_ofHour 0 (.iload_n 2) 1 1 := ⟨by decide +kernel, rfl⟩
theorem dX1_ofHour_1 : DR cX1_ofHour 1 (.aload_n 0) 1 2 := ⟨by decide +kernel, rfl⟩
theorem dX1_ofHour_2 : DR cX1_ofHour 2 (.getfield 28) 3 5 := ⟨by decide +kernel, rfl⟩
theorem dX1_ofHour_5 : DR cX1_ofHour 5 (.iconst 1) 1 6 := ⟨by decide +kernel, rfl⟩
theorem dX1_ofHour_6 : DR cX1_ofHour 6 (.isub) 1 7 := ⟨by decide +kernel, rfl⟩
theorem dX1_ofHour_7 : DR cX1_ofHour 7 (.invokestatic 49) 3 10 := ⟨by decide +kernel, rfl⟩
theorem dX1_ofHour_10 : DR cX1_ofHour 10 (.istore 4) 2 12 := ⟨by decide +kernel, rfl⟩
theorem dX1_ofHour_12 : DR cX1_ofHour 12 (.iload 4) 2 14 := ⟨by decide +kernel, rfl⟩
theorem dX1_ofHour_14 : DB cX1_ofHour 14 (.ifCond .lt 10) 3 (10) 17 24 := ⟨by decide +kernel, rfl, by decide⟩
theorem dX1_ofHour_17 : DR cX1_ofHour 17 (.iload 4) 2 19 := ⟨by decide +kernel, rfl⟩
theorem dX1_ofHour_19 : DR cX1_ofHour 19 (.aload_n 1) 1 20 := ⟨by decide +kernel, rfl⟩
theorem dX1_ofHour_20 : DR cX1_ofHour 20 (.arraylength) 1 21 := ⟨by decide +kernel, rfl⟩
theorem dX1_ofHour_21 : DB cX1_ofHour 21 (.if_icmp .lt 7) 3 (7) 24 28 := ⟨by decide +kernel, rfl, by decide⟩
theorem dX1_ofHour_24 : DR cX1_ofHour 24 (.iload_n 3) 1 25 := ⟨by decide +kernel, rfl⟩
theorem dX1_ofHour_25 : DB cX1_ofHour 25 (.goto 7) 3 (7) 28 32 := ⟨by decide +kernel, rfl, by decide⟩
theorem dX1_ofHour_28 : DR cX1_ofHour 28 (.aload_n 1) 1 29 := ⟨by decide +kernel, rfl⟩
theorem dX1_ofHour_29 : DR cX1_ofHour 29 (.iload 4) 2 31 := ⟨by decide +kernel, rfl⟩
theorem dX1_ofHour_31 : DR cX1_ofHour 31 (.iaload) 1 32 := ⟨by decide +kernel, rfl⟩
theorem dX1_ofHour_32 : DR cX1_ofHour 32 (.ireturn) 1 33 := ⟨by decide +kernel, rfl⟩
theorem dX1_goBy_0 : DR cX1_goBy 0 (.iconst 0) 1 1 := ⟨by decide +kernel, rfl⟩
theorem dX1_goBy_1 : DR cX1_goBy 1 (.istore_n 3) 1 2 := ⟨by decide +kernel, rfl⟩
theorem dX1_goBy_2 : DR cX1_goBy 2 (.iload_n 3) 1 3 := ⟨by decide +kernel, rfl⟩
theorem dX1_goBy_3 : DR cX1_goBy 3 (.iload_n 2) 1 4 := ⟨by decide +kernel, rfl⟩
theorem dX1_goBy_4 : DB cX1_goBy 4 (.if_icmp .ge 30) 3 (30) 7 34 := ⟨by decide +kernel, rfl, by decide⟩
theorem dX1_goBy_7 : DR cX1_goBy 7 (.aload_n 0) 1 8 := ⟨by decide +kernel, rfl⟩
theorem dX1_goBy_8 : DR cX1_goBy 8 (.aload_n 1) 1 9 := ⟨by decide +kernel, rfl⟩
theorem dX1_goBy_9 : DR cX1_goBy 9 (.aload_n 0) 1 10 := ⟨by decide +kernel, rfl⟩
theorem dX1_goBy_10 : DR cX1_goBy 10 (.aload_n 1) 1 11 := ⟨by decide +kernel, rfl⟩
theorem dX1_goBy_11 : DR cX1_goBy 11 (.getfield 55) 3 14 := ⟨by decide +kernel, rfl⟩
theorem dX1_goBy_14 : DR cX1_goBy 14 (.invokevirtual 58) 3 17 := ⟨by decide +kernel, rfl⟩
theorem dX1_goBy_17 : DR cX1_goBy 17 (.aload_n 0) 1 18 := ⟨by decide +kernel, rfl⟩
theorem dX1_goBy_18 : DR cX1_goBy 18 (.aload_n 1) 1 19 := ⟨by decide +kernel, rfl⟩
theorem dX1_goBy_19 : DR cX1_goBy 19 (.getfield 55) 3 22 := ⟨by decide +kernel, rfl⟩
theorem dX1_goBy_22 : DR cX1_goBy 22 (.invokevirtual 62) 3 25 := ⟨by decide +kernel, rfl⟩
theorem dX1_goBy_25 : DR cX1_goBy 25 (.invokevirtual 65) 3 28 := ⟨by decide +kernel, rfl⟩
theorem dX1_goBy_28 : DR cX1_goBy 28 (.iinc 3 1) 3 31 := ⟨by decide +kernel, rfl⟩
theorem dX1_goBy_31 : DB cX1_goBy 31 (.goto (-29)) 3 (-29) 34 2 := ⟨by decide +kernel, rfl, by decide⟩
theorem dX1_goBy_34 : DR cX1_goBy 34 (.return_) 1 35 := ⟨by decide +kernel, rfl⟩
theorem dX1_goByOne_0 : DR cX1_goByOne 0 (.aload_n 1) 1 1 := ⟨by decide +kernel, rfl⟩
theorem dX1_goByOne_1 : DR cX1_goByOne 1 (.getfield 55) 3 4 := ⟨by decide +kernel, rfl⟩
theorem dX1_goByOne_4 : DR cX1_goByOne 4 (.aload_n 0) 1 5 := ⟨by decide +kernel, rfl⟩
theorem dX1_goByOne_5 : DR cX1_goByOne 5 (.getfield 32) 3 8 := ⟨by decide +kernel, rfl⟩
theorem dX1_goByOne_8 : DB cX1_goByOne 8 (.if_icmp .ge 12) 3 (12) 11 20 := ⟨by decide +kernel, rfl, by decide⟩
theorem dX1_goByOne_11 : DR cX1_goByOne 11 (.aload_n 1) 1 12 := ⟨by decide +kernel, rfl⟩
theorem dX1_goByOne_12 : DR cX1_goByOne 12 (.iload_n 2) 1 13 := ⟨by decide +kernel, rfl⟩
theorem dX1_goByOne_13 : DR cX1_goByOne 13 (.iload_n 3) 1 14 := ⟨by decide +kernel, rfl⟩
theorem dX1_goByOne_14 : DR cX1_goByOne 14 (.invokevirtual 69) 3 17 := ⟨by decide +kernel, rfl⟩
theorem dX1_goByOne_17 : DB cX1_goByOne 17 (.goto 7) 3 (7) 20 24 := ⟨by decide +kernel, rfl, by decide⟩
theorem dX1_goByOne_20 : DR cX1_goByOne 20 (.aload_n 1) 1 21 := ⟨by decide +kernel, rfl⟩
theorem dX1_goByOne_21 : DR cX1_goByOne 21 (.invokevirtual 73) 3 24 := ⟨by decide +kernel, rfl⟩
theorem dX1_goByOne_24 : DR cX1_goByOne 24 (.aload_n 1) 1 25 := ⟨by decide +kernel, rfl⟩
theorem dX1_goByOne_25 : DR cX1_goByOne 25 (.dup) 1 26 := ⟨by decide +kernel, rfl⟩
theorem dX1_goByOne_26 : DR cX1_goByOne 26 (.getfield 55) 3 29 := ⟨by decide +kernel, rfl⟩
theorem dX1_goByOne_29 : DR cX1_goByOne 29 (.iconst 1) 1 30 := ⟨by decide +kernel, rfl⟩
theorem dX1_goByOne_30 : DR cX1_goByOne 30 (.iadd) 1 31 := ⟨by decide +kernel, rfl⟩
theorem dX1_goByOne_31 : DR cX1_goByOne 31 (.putfield 55) 3 34 := ⟨by decide +kernel, rfl⟩
theorem dX1_goByOne_34 : DR cX1_goByOne 34 (.return_) 1 35 := ⟨by decide +kernel, rfl⟩
theorem dX2_init_0 : DR cX2_init 0 (.aload_n 0) 1 1 := ⟨by decide +kernel, rfl⟩
theorem dX2_init_1 : DR cX2_init 1 (.invokespecial 1) 3 4 := ⟨by decide +kernel, rfl⟩
theorem dX2_init_4 : DR cX2_init 4 (.aload_n 0) 1 5 := ⟨by decide +kernel, rfl⟩
theorem dX2_init_5 : DR cX2_init 5 (.iconst 1) 1 6 := ⟨by decide +kernel, rfl⟩
theorem dX2_init_6 : DR cX2_init 6 (.iload_n 1) 1 7 := ⟨by decide +kernel, rfl⟩
theorem dX2_init_7 : DR cX2_init 7 (.invokestatic 7) 3 10 := ⟨by decide +kernel, rfl⟩
theorem dX2_init_10 : DR cX2_init 10 (.anewarray 13) 3 13 := ⟨by decide +kernel, rfl⟩
theorem dX2_init_13 : DR cX2_init 13 (.putfield 15) 3 16 := ⟨by decide +kernel, rfl⟩
theorem dX2_init_16 : DR cX2_init 16 (.iconst 0) 1 17 := ⟨by decide +kernel, rfl⟩
theorem dX2_init_17 : DR cX2_init 17 (.istore_n 2) 1 18 := ⟨by decide +kernel, rfl⟩
theorem dX2_init_18 : DR cX2_init 18 (.iload_n 2) 1 19 := ⟨by decide +kernel, rfl⟩
theorem dX2_init_19 : DR cX2_init 19 (.aload_n 0) 1 20 := ⟨by decide +kernel, rfl⟩
theorem dX2_init_20 : DR cX2_init 20 (.getfield 15) 3 23 := ⟨by decide +kernel, rfl⟩
theorem dX2_init_23 : DR cX2_init 23 (.arraylength) 1 24 := ⟨by decide +kernel, rfl⟩
theorem dX2_init_24 : DB cX2_init 24 (.if_icmp .ge 22) 3 (22) 27 46 := ⟨by decide +kernel, rfl, by decide⟩
theorem dX2_init_27 : DR cX2_init 27 (.aload_n 0) 1 28 := ⟨by decide +kernel, rfl⟩
theorem dX2_init_28 : DR cX2_init 28 (.getfield 15) 3 31 := ⟨by decide +kernel, rfl⟩
theorem dX2_init_31 : DR cX2_init 31 (.iload_n 2) 1 32 := ⟨by decide +kernel, rfl⟩
theorem dX2_init_32 : DR cX2_init 32 (.new 13) 3 35 := ⟨by decide +kernel, rfl⟩
theorem dX2_init_35 : DR cX2_init 35 (.dup) 1 36 := ⟨by decide +kernel, rfl⟩
theorem dX2_init_36 : DR cX2_init 36 (.invokespecial 21) 3 39 := ⟨by decide +kernel, rfl⟩
theorem dX2_init_39 : DR cX2_init 39 (.aastore) 1 40 := ⟨by decide +kernel, rfl⟩
theorem dX2_init_40 : DR cX2_init 40 (.iinc 2 1) 3 43 := ⟨by decide +kernel, rfl⟩
theorem dX2_init_43 : DB cX2_init 43 (.goto (-25)) 3 (-25) 46 18 := ⟨by decide +kernel, rfl, by decide⟩
theorem dX2_init_46 : DR cX2_init 46 (.return_) 1 47 := ⟨by decide +kernel, rfl⟩
theorem dX2_clear_0 : DR cX2_clear 0 (.aload_n 0) 1 1 := ⟨by decide +kernel, rfl⟩
theorem dX2_clear_1 : DR cX2_clear 1 (.iconst 0) 1 2 := ⟨by decide +kernel, rfl⟩
theorem dX2_clear_2 : DR cX2_clear 2 (.putfield 22) 3 5 := ⟨by decide +kernel, rfl⟩
theorem dX2_clear_5 : DR cX2_clear 5 (.return_) 1 6 := ⟨by decide +kernel, rfl⟩
theorem dX2_isFull_0 : DR cX2_isFull 0 (.aload_n 0) 1 1 := ⟨by decide +kernel, rfl⟩
theorem dX2_isFull_1 : DR cX2_isFull 1 (.getfield 22) 3 4 := ⟨by decide +kernel, rfl⟩
theorem dX2_isFull_4 : DR cX2_isFull 4 (.aload_n 0) 1 5 := ⟨by decide +kernel, rfl⟩
theorem dX2_isFull_5 : DR cX2_isFull 5 (.getfield 15) 3 8 := ⟨by decide +kernel, rfl⟩
theorem dX2_isFull_8 : DR cX2_isFull 8 (.arraylength) 1 9 := ⟨by decide +kernel, rfl⟩
theorem dX2_isFull_9 : DB cX2_isFull 9 (.if_icmp .lt 7) 3 (7) 12 16 := ⟨by decide +kernel, rfl, by decide⟩
theorem dX2_isFull_12 : DR cX2_isFull 12 (.iconst 1) 1 13 := ⟨by decide +kernel, rfl⟩
theorem dX2_isFull_13 : DB cX2_isFull 13 (.goto 4) 3 (4) 16 17 := ⟨by decide +kernel, rfl, by decide⟩
theorem dX2_isFull_16 : DR cX2_isFull 16 (.iconst 0) 1 17 := ⟨by decide +kernel, rfl⟩
theorem dX2_isFull_17 : DR cX2_isFull 17 (.ireturn) 1 18 := ⟨by decide +kernel, rfl⟩
theorem dX2_put_0 : DR cX2_put 0 (.aload_n 0) 1 1 := ⟨by decide +kernel, rfl⟩
theorem dX2_put_1 : DR cX2_put 1 (.invokevirtual 26) 3 4 := ⟨by decide +kernel, rfl⟩
theorem dX2_put_4 : DB cX2_put 4 (.ifCond .eq 7) 3 (7) 7 11 := ⟨by decide +kernel, rfl, by decide⟩
theorem dX2_put_7 : DR cX2_put 7 (.aload_n 0) 1 8 := ⟨by decide +kernel, rfl⟩
theorem dX2_put_8 : DR cX2_put 8 (.invokevirtual 30) 3 11 := ⟨by decide +kernel, rfl⟩
theorem dX2_put_11 : DR cX2_put 11 (.aload_n 0) 1 12 := ⟨by decide +kernel, rfl⟩
theorem dX2_put_12 : DR cX2_put 12 (.getfield 22) 3 15 := ⟨by decide +kernel, rfl⟩
theorem dX2_put_15 : DB cX2_put 15 (.ifCond .lt 38) 3 (38) 18 53 := ⟨by decide +kernel, rfl, by decide⟩
theorem dX2_put_18 : DR cX2_put 18 (.aload_n 0) 1 19 := ⟨by decide +kernel, rfl⟩
theorem dX2_put_19 : DR cX2_put 19 (.getfield 22) 3 22 := ⟨by decide +kernel, rfl⟩
theorem dX2_put_22 : DR cX2_put 22 (.aload_n 0) 1 23 := ⟨by decide +kernel, rfl⟩
theorem dX2_put_23 : DR cX2_put 23 (.getfield 15) 3 26 := ⟨by decide +kernel, rfl⟩
theorem dX2_put_26 : DR cX2_put 26 (.arraylength) 1 27 := ⟨by decide +kernel, rfl⟩
theorem dX2_put_27 : DB cX2_put 27 (.if_icmp .ge 26) 3 (26) 30 53 := ⟨by decide +kernel, rfl, by decide⟩
theorem dX2_put_30 : DR cX2_put 30 (.aload_n 0) 1 31 := ⟨by decide +kernel, rfl⟩
theorem dX2_put_31 : DR cX2_put 31 (.getfield 15) 3 34 := ⟨by decide +kernel, rfl⟩
theorem dX2_put_34 : DR cX2_put 34 (.aload_n 0) 1 35 := ⟨by decide +kernel, rfl⟩
theorem dX2_put_35 : DR cX2_put 35 (.getfield 22) 3 38 := ⟨by decide +kernel, rfl⟩
theorem dX2_put_38 : DR cX2_put 38 (.aaload) 1 39 := ⟨by decide +kernel, rfl⟩
theorem dX2_put_39 : DR cX2_put 39 (.aload_n 1) 1 40 := ⟨by decide +kernel, rfl⟩
theorem dX2_put_40 : DR cX2_put 40 (.invokevirtual 33) 3 43 := ⟨by decide +kernel, rfl⟩
theorem dX2_put_43 : DR cX2_put 43 (.aload_n 0) 1 44 := ⟨by decide +kernel, rfl⟩
theorem dX2_put_44 : DR cX2_put 44 (.dup) 1 45 := ⟨by decide +kernel, rfl⟩
theorem dX2_put_45 : DR cX2_put 45 (.getfield 22) 3 48 := ⟨by decide +kernel, rfl⟩
theorem dX2_put_48 : DR cX2_put 48 (.iconst 1) 1 49 := ⟨by decide +kernel, rfl⟩
theorem dX2_put_49 : DR cX2_put 49 (.iadd) 1 50 := ⟨by decide +kernel, rfl⟩
theorem dX2_put_50 : DR cX2_put 50 (.putfield 22) 3 53 := ⟨by decide +kernel, rfl⟩
theorem dX2_put_53 : DR cX2_put 53 (.return_) 1 54 := ⟨by decide +kernel, rfl⟩
theorem dX2_loseOldest_0 : DR cX2_loseOldest 0 (.aload_n 0) 1 1 := ⟨by decide +kernel, rfl⟩
theorem dX2_loseOldest_1 : DR cX2_loseOldest 1 (.getfield 15) 3 4 := ⟨by decide +kernel, rfl⟩
theorem dX2_loseOldest_4 : DR cX2_loseOldest 4 (.iconst 0) 1 5 := ⟨by decide +kernel, rfl⟩
theorem dX2_loseOldest_5 : DR cX2_loseOldest 5 (.aaload) 1 6 := ⟨by decide +kernel, rfl⟩
theorem dX2_loseOldest_6 : DR cX2_loseOldest 6 (.astore_n 1) 1 7 := ⟨by decide +kernel, rfl⟩
theorem dX2_loseOldest_7 : DR cX2_loseOldest 7 (.iconst 1) 1 8 := ⟨by decide +kernel, rfl⟩
theorem dX2_loseOldest_8 : DR cX2_loseOldest 8 (.istore_n 2) 1 9 := ⟨by decide +kernel, rfl⟩
theorem dX2_loseOldest_9 : DR cX2_loseOldest 9 (.iload_n 2) 1 10 := ⟨by decide +kernel, rfl⟩
theorem dX2_loseOldest_10 : DR cX2_loseOldest 10 (.aload_n 0) 1 11 := ⟨by decide +kernel, rfl⟩
theorem dX2_loseOldest_11 : DR cX2_loseOldest 11 (.getfield 15) 3 14 := ⟨by decide +kernel, rfl⟩
theorem dX2_loseOldest_14 : DR cX2_loseOldest 14 (.arraylength) 1 15 := ⟨by decide +kernel, rfl⟩
theorem dX2_loseOldest_15 : DB cX2_loseOldest 15 (.if_icmp .ge 23) 3 (23) 18 38 := ⟨by decide +kernel, rfl, by decide⟩
theorem dX2_loseOldest_18 : DR cX2_loseOldest 18 (.aload_n 0) 1 19 := ⟨by decide +kernel, rfl⟩
theorem dX2_loseOldest_19 : DR cX2_loseOldest 19 (.getfield 15) 3 22 := ⟨by decide +kernel, rfl⟩
theorem dX2_loseOldest_22 : DR cX2_loseOldest 22 (.iload_n 2) 1 23 := ⟨by decide +kernel, rfl⟩
theorem dX2_loseOldest_23 : DR cX2_loseOldest 23 (.iconst 1) 1 24 := ⟨by decide +kernel, rfl⟩
theorem dX2_loseOldest_24 : DR cX2_loseOldest 24 (.isub) 1 25 := ⟨by decide +kernel, rfl⟩
theorem dX2_loseOldest_25 : DR cX2_loseOldest 25 (.aload_n 0) 1 26 := ⟨by decide +kernel, rfl⟩
theorem dX2_loseOldest_26 : DR cX2_loseOldest 26 (.getfield 15) 3 29 := ⟨by decide +kernel, rfl⟩
theorem dX2_loseOldest_29 : DR cX2_loseOldest 29 (.iload_n 2) 1 30 := ⟨by decide +kernel, rfl⟩
theorem dX2_loseOldest_30 : DR cX2_loseOldest 30 (.aaload) 1 31 := ⟨by decide +kernel, rfl⟩
theorem dX2_loseOldest_31 : DR cX2_loseOldest 31 (.aastore) 1 32 := ⟨by decide +kernel, rfl⟩
theorem dX2_loseOldest_32 : DR cX2_loseOldest 32 (.iinc 2 1) 3 35 := ⟨by decide +kernel, rfl⟩
theorem dX2_loseOldest_35 : DB cX2_loseOldest 35 (.goto (-26)) 3 (-26) 38 9 := ⟨by decide +kernel, rfl, by decide⟩
theorem dX2_loseOldest_38 : DR cX2_loseOldest 38 (.aload_n 0) 1 39 := ⟨by decide +kernel, rfl⟩
theorem dX2_loseOldest_39 : DR cX2_loseOldest 39 (.getfield 15) 3 42 := ⟨by decide +kernel, rfl⟩
theorem dX2_loseOldest_42 : DR cX2_loseOldest 42 (.aload_n 0) 1 43 := ⟨by decide +kernel, rfl⟩
theorem dX2_loseOldest_43 : DR cX2_loseOldest 43 (.getfield 15) 3 46 := ⟨by decide +kernel, rfl⟩
theorem dX2_loseOldest_46 : DR cX2_loseOldest 46 (.arraylength) 1 47 := ⟨by decide +kernel, rfl⟩
theorem dX2_loseOldest_47 : DR cX2_loseOldest 47 (.iconst 1) 1 48 := ⟨by decide +kernel, rfl⟩
theorem dX2_loseOldest_48 : DR cX2_loseOldest 48 (.isub) 1 49 := ⟨by decide +kernel, rfl⟩
theorem dX2_loseOldest_49 : DR cX2_loseOldest 49 (.aload_n 1) 1 50 := ⟨by decide +kernel, rfl⟩
theorem dX2_loseOldest_50 : DR cX2_loseOldest 50 (.aastore) 1 51 := ⟨by decide +kernel, rfl⟩
theorem dX2_loseOldest_51 : DR cX2_loseOldest 51 (.aload_n 0) 1 52 := ⟨by decide +kernel, rfl⟩
theorem dX2_loseOldest_52 : DR cX2_loseOldest 52 (.aload_n 0) 1 53 := ⟨by decide +kernel, rfl⟩
theorem dX2_loseOldest_53 : DR cX2_loseOldest 53 (.getfield 15) 3 56 := ⟨by decide +kernel, rfl⟩
theorem dX2_loseOldest_56 : DR cX2_loseOldest 56 (.arraylength) 1 57 := ⟨by decide +kernel, rfl⟩
theorem dX2_loseOldest_57 : DR cX2_loseOldest 57 (.iconst 1) 1 58 := ⟨by decide +kernel, rfl⟩
theorem dX2_loseOldest_58 : DR cX2_loseOldest 58 (.isub) 1 59 := ⟨by decide +kernel, rfl⟩
theorem dX2_loseOldest_59 : DR cX2_loseOldest 59 (.putfield 22) 3 62 := ⟨by decide +kernel, rfl⟩
theorem dX2_loseOldest_62 : DR cX2_loseOldest 62 (.return_) 1 63 := ⟨by decide +kernel, rfl⟩
theorem dX2_takeInto_0 : DR cX2_takeInto 0 (.aload_n 0) 1 1 := ⟨by decide +kernel, rfl⟩
theorem dX2_takeInto_1 : DR cX2_takeInto 1 (.getfield 22) 3 4 := ⟨by decide +kernel, rfl⟩
theorem dX2_takeInto_4 : DB cX2_takeInto 4 (.ifCond .le 38) 3 (38) 7 42 := ⟨by decide +kernel, rfl, by decide⟩
theorem dX2_takeInto_7 : DR cX2_takeInto 7 (.aload_n 0) 1 8 := ⟨by decide +kernel, rfl⟩
theorem dX2_takeInto_8 : DR cX2_takeInto 8 (.getfield 22) 3 11 := ⟨by decide +kernel, rfl⟩
theorem dX2_takeInto_11 : DR cX2_takeInto 11 (.aload_n 0) 1 12 := ⟨by decide +kernel, rfl⟩
theorem dX2_takeInto_12 : DR cX2_takeInto 12 (.getfield 15) 3 15 := ⟨by decide +kernel, rfl⟩
theorem dX2_takeInto_15 : DR cX2_takeInto 15 (.arraylength) 1 16 := ⟨by decide +kernel, rfl⟩
theorem dX2_takeInto_16 : DB cX2_takeInto 16 (.if_icmp .gt 26) 3 (26) 19 42 := ⟨by decide +kernel, rfl, by decide⟩
theorem dX2_takeInto_19 : DR cX2_takeInto 19 (.aload_n 0) 1 20 := ⟨by decide +kernel, rfl⟩
theorem dX2_takeInto_20 : DR cX2_takeInto 20 (.dup) 1 21 := ⟨by decide +kernel, rfl⟩
theorem dX2_takeInto_21 : DR cX2_takeInto 21 (.getfield 22) 3 24 := ⟨by decide +kernel, rfl⟩
theorem dX2_takeInto_24 : DR cX2_takeInto 24 (.iconst 1) 1 25 := ⟨by decide +kernel, rfl⟩
theorem dX2_takeInto_25 : DR cX2_takeInto 25 (.isub) 1 26 := ⟨by decide +kernel, rfl⟩
theorem dX2_takeInto_26 : DR cX2_takeInto 26 (.putfield 22) 3 29 := ⟨by decide +kernel, rfl⟩
theorem dX2_takeInto_29 : DR cX2_takeInto 29 (.aload_n 1) 1 30 := ⟨by decide +kernel, rfl⟩
theorem dX2_takeInto_30 : DR cX2_takeInto 30 (.aload_n 0) 1 31 := ⟨by decide +kernel, rfl⟩
theorem dX2_takeInto_31 : DR cX2_takeInto 31 (.getfield 15) 3 34 := ⟨by decide +kernel, rfl⟩
theorem dX2_takeInto_34 : DR cX2_takeInto 34 (.aload_n 0) 1 35 := ⟨by decide +kernel, rfl⟩
theorem dX2_takeInto_35 : DR cX2_takeInto 35 (.getfield 22) 3 38 := ⟨by decide +kernel, rfl⟩
theorem dX2_takeInto_38 : DR cX2_takeInto 38 (.aaload) 1 39 := ⟨by decide +kernel, rfl⟩
theorem dX2_takeInto_39 : DR cX2_takeInto 39 (.invokevirtual 33) 3 42 := ⟨by decide +kernel, rfl⟩
theorem dX2_takeInto_42 : DR cX2_takeInto 42 (.return_) 1 43 := ⟨by decide +kernel, rfl⟩
theorem dX3_init_0 : DR cX3_init 0 (.aload_n 0) 1 1 := ⟨by decide +kernel, rfl⟩
theorem dX3_init_1 : DR cX3_init 1 (.invokespecial 3) 3 4 := ⟨by decide +kernel, rfl⟩
theorem dX3_init_4 : DR cX3_init 4 (.aload_n 0) 1 5 := ⟨by decide +kernel, rfl⟩
theorem dX3_init_5 : DR cX3_init 5 (.iconst 3) 1 6 := ⟨by decide +kernel, rfl⟩
theorem dX3_init_6 : DR cX3_init 6 (.newarray .int) 2 8 := ⟨by decide +kernel, rfl⟩
theorem dX3_init_8 : DR cX3_init 8 (.putfield 9) 3 11 := ⟨by decide +kernel, rfl⟩
theorem dX3_init_11 : DR cX3_init 11 (.return_) 1 12 := ⟨by decide +kernel, rfl⟩
theorem dX3_read_0 : DR cX3_read 0 (.aload_n 2) 1 1 := ⟨by decide +kernel, rfl⟩
theorem dX3_read_1 : DR cX3_read 1 (.invokevirtual 15) 3 4 := ⟨by decide +kernel, rfl⟩
theorem dX3_read_4 : DR cX3_read 4 (.aload_n 0) 1 5 := ⟨by decide +kernel, rfl⟩
theorem dX3_read_5 : DR cX3_read 5 (.iconst 0) 1 6 := ⟨by decide +kernel, rfl⟩
theorem dX3_read_6 : DR cX3_read 6 (.putfield 20) 3 9 := ⟨by decide +kernel, rfl⟩
theorem dX3_read_9 : DR cX3_read 9 (.iconst 0) 1 10 := ⟨by decide +kernel, rfl⟩
theorem dX3_read_10 : DR cX3_read 10 (.istore_n 3) 1 11 := ⟨by decide +kernel, rfl⟩
theorem dX3_read_11 : DR cX3_read 11 (.iload_n 3) 1 12 := ⟨by decide +kernel, rfl⟩
theorem dX3_read_12 : DR cX3_read 12 (.sipush 200) 3 15 := ⟨by decide +kernel, rfl⟩
theorem dX3_read_15 : DB cX3_read 15 (.if_icmp .ge 70) 3 (70) 18 85 := ⟨by decide +kernel, rfl, by decide⟩
theorem dX3_read_18 : DR cX3_read 18 (.aload_n 0) 1 19 := ⟨by decide +kernel, rfl⟩
theorem dX3_read_19 : DR cX3_read 19 (.getfield 20) 3 22 := ⟨by decide +kernel, rfl⟩
theorem dX3_read_22 : DR cX3_read 22 (.aload_n 1) 1 23 := ⟨by decide +kernel, rfl⟩
theorem dX3_read_23 : DR cX3_read 23 (.getfield 24) 3 26 := ⟨by decide +kernel, rfl⟩
theorem dX3_read_26 : DB cX3_read 26 (.if_icmp .ge 59) 3 (59) 29 85 := ⟨by decide +kernel, rfl, by decide⟩
theorem dX3_read_29 : DR cX3_read 29 (.aload_n 0) 1 30 := ⟨by decide +kernel, rfl⟩
theorem dX3_read_30 : DR cX3_read 30 (.getfield 20) 3 33 := ⟨by decide +kernel, rfl⟩
theorem dX3_read_33 : DR cX3_read 33 (.istore 4) 2 35 := ⟨by decide +kernel, rfl⟩
theorem dX3_read_35 : DR cX3_read 35 (.aload_n 1) 1 36 := ⟨by decide +kernel, rfl⟩
theorem dX3_read_36 : DR cX3_read 36 (.iload 4) 2 38 := ⟨by decide +kernel, rfl⟩
theorem dX3_read_38 : DR cX3_read 38 (.invokevirtual 29) 3 41 := ⟨by decide +kernel, rfl⟩
theorem dX3_read_41 : DR cX3_read 41 (.istore 5) 2 43 := ⟨by decide +kernel, rfl⟩
theorem dX3_read_43 : DR cX3_read 43 (.aload_n 0) 1 44 := ⟨by decide +kernel, rfl⟩
theorem dX3_read_44 : DR cX3_read 44 (.dup) 1 45 := ⟨by decide +kernel, rfl⟩
theorem dX3_read_45 : DR cX3_read 45 (.getfield 20) 3 48 := ⟨by decide +kernel, rfl⟩
theorem dX3_read_48 : DR cX3_read 48 (.iconst 1) 1 49 := ⟨by decide +kernel, rfl⟩
theorem dX3_read_49 : DR cX3_read 49 (.iadd) 1 50 := ⟨by decide +kernel, rfl⟩
theorem dX3_read_50 : DR cX3_read 50 (.putfield 20) 3 53 := ⟨by decide +kernel, rfl⟩
theorem dX3_read_53 : DR cX3_read 53 (.aload_n 0) 1 54 := ⟨by decide +kernel, rfl⟩
theorem dX3_read_54 : DR cX3_read 54 (.aload_n 1) 1 55 := ⟨by decide +kernel, rfl⟩
theorem dX3_read_55 : DR cX3_read 55 (.iload 5) 2 57 := ⟨by decide +kernel, rfl⟩
theorem dX3_read_57 : DR cX3_read 57 (.invokestatic 33) 3 60 := ⟨by decide +kernel, rfl⟩
theorem dX3_read_60 : DR cX3_read 60 (.invokevirtual 36) 3 63 := ⟨by decide +kernel, rfl⟩
theorem dX3_read_63 : DB cX3_read 63 (.ifCond .eq 13) 3 (13) 66 76 := ⟨by decide +kernel, rfl, by decide⟩
theorem dX3_read_66 : DR cX3_read 66 (.aload_n 0) 1 67 := ⟨by decide +kernel, rfl⟩
theorem dX3_read_67 : DR cX3_read 67 (.aload_n 2) 1 68 := ⟨by decide +kernel, rfl⟩
theorem dX3_read_68 : DR cX3_read 68 (.iload 5) 2 70 := ⟨by decide +kernel, rfl⟩
theorem dX3_read_70 : DR cX3_read 70 (.invokevirtual 40) 3 73 := ⟨by decide +kernel, rfl⟩
theorem dX3_read_73 : DB cX3_read 73 (.ifCond .ne 6) 3 (6) 76 79 := ⟨by decide +kernel, rfl, by decide⟩
theorem dX3_read_76 : DR cX3_read 76 (.iload 4) 2 78 := ⟨by decide +kernel, rfl⟩
theorem dX3_read_78 : DR cX3_read 78 (.ireturn) 1 79 := ⟨by decide +kernel, rfl⟩
theorem dX3_read_79 : DR cX3_read 79 (.iinc 3 1) 3 82 := ⟨by decide +kernel, rfl⟩
theorem dX3_read_82 : DB cX3_read 82 (.goto (-71)) 3 (-71) 85 11 := ⟨by decide +kernel, rfl, by decide⟩
theorem dX3_read_85 : DR cX3_read 85 (.bipush (-4)) 2 87 := ⟨by decide +kernel, rfl⟩
theorem dX3_read_87 : DR cX3_read 87 (.ireturn) 1 88 := ⟨by decide +kernel, rfl⟩
theorem dX3_numbersBehind_0 : DR cX3_numbersBehind 0 (.iload_n 0) 1 1 := ⟨by decide +kernel, rfl⟩
theorem dX3_numbersBehind_1 : DR cX3_numbersBehind 1 (.lookupswitch 61 #[(104, 53), (108, 51), (109, 57), (115, 55), (121, 59)]) 51 52 := ⟨by decide +kernel, rfl⟩
theorem dX3_numbersBehind_52 : DR cX3_numbersBehind 52 (.iconst 3) 1 53 := ⟨by decide +kernel, rfl⟩
theorem dX3_numbersBehind_53 : DR cX3_numbersBehind 53 (.ireturn) 1 54 := ⟨by decide +kernel, rfl⟩
theorem dX3_numbersBehind_54 : DR cX3_numbersBehind 54 (.iconst 2) 1 55 := ⟨by decide +kernel, rfl⟩
theorem dX3_numbersBehind_55 : DR cX3_numbersBehind 55 (.ireturn) 1 56 := ⟨by decide +kernel, rfl⟩
theorem dX3_numbersBehind_56 : DR cX3_numbersBehind 56 (.iconst 1) 1 57 := ⟨by decide +kernel, rfl⟩
theorem dX3_numbersBehind_57 : DR cX3_numbersBehind 57 (.ireturn) 1 58 := ⟨by decide +kernel, rfl⟩
theorem dX3_numbersBehind_58 : DR cX3_numbersBehind 58 (.iconst 1) 1 59 := ⟨by decide +kernel, rfl⟩
theorem dX3_numbersBehind_59 : DR cX3_numbersBehind 59 (.ireturn) 1 60 := ⟨by decide +kernel, rfl⟩
theorem dX3_numbersBehind_60 : DR cX3_numbersBehind 60 (.iconst 1) 1 61 := ⟨by decide +kernel, rfl⟩
theorem dX3_numbersBehind_61 : DR cX3_numbersBehind 61 (.ireturn) 1 62 := ⟨by decide +kernel, rfl⟩
theorem dX3_numbersBehind_62 : DR cX3_numbersBehind 62 (.iconst 0) 1 63 := ⟨by decide +kernel, rfl⟩
theorem dX3_numbersBehind_63 : DR cX3_numbersBehind 63 (.ireturn) 1 64 := ⟨by decide +kernel, rfl⟩
theorem dX3_readNumbers_0 : DR cX3_readNumbers 0 (.iconst 0) 1 1 := ⟨by decide +kernel, rfl⟩
theorem dX3_readNumbers_1 : DR cX3_readNumbers 1 (.istore_n 3) 1 2 := ⟨by decide +kernel, rfl⟩
theorem dX3_readNumbers_2 : DR cX3_readNumbers 2 (.iload_n 3) 1 3 := ⟨by decide +kernel, rfl⟩
theorem dX3_readNumbers_3 : DR cX3_readNumbers 3 (.iload_n 2) 1 4 := ⟨by decide +kernel, rfl⟩
theorem dX3_readNumbers_4 : DB cX3_readNumbers 4 (.if_icmp .ge 86) 3 (86) 7 90 := ⟨by decide +kernel, rfl, by decide⟩
theorem dX3_readNumbers_7 : DR cX3_readNumbers 7 (.iload_n 3) 1 8 := ⟨by decide +kernel, rfl⟩
theorem dX3_readNumbers_8 : DR cX3_readNumbers 8 (.aload_n 0) 1 9 := ⟨by decide +kernel, rfl⟩
theorem dX3_readNumbers_9 : DR cX3_readNumbers 9 (.getfield 9) 3 12 := ⟨by decide +kernel, rfl⟩
theorem dX3_readNumbers_12 : DR cX3_readNumbers 12 (.arraylength) 1 13 := ⟨by decide +kernel, rfl⟩
theorem dX3_readNumbers_13 : DB cX3_readNumbers 13 (.if_icmp .ge 77) 3 (77) 16 90 := ⟨by decide +kernel, rfl, by decide⟩
theorem dX3_readNumbers_16 : DR cX3_readNumbers 16 (.aload_n 1) 1 17 := ⟨by decide +kernel, rfl⟩
theorem dX3_readNumbers_17 : DR cX3_readNumbers 17 (.aload_n 0) 1 18 := ⟨by decide +kernel, rfl⟩
theorem dX3_readNumbers_18 : DR cX3_readNumbers 18 (.getfield 20) 3 21 := ⟨by decide +kernel, rfl⟩
theorem dX3_readNumbers_21 : DR cX3_readNumbers 21 (.invokevirtual 29) 3 24 := ⟨by decide +kernel, rfl⟩
theorem dX3_readNumbers_24 : DR cX3_readNumbers 24 (.invokestatic 44) 3 27 := ⟨by decide +kernel, rfl⟩
theorem dX3_readNumbers_27 : DB cX3_readNumbers 27 (.ifCond .ne 5) 3 (5) 30 32 := ⟨by decide +kernel, rfl, by decide⟩
theorem dX3_readNumbers_30 : DR cX3_readNumbers 30 (.iconst 0) 1 31 := ⟨by decide +kernel, rfl⟩
theorem dX3_readNumbers_31 : DR cX3_readNumbers 31 (.ireturn) 1 32 := ⟨by decide +kernel, rfl⟩
theorem dX3_readNumbers_32 : DR cX3_readNumbers 32 (.aload_n 0) 1 33 := ⟨by decide +kernel, rfl⟩
theorem dX3_readNumbers_33 : DR cX3_readNumbers 33 (.getfield 9) 3 36 := ⟨by decide +kernel, rfl⟩
theorem dX3_readNumbers_36 : DR cX3_readNumbers 36 (.iload_n 3) 1 37 := ⟨by decide +kernel, rfl⟩
theorem dX3_readNumbers_37 : DR cX3_readNumbers 37 (.aload_n 0) 1 38 := ⟨by decide +kernel, rfl⟩
theorem dX3_readNumbers_38 : DR cX3_readNumbers 38 (.aload_n 1) 1 39 := ⟨by decide +kernel, rfl⟩
theorem dX3_readNumbers_39 : DR cX3_readNumbers 39 (.invokevirtual 48) 3 42 := ⟨by decide +kernel, rfl⟩
theorem dX3_readNumbers_42 : DR cX3_readNumbers 42 (.iastore) 1 43 := ⟨by decide +kernel, rfl⟩
theorem dX3_readNumbers_43 : DR cX3_readNumbers 43 (.iload_n 3) 1 44 := ⟨by decide +kernel, rfl⟩
theorem dX3_readNumbers_44 : DR cX3_readNumbers 44 (.iconst 1) 1 45 := ⟨by decide +kernel, rfl⟩
theorem dX3_readNumbers_45 : DR cX3_readNumbers 45 (.iadd) 1 46 := ⟨by decide +kernel, rfl⟩
theorem dX3_readNumbers_46 : DR cX3_readNumbers 46 (.iload_n 2) 1 47 := ⟨by decide +kernel, rfl⟩
theorem dX3_readNumbers_47 : DB cX3_readNumbers 47 (.if_icmp .ge 8) 3 (8) 50 55 := ⟨by decide +kernel, rfl, by decide⟩
theorem dX3_readNumbers_50 : DR cX3_readNumbers 50 (.bipush 44) 2 52 := ⟨by decide +kernel, rfl⟩
theorem dX3_readNumbers_52 : DB cX3_readNumbers 52 (.goto 5) 3 (5) 55 57 := ⟨by decide +kernel, rfl, by decide⟩
theorem dX3_readNumbers_55 : DR cX3_readNumbers 55 (.bipush 59) 2 57 := ⟨by decide +kernel, rfl⟩
theorem dX3_readNumbers_57 : DR cX3_readNumbers 57 (.istore 4) 2 59 := ⟨by decide +kernel, rfl⟩
theorem dX3_readNumbers_59 : DR cX3_readNumbers 59 (.aload_n 1) 1 60 := ⟨by decide +kernel, rfl⟩
theorem dX3_readNumbers_60 : DR cX3_readNumbers 60 (.aload_n 0) 1 61 := ⟨by decide +kernel, rfl⟩
theorem dX3_readNumbers_61 : DR cX3_readNumbers 61 (.getfield 20) 3 64 := ⟨by decide +kernel, rfl⟩
theorem dX3_readNumbers_64 : DR cX3_readNumbers 64 (.invokevirtual 29) 3 67 := ⟨by decide +kernel, rfl⟩
theorem dX3_readNumbers_67 : DR cX3_readNumbers 67 (.iload 4) 2 69 := ⟨by decide +kernel, rfl⟩
theorem dX3_readNumbers_69 : DB cX3_readNumbers 69 (.if_icmp .eq 5) 3 (5) 72 74 := ⟨by decide +kernel, rfl, by decide⟩
theorem dX3_readNumbers_72 : DR cX3_readNumbers 72 (.iconst 0) 1 73 := ⟨by decide +kernel, rfl⟩
theorem dX3_readNumbers_73 : DR cX3_readNumbers 73 (.ireturn) 1 74 := ⟨by decide +kernel, rfl⟩
theorem dX3_readNumbers_74 : DR cX3_readNumbers 74 (.aload_n 0) 1 75 := ⟨by decide +kernel, rfl⟩
theorem dX3_readNumbers_75 : DR cX3_readNumbers 75 (.dup) 1 76 := ⟨by decide +kernel, rfl⟩
theorem dX3_readNumbers_76 : DR cX3_readNumbers 76 (.getfield 20) 3 79 := ⟨by decide +kernel, rfl⟩
theorem dX3_readNumbers_79 : DR cX3_readNumbers 79 (.iconst 1) 1 80 := ⟨by decide +kernel, rfl⟩
theorem dX3_readNumbers_80 : DR cX3_readNumbers 80 (.iadd) 1 81 := ⟨by decide +kernel, rfl⟩
theorem dX3_readNumbers_81 : DR cX3_readNumbers 81 (.putfield 20) 3 84 := ⟨by decide +kernel, rfl⟩
theorem dX3_readNumbers_84 : DR cX3_readNumbers 84 (.iinc 3 1) 3 87 := ⟨by decide +kernel, rfl⟩
theorem dX3_readNumbers_87 : DB cX3_readNumbers 87 (.goto (-85)) 3 (-85) 90 2 := ⟨by decide +kernel, rfl, by decide⟩
theorem dX3_readNumbers_90 : DR cX3_readNumbers 90 (.iload_n 2) 1 91 := ⟨by decide +kernel, rfl⟩
theorem dX3_readNumbers_91 : DB cX3_readNumbers 91 (.ifCond .le 7) 3 (7) 94 98 := ⟨by decide +kernel, rfl, by decide⟩
theorem dX3_readNumbers_94 : DR cX3_readNumbers 94 (.iconst 1) 1 95 := ⟨by decide +kernel, rfl⟩
theorem dX3_readNumbers_95 : DB cX3_readNumbers 95 (.goto 4) 3 (4) 98 99 := ⟨by decide +kernel, rfl, by decide⟩
theorem dX3_readNumbers_98 : DR cX3_readNumbers 98 (.iconst 0) 1 99 := ⟨by decide +kernel, rfl⟩
theorem dX3_readNumbers_99 : DR cX3_readNumbers 99 (.ireturn) 1 100 := ⟨by decide +kernel, rfl⟩
theorem dX3_readNumber_0 : DR cX3_readNumber 0 (.aload_n 1) 1 1 := ⟨by decide +kernel, rfl⟩
theorem dX3_readNumber_1 : DR cX3_readNumber 1 (.aload_n 0) 1 2 := ⟨by decide +kernel, rfl⟩
theorem dX3_readNumber_2 : DR cX3_readNumber 2 (.getfield 20) 3 5 := ⟨by decide +kernel, rfl⟩
theorem dX3_readNumber_5 : DR cX3_readNumber 5 (.invokevirtual 29) 3 8 := ⟨by decide +kernel, rfl⟩
theorem dX3_readNumber_8 : DR cX3_readNumber 8 (.bipush 48) 2 10 := ⟨by decide +kernel, rfl⟩
theorem dX3_readNumber_10 : DR cX3_readNumber 10 (.isub) 1 11 := ⟨by decide +kernel, rfl⟩
theorem dX3_readNumber_11 : DR cX3_readNumber 11 (.istore_n 2) 1 12 := ⟨by decide +kernel, rfl⟩
theorem dX3_readNumber_12 : DR cX3_readNumber 12 (.aload_n 0) 1 13 := ⟨by decide +kernel, rfl⟩
theorem dX3_readNumber_13 : DR cX3_readNumber 13 (.dup) 1 14 := ⟨by decide +kernel, rfl⟩
theorem dX3_readNumber_14 : DR cX3_readNumber 14 (.getfield 20) 3 17 := ⟨by decide +kernel, rfl⟩
theorem dX3_readNumber_17 : DR cX3_readNumber 17 (.iconst 1) 1 18 := ⟨by decide +kernel, rfl⟩
theorem dX3_readNumber_18 : DR cX3_readNumber 18 (.iadd) 1 19 := ⟨by decide +kernel, rfl⟩
theorem dX3_readNumber_19 : DR cX3_readNumber 19 (.putfield 20) 3 22 := ⟨by decide +kernel, rfl⟩
theorem dX3_readNumber_22 : DR cX3_readNumber 22 (.aload_n 1) 1 23 := ⟨by decide +kernel, rfl⟩
theorem dX3_readNumber_23 : DR cX3_readNumber 23 (.aload_n 0) 1 24 := ⟨by decide +kernel, rfl⟩
theorem dX3_readNumber_24 : DR cX3_readNumber 24 (.getfield 20) 3 27 := ⟨by decide +kernel, rfl⟩
theorem dX3_readNumber_27 : DR cX3_readNumber 27 (.invokevirtual 29) 3 30 := ⟨by decide +kernel, rfl⟩
theorem dX3_readNumber_30 : DR cX3_readNumber 30 (.invokestatic 44) 3 33 := ⟨by decide +kernel, rfl⟩
theorem dX3_readNumber_33 : DB cX3_readNumber 33 (.ifCond .eq 30) 3 (30) 36 63 := ⟨by decide +kernel, rfl, by decide⟩
theorem dX3_readNumber_36 : DR cX3_readNumber 36 (.iload_n 2) 1 37 := ⟨by decide +kernel, rfl⟩
theorem dX3_readNumber_37 : DR cX3_readNumber 37 (.bipush 10) 2 39 := ⟨by decide +kernel, rfl⟩
theorem dX3_readNumber_39 : DR cX3_readNumber 39 (.imul) 1 40 := ⟨by decide +kernel, rfl⟩
theorem dX3_readNumber_40 : DR cX3_readNumber 40 (.aload_n 1) 1 41 := ⟨by decide +kernel, rfl⟩
theorem dX3_readNumber_41 : DR cX3_readNumber 41 (.aload_n 0) 1 42 := ⟨by decide +kernel, rfl⟩
theorem dX3_readNumber_42 : DR cX3_readNumber 42 (.getfield 20) 3 45 := ⟨by decide +kernel, rfl⟩
theorem dX3_readNumber_45 : DR cX3_readNumber 45 (.invokevirtual 29) 3 48 := ⟨by decide +kernel, rfl⟩
theorem dX3_readNumber_48 : DR cX3_readNumber 48 (.bipush 48) 2 50 := ⟨by decide +kernel, rfl⟩
theorem dX3_readNumber_50 : DR cX3_readNumber 50 (.isub) 1 51 := ⟨by decide +kernel, rfl⟩
theorem dX3_readNumber_51 : DR cX3_readNumber 51 (.iadd) 1 52 := ⟨by decide +kernel, rfl⟩
theorem dX3_readNumber_52 : DR cX3_readNumber 52 (.istore_n 2) 1 53 := ⟨by decide +kernel, rfl⟩
theorem dX3_readNumber_53 : DR cX3_readNumber 53 (.aload_n 0) 1 54 := ⟨by decide +kernel, rfl⟩
theorem dX3_readNumber_54 : DR cX3_readNumber 54 (.dup) 1 55 := ⟨by decide +kernel, rfl⟩
theorem dX3_readNumber_55 : DR cX3_readNumber 55 (.getfield 20) 3 58 := ⟨by decide +kernel, rfl⟩
theorem dX3_readNumber_58 : DR cX3_readNumber 58 (.iconst 1) 1 59 := ⟨by decide +kernel, rfl⟩
theorem dX3_readNumber_59 : DR cX3_readNumber 59 (.iadd) 1 60 := ⟨by decide +kernel, rfl⟩
theorem dX3_readNumber_60 : DR cX3_readNumber 60 (.putfield 20) 3 63 := ⟨by decide +kernel, rfl⟩
theorem dX3_readNumber_63 : DR cX3_readNumber 63 (.iload_n 2) 1 64 := ⟨by decide +kernel, rfl⟩
theorem dX3_readNumber_64 : DR cX3_readNumber 64 (.ireturn) 1 65 := ⟨by decide +kernel, rfl⟩
theorem dX3_isFigure_0 : DR cX3_isFigure 0 (.iload_n 0) 1 1 := ⟨by decide +kernel, rfl⟩
theorem dX3_isFigure_1 : DR cX3_isFigure 1 (.bipush 48) 2 3 := ⟨by decide +kernel, rfl⟩
theorem dX3_isFigure_3 : DB cX3_isFigure 3 (.if_icmp .lt 13) 3 (13) 6 16 := ⟨by decide +kernel, rfl, by decide⟩
theorem dX3_isFigure_6 : DR cX3_isFigure 6 (.iload_n 0) 1 7 := ⟨by decide +kernel, rfl⟩
theorem dX3_isFigure_7 : DR cX3_isFigure 7 (.bipush 57) 2 9 := ⟨by decide +kernel, rfl⟩
theorem dX3_isFigure_9 : DB cX3_isFigure 9 (.if_icmp .gt 7) 3 (7) 12 16 := ⟨by decide +kernel, rfl, by decide⟩
theorem dX3_isFigure_12 : DR cX3_isFigure 12 (.iconst 1) 1 13 := ⟨by decide +kernel, rfl⟩
theorem dX3_isFigure_13 : DB cX3_isFigure 13 (.goto 4) 3 (4) 16 17 := ⟨by decide +kernel, rfl, by decide⟩
theorem dX3_isFigure_16 : DR cX3_isFigure 16 (.iconst 0) 1 17 := ⟨by decide +kernel, rfl⟩
theorem dX3_isFigure_17 : DR cX3_isFigure 17 (.ireturn) 1 18 := ⟨by decide +kernel, rfl⟩
theorem dX3_tellNight_0 : DR cX3_tellNight 0 (.iload_n 2) 1 1 := ⟨by decide +kernel, rfl⟩
theorem dX3_tellNight_1 : DR cX3_tellNight 1 (.lookupswitch 108 #[(104, 69), (108, 43), (109, 97), (115, 86)]) 43 44 := ⟨by decide +kernel, rfl⟩
theorem dX3_tellNight_44 : DR cX3_tellNight 44 (.aload_n 1) 1 45 := ⟨by decide +kernel, rfl⟩
theorem dX3_tellNight_45 : DR cX3_tellNight 45 (.getfield 52) 3 48 := ⟨by decide +kernel, rfl⟩
theorem dX3_tellNight_48 : DR cX3_tellNight 48 (.aload_n 0) 1 49 := ⟨by decide +kernel, rfl⟩
theorem dX3_tellNight_49 : DR cX3_tellNight 49 (.getfield 9) 3 52 := ⟨by decide +kernel, rfl⟩
theorem dX3_tellNight_52 : DR cX3_tellNight 52 (.iconst 0) 1 53 := ⟨by decide +kernel, rfl⟩
theorem dX3_tellNight_53 : DR cX3_tellNight 53 (.iaload) 1 54 := ⟨by decide +kernel, rfl⟩
theorem dX3_tellNight_54 : DR cX3_tellNight 54 (.aload_n 0) 1 55 := ⟨by decide +kernel, rfl⟩
theorem dX3_tellNight_55 : DR cX3_tellNight 55 (.getfield 9) 3 58 := ⟨by decide +kernel, rfl⟩
theorem dX3_tellNight_58 : DR cX3_tellNight 58 (.iconst 1) 1 59 := ⟨by decide +kernel, rfl⟩
theorem dX3_tellNight_59 : DR cX3_tellNight 59 (.iaload) 1 60 := ⟨by decide +kernel, rfl⟩
theorem dX3_tellNight_60 : DR cX3_tellNight 60 (.aload_n 0) 1 61 := ⟨by decide +kernel, rfl⟩
theorem dX3_tellNight_61 : DR cX3_tellNight 61 (.getfield 9) 3 64 := ⟨by decide +kernel, rfl⟩
theorem dX3_tellNight_64 : DR cX3_tellNight 64 (.iconst 2) 1 65 := ⟨by decide +kernel, rfl⟩
theorem dX3_tellNight_65 : DR cX3_tellNight 65 (.iaload) 1 66 := ⟨by decide +kernel, rfl⟩
theorem dX3_tellNight_66 : DR cX3_tellNight 66 (.invokevirtual 56) 3 69 := ⟨by decide +kernel, rfl⟩
theorem dX3_tellNight_69 : DR cX3_tellNight 69 (.ireturn) 1 70 := ⟨by decide +kernel, rfl⟩
theorem dX3_tellNight_70 : DR cX3_tellNight 70 (.aload_n 1) 1 71 := ⟨by decide +kernel, rfl⟩
theorem dX3_tellNight_71 : DR cX3_tellNight 71 (.aload_n 0) 1 72 := ⟨by decide +kernel, rfl⟩
theorem dX3_tellNight_72 : DR cX3_tellNight 72 (.getfield 9) 3 75 := ⟨by decide +kernel, rfl⟩
theorem dX3_tellNight_75 : DR cX3_tellNight 75 (.iconst 0) 1 76 := ⟨by decide +kernel, rfl⟩
theorem dX3_tellNight_76 : DR cX3_tellNight 76 (.iaload) 1 77 := ⟨by decide +kernel, rfl⟩
theorem dX3_tellNight_77 : DR cX3_tellNight 77 (.aload_n 0) 1 78 := ⟨by decide +kernel, rfl⟩
theorem dX3_tellNight_78 : DR cX3_tellNight 78 (.getfield 9) 3 81 := ⟨by decide +kernel, rfl⟩
theorem dX3_tellNight_81 : DR cX3_tellNight 81 (.iconst 1) 1 82 := ⟨by decide +kernel, rfl⟩
theorem dX3_tellNight_82 : DR cX3_tellNight 82 (.iaload) 1 83 := ⟨by decide +kernel, rfl⟩
theorem dX3_tellNight_83 : DR cX3_tellNight 83 (.invokevirtual 62) 3 86 := ⟨by decide +kernel, rfl⟩
theorem dX3_tellNight_86 : DR cX3_tellNight 86 (.ireturn) 1 87 := ⟨by decide +kernel, rfl⟩
theorem dX3_tellNight_87 : DR cX3_tellNight 87 (.aload_n 1) 1 88 := ⟨by decide +kernel, rfl⟩
theorem dX3_tellNight_88 : DR cX3_tellNight 88 (.aload_n 0) 1 89 := ⟨by decide +kernel, rfl⟩
theorem dX3_tellNight_89 : DR cX3_tellNight 89 (.getfield 9) 3 92 := ⟨by decide +kernel, rfl⟩
theorem dX3_tellNight_92 : DR cX3_tellNight 92 (.iconst 0) 1 93 := ⟨by decide +kernel, rfl⟩
theorem dX3_tellNight_93 : DR cX3_tellNight 93 (.iaload) 1 94 := ⟨by decide +kernel, rfl⟩
theorem dX3_tellNight_94 : DR cX3_tellNight 94 (.invokevirtual 66) 3 97 := ⟨by decide +kernel, rfl⟩
theorem dX3_tellNight_97 : DR cX3_tellNight 97 (.ireturn) 1 98 := ⟨by decide +kernel, rfl⟩
theorem dX3_tellNight_98 : DR cX3_tellNight 98 (.aload_n 1) 1 99 := ⟨by decide +kernel, rfl⟩
theorem dX3_tellNight_99 : DR cX3_tellNight 99 (.aload_n 0) 1 100 := ⟨by decide +kernel, rfl⟩
theorem dX3_tellNight_100 : DR cX3_tellNight 100 (.getfield 9) 3 103 := ⟨by decide +kernel, rfl⟩
theorem dX3_tellNight_103 : DR cX3_tellNight 103 (.iconst 0) 1 104 := ⟨by decide +kernel, rfl⟩
theorem dX3_tellNight_104 : DR cX3_tellNight 104 (.iaload) 1 105 := ⟨by decide +kernel, rfl⟩
theorem dX3_tellNight_105 : DR cX3_tellNight 105 (.invokevirtual 69) 3 108 := ⟨by decide +kernel, rfl⟩
theorem dX3_tellNight_108 : DR cX3_tellNight 108 (.ireturn) 1 109 := ⟨by decide +kernel, rfl⟩
theorem dX3_tellNight_109 : DR cX3_tellNight 109 (.aload_n 1) 1 110 := ⟨by decide +kernel, rfl⟩
theorem dX3_tellNight_110 : DR cX3_tellNight 110 (.aload_n 0) 1 111 := ⟨by decide +kernel, rfl⟩
theorem dX3_tellNight_111 : DR cX3_tellNight 111 (.getfield 9) 3 114 := ⟨by decide +kernel, rfl⟩
theorem dX3_tellNight_114 : DR cX3_tellNight 114 (.iconst 0) 1 115 := ⟨by decide +kernel, rfl⟩
theorem dX3_tellNight_115 : DR cX3_tellNight 115 (.iaload) 1 116 := ⟨by decide +kernel, rfl⟩
theorem dX3_tellNight_116 : DR cX3_tellNight 116 (.invokevirtual 72) 3 119 := ⟨by decide +kernel, rfl⟩
theorem dX3_tellNight_119 : DR cX3_tellNight 119 (.ireturn) 1 120 := ⟨by decide +kernel, rfl⟩
theorem dX4_init_0 : DR cX4_init 0 (.aload_n 0) 1 1 := ⟨by decide +kernel, rfl⟩
theorem dX4_init_1 : DR cX4_init 1 (.invokespecial 3) 3 4 := ⟨by decide +kernel, rfl⟩
theorem dX4_init_4 : DR cX4_init 4 (.aload_n 0) 1 5 := ⟨by decide +kernel, rfl⟩
theorem dX4_init_5 : DR cX4_init 5 (.bipush 6) 2 7 := ⟨by decide +kernel, rfl⟩
theorem dX4_init_7 : DR cX4_init 7 (.newarray .int) 2 9 := ⟨by decide +kernel, rfl⟩
theorem dX4_init_9 : DR cX4_init 9 (.putfield 9) 3 12 := ⟨by decide +kernel, rfl⟩
theorem dX4_init_12 : DR cX4_init 12 (.aload_n 0) 1 13 := ⟨by decide +kernel, rfl⟩
theorem dX4_init_13 : DR cX4_init 13 (.bipush 6) 2 15 := ⟨by decide +kernel, rfl⟩
theorem dX4_init_15 : DR cX4_init 15 (.newarray .int) 2 17 := ⟨by decide +kernel, rfl⟩
theorem dX4_init_17 : DR cX4_init 17 (.putfield 15) 3 20 := ⟨by decide +kernel, rfl⟩
theorem dX4_init_20 : DR cX4_init 20 (.aload_n 0) 1 21 := ⟨by decide +kernel, rfl⟩
theorem dX4_init_21 : DR cX4_init 21 (.bipush 6) 2 23 := ⟨by decide +kernel, rfl⟩
theorem dX4_init_23 : DR cX4_init 23 (.newarray .int) 2 25 := ⟨by decide +kernel, rfl⟩
theorem dX4_init_25 : DR cX4_init 25 (.putfield 18) 3 28 := ⟨by decide +kernel, rfl⟩
theorem dX4_init_28 : DR cX4_init 28 (.return_) 1 29 := ⟨by decide +kernel, rfl⟩
theorem dX4_clear_0 : DR cX4_clear 0 (.aload_n 0) 1 1 := ⟨by decide +kernel, rfl⟩
theorem dX4_clear_1 : DR cX4_clear 1 (.iconst 0) 1 2 := ⟨by decide +kernel, rfl⟩
theorem dX4_clear_2 : DR cX4_clear 2 (.putfield 21) 3 5 := ⟨by decide +kernel, rfl⟩
theorem dX4_clear_5 : DR cX4_clear 5 (.return_) 1 6 := ⟨by decide +kernel, rfl⟩
theorem dX4_isFull_0 : DR cX4_isFull 0 (.aload_n 0) 1 1 := ⟨by decide +kernel, rfl⟩
theorem dX4_isFull_1 : DR cX4_isFull 1 (.getfield 21) 3 4 := ⟨by decide +kernel, rfl⟩
theorem dX4_isFull_4 : DR cX4_isFull 4 (.bipush 6) 2 6 := ⟨by decide +kernel, rfl⟩
theorem dX4_isFull_6 : DB cX4_isFull 6 (.if_icmp .lt 7) 3 (7) 9 13 := ⟨by decide +kernel, rfl, by decide⟩
theorem dX4_isFull_9 : DR cX4_isFull 9 (.iconst 1) 1 10 := ⟨by decide +kernel, rfl⟩
theorem dX4_isFull_10 : DB cX4_isFull 10 (.goto 4) 3 (4) 13 14 := ⟨by decide +kernel, rfl, by decide⟩
theorem dX4_isFull_13 : DR cX4_isFull 13 (.iconst 0) 1 14 := ⟨by decide +kernel, rfl⟩
theorem dX4_isFull_14 : DR cX4_isFull 14 (.ireturn) 1 15 := ⟨by decide +kernel, rfl⟩
theorem dX4_put_0 : DR cX4_put 0 (.aload_n 0) 1 1 := ⟨by decide +kernel, rfl⟩
theorem dX4_put_1 : DR cX4_put 1 (.getfield 21) 3 4 := ⟨by decide +kernel, rfl⟩
theorem dX4_put_4 : DB cX4_put 4 (.ifCond .lt 52) 3 (52) 7 56 := ⟨by decide +kernel, rfl, by decide⟩
theorem dX4_put_7 : DR cX4_put 7 (.aload_n 0) 1 8 := ⟨by decide +kernel, rfl⟩
theorem dX4_put_8 : DR cX4_put 8 (.getfield 21) 3 11 := ⟨by decide +kernel, rfl⟩
theorem dX4_put_11 : DR cX4_put 11 (.bipush 6) 2 13 := ⟨by decide +kernel, rfl⟩
theorem dX4_put_13 : DB cX4_put 13 (.if_icmp .ge 43) 3 (43) 16 56 := ⟨by decide +kernel, rfl, by decide⟩
theorem dX4_put_16 : DR cX4_put 16 (.aload_n 0) 1 17 := ⟨by decide +kernel, rfl⟩
theorem dX4_put_17 : DR cX4_put 17 (.getfield 9) 3 20 := ⟨by decide +kernel, rfl⟩
theorem dX4_put_20 : DR cX4_put 20 (.aload_n 0) 1 21 := ⟨by decide +kernel, rfl⟩
theorem dX4_put_21 : DR cX4_put 21 (.getfield 21) 3 24 := ⟨by decide +kernel, rfl⟩
theorem dX4_put_24 : DR cX4_put 24 (.iload_n 1) 1 25 := ⟨by decide +kernel, rfl⟩
theorem dX4_put_25 : DR cX4_put 25 (.iastore) 1 26 := ⟨by decide +kernel, rfl⟩
theorem dX4_put_26 : DR cX4_put 26 (.aload_n 0) 1 27 := ⟨by decide +kernel, rfl⟩
theorem dX4_put_27 : DR cX4_put 27 (.getfield 15) 3 30 := ⟨by decide +kernel, rfl⟩
theorem dX4_put_30 : DR cX4_put 30 (.aload_n 0) 1 31 := ⟨by decide +kernel, rfl⟩
theorem dX4_put_31 : DR cX4_put 31 (.getfield 21) 3 34 := ⟨by decide +kernel, rfl⟩
theorem dX4_put_34 : DR cX4_put 34 (.iload_n 2) 1 35 := ⟨by decide +kernel, rfl⟩
theorem dX4_put_35 : DR cX4_put 35 (.iastore) 1 36 := ⟨by decide +kernel, rfl⟩
theorem dX4_put_36 : DR cX4_put 36 (.aload_n 0) 1 37 := ⟨by decide +kernel, rfl⟩
theorem dX4_put_37 : DR cX4_put 37 (.getfield 18) 3 40 := ⟨by decide +kernel, rfl⟩
theorem dX4_put_40 : DR cX4_put 40 (.aload_n 0) 1 41 := ⟨by decide +kernel, rfl⟩
theorem dX4_put_41 : DR cX4_put 41 (.getfield 21) 3 44 := ⟨by decide +kernel, rfl⟩
theorem dX4_put_44 : DR cX4_put 44 (.iload_n 3) 1 45 := ⟨by decide +kernel, rfl⟩
theorem dX4_put_45 : DR cX4_put 45 (.iastore) 1 46 := ⟨by decide +kernel, rfl⟩
theorem dX4_put_46 : DR cX4_put 46 (.aload_n 0) 1 47 := ⟨by decide +kernel, rfl⟩
theorem dX4_put_47 : DR cX4_put 47 (.dup) 1 48 := ⟨by decide +kernel, rfl⟩
theorem dX4_put_48 : DR cX4_put 48 (.getfield 21) 3 51 := ⟨by decide +kernel, rfl⟩
theorem dX4_put_51 : DR cX4_put 51 (.iconst 1) 1 52 := ⟨by decide +kernel, rfl⟩
theorem dX4_put_52 : DR cX4_put 52 (.iadd) 1 53 := ⟨by decide +kernel, rfl⟩
theorem dX4_put_53 : DR cX4_put 53 (.putfield 21) 3 56 := ⟨by decide +kernel, rfl⟩
theorem dX4_put_56 : DR cX4_put 56 (.return_) 1 57 := ⟨by decide +kernel, rfl⟩
theorem dX4_isSo_0 : DR cX4_isSo 0 (.iconst 0) 1 1 := ⟨by decide +kernel, rfl⟩
theorem dX4_isSo_1 : DR cX4_isSo 1 (.istore_n 3) 1 2 := ⟨by decide +kernel, rfl⟩
theorem dX4_isSo_2 : DR cX4_isSo 2 (.iload_n 3) 1 3 := ⟨by decide +kernel, rfl⟩
theorem dX4_isSo_3 : DR cX4_isSo 3 (.aload_n 0) 1 4 := ⟨by decide +kernel, rfl⟩
theorem dX4_isSo_4 : DR cX4_isSo 4 (.getfield 21) 3 7 := ⟨by decide +kernel, rfl⟩
theorem dX4_isSo_7 : DB cX4_isSo 7 (.if_icmp .ge 49) 3 (49) 10 56 := ⟨by decide +kernel, rfl, by decide⟩
theorem dX4_isSo_10 : DR cX4_isSo 10 (.iload_n 3) 1 11 := ⟨by decide +kernel, rfl⟩
theorem dX4_isSo_11 : DR cX4_isSo 11 (.bipush 6) 2 13 := ⟨by decide +kernel, rfl⟩
theorem dX4_isSo_13 : DB cX4_isSo 13 (.if_icmp .ge 43) 3 (43) 16 56 := ⟨by decide +kernel, rfl, by decide⟩
theorem dX4_isSo_16 : DR cX4_isSo 16 (.aload_n 0) 1 17 := ⟨by decide +kernel, rfl⟩
theorem dX4_isSo_17 : DR cX4_isSo 17 (.getfield 18) 3 20 := ⟨by decide +kernel, rfl⟩
theorem dX4_isSo_20 : DR cX4_isSo 20 (.iload_n 3) 1 21 := ⟨by decide +kernel, rfl⟩
theorem dX4_isSo_21 : DR cX4_isSo 21 (.iaload) 1 22 := ⟨by decide +kernel, rfl⟩
theorem dX4_isSo_22 : DR cX4_isSo 22 (.iload_n 2) 1 23 := ⟨by decide +kernel, rfl⟩
theorem dX4_isSo_23 : DB cX4_isSo 23 (.if_icmp .ne 27) 3 (27) 26 50 := ⟨by decide +kernel, rfl, by decide⟩
theorem dX4_isSo_26 : DR cX4_isSo 26 (.aload_n 1) 1 27 := ⟨by decide +kernel, rfl⟩
theorem dX4_isSo_27 : DR cX4_isSo 27 (.aload_n 0) 1 28 := ⟨by decide +kernel, rfl⟩
theorem dX4_isSo_28 : DR cX4_isSo 28 (.getfield 9) 3 31 := ⟨by decide +kernel, rfl⟩
theorem dX4_isSo_31 : DR cX4_isSo 31 (.iload_n 3) 1 32 := ⟨by decide +kernel, rfl⟩
theorem dX4_isSo_32 : DR cX4_isSo 32 (.iaload) 1 33 := ⟨by decide +kernel, rfl⟩
theorem dX4_isSo_33 : DR cX4_isSo 33 (.invokevirtual 25) 3 36 := ⟨by decide +kernel, rfl⟩
theorem dX4_isSo_36 : DR cX4_isSo 36 (.getfield 31) 3 39 := ⟨by decide +kernel, rfl⟩
theorem dX4_isSo_39 : DR cX4_isSo 39 (.aload_n 0) 1 40 := ⟨by decide +kernel, rfl⟩
theorem dX4_isSo_40 : DR cX4_isSo 40 (.getfield 15) 3 43 := ⟨by decide +kernel, rfl⟩
theorem dX4_isSo_43 : DR cX4_isSo 43 (.iload_n 3) 1 44 := ⟨by decide +kernel, rfl⟩
theorem dX4_isSo_44 : DR cX4_isSo 44 (.iaload) 1 45 := ⟨by decide +kernel, rfl⟩
theorem dX4_isSo_45 : DB cX4_isSo 45 (.if_icmp .eq 5) 3 (5) 48 50 := ⟨by decide +kernel, rfl, by decide⟩
theorem dX4_isSo_48 : DR cX4_isSo 48 (.iconst 0) 1 49 := ⟨by decide +kernel, rfl⟩
theorem dX4_isSo_49 : DR cX4_isSo 49 (.ireturn) 1 50 := ⟨by decide +kernel, rfl⟩
theorem dX4_isSo_50 : DR cX4_isSo 50 (.iinc 3 1) 3 53 := ⟨by decide +kernel, rfl⟩
theorem dX4_isSo_53 : DB cX4_isSo 53 (.goto (-51)) 3 (-51) 56 2 := ⟨by decide +kernel, rfl, by decide⟩
theorem dX4_isSo_56 : DR cX4_isSo 56 (.iconst 1) 1 57 := ⟨by decide +kernel, rfl⟩
theorem dX4_isSo_57 : DR cX4_isSo 57 (.ireturn) 1 58 := ⟨by decide +kernel, rfl⟩
theorem dX5_init_0 : DR cX5_init 0 (.aload_n 0) 1 1 := ⟨by decide +kernel, rfl⟩
theorem dX5_init_1 : DR cX5_init 1 (.invokespecial 3) 3 4 := ⟨by decide +kernel, rfl⟩
theorem dX5_init_4 : DR cX5_init 4 (.aload_n 0) 1 5 := ⟨by decide +kernel, rfl⟩
theorem dX5_init_5 : DR cX5_init 5 (.bipush 6) 2 7 := ⟨by decide +kernel, rfl⟩
theorem dX5_init_7 : DR cX5_init 7 (.anewarray 9) 3 10 := ⟨by decide +kernel, rfl⟩
theorem dX5_init_10 : DR cX5_init 10 (.putfield 11) 3 13 := ⟨by decide +kernel, rfl⟩
theorem dX5_init_13 : DR cX5_init 13 (.aload_n 0) 1 14 := ⟨by decide +kernel, rfl⟩
theorem dX5_init_14 : DR cX5_init 14 (.bipush 6) 2 16 := ⟨by decide +kernel, rfl⟩
theorem dX5_init_16 : DR cX5_init 16 (.newarray .int) 2 18 := ⟨by decide +kernel, rfl⟩
theorem dX5_init_18 : DR cX5_init 18 (.putfield 17) 3 21 := ⟨by decide +kernel, rfl⟩
theorem dX5_init_21 : DR cX5_init 21 (.iconst 0) 1 22 := ⟨by decide +kernel, rfl⟩
theorem dX5_init_22 : DR cX5_init 22 (.istore_n 1) 1 23 := ⟨by decide +kernel, rfl⟩
theorem dX5_init_23 : DR cX5_init 23 (.iload_n 1) 1 24 := ⟨by decide +kernel, rfl⟩
theorem dX5_init_24 : DR cX5_init 24 (.aload_n 0) 1 25 := ⟨by decide +kernel, rfl⟩
theorem dX5_init_25 : DR cX5_init 25 (.getfield 11) 3 28 := ⟨by decide +kernel, rfl⟩
theorem dX5_init_28 : DR cX5_init 28 (.arraylength) 1 29 := ⟨by decide +kernel, rfl⟩
theorem dX5_init_29 : DB cX5_init 29 (.if_icmp .ge 22) 3 (22) 32 51 := ⟨by decide +kernel, rfl, by decide⟩
theorem dX5_init_32 : DR cX5_init 32 (.aload_n 0) 1 33 := ⟨by decide +kernel, rfl⟩
theorem dX5_init_33 : DR cX5_init 33 (.getfield 11) 3 36 := ⟨by decide +kernel, rfl⟩
theorem dX5_init_36 : DR cX5_init 36 (.iload_n 1) 1 37 := ⟨by decide +kernel, rfl⟩
theorem dX5_init_37 : DR cX5_init 37 (.new 9) 3 40 := ⟨by decide +kernel, rfl⟩
theorem dX5_init_40 : DR cX5_init 40 (.dup) 1 41 := ⟨by decide +kernel, rfl⟩
theorem dX5_init_41 : DR cX5_init 41 (.invokespecial 21) 3 44 := ⟨by decide +kernel, rfl⟩
theorem dX5_init_44 : DR cX5_init 44 (.aastore) 1 45 := ⟨by decide +kernel, rfl⟩
theorem dX5_init_45 : DR cX5_init 45 (.iinc 1 1) 3 48 := ⟨by decide +kernel, rfl⟩
theorem dX5_init_48 : DB cX5_init 48 (.goto (-25)) 3 (-25) 51 23 := ⟨by decide +kernel, rfl, by decide⟩
theorem dX5_init_51 : DR cX5_init 51 (.return_) 1 52 := ⟨by decide +kernel, rfl⟩
theorem dX5_clear_0 : DR cX5_clear 0 (.aload_n 0) 1 1 := ⟨by decide +kernel, rfl⟩
theorem dX5_clear_1 : DR cX5_clear 1 (.iconst 0) 1 2 := ⟨by decide +kernel, rfl⟩
theorem dX5_clear_2 : DR cX5_clear 2 (.putfield 22) 3 5 := ⟨by decide +kernel, rfl⟩
theorem dX5_clear_5 : DR cX5_clear 5 (.aload_n 0) 1 6 := ⟨by decide +kernel, rfl⟩
theorem dX5_clear_6 : DR cX5_clear 6 (.iconst 0) 1 7 := ⟨by decide +kernel, rfl⟩
theorem dX5_clear_7 : DR cX5_clear 7 (.putfield 26) 3 10 := ⟨by decide +kernel, rfl⟩
theorem dX5_clear_10 : DR cX5_clear 10 (.aload_n 0) 1 11 := ⟨by decide +kernel, rfl⟩
theorem dX5_clear_11 : DR cX5_clear 11 (.iconst 0) 1 12 := ⟨by decide +kernel, rfl⟩
theorem dX5_clear_12 : DR cX5_clear 12 (.putfield 29) 3 15 := ⟨by decide +kernel, rfl⟩
theorem dX5_clear_15 : DR cX5_clear 15 (.return_) 1 16 := ⟨by decide +kernel, rfl⟩
theorem dX5_copy_0 : DR cX5_copy 0 (.aload_n 0) 1 1 := ⟨by decide +kernel, rfl⟩
theorem dX5_copy_1 : DR cX5_copy 1 (.aload_n 1) 1 2 := ⟨by decide +kernel, rfl⟩
theorem dX5_copy_2 : DR cX5_copy 2 (.getfield 22) 3 5 := ⟨by decide +kernel, rfl⟩
theorem dX5_copy_5 : DR cX5_copy 5 (.putfield 22) 3 8 := ⟨by decide +kernel, rfl⟩
theorem dX5_copy_8 : DR cX5_copy 8 (.aload_n 0) 1 9 := ⟨by decide +kernel, rfl⟩
theorem dX5_copy_9 : DR cX5_copy 9 (.aload_n 1) 1 10 := ⟨by decide +kernel, rfl⟩
theorem dX5_copy_10 : DR cX5_copy 10 (.getfield 26) 3 13 := ⟨by decide +kernel, rfl⟩
theorem dX5_copy_13 : DR cX5_copy 13 (.putfield 26) 3 16 := ⟨by decide +kernel, rfl⟩
theorem dX5_copy_16 : DR cX5_copy 16 (.aload_n 0) 1 17 := ⟨by decide +kernel, rfl⟩
theorem dX5_copy_17 : DR cX5_copy 17 (.aload_n 1) 1 18 := ⟨by decide +kernel, rfl⟩
theorem dX5_copy_18 : DR cX5_copy 18 (.getfield 29) 3 21 := ⟨by decide +kernel, rfl⟩
theorem dX5_copy_21 : DR cX5_copy 21 (.putfield 29) 3 24 := ⟨by decide +kernel, rfl⟩
theorem dX5_copy_24 : DR cX5_copy 24 (.iconst 0) 1 25 := ⟨by decide +kernel, rfl⟩
theorem dX5_copy_25 : DR cX5_copy 25 (.istore_n 2) 1 26 := ⟨by decide +kernel, rfl⟩
theorem dX5_copy_26 : DR cX5_copy 26 (.iload_n 2) 1 27 := ⟨by decide +kernel, rfl⟩
theorem dX5_copy_27 : DR cX5_copy 27 (.aload_n 0) 1 28 := ⟨by decide +kernel, rfl⟩
theorem dX5_copy_28 : DR cX5_copy 28 (.getfield 22) 3 31 := ⟨by decide +kernel, rfl⟩
theorem dX5_copy_31 : DB cX5_copy 31 (.if_icmp .ge 22) 3 (22) 34 53 := ⟨by decide +kernel, rfl, by decide⟩
theorem dX5_copy_34 : DR cX5_copy 34 (.aload_n 0) 1 35 := ⟨by decide +kernel, rfl⟩
theorem dX5_copy_35 : DR cX5_copy 35 (.iload_n 2) 1 36 := ⟨by decide +kernel, rfl⟩
theorem dX5_copy_36 : DR cX5_copy 36 (.invokevirtual 32) 3 39 := ⟨by decide +kernel, rfl⟩
theorem dX5_copy_39 : DR cX5_copy 39 (.aload_n 1) 1 40 := ⟨by decide +kernel, rfl⟩
theorem dX5_copy_40 : DR cX5_copy 40 (.iload_n 2) 1 41 := ⟨by decide +kernel, rfl⟩
theorem dX5_copy_41 : DR cX5_copy 41 (.invokevirtual 32) 3 44 := ⟨by decide +kernel, rfl⟩
theorem dX5_copy_44 : DR cX5_copy 44 (.invokevirtual 36) 3 47 := ⟨by decide +kernel, rfl⟩
theorem dX5_copy_47 : DR cX5_copy 47 (.iinc 2 1) 3 50 := ⟨by decide +kernel, rfl⟩
theorem dX5_copy_50 : DB cX5_copy 50 (.goto (-24)) 3 (-24) 53 26 := ⟨by decide +kernel, rfl, by decide⟩
theorem dX5_copy_53 : DR cX5_copy 53 (.aload_n 1) 1 54 := ⟨by decide +kernel, rfl⟩
theorem dX5_copy_54 : DR cX5_copy 54 (.getfield 17) 3 57 := ⟨by decide +kernel, rfl⟩
theorem dX5_copy_57 : DR cX5_copy 57 (.iconst 0) 1 58 := ⟨by decide +kernel, rfl⟩
theorem dX5_copy_58 : DR cX5_copy 58 (.aload_n 0) 1 59 := ⟨by decide +kernel, rfl⟩
theorem dX5_copy_59 : DR cX5_copy 59 (.getfield 17) 3 62 := ⟨by decide +kernel, rfl⟩
theorem dX5_copy_62 : DR cX5_copy 62 (.iconst 0) 1 63 := ⟨by decide +kernel, rfl⟩
theorem dX5_copy_63 : DR cX5_copy 63 (.bipush 6) 2 65 := ⟨by decide +kernel, rfl⟩
theorem dX5_copy_65 : DR cX5_copy 65 (.invokestatic 40) 3 68 := ⟨by decide +kernel, rfl⟩
theorem dX5_copy_68 : DR cX5_copy 68 (.return_) 1 69 := ⟨by decide +kernel, rfl⟩
theorem dX5_addLoom_0 : DR cX5_addLoom 0 (.aload_n 0) 1 1 := ⟨by decide +kernel, rfl⟩
theorem dX5_addLoom_1 : DR cX5_addLoom 1 (.getfield 22) 3 4 := ⟨by decide +kernel, rfl⟩
theorem dX5_addLoom_4 : DR cX5_addLoom 4 (.bipush 6) 2 6 := ⟨by decide +kernel, rfl⟩
theorem dX5_addLoom_6 : DB cX5_addLoom 6 (.if_icmp .ge 39) 3 (39) 9 45 := ⟨by decide +kernel, rfl, by decide⟩
theorem dX5_addLoom_9 : DR cX5_addLoom 9 (.iload_n 1) 1 10 := ⟨by decide +kernel, rfl⟩
theorem dX5_addLoom_10 : DR cX5_addLoom 10 (.iconst 0) 1 11 := ⟨by decide +kernel, rfl⟩
theorem dX5_addLoom_11 : DR cX5_addLoom 11 (.iconst 3) 1 12 := ⟨by decide +kernel, rfl⟩
theorem dX5_addLoom_12 : DR cX5_addLoom 12 (.invokestatic 46) 3 15 := ⟨by decide +kernel, rfl⟩
theorem dX5_addLoom_15 : DB cX5_addLoom 15 (.ifCond .ne 30) 3 (30) 18 45 := ⟨by decide +kernel, rfl, by decide⟩
theorem dX5_addLoom_18 : DR cX5_addLoom 18 (.iload_n 2) 1 19 := ⟨by decide +kernel, rfl⟩
theorem dX5_addLoom_19 : DR cX5_addLoom 19 (.invokestatic 50) 3 22 := ⟨by decide +kernel, rfl⟩
theorem dX5_addLoom_22 : DB cX5_addLoom 22 (.ifCond .ne 23) 3 (23) 25 45 := ⟨by decide +kernel, rfl, by decide⟩
theorem dX5_addLoom_25 : DR cX5_addLoom 25 (.aload_n 0) 1 26 := ⟨by decide +kernel, rfl⟩
theorem dX5_addLoom_26 : DR cX5_addLoom 26 (.iload_n 2) 1 27 := ⟨by decide +kernel, rfl⟩
theorem dX5_addLoom_27 : DR cX5_addLoom 27 (.invokevirtual 54) 3 30 := ⟨by decide +kernel, rfl⟩
theorem dX5_addLoom_30 : DR cX5_addLoom 30 (.bipush (-4)) 2 32 := ⟨by decide +kernel, rfl⟩
theorem dX5_addLoom_32 : DB cX5_addLoom 32 (.if_icmp .ne 13) 3 (13) 35 45 := ⟨by decide +kernel, rfl, by decide⟩
theorem dX5_addLoom_35 : DR cX5_addLoom 35 (.iload_n 3) 1 36 := ⟨by decide +kernel, rfl⟩
theorem dX5_addLoom_36 : DR cX5_addLoom 36 (.iconst 1) 1 37 := ⟨by decide +kernel, rfl⟩
theorem dX5_addLoom_37 : DR cX5_addLoom 37 (.bipush 9) 2 39 := ⟨by decide +kernel, rfl⟩
theorem dX5_addLoom_39 : DR cX5_addLoom 39 (.invokestatic 46) 3 42 := ⟨by decide +kernel, rfl⟩
theorem dX5_addLoom_42 : DB cX5_addLoom 42 (.ifCond .eq 5) 3 (5) 45 47 := ⟨by decide +kernel, rfl, by decide⟩
theorem dX5_addLoom_45 : DR cX5_addLoom 45 (.iconst 0) 1 46 := ⟨by decide +kernel, rfl⟩
theorem dX5_addLoom_46 : DR cX5_addLoom 46 (.ireturn) 1 47 := ⟨by decide +kernel, rfl⟩
theorem dX5_addLoom_47 : DR cX5_addLoom 47 (.aload_n 0) 1 48 := ⟨by decide +kernel, rfl⟩
theorem dX5_addLoom_48 : DR cX5_addLoom 48 (.dup) 1 49 := ⟨by decide +kernel, rfl⟩
theorem dX5_addLoom_49 : DR cX5_addLoom 49 (.getfield 22) 3 52 := ⟨by decide +kernel, rfl⟩
theorem dX5_addLoom_52 : DR cX5_addLoom 52 (.iconst 1) 1 53 := ⟨by decide +kernel, rfl⟩
theorem dX5_addLoom_53 : DR cX5_addLoom 53 (.iadd) 1 54 := ⟨by decide +kernel, rfl⟩
theorem dX5_addLoom_54 : DR cX5_addLoom 54 (.putfield 22) 3 57 := ⟨by decide +kernel, rfl⟩
theorem dX5_addLoom_57 : DR cX5_addLoom 57 (.aload_n 0) 1 58 := ⟨by decide +kernel, rfl⟩
theorem dX5_addLoom_58 : DR cX5_addLoom 58 (.aload_n 0) 1 59 := ⟨by decide +kernel, rfl⟩
theorem dX5_addLoom_59 : DR cX5_addLoom 59 (.getfield 22) 3 62 := ⟨by decide +kernel, rfl⟩
theorem dX5_addLoom_62 : DR cX5_addLoom 62 (.iconst 1) 1 63 := ⟨by decide +kernel, rfl⟩
theorem dX5_addLoom_63 : DR cX5_addLoom 63 (.isub) 1 64 := ⟨by decide +kernel, rfl⟩
theorem dX5_addLoom_64 : DR cX5_addLoom 64 (.invokevirtual 32) 3 67 := ⟨by decide +kernel, rfl⟩
theorem dX5_addLoom_67 : DR cX5_addLoom 67 (.iload_n 1) 1 68 := ⟨by decide +kernel, rfl⟩
theorem dX5_addLoom_68 : DR cX5_addLoom 68 (.iload_n 2) 1 69 := ⟨by decide +kernel, rfl⟩
theorem dX5_addLoom_69 : DR cX5_addLoom 69 (.iload_n 3) 1 70 := ⟨by decide +kernel, rfl⟩
theorem dX5_addLoom_70 : DR cX5_addLoom 70 (.invokevirtual 58) 3 73 := ⟨by decide +kernel, rfl⟩
theorem dX5_addLoom_73 : DR cX5_addLoom 73 (.aload_n 0) 1 74 := ⟨by decide +kernel, rfl⟩
theorem dX5_addLoom_74 : DR cX5_addLoom 74 (.invokevirtual 62) 3 77 := ⟨by decide +kernel, rfl⟩
theorem dX5_addLoom_77 : DR cX5_addLoom 77 (.iconst 1) 1 78 := ⟨by decide +kernel, rfl⟩
theorem dX5_addLoom_78 : DR cX5_addLoom 78 (.ireturn) 1 79 := ⟨by decide +kernel, rfl⟩
theorem dX5_pick_0 : DR cX5_pick 0 (.aload_n 0) 1 1 := ⟨by decide +kernel, rfl⟩
theorem dX5_pick_1 : DR cX5_pick 1 (.getfield 11) 3 4 := ⟨by decide +kernel, rfl⟩
theorem dX5_pick_4 : DR cX5_pick 4 (.iload_n 1) 1 5 := ⟨by decide +kernel, rfl⟩
theorem dX5_pick_5 : DB cX5_pick 5 (.ifCond .lt 12) 3 (12) 8 17 := ⟨by decide +kernel, rfl, by decide⟩
theorem dX5_pick_8 : DR cX5_pick 8 (.iload_n 1) 1 9 := ⟨by decide +kernel, rfl⟩
theorem dX5_pick_9 : DR cX5_pick 9 (.aload_n 0) 1 10 := ⟨by decide +kernel, rfl⟩
theorem dX5_pick_10 : DR cX5_pick 10 (.getfield 11) 3 13 := ⟨by decide +kernel, rfl⟩
theorem dX5_pick_13 : DR cX5_pick 13 (.arraylength) 1 14 := ⟨by decide +kernel, rfl⟩
theorem dX5_pick_14 : DB cX5_pick 14 (.if_icmp .lt 7) 3 (7) 17 21 := ⟨by decide +kernel, rfl, by decide⟩
theorem dX5_pick_17 : DR cX5_pick 17 (.iconst 0) 1 18 := ⟨by decide +kernel, rfl⟩
theorem dX5_pick_18 : DB cX5_pick 18 (.goto 4) 3 (4) 21 22 := ⟨by decide +kernel, rfl, by decide⟩
theorem dX5_pick_21 : DR cX5_pick 21 (.iload_n 1) 1 22 := ⟨by decide +kernel, rfl⟩
theorem dX5_pick_22 : DR cX5_pick 22 (.aaload) 1 23 := ⟨by decide +kernel, rfl⟩
theorem dX5_pick_23 : DR cX5_pick 23 (.areturn) 1 24 := ⟨by decide +kernel, rfl⟩
theorem dX5_loomOn_0 : DR cX5_loomOn 0 (.iconst 0) 1 1 := ⟨by decide +kernel, rfl⟩
theorem dX5_loomOn_1 : DR cX5_loomOn 1 (.istore_n 2) 1 2 := ⟨by decide +kernel, rfl⟩
theorem dX5_loomOn_2 : DR cX5_loomOn 2 (.iload_n 2) 1 3 := ⟨by decide +kernel, rfl⟩
theorem dX5_loomOn_3 : DR cX5_loomOn 3 (.aload_n 0) 1 4 := ⟨by decide +kernel, rfl⟩
theorem dX5_loomOn_4 : DR cX5_loomOn 4 (.getfield 22) 3 7 := ⟨by decide +kernel, rfl⟩
theorem dX5_loomOn_7 : DB cX5_loomOn 7 (.if_icmp .ge 23) 3 (23) 10 30 := ⟨by decide +kernel, rfl, by decide⟩
theorem dX5_loomOn_10 : DR cX5_loomOn 10 (.aload_n 0) 1 11 := ⟨by decide +kernel, rfl⟩
theorem dX5_loomOn_11 : DR cX5_loomOn 11 (.iload_n 2) 1 12 := ⟨by decide +kernel, rfl⟩
theorem dX5_loomOn_12 : DR cX5_loomOn 12 (.invokevirtual 32) 3 15 := ⟨by decide +kernel, rfl⟩
theorem dX5_loomOn_15 : DR cX5_loomOn 15 (.getfield 65) 3 18 := ⟨by decide +kernel, rfl⟩
theorem dX5_loomOn_18 : DR cX5_loomOn 18 (.iload_n 1) 1 19 := ⟨by decide +kernel, rfl⟩
theorem dX5_loomOn_19 : DB cX5_loomOn 19 (.if_icmp .ne 5) 3 (5) 22 24 := ⟨by decide +kernel, rfl, by decide⟩
theorem dX5_loomOn_22 : DR cX5_loomOn 22 (.iload_n 2) 1 23 := ⟨by decide +kernel, rfl⟩
theorem dX5_loomOn_23 : DR cX5_loomOn 23 (.ireturn) 1 24 := ⟨by decide +kernel, rfl⟩
theorem dX5_loomOn_24 : DR cX5_loomOn 24 (.iinc 2 1) 3 27 := ⟨by decide +kernel, rfl⟩
theorem dX5_loomOn_27 : DB cX5_loomOn 27 (.goto (-25)) 3 (-25) 30 2 := ⟨by decide +kernel, rfl, by decide⟩
theorem dX5_loomOn_30 : DR cX5_loomOn 30 (.bipush (-4)) 2 32 := ⟨by decide +kernel, rfl⟩
theorem dX5_loomOn_32 : DR cX5_loomOn 32 (.ireturn) 1 33 := ⟨by decide +kernel, rfl⟩
theorem dX5_rank_0 : DR cX5_rank 0 (.iconst 0) 1 1 := ⟨by decide +kernel, rfl⟩
theorem dX5_rank_1 : DR cX5_rank 1 (.istore_n 1) 1 2 := ⟨by decide +kernel, rfl⟩
theorem dX5_rank_2 : DR cX5_rank 2 (.iload_n 1) 1 3 := ⟨by decide +kernel, rfl⟩
theorem dX5_rank_3 : DR cX5_rank 3 (.aload_n 0) 1 4 := ⟨by decide +kernel, rfl⟩
theorem dX5_rank_4 : DR cX5_rank 4 (.getfield 22) 3 7 := ⟨by decide +kernel, rfl⟩
theorem dX5_rank_7 : DB cX5_rank 7 (.if_icmp .ge 70) 3 (70) 10 77 := ⟨by decide +kernel, rfl, by decide⟩
theorem dX5_rank_10 : DR cX5_rank 10 (.iconst 0) 1 11 := ⟨by decide +kernel, rfl⟩
theorem dX5_rank_11 : DR cX5_rank 11 (.istore_n 2) 1 12 := ⟨by decide +kernel, rfl⟩
theorem dX5_rank_12 : DR cX5_rank 12 (.iconst 0) 1 13 := ⟨by decide +kernel, rfl⟩
theorem dX5_rank_13 : DR cX5_rank 13 (.istore_n 3) 1 14 := ⟨by decide +kernel, rfl⟩
theorem dX5_rank_14 : DR cX5_rank 14 (.iload_n 3) 1 15 := ⟨by decide +kernel, rfl⟩
theorem dX5_rank_15 : DR cX5_rank 15 (.aload_n 0) 1 16 := ⟨by decide +kernel, rfl⟩
theorem dX5_rank_16 : DR cX5_rank 16 (.getfield 22) 3 19 := ⟨by decide +kernel, rfl⟩
theorem dX5_rank_19 : DB cX5_rank 19 (.if_icmp .ge 36) 3 (36) 22 55 := ⟨by decide +kernel, rfl, by decide⟩
theorem dX5_rank_22 : DR cX5_rank 22 (.iload_n 2) 1 23 := ⟨by decide +kernel, rfl⟩
theorem dX5_rank_23 : DR cX5_rank 23 (.aload_n 0) 1 24 := ⟨by decide +kernel, rfl⟩
theorem dX5_rank_24 : DR cX5_rank 24 (.iload_n 3) 1 25 := ⟨by decide +kernel, rfl⟩
theorem dX5_rank_25 : DR cX5_rank 25 (.invokevirtual 32) 3 28 := ⟨by decide +kernel, rfl⟩
theorem dX5_rank_28 : DR cX5_rank 28 (.getfield 65) 3 31 := ⟨by decide +kernel, rfl⟩
theorem dX5_rank_31 : DR cX5_rank 31 (.aload_n 0) 1 32 := ⟨by decide +kernel, rfl⟩
theorem dX5_rank_32 : DR cX5_rank 32 (.iload_n 1) 1 33 := ⟨by decide +kernel, rfl⟩
theorem dX5_rank_33 : DR cX5_rank 33 (.invokevirtual 32) 3 36 := ⟨by decide +kernel, rfl⟩
theorem dX5_rank_36 : DR cX5_rank 36 (.getfield 65) 3 39 := ⟨by decide +kernel, rfl⟩
theorem dX5_rank_39 : DB cX5_rank 39 (.if_icmp .ge 7) 3 (7) 42 46 := ⟨by decide +kernel, rfl, by decide⟩
theorem dX5_rank_42 : DR cX5_rank 42 (.iconst 1) 1 43 := ⟨by decide +kernel, rfl⟩
theorem dX5_rank_43 : DB cX5_rank 43 (.goto 4) 3 (4) 46 47 := ⟨by decide +kernel, rfl, by decide⟩
theorem dX5_rank_46 : DR cX5_rank 46 (.iconst 0) 1 47 := ⟨by decide +kernel, rfl⟩
theorem dX5_rank_47 : DR cX5_rank 47 (.iadd) 1 48 := ⟨by decide +kernel, rfl⟩
theorem dX5_rank_48 : DR cX5_rank 48 (.istore_n 2) 1 49 := ⟨by decide +kernel, rfl⟩
theorem dX5_rank_49 : DR cX5_rank 49 (.iinc 3 1) 3 52 := ⟨by decide +kernel, rfl⟩
theorem dX5_rank_52 : DB cX5_rank 52 (.goto (-38)) 3 (-38) 55 14 := ⟨by decide +kernel, rfl, by decide⟩
theorem dX5_rank_55 : DR cX5_rank 55 (.iload_n 2) 1 56 := ⟨by decide +kernel, rfl⟩
theorem dX5_rank_56 : DR cX5_rank 56 (.aload_n 0) 1 57 := ⟨by decide +kernel, rfl⟩
theorem dX5_rank_57 : DR cX5_rank 57 (.getfield 17) 3 60 := ⟨by decide +kernel, rfl⟩
theorem dX5_rank_60 : DR cX5_rank 60 (.arraylength) 1 61 := ⟨by decide +kernel, rfl⟩
theorem dX5_rank_61 : DB cX5_rank 61 (.if_icmp .ge 10) 3 (10) 64 71 := ⟨by decide +kernel, rfl, by decide⟩
theorem dX5_rank_64 : DR cX5_rank 64 (.aload_n 0) 1 65 := ⟨by decide +kernel, rfl⟩
theorem dX5_rank_65 : DR cX5_rank 65 (.getfield 17) 3 68 := ⟨by decide +kernel, rfl⟩
theorem dX5_rank_68 : DR cX5_rank 68 (.iload_n 2) 1 69 := ⟨by decide +kernel, rfl⟩
theorem dX5_rank_69 : DR cX5_rank 69 (.iload_n 1) 1 70 := ⟨by decide +kernel, rfl⟩
theorem dX5_rank_70 : DR cX5_rank 70 (.iastore) 1 71 := ⟨by decide +kernel, rfl⟩
theorem dX5_rank_71 : DR cX5_rank 71 (.iinc 1 1) 3 74 := ⟨by decide +kernel, rfl⟩
theorem dX5_rank_74 : DB cX5_rank 74 (.goto (-72)) 3 (-72) 77 2 := ⟨by decide +kernel, rfl, by decide⟩
theorem dX5_rank_77 : DR cX5_rank 77 (.return_) 1 78 := ⟨by decide +kernel, rfl⟩
theorem dX5_nextAbove_0 : DR cX5_nextAbove 0 (.bipush (-4)) 2 2 := ⟨by decide +kernel, rfl⟩
theorem dX5_nextAbove_2 : DR cX5_nextAbove 2 (.istore_n 2) 1 3 := ⟨by decide +kernel, rfl⟩
theorem dX5_nextAbove_3 : DR cX5_nextAbove 3 (.iconst 0) 1 4 := ⟨by decide +kernel, rfl⟩
theorem dX5_nextAbove_4 : DR cX5_nextAbove 4 (.istore_n 3) 1 5 := ⟨by decide +kernel, rfl⟩
theorem dX5_nextAbove_5 : DR cX5_nextAbove 5 (.iload_n 3) 1 6 := ⟨by decide +kernel, rfl⟩
theorem dX5_nextAbove_6 : DR cX5_nextAbove 6 (.aload_n 0) 1 7 := ⟨by decide +kernel, rfl⟩
theorem dX5_nextAbove_7 : DR cX5_nextAbove 7 (.getfield 22) 3 10 := ⟨by decide +kernel, rfl⟩
theorem dX5_nextAbove_10 : DB cX5_nextAbove 10 (.if_icmp .ge 37) 3 (37) 13 47 := ⟨by decide +kernel, rfl, by decide⟩
theorem dX5_nextAbove_13 : DR cX5_nextAbove 13 (.iload_n 3) 1 14 := ⟨by decide +kernel, rfl⟩
theorem dX5_nextAbove_14 : DR cX5_nextAbove 14 (.aload_n 0) 1 15 := ⟨by decide +kernel, rfl⟩
theorem dX5_nextAbove_15 : DR cX5_nextAbove 15 (.getfield 17) 3 18 := ⟨by decide +kernel, rfl⟩
theorem dX5_nextAbove_18 : DR cX5_nextAbove 18 (.arraylength) 1 19 := ⟨by decide +kernel, rfl⟩
theorem dX5_nextAbove_19 : DB cX5_nextAbove 19 (.if_icmp .ge 28) 3 (28) 22 47 := ⟨by decide +kernel, rfl, by decide⟩
theorem dX5_nextAbove_22 : DR cX5_nextAbove 22 (.aload_n 0) 1 23 := ⟨by decide +kernel, rfl⟩
theorem dX5_nextAbove_23 : DR cX5_nextAbove 23 (.getfield 17) 3 26 := ⟨by decide +kernel, rfl⟩
theorem dX5_nextAbove_26 : DR cX5_nextAbove 26 (.iload_n 3) 1 27 := ⟨by decide +kernel, rfl⟩
theorem dX5_nextAbove_27 : DR cX5_nextAbove 27 (.iaload) 1 28 := ⟨by decide +kernel, rfl⟩
theorem dX5_nextAbove_28 : DR cX5_nextAbove 28 (.iload_n 1) 1 29 := ⟨by decide +kernel, rfl⟩
theorem dX5_nextAbove_29 : DB cX5_nextAbove 29 (.if_icmp .ne 5) 3 (5) 32 34 := ⟨by decide +kernel, rfl, by decide⟩
theorem dX5_nextAbove_32 : DR cX5_nextAbove 32 (.iload_n 2) 1 33 := ⟨by decide +kernel, rfl⟩
theorem dX5_nextAbove_33 : DR cX5_nextAbove 33 (.ireturn) 1 34 := ⟨by decide +kernel, rfl⟩
theorem dX5_nextAbove_34 : DR cX5_nextAbove 34 (.aload_n 0) 1 35 := ⟨by decide +kernel, rfl⟩
theorem dX5_nextAbove_35 : DR cX5_nextAbove 35 (.getfield 17) 3 38 := ⟨by decide +kernel, rfl⟩
theorem dX5_nextAbove_38 : DR cX5_nextAbove 38 (.iload_n 3) 1 39 := ⟨by decide +kernel, rfl⟩
theorem dX5_nextAbove_39 : DR cX5_nextAbove 39 (.iaload) 1 40 := ⟨by decide +kernel, rfl⟩
theorem dX5_nextAbove_40 : DR cX5_nextAbove 40 (.istore_n 2) 1 41 := ⟨by decide +kernel, rfl⟩
theorem dX5_nextAbove_41 : DR cX5_nextAbove 41 (.iinc 3 1) 3 44 := ⟨by decide +kernel, rfl⟩
theorem dX5_nextAbove_44 : DB cX5_nextAbove 44 (.goto (-39)) 3 (-39) 47 5 := ⟨by decide +kernel, rfl, by decide⟩
theorem dX5_nextAbove_47 : DR cX5_nextAbove 47 (.bipush (-4)) 2 49 := ⟨by decide +kernel, rfl⟩
theorem dX5_nextAbove_49 : DR cX5_nextAbove 49 (.ireturn) 1 50 := ⟨by decide +kernel, rfl⟩
theorem dX5_gather_0 : DR cX5_gather 0 (.iconst 0) 1 1 := ⟨by decide +kernel, rfl⟩
theorem dX5_gather_1 : DR cX5_gather 1 (.istore_n 3) 1 2 := ⟨by decide +kernel, rfl⟩
theorem dX5_gather_2 : DR cX5_gather 2 (.iconst 0) 1 3 := ⟨by decide +kernel, rfl⟩
theorem dX5_gather_3 : DR cX5_gather 3 (.istore 4) 2 5 := ⟨by decide +kernel, rfl⟩
theorem dX5_gather_5 : DR cX5_gather 5 (.iload 4) 2 7 := ⟨by decide +kernel, rfl⟩
theorem dX5_gather_7 : DR cX5_gather 7 (.aload_n 0) 1 8 := ⟨by decide +kernel, rfl⟩
theorem dX5_gather_8 : DR cX5_gather 8 (.getfield 22) 3 11 := ⟨by decide +kernel, rfl⟩
theorem dX5_gather_11 : DB cX5_gather 11 (.if_icmp .ge 46) 3 (46) 14 57 := ⟨by decide +kernel, rfl, by decide⟩
theorem dX5_gather_14 : DR cX5_gather 14 (.iload 4) 2 16 := ⟨by decide +kernel, rfl⟩
theorem dX5_gather_16 : DR cX5_gather 16 (.aload_n 0) 1 17 := ⟨by decide +kernel, rfl⟩
theorem dX5_gather_17 : DR cX5_gather 17 (.getfield 17) 3 20 := ⟨by decide +kernel, rfl⟩
theorem dX5_gather_20 : DR cX5_gather 20 (.arraylength) 1 21 := ⟨by decide +kernel, rfl⟩
theorem dX5_gather_21 : DB cX5_gather 21 (.if_icmp .ge 36) 3 (36) 24 57 := ⟨by decide +kernel, rfl, by decide⟩
theorem dX5_gather_24 : DR cX5_gather 24 (.aload_n 0) 1 25 := ⟨by decide +kernel, rfl⟩
theorem dX5_gather_25 : DR cX5_gather 25 (.aload_n 0) 1 26 := ⟨by decide +kernel, rfl⟩
theorem dX5_gather_26 : DR cX5_gather 26 (.getfield 17) 3 29 := ⟨by decide +kernel, rfl⟩
theorem dX5_gather_29 : DR cX5_gather 29 (.iload 4) 2 31 := ⟨by decide +kernel, rfl⟩
theorem dX5_gather_31 : DR cX5_gather 31 (.iaload) 1 32 := ⟨by decide +kernel, rfl⟩
theorem dX5_gather_32 : DR cX5_gather 32 (.invokevirtual 32) 3 35 := ⟨by decide +kernel, rfl⟩
theorem dX5_gather_35 : DR cX5_gather 35 (.astore 5) 2 37 := ⟨by decide +kernel, rfl⟩
theorem dX5_gather_37 : DR cX5_gather 37 (.aload 5) 2 39 := ⟨by decide +kernel, rfl⟩
theorem dX5_gather_39 : DR cX5_gather 39 (.iload_n 3) 1 40 := ⟨by decide +kernel, rfl⟩
theorem dX5_gather_40 : DR cX5_gather 40 (.iload_n 1) 1 41 := ⟨by decide +kernel, rfl⟩
theorem dX5_gather_41 : DR cX5_gather 41 (.iload_n 2) 1 42 := ⟨by decide +kernel, rfl⟩
theorem dX5_gather_42 : DR cX5_gather 42 (.invokevirtual 68) 3 45 := ⟨by decide +kernel, rfl⟩
theorem dX5_gather_45 : DR cX5_gather 45 (.aload 5) 2 47 := ⟨by decide +kernel, rfl⟩
theorem dX5_gather_47 : DR cX5_gather 47 (.getfield 71) 3 50 := ⟨by decide +kernel, rfl⟩
theorem dX5_gather_50 : DR cX5_gather 50 (.istore_n 3) 1 51 := ⟨by decide +kernel, rfl⟩
theorem dX5_gather_51 : DR cX5_gather 51 (.iinc 4 1) 3 54 := ⟨by decide +kernel, rfl⟩
theorem dX5_gather_54 : DB cX5_gather 54 (.goto (-49)) 3 (-49) 57 5 := ⟨by decide +kernel, rfl, by decide⟩
theorem dX5_gather_57 : DR cX5_gather 57 (.aload_n 0) 1 58 := ⟨by decide +kernel, rfl⟩
theorem dX5_gather_58 : DR cX5_gather 58 (.dup) 1 59 := ⟨by decide +kernel, rfl⟩
theorem dX5_gather_59 : DR cX5_gather 59 (.getfield 29) 3 62 := ⟨by decide +kernel, rfl⟩
theorem dX5_gather_62 : DR cX5_gather 62 (.iload_n 3) 1 63 := ⟨by decide +kernel, rfl⟩
theorem dX5_gather_63 : DR cX5_gather 63 (.iadd) 1 64 := ⟨by decide +kernel, rfl⟩
theorem dX5_gather_64 : DR cX5_gather 64 (.putfield 29) 3 67 := ⟨by decide +kernel, rfl⟩
theorem dX5_gather_67 : DR cX5_gather 67 (.return_) 1 68 := ⟨by decide +kernel, rfl⟩
theorem dX5_dry_0 : DR cX5_dry 0 (.iconst 0) 1 1 := ⟨by decide +kernel, rfl⟩
theorem dX5_dry_1 : DR cX5_dry 1 (.istore_n 1) 1 2 := ⟨by decide +kernel, rfl⟩
theorem dX5_dry_2 : DR cX5_dry 2 (.iload_n 1) 1 3 := ⟨by decide +kernel, rfl⟩
theorem dX5_dry_3 : DR cX5_dry 3 (.aload_n 0) 1 4 := ⟨by decide +kernel, rfl⟩
theorem dX5_dry_4 : DR cX5_dry 4 (.getfield 22) 3 7 := ⟨by decide +kernel, rfl⟩
theorem dX5_dry_7 : DB cX5_dry 7 (.if_icmp .ge 17) 3 (17) 10 24 := ⟨by decide +kernel, rfl, by decide⟩
theorem dX5_dry_10 : DR cX5_dry 10 (.aload_n 0) 1 11 := ⟨by decide +kernel, rfl⟩
theorem dX5_dry_11 : DR cX5_dry 11 (.iload_n 1) 1 12 := ⟨by decide +kernel, rfl⟩
theorem dX5_dry_12 : DR cX5_dry 12 (.invokevirtual 32) 3 15 := ⟨by decide +kernel, rfl⟩
theorem dX5_dry_15 : DR cX5_dry 15 (.invokevirtual 74) 3 18 := ⟨by decide +kernel, rfl⟩
theorem dX5_dry_18 : DR cX5_dry 18 (.iinc 1 1) 3 21 := ⟨by decide +kernel, rfl⟩
theorem dX5_dry_21 : DB cX5_dry 21 (.goto (-19)) 3 (-19) 24 2 := ⟨by decide +kernel, rfl, by decide⟩
theorem dX5_dry_24 : DR cX5_dry 24 (.return_) 1 25 := ⟨by decide +kernel, rfl⟩
theorem dX5_allDrops_0 : DR cX5_allDrops 0 (.iconst 0) 1 1 := ⟨by decide +kernel, rfl⟩
theorem dX5_allDrops_1 : DR cX5_allDrops 1 (.istore_n 1) 1 2 := ⟨by decide +kernel, rfl⟩
theorem dX5_allDrops_2 : DR cX5_allDrops 2 (.iconst 0) 1 3 := ⟨by decide +kernel, rfl⟩
theorem dX5_allDrops_3 : DR cX5_allDrops 3 (.istore_n 2) 1 4 := ⟨by decide +kernel, rfl⟩
theorem dX5_allDrops_4 : DR cX5_allDrops 4 (.iload_n 2) 1 5 := ⟨by decide +kernel, rfl⟩
theorem dX5_allDrops_5 : DR cX5_allDrops 5 (.aload_n 0) 1 6 := ⟨by decide +kernel, rfl⟩
theorem dX5_allDrops_6 : DR cX5_allDrops 6 (.getfield 22) 3 9 := ⟨by decide +kernel, rfl⟩
theorem dX5_allDrops_9 : DB cX5_allDrops 9 (.if_icmp .ge 20) 3 (20) 12 29 := ⟨by decide +kernel, rfl, by decide⟩
theorem dX5_allDrops_12 : DR cX5_allDrops 12 (.iload_n 1) 1 13 := ⟨by decide +kernel, rfl⟩
theorem dX5_allDrops_13 : DR cX5_allDrops 13 (.aload_n 0) 1 14 := ⟨by decide +kernel, rfl⟩
theorem dX5_allDrops_14 : DR cX5_allDrops 14 (.iload_n 2) 1 15 := ⟨by decide +kernel, rfl⟩
theorem dX5_allDrops_15 : DR cX5_allDrops 15 (.invokevirtual 32) 3 18 := ⟨by decide +kernel, rfl⟩
theorem dX5_allDrops_18 : DR cX5_allDrops 18 (.getfield 77) 3 21 := ⟨by decide +kernel, rfl⟩
theorem dX5_allDrops_21 : DR cX5_allDrops 21 (.iadd) 1 22 := ⟨by decide +kernel, rfl⟩
theorem dX5_allDrops_22 : DR cX5_allDrops 22 (.istore_n 1) 1 23 := ⟨by decide +kernel, rfl⟩
theorem dX5_allDrops_23 : DR cX5_allDrops 23 (.iinc 2 1) 3 26 := ⟨by decide +kernel, rfl⟩
theorem dX5_allDrops_26 : DB cX5_allDrops 26 (.goto (-22)) 3 (-22) 29 4 := ⟨by decide +kernel, rfl, by decide⟩
theorem dX5_allDrops_29 : DR cX5_allDrops 29 (.iload_n 1) 1 30 := ⟨by decide +kernel, rfl⟩
theorem dX5_allDrops_30 : DR cX5_allDrops 30 (.ireturn) 1 31 := ⟨by decide +kernel, rfl⟩
theorem dX5_allSpoiled_0 : DR cX5_allSpoiled 0 (.iconst 0) 1 1 := ⟨by decide +kernel, rfl⟩
theorem dX5_allSpoiled_1 : DR cX5_allSpoiled 1 (.istore_n 1) 1 2 := ⟨by decide +kernel, rfl⟩
theorem dX5_allSpoiled_2 : DR cX5_allSpoiled 2 (.iconst 0) 1 3 := ⟨by decide +kernel, rfl⟩
theorem dX5_allSpoiled_3 : DR cX5_allSpoiled 3 (.istore_n 2) 1 4 := ⟨by decide +kernel, rfl⟩
theorem dX5_allSpoiled_4 : DR cX5_allSpoiled 4 (.iload_n 2) 1 5 := ⟨by decide +kernel, rfl⟩
theorem dX5_allSpoiled_5 : DR cX5_allSpoiled 5 (.aload_n 0) 1 6 := ⟨by decide +kernel, rfl⟩
theorem dX5_allSpoiled_6 : DR cX5_allSpoiled 6 (.getfield 22) 3 9 := ⟨by decide +kernel, rfl⟩
theorem dX5_allSpoiled_9 : DB cX5_allSpoiled 9 (.if_icmp .ge 20) 3 (20) 12 29 := ⟨by decide +kernel, rfl, by decide⟩
theorem dX5_allSpoiled_12 : DR cX5_allSpoiled 12 (.iload_n 1) 1 13 := ⟨by decide +kernel, rfl⟩
theorem dX5_allSpoiled_13 : DR cX5_allSpoiled 13 (.aload_n 0) 1 14 := ⟨by decide +kernel, rfl⟩
theorem dX5_allSpoiled_14 : DR cX5_allSpoiled 14 (.iload_n 2) 1 15 := ⟨by decide +kernel, rfl⟩
theorem dX5_allSpoiled_15 : DR cX5_allSpoiled 15 (.invokevirtual 32) 3 18 := ⟨by decide +kernel, rfl⟩
theorem dX5_allSpoiled_18 : DR cX5_allSpoiled 18 (.getfield 80) 3 21 := ⟨by decide +kernel, rfl⟩
theorem dX5_allSpoiled_21 : DR cX5_allSpoiled 21 (.iadd) 1 22 := ⟨by decide +kernel, rfl⟩
theorem dX5_allSpoiled_22 : DR cX5_allSpoiled 22 (.istore_n 1) 1 23 := ⟨by decide +kernel, rfl⟩
theorem dX5_allSpoiled_23 : DR cX5_allSpoiled 23 (.iinc 2 1) 3 26 := ⟨by decide +kernel, rfl⟩
theorem dX5_allSpoiled_26 : DB cX5_allSpoiled 26 (.goto (-22)) 3 (-22) 29 4 := ⟨by decide +kernel, rfl, by decide⟩
theorem dX5_allSpoiled_29 : DR cX5_allSpoiled 29 (.iload_n 1) 1 30 := ⟨by decide +kernel, rfl⟩
theorem dX5_allSpoiled_30 : DR cX5_allSpoiled 30 (.ireturn) 1 31 := ⟨by decide +kernel, rfl⟩
theorem dX5_shades_0 : DR cX5_shades 0 (.iconst 0) 1 1 := ⟨by decide +kernel, rfl⟩
theorem dX5_shades_1 : DR cX5_shades 1 (.istore_n 1) 1 2 := ⟨by decide +kernel, rfl⟩
theorem dX5_shades_2 : DR cX5_shades 2 (.iconst 0) 1 3 := ⟨by decide +kernel, rfl⟩
theorem dX5_shades_3 : DR cX5_shades 3 (.istore_n 2) 1 4 := ⟨by decide +kernel, rfl⟩
theorem dX5_shades_4 : DR cX5_shades 4 (.iload_n 2) 1 5 := ⟨by decide +kernel, rfl⟩
theorem dX5_shades_5 : DR cX5_shades 5 (.aload_n 0) 1 6 := ⟨by decide +kernel, rfl⟩
theorem dX5_shades_6 : DR cX5_shades 6 (.getfield 22) 3 9 := ⟨by decide +kernel, rfl⟩
theorem dX5_shades_9 : DB cX5_shades 9 (.if_icmp .ge 30) 3 (30) 12 39 := ⟨by decide +kernel, rfl, by decide⟩
theorem dX5_shades_12 : DR cX5_shades 12 (.iload_n 1) 1 13 := ⟨by decide +kernel, rfl⟩
theorem dX5_shades_13 : DR cX5_shades 13 (.aload_n 0) 1 14 := ⟨by decide +kernel, rfl⟩
theorem dX5_shades_14 : DR cX5_shades 14 (.iload_n 2) 1 15 := ⟨by decide +kernel, rfl⟩
theorem dX5_shades_15 : DR cX5_shades 15 (.invokevirtual 32) 3 18 := ⟨by decide +kernel, rfl⟩
theorem dX5_shades_18 : DR cX5_shades 18 (.getfield 83) 3 21 := ⟨by decide +kernel, rfl⟩
theorem dX5_shades_21 : DB cX5_shades 21 (.ifCond .eq 9) 3 (9) 24 30 := ⟨by decide +kernel, rfl, by decide⟩
theorem dX5_shades_24 : DR cX5_shades 24 (.iconst 1) 1 25 := ⟨by decide +kernel, rfl⟩
theorem dX5_shades_25 : DR cX5_shades 25 (.iload_n 2) 1 26 := ⟨by decide +kernel, rfl⟩
theorem dX5_shades_26 : DR cX5_shades 26 (.ishl) 1 27 := ⟨by decide +kernel, rfl⟩
theorem dX5_shades_27 : DB cX5_shades 27 (.goto 4) 3 (4) 30 31 := ⟨by decide +kernel, rfl, by decide⟩
theorem dX5_shades_30 : DR cX5_shades 30 (.iconst 0) 1 31 := ⟨by decide +kernel, rfl⟩
theorem dX5_shades_31 : DR cX5_shades 31 (.ior) 1 32 := ⟨by decide +kernel, rfl⟩
theorem dX5_shades_32 : DR cX5_shades 32 (.istore_n 1) 1 33 := ⟨by decide +kernel, rfl⟩
theorem dX5_shades_33 : DR cX5_shades 33 (.iinc 2 1) 3 36 := ⟨by decide +kernel, rfl⟩
theorem dX5_shades_36 : DB cX5_shades 36 (.goto (-32)) 3 (-32) 39 4 := ⟨by decide +kernel, rfl, by decide⟩
theorem dX5_shades_39 : DR cX5_shades 39 (.iload_n 1) 1 40 := ⟨by decide +kernel, rfl⟩
theorem dX5_shades_40 : DR cX5_shades 40 (.ireturn) 1 41 := ⟨by decide +kernel, rfl⟩
theorem dX5_yardBits_0 : DR cX5_yardBits 0 (.iconst 0) 1 1 := ⟨by decide +kernel, rfl⟩
theorem dX5_yardBits_1 : DR cX5_yardBits 1 (.istore_n 2) 1 2 := ⟨by decide +kernel, rfl⟩
theorem dX5_yardBits_2 : DR cX5_yardBits 2 (.iconst 0) 1 3 := ⟨by decide +kernel, rfl⟩
theorem dX5_yardBits_3 : DR cX5_yardBits 3 (.istore_n 3) 1 4 := ⟨by decide +kernel, rfl⟩
theorem dX5_yardBits_4 : DR cX5_yardBits 4 (.iload_n 3) 1 5 := ⟨by decide +kernel, rfl⟩
theorem dX5_yardBits_5 : DR cX5_yardBits 5 (.aload_n 0) 1 6 := ⟨by decide +kernel, rfl⟩
theorem dX5_yardBits_6 : DR cX5_yardBits 6 (.getfield 22) 3 9 := ⟨by decide +kernel, rfl⟩
theorem dX5_yardBits_9 : DB cX5_yardBits 9 (.if_icmp .ge 31) 3 (31) 12 40 := ⟨by decide +kernel, rfl, by decide⟩
theorem dX5_yardBits_12 : DR cX5_yardBits 12 (.iload_n 2) 1 13 := ⟨by decide +kernel, rfl⟩
theorem dX5_yardBits_13 : DR cX5_yardBits 13 (.aload_n 0) 1 14 := ⟨by decide +kernel, rfl⟩
theorem dX5_yardBits_14 : DR cX5_yardBits 14 (.iload_n 3) 1 15 := ⟨by decide +kernel, rfl⟩
theorem dX5_yardBits_15 : DR cX5_yardBits 15 (.invokevirtual 32) 3 18 := ⟨by decide +kernel, rfl⟩
theorem dX5_yardBits_18 : DR cX5_yardBits 18 (.getfield 77) 3 21 := ⟨by decide +kernel, rfl⟩
theorem dX5_yardBits_21 : DR cX5_yardBits 21 (.iload_n 1) 1 22 := ⟨by decide +kernel, rfl⟩
theorem dX5_yardBits_22 : DB cX5_yardBits 22 (.if_icmp .lt 9) 3 (9) 25 31 := ⟨by decide +kernel, rfl, by decide⟩
theorem dX5_yardBits_25 : DR cX5_yardBits 25 (.iconst 1) 1 26 := ⟨by decide +kernel, rfl⟩
theorem dX5_yardBits_26 : DR cX5_yardBits 26 (.iload_n 3) 1 27 := ⟨by decide +kernel, rfl⟩
theorem dX5_yardBits_27 : DR cX5_yardBits 27 (.ishl) 1 28 := ⟨by decide +kernel, rfl⟩
theorem dX5_yardBits_28 : DB cX5_yardBits 28 (.goto 4) 3 (4) 31 32 := ⟨by decide +kernel, rfl, by decide⟩
theorem dX5_yardBits_31 : DR cX5_yardBits 31 (.iconst 0) 1 32 := ⟨by decide +kernel, rfl⟩
theorem dX5_yardBits_32 : DR cX5_yardBits 32 (.ior) 1 33 := ⟨by decide +kernel, rfl⟩
theorem dX5_yardBits_33 : DR cX5_yardBits 33 (.istore_n 2) 1 34 := ⟨by decide +kernel, rfl⟩
theorem dX5_yardBits_34 : DR cX5_yardBits 34 (.iinc 3 1) 3 37 := ⟨by decide +kernel, rfl⟩
theorem dX5_yardBits_37 : DB cX5_yardBits 37 (.goto (-33)) 3 (-33) 40 4 := ⟨by decide +kernel, rfl, by decide⟩
theorem dX5_yardBits_40 : DR cX5_yardBits 40 (.iload_n 2) 1 41 := ⟨by decide +kernel, rfl⟩
theorem dX5_yardBits_41 : DR cX5_yardBits 41 (.ireturn) 1 42 := ⟨by decide +kernel, rfl⟩
theorem dX6_init_0 : DR cX6_init 0 (.aload_n 0) 1 1 := ⟨by decide +kernel, rfl⟩
theorem dX6_init_1 : DR cX6_init 1 (.invokespecial 3) 3 4 := ⟨by decide +kernel, rfl⟩
theorem dX6_init_4 : DR cX6_init 4 (.aload_n 0) 1 5 := ⟨by decide +kernel, rfl⟩
theorem dX6_init_5 : DR cX6_init 5 (.sipush 200) 3 8 := ⟨by decide +kernel, rfl⟩
theorem dX6_init_8 : DR cX6_init 8 (.newarray .char) 2 10 := ⟨by decide +kernel, rfl⟩
theorem dX6_init_10 : DR cX6_init 10 (.putfield 9) 3 13 := ⟨by decide +kernel, rfl⟩
theorem dX6_init_13 : DR cX6_init 13 (.return_) 1 14 := ⟨by decide +kernel, rfl⟩
theorem dX6_clear_0 : DR cX6_clear 0 (.aload_n 0) 1 1 := ⟨by decide +kernel, rfl⟩
theorem dX6_clear_1 : DR cX6_clear 1 (.iconst 0) 1 2 := ⟨by decide +kernel, rfl⟩
theorem dX6_clear_2 : DR cX6_clear 2 (.putfield 15) 3 5 := ⟨by decide +kernel, rfl⟩
theorem dX6_clear_5 : DR cX6_clear 5 (.return_) 1 6 := ⟨by decide +kernel, rfl⟩
theorem dX6_isFull_0 : DR cX6_isFull 0 (.aload_n 0) 1 1 := ⟨by decide +kernel, rfl⟩
theorem dX6_isFull_1 : DR cX6_isFull 1 (.getfield 15) 3 4 := ⟨by decide +kernel, rfl⟩
theorem dX6_isFull_4 : DR cX6_isFull 4 (.aload_n 0) 1 5 := ⟨by decide +kernel, rfl⟩
theorem dX6_isFull_5 : DR cX6_isFull 5 (.getfield 9) 3 8 := ⟨by decide +kernel, rfl⟩
theorem dX6_isFull_8 : DR cX6_isFull 8 (.arraylength) 1 9 := ⟨by decide +kernel, rfl⟩
theorem dX6_isFull_9 : DB cX6_isFull 9 (.if_icmp .lt 7) 3 (7) 12 16 := ⟨by decide +kernel, rfl, by decide⟩
theorem dX6_isFull_12 : DR cX6_isFull 12 (.iconst 1) 1 13 := ⟨by decide +kernel, rfl⟩
theorem dX6_isFull_13 : DB cX6_isFull 13 (.goto 4) 3 (4) 16 17 := ⟨by decide +kernel, rfl, by decide⟩
theorem dX6_isFull_16 : DR cX6_isFull 16 (.iconst 0) 1 17 := ⟨by decide +kernel, rfl⟩
theorem dX6_isFull_17 : DR cX6_isFull 17 (.ireturn) 1 18 := ⟨by decide +kernel, rfl⟩
theorem dX6_append_0 : DR cX6_append 0 (.aload_n 0) 1 1 := ⟨by decide +kernel, rfl⟩
theorem dX6_append_1 : DR cX6_append 1 (.getfield 15) 3 4 := ⟨by decide +kernel, rfl⟩
theorem dX6_append_4 : DB cX6_append 4 (.ifCond .lt 35) 3 (35) 7 39 := ⟨by decide +kernel, rfl, by decide⟩
theorem dX6_append_7 : DR cX6_append 7 (.aload_n 0) 1 8 := ⟨by decide +kernel, rfl⟩
theorem dX6_append_8 : DR cX6_append 8 (.getfield 15) 3 11 := ⟨by decide +kernel, rfl⟩
theorem dX6_append_11 : DR cX6_append 11 (.aload_n 0) 1 12 := ⟨by decide +kernel, rfl⟩
theorem dX6_append_12 : DR cX6_append 12 (.getfield 9) 3 15 := ⟨by decide +kernel, rfl⟩
theorem dX6_append_15 : DR cX6_append 15 (.arraylength) 1 16 := ⟨by decide +kernel, rfl⟩
theorem dX6_append_16 : DB cX6_append 16 (.if_icmp .ge 23) 3 (23) 19 39 := ⟨by decide +kernel, rfl, by decide⟩
theorem dX6_append_19 : DR cX6_append 19 (.aload_n 0) 1 20 := ⟨by decide +kernel, rfl⟩
theorem dX6_append_20 : DR cX6_append 20 (.getfield 9) 3 23 := ⟨by decide +kernel, rfl⟩
theorem dX6_append_23 : DR cX6_append 23 (.aload_n 0) 1 24 := ⟨by decide +kernel, rfl⟩
theorem dX6_append_24 : DR cX6_append 24 (.getfield 15) 3 27 := ⟨by decide +kernel, rfl⟩
theorem dX6_append_27 : DR cX6_append 27 (.iload_n 1) 1 28 := ⟨by decide +kernel, rfl⟩
theorem dX6_append_28 : DR cX6_append 28 (.castore) 1 29 := ⟨by decide +kernel, rfl⟩
theorem dX6_append_29 : DR cX6_append 29 (.aload_n 0) 1 30 := ⟨by decide +kernel, rfl⟩
theorem dX6_append_30 : DR cX6_append 30 (.dup) 1 31 := ⟨by decide +kernel, rfl⟩
theorem dX6_append_31 : DR cX6_append 31 (.getfield 15) 3 34 := ⟨by decide +kernel, rfl⟩
theorem dX6_append_34 : DR cX6_append 34 (.iconst 1) 1 35 := ⟨by decide +kernel, rfl⟩
theorem dX6_append_35 : DR cX6_append 35 (.iadd) 1 36 := ⟨by decide +kernel, rfl⟩
theorem dX6_append_36 : DR cX6_append 36 (.putfield 15) 3 39 := ⟨by decide +kernel, rfl⟩
theorem dX6_append_39 : DR cX6_append 39 (.return_) 1 40 := ⟨by decide +kernel, rfl⟩
theorem dX6_letterOn_0 : DR cX6_letterOn 0 (.iload_n 1) 1 1 := ⟨by decide +kernel, rfl⟩
theorem dX6_letterOn_1 : DB cX6_letterOn 1 (.ifCond .lt 20) 3 (20) 4 21 := ⟨by decide +kernel, rfl, by decide⟩
theorem dX6_letterOn_4 : DR cX6_letterOn 4 (.iload_n 1) 1 5 := ⟨by decide +kernel, rfl⟩
theorem dX6_letterOn_5 : DR cX6_letterOn 5 (.aload_n 0) 1 6 := ⟨by decide +kernel, rfl⟩
theorem dX6_letterOn_6 : DR cX6_letterOn 6 (.getfield 15) 3 9 := ⟨by decide +kernel, rfl⟩
theorem dX6_letterOn_9 : DB cX6_letterOn 9 (.if_icmp .ge 12) 3 (12) 12 21 := ⟨by decide +kernel, rfl, by decide⟩
theorem dX6_letterOn_12 : DR cX6_letterOn 12 (.iload_n 1) 1 13 := ⟨by decide +kernel, rfl⟩
theorem dX6_letterOn_13 : DR cX6_letterOn 13 (.aload_n 0) 1 14 := ⟨by decide +kernel, rfl⟩
theorem dX6_letterOn_14 : DR cX6_letterOn 14 (.getfield 9) 3 17 := ⟨by decide +kernel, rfl⟩
theorem dX6_letterOn_17 : DR cX6_letterOn 17 (.arraylength) 1 18 := ⟨by decide +kernel, rfl⟩
theorem dX6_letterOn_18 : DB cX6_letterOn 18 (.if_icmp .lt 5) 3 (5) 21 23 := ⟨by decide +kernel, rfl, by decide⟩
theorem dX6_letterOn_21 : DR cX6_letterOn 21 (.iconst 0) 1 22 := ⟨by decide +kernel, rfl⟩
theorem dX6_letterOn_22 : DR cX6_letterOn 22 (.ireturn) 1 23 := ⟨by decide +kernel, rfl⟩
theorem dX6_letterOn_23 : DR cX6_letterOn 23 (.aload_n 0) 1 24 := ⟨by decide +kernel, rfl⟩
theorem dX6_letterOn_24 : DR cX6_letterOn 24 (.getfield 9) 3 27 := ⟨by decide +kernel, rfl⟩
theorem dX6_letterOn_27 : DR cX6_letterOn 27 (.iload_n 1) 1 28 := ⟨by decide +kernel, rfl⟩
theorem dX6_letterOn_28 : DR cX6_letterOn 28 (.caload) 1 29 := ⟨by decide +kernel, rfl⟩
theorem dX6_letterOn_29 : DR cX6_letterOn 29 (.ireturn) 1 30 := ⟨by decide +kernel, rfl⟩
theorem dX7_init_0 : DR cX7_init 0 (.aload_n 0) 1 1 := ⟨by decide +kernel, rfl⟩
theorem dX7_init_1 : DR cX7_init 1 (.invokespecial 3) 3 4 := ⟨by decide +kernel, rfl⟩
theorem dX7_init_4 : DR cX7_init 4 (.aload_n 0) 1 5 := ⟨by decide +kernel, rfl⟩
theorem dX7_init_5 : DR cX7_init 5 (.bipush 6) 2 7 := ⟨by decide +kernel, rfl⟩
theorem dX7_init_7 : DR cX7_init 7 (.newarray .int) 2 9 := ⟨by decide +kernel, rfl⟩
theorem dX7_init_9 : DR cX7_init 9 (.putfield 9) 3 12 := ⟨by decide +kernel, rfl⟩
theorem dX7_init_12 : DR cX7_init 12 (.aload_n 0) 1 13 := ⟨by decide +kernel, rfl⟩
theorem dX7_init_13 : DR cX7_init 13 (.bipush 6) 2 15 := ⟨by decide +kernel, rfl⟩
theorem dX7_init_15 : DR cX7_init 15 (.newarray .int) 2 17 := ⟨by decide +kernel, rfl⟩
theorem dX7_init_17 : DR cX7_init 17 (.putfield 15) 3 20 := ⟨by decide +kernel, rfl⟩
theorem dX7_init_20 : DR cX7_init 20 (.return_) 1 21 := ⟨by decide +kernel, rfl⟩
theorem dX7_begin_0 : DR cX7_begin 0 (.aload_n 0) 1 1 := ⟨by decide +kernel, rfl⟩
theorem dX7_begin_1 : DR cX7_begin 1 (.iconst 0) 1 2 := ⟨by decide +kernel, rfl⟩
theorem dX7_begin_2 : DR cX7_begin 2 (.putfield 18) 3 5 := ⟨by decide +kernel, rfl⟩
theorem dX7_begin_5 : DR cX7_begin 5 (.aload_n 0) 1 6 := ⟨by decide +kernel, rfl⟩
theorem dX7_begin_6 : DR cX7_begin 6 (.bipush (-4)) 2 8 := ⟨by decide +kernel, rfl⟩
theorem dX7_begin_8 : DR cX7_begin 8 (.putfield 22) 3 11 := ⟨by decide +kernel, rfl⟩
theorem dX7_begin_11 : DR cX7_begin 11 (.iconst 0) 1 12 := ⟨by decide +kernel, rfl⟩
theorem dX7_begin_12 : DR cX7_begin 12 (.istore_n 2) 1 13 := ⟨by decide +kernel, rfl⟩
theorem dX7_begin_13 : DR cX7_begin 13 (.iload_n 2) 1 14 := ⟨by decide +kernel, rfl⟩
theorem dX7_begin_14 : DR cX7_begin 14 (.bipush 10) 2 16 := ⟨by decide +kernel, rfl⟩
theorem dX7_begin_16 : DB cX7_begin 16 (.if_icmp .ge 51) 3 (51) 19 67 := ⟨by decide +kernel, rfl, by decide⟩
theorem dX7_begin_19 : DR cX7_begin 19 (.aload_n 1) 1 20 := ⟨by decide +kernel, rfl⟩
theorem dX7_begin_20 : DR cX7_begin 20 (.iload_n 2) 1 21 := ⟨by decide +kernel, rfl⟩
theorem dX7_begin_21 : DR cX7_begin 21 (.invokevirtual 25) 3 24 := ⟨by decide +kernel, rfl⟩
theorem dX7_begin_24 : DR cX7_begin 24 (.bipush (-4)) 2 26 := ⟨by decide +kernel, rfl⟩
theorem dX7_begin_26 : DB cX7_begin 26 (.if_icmp .eq 35) 3 (35) 29 61 := ⟨by decide +kernel, rfl, by decide⟩
theorem dX7_begin_29 : DR cX7_begin 29 (.aload_n 0) 1 30 := ⟨by decide +kernel, rfl⟩
theorem dX7_begin_30 : DR cX7_begin 30 (.getfield 18) 3 33 := ⟨by decide +kernel, rfl⟩
theorem dX7_begin_33 : DR cX7_begin 33 (.aload_n 0) 1 34 := ⟨by decide +kernel, rfl⟩
theorem dX7_begin_34 : DR cX7_begin 34 (.getfield 9) 3 37 := ⟨by decide +kernel, rfl⟩
theorem dX7_begin_37 : DR cX7_begin 37 (.arraylength) 1 38 := ⟨by decide +kernel, rfl⟩
theorem dX7_begin_38 : DB cX7_begin 38 (.if_icmp .ge 23) 3 (23) 41 61 := ⟨by decide +kernel, rfl, by decide⟩
theorem dX7_begin_41 : DR cX7_begin 41 (.aload_n 0) 1 42 := ⟨by decide +kernel, rfl⟩
theorem dX7_begin_42 : DR cX7_begin 42 (.getfield 9) 3 45 := ⟨by decide +kernel, rfl⟩
theorem dX7_begin_45 : DR cX7_begin 45 (.aload_n 0) 1 46 := ⟨by decide +kernel, rfl⟩
theorem dX7_begin_46 : DR cX7_begin 46 (.getfield 18) 3 49 := ⟨by decide +kernel, rfl⟩
theorem dX7_begin_49 : DR cX7_begin 49 (.iload_n 2) 1 50 := ⟨by decide +kernel, rfl⟩
theorem dX7_begin_50 : DR cX7_begin 50 (.iastore) 1 51 := ⟨by decide +kernel, rfl⟩
theorem dX7_begin_51 : DR cX7_begin 51 (.aload_n 0) 1 52 := ⟨by decide +kernel, rfl⟩
theorem dX7_begin_52 : DR cX7_begin 52 (.dup) 1 53 := ⟨by decide +kernel, rfl⟩
theorem dX7_begin_53 : DR cX7_begin 53 (.getfield 18) 3 56 := ⟨by decide +kernel, rfl⟩
theorem dX7_begin_56 : DR cX7_begin 56 (.iconst 1) 1 57 := ⟨by decide +kernel, rfl⟩
theorem dX7_begin_57 : DR cX7_begin 57 (.iadd) 1 58 := ⟨by decide +kernel, rfl⟩
theorem dX7_begin_58 : DR cX7_begin 58 (.putfield 18) 3 61 := ⟨by decide +kernel, rfl⟩
theorem dX7_begin_61 : DR cX7_begin 61 (.iinc 2 1) 3 64 := ⟨by decide +kernel, rfl⟩
theorem dX7_begin_64 : DB cX7_begin 64 (.goto (-51)) 3 (-51) 67 13 := ⟨by decide +kernel, rfl, by decide⟩
theorem dX7_begin_67 : DR cX7_begin 67 (.return_) 1 68 := ⟨by decide +kernel, rfl⟩
theorem dX7_applyTo_0 : DR cX7_applyTo 0 (.iconst 0) 1 1 := ⟨by decide +kernel, rfl⟩
theorem dX7_applyTo_1 : DR cX7_applyTo 1 (.istore_n 2) 1 2 := ⟨by decide +kernel, rfl⟩
theorem dX7_applyTo_2 : DR cX7_applyTo 2 (.iload_n 2) 1 3 := ⟨by decide +kernel, rfl⟩
theorem dX7_applyTo_3 : DR cX7_applyTo 3 (.aload_n 0) 1 4 := ⟨by decide +kernel, rfl⟩
theorem dX7_applyTo_4 : DR cX7_applyTo 4 (.getfield 18) 3 7 := ⟨by decide +kernel, rfl⟩
theorem dX7_applyTo_7 : DB cX7_applyTo 7 (.if_icmp .ge 32) 3 (32) 10 39 := ⟨by decide +kernel, rfl, by decide⟩
theorem dX7_applyTo_10 : DR cX7_applyTo 10 (.iload_n 2) 1 11 := ⟨by decide +kernel, rfl⟩
theorem dX7_applyTo_11 : DR cX7_applyTo 11 (.aload_n 0) 1 12 := ⟨by decide +kernel, rfl⟩
theorem dX7_applyTo_12 : DR cX7_applyTo 12 (.getfield 9) 3 15 := ⟨by decide +kernel, rfl⟩
theorem dX7_applyTo_15 : DR cX7_applyTo 15 (.arraylength) 1 16 := ⟨by decide +kernel, rfl⟩
theorem dX7_applyTo_16 : DB cX7_applyTo 16 (.if_icmp .ge 23) 3 (23) 19 39 := ⟨by decide +kernel, rfl, by decide⟩
theorem dX7_applyTo_19 : DR cX7_applyTo 19 (.aload_n 1) 1 20 := ⟨by decide +kernel, rfl⟩
theorem dX7_applyTo_20 : DR cX7_applyTo 20 (.iload_n 2) 1 21 := ⟨by decide +kernel, rfl⟩
theorem dX7_applyTo_21 : DR cX7_applyTo 21 (.invokevirtual 31) 3 24 := ⟨by decide +kernel, rfl⟩
theorem dX7_applyTo_24 : DR cX7_applyTo 24 (.aload_n 0) 1 25 := ⟨by decide +kernel, rfl⟩
theorem dX7_applyTo_25 : DR cX7_applyTo 25 (.getfield 9) 3 28 := ⟨by decide +kernel, rfl⟩
theorem dX7_applyTo_28 : DR cX7_applyTo 28 (.iload_n 2) 1 29 := ⟨by decide +kernel, rfl⟩
theorem dX7_applyTo_29 : DR cX7_applyTo 29 (.iaload) 1 30 := ⟨by decide +kernel, rfl⟩
theorem dX7_applyTo_30 : DR cX7_applyTo 30 (.putfield 35) 3 33 := ⟨by decide +kernel, rfl⟩
theorem dX7_applyTo_33 : DR cX7_applyTo 33 (.iinc 2 1) 3 36 := ⟨by decide +kernel, rfl⟩
theorem dX7_applyTo_36 : DB cX7_applyTo 36 (.goto (-34)) 3 (-34) 39 2 := ⟨by decide +kernel, rfl, by decide⟩
theorem dX7_applyTo_39 : DR cX7_applyTo 39 (.aload_n 1) 1 40 := ⟨by decide +kernel, rfl⟩
theorem dX7_applyTo_40 : DR cX7_applyTo 40 (.invokevirtual 40) 3 43 := ⟨by decide +kernel, rfl⟩
theorem dX7_applyTo_43 : DR cX7_applyTo 43 (.return_) 1 44 := ⟨by decide +kernel, rfl⟩
theorem dX7_weigh_0 : DR cX7_weigh 0 (.iload_n 1) 1 1 := ⟨by decide +kernel, rfl⟩
theorem dX7_weigh_1 : DR cX7_weigh 1 (.aload_n 0) 1 2 := ⟨by decide +kernel, rfl⟩
theorem dX7_weigh_2 : DR cX7_weigh 2 (.getfield 22) 3 5 := ⟨by decide +kernel, rfl⟩
theorem dX7_weigh_5 : DB cX7_weigh 5 (.if_icmp .le 23) 3 (23) 8 28 := ⟨by decide +kernel, rfl, by decide⟩
theorem dX7_weigh_8 : DR cX7_weigh 8 (.aload_n 0) 1 9 := ⟨by decide +kernel, rfl⟩
theorem dX7_weigh_9 : DR cX7_weigh 9 (.iload_n 1) 1 10 := ⟨by decide +kernel, rfl⟩
theorem dX7_weigh_10 : DR cX7_weigh 10 (.putfield 22) 3 13 := ⟨by decide +kernel, rfl⟩
theorem dX7_weigh_13 : DR cX7_weigh 13 (.aload_n 0) 1 14 := ⟨by decide +kernel, rfl⟩
theorem dX7_weigh_14 : DR cX7_weigh 14 (.getfield 9) 3 17 := ⟨by decide +kernel, rfl⟩
theorem dX7_weigh_17 : DR cX7_weigh 17 (.iconst 0) 1 18 := ⟨by decide +kernel, rfl⟩
theorem dX7_weigh_18 : DR cX7_weigh 18 (.aload_n 0) 1 19 := ⟨by decide +kernel, rfl⟩
theorem dX7_weigh_19 : DR cX7_weigh 19 (.getfield 15) 3 22 := ⟨by decide +kernel, rfl⟩
theorem dX7_weigh_22 : DR cX7_weigh 22 (.iconst 0) 1 23 := ⟨by decide +kernel, rfl⟩
theorem dX7_weigh_23 : DR cX7_weigh 23 (.bipush 6) 2 25 := ⟨by decide +kernel, rfl⟩
theorem dX7_weigh_25 : DR cX7_weigh 25 (.invokestatic 43) 3 28 := ⟨by decide +kernel, rfl⟩
theorem dX7_weigh_28 : DR cX7_weigh 28 (.return_) 1 29 := ⟨by decide +kernel, rfl⟩
theorem dX7_isFound_0 : DR cX7_isFound 0 (.aload_n 0) 1 1 := ⟨by decide +kernel, rfl⟩
theorem dX7_isFound_1 : DR cX7_isFound 1 (.getfield 22) 3 4 := ⟨by decide +kernel, rfl⟩
theorem dX7_isFound_4 : DR cX7_isFound 4 (.bipush (-4)) 2 6 := ⟨by decide +kernel, rfl⟩
theorem dX7_isFound_6 : DB cX7_isFound 6 (.if_icmp .eq 7) 3 (7) 9 13 := ⟨by decide +kernel, rfl, by decide⟩
theorem dX7_isFound_9 : DR cX7_isFound 9 (.iconst 1) 1 10 := ⟨by decide +kernel, rfl⟩
theorem dX7_isFound_10 : DB cX7_isFound 10 (.goto 4) 3 (4) 13 14 := ⟨by decide +kernel, rfl, by decide⟩
theorem dX7_isFound_13 : DR cX7_isFound 13 (.iconst 0) 1 14 := ⟨by decide +kernel, rfl⟩
theorem dX7_isFound_14 : DR cX7_isFound 14 (.ireturn) 1 15 := ⟨by decide +kernel, rfl⟩
theorem dX7_bestPlace_0 : DR cX7_bestPlace 0 (.iload_n 1) 1 1 := ⟨by decide +kernel, rfl⟩
theorem dX7_bestPlace_1 : DB cX7_bestPlace 1 (.ifCond .lt 12) 3 (12) 4 13 := ⟨by decide +kernel, rfl, by decide⟩
theorem dX7_bestPlace_4 : DR cX7_bestPlace 4 (.iload_n 1) 1 5 := ⟨by decide +kernel, rfl⟩
theorem dX7_bestPlace_5 : DR cX7_bestPlace 5 (.aload_n 0) 1 6 := ⟨by decide +kernel, rfl⟩
theorem dX7_bestPlace_6 : DR cX7_bestPlace 6 (.getfield 15) 3 9 := ⟨by decide +kernel, rfl⟩
theorem dX7_bestPlace_9 : DR cX7_bestPlace 9 (.arraylength) 1 10 := ⟨by decide +kernel, rfl⟩
theorem dX7_bestPlace_10 : DB cX7_bestPlace 10 (.if_icmp .lt 8) 3 (8) 13 18 := ⟨by decide +kernel, rfl, by decide⟩
theorem dX7_bestPlace_13 : DR cX7_bestPlace 13 (.bipush (-4)) 2 15 := ⟨by decide +kernel, rfl⟩
theorem dX7_bestPlace_15 : DB cX7_bestPlace 15 (.goto 9) 3 (9) 18 24 := ⟨by decide +kernel, rfl, by decide⟩
theorem dX7_bestPlace_18 : DR cX7_bestPlace 18 (.aload_n 0) 1 19 := ⟨by decide +kernel, rfl⟩
theorem dX7_bestPlace_19 : DR cX7_bestPlace 19 (.getfield 15) 3 22 := ⟨by decide +kernel, rfl⟩
theorem dX7_bestPlace_22 : DR cX7_bestPlace 22 (.iload_n 1) 1 23 := ⟨by decide +kernel, rfl⟩
theorem dX7_bestPlace_23 : DR cX7_bestPlace 23 (.iaload) 1 24 := ⟨by decide +kernel, rfl⟩
theorem dX7_bestPlace_24 : DR cX7_bestPlace 24 (.ireturn) 1 25 := ⟨by decide +kernel, rfl⟩
theorem dX7_goOn_0 : DR cX7_goOn 0 (.aload_n 0) 1 1 := ⟨by decide +kernel, rfl⟩
theorem dX7_goOn_1 : DR cX7_goOn 1 (.getfield 18) 3 4 := ⟨by decide +kernel, rfl⟩
theorem dX7_goOn_4 : DR cX7_goOn 4 (.aload_n 0) 1 5 := ⟨by decide +kernel, rfl⟩
theorem dX7_goOn_5 : DR cX7_goOn 5 (.getfield 9) 3 8 := ⟨by decide +kernel, rfl⟩
theorem dX7_goOn_8 : DR cX7_goOn 8 (.arraylength) 1 9 := ⟨by decide +kernel, rfl⟩
theorem dX7_goOn_9 : DR cX7_goOn 9 (.invokestatic 49) 3 12 := ⟨by decide +kernel, rfl⟩
theorem dX7_goOn_12 : DR cX7_goOn 12 (.iconst 2) 1 13 := ⟨by decide +kernel, rfl⟩
theorem dX7_goOn_13 : DR cX7_goOn 13 (.isub) 1 14 := ⟨by decide +kernel, rfl⟩
theorem dX7_goOn_14 : DR cX7_goOn 14 (.istore_n 1) 1 15 := ⟨by decide +kernel, rfl⟩
theorem dX7_goOn_15 : DR cX7_goOn 15 (.iload_n 1) 1 16 := ⟨by decide +kernel, rfl⟩
theorem dX7_goOn_16 : DB cX7_goOn 16 (.ifCond .lt 43) 3 (43) 19 59 := ⟨by decide +kernel, rfl, by decide⟩
theorem dX7_goOn_19 : DR cX7_goOn 19 (.aload_n 0) 1 20 := ⟨by decide +kernel, rfl⟩
theorem dX7_goOn_20 : DR cX7_goOn 20 (.getfield 9) 3 23 := ⟨by decide +kernel, rfl⟩
theorem dX7_goOn_23 : DR cX7_goOn 23 (.iload_n 1) 1 24 := ⟨by decide +kernel, rfl⟩
theorem dX7_goOn_24 : DR cX7_goOn 24 (.iaload) 1 25 := ⟨by decide +kernel, rfl⟩
theorem dX7_goOn_25 : DR cX7_goOn 25 (.aload_n 0) 1 26 := ⟨by decide +kernel, rfl⟩
theorem dX7_goOn_26 : DR cX7_goOn 26 (.getfield 9) 3 29 := ⟨by decide +kernel, rfl⟩
theorem dX7_goOn_29 : DR cX7_goOn 29 (.iload_n 1) 1 30 := ⟨by decide +kernel, rfl⟩
theorem dX7_goOn_30 : DR cX7_goOn 30 (.iconst 1) 1 31 := ⟨by decide +kernel, rfl⟩
theorem dX7_goOn_31 : DR cX7_goOn 31 (.iadd) 1 32 := ⟨by decide +kernel, rfl⟩
theorem dX7_goOn_32 : DR cX7_goOn 32 (.iaload) 1 33 := ⟨by decide +kernel, rfl⟩
theorem dX7_goOn_33 : DB cX7_goOn 33 (.if_icmp .ge 20) 3 (20) 36 53 := ⟨by decide +kernel, rfl, by decide⟩
theorem dX7_goOn_36 : DR cX7_goOn 36 (.aload_n 0) 1 37 := ⟨by decide +kernel, rfl⟩
theorem dX7_goOn_37 : DR cX7_goOn 37 (.iload_n 1) 1 38 := ⟨by decide +kernel, rfl⟩
theorem dX7_goOn_38 : DR cX7_goOn 38 (.aload_n 0) 1 39 := ⟨by decide +kernel, rfl⟩
theorem dX7_goOn_39 : DR cX7_goOn 39 (.iload_n 1) 1 40 := ⟨by decide +kernel, rfl⟩
theorem dX7_goOn_40 : DR cX7_goOn 40 (.invokevirtual 55) 3 43 := ⟨by decide +kernel, rfl⟩
theorem dX7_goOn_43 : DR cX7_goOn 43 (.invokevirtual 58) 3 46 := ⟨by decide +kernel, rfl⟩
theorem dX7_goOn_46 : DR cX7_goOn 46 (.aload_n 0) 1 47 := ⟨by decide +kernel, rfl⟩
theorem dX7_goOn_47 : DR cX7_goOn 47 (.iload_n 1) 1 48 := ⟨by decide +kernel, rfl⟩
theorem dX7_goOn_48 : DR cX7_goOn 48 (.invokevirtual 62) 3 51 := ⟨by decide +kernel, rfl⟩
theorem dX7_goOn_51 : DR cX7_goOn 51 (.iconst 1) 1 52 := ⟨by decide +kernel, rfl⟩
theorem dX7_goOn_52 : DR cX7_goOn 52 (.ireturn) 1 53 := ⟨by decide +kernel, rfl⟩
theorem dX7_goOn_53 : DR cX7_goOn 53 (.iinc 1 (-1)) 3 56 := ⟨by decide +kernel, rfl⟩
theorem dX7_goOn_56 : DB cX7_goOn 56 (.goto (-41)) 3 (-41) 59 15 := ⟨by decide +kernel, rfl, by decide⟩
theorem dX7_goOn_59 : DR cX7_goOn 59 (.iconst 0) 1 60 := ⟨by decide +kernel, rfl⟩
theorem dX7_goOn_60 : DR cX7_goOn 60 (.ireturn) 1 61 := ⟨by decide +kernel, rfl⟩
theorem dX7_leastAbove_0 : DR cX7_leastAbove 0 (.iload_n 1) 1 1 := ⟨by decide +kernel, rfl⟩
theorem dX7_leastAbove_1 : DR cX7_leastAbove 1 (.istore_n 2) 1 2 := ⟨by decide +kernel, rfl⟩
theorem dX7_leastAbove_2 : DR cX7_leastAbove 2 (.iload_n 1) 1 3 := ⟨by decide +kernel, rfl⟩
theorem dX7_leastAbove_3 : DR cX7_leastAbove 3 (.iconst 1) 1 4 := ⟨by decide +kernel, rfl⟩
theorem dX7_leastAbove_4 : DR cX7_leastAbove 4 (.iadd) 1 5 := ⟨by decide +kernel, rfl⟩
theorem dX7_leastAbove_5 : DR cX7_leastAbove 5 (.istore_n 3) 1 6 := ⟨by decide +kernel, rfl⟩
theorem dX7_leastAbove_6 : DR cX7_leastAbove 6 (.iload_n 3) 1 7 := ⟨by decide +kernel, rfl⟩
theorem dX7_leastAbove_7 : DR cX7_leastAbove 7 (.aload_n 0) 1 8 := ⟨by decide +kernel, rfl⟩
theorem dX7_leastAbove_8 : DR cX7_leastAbove 8 (.getfield 18) 3 11 := ⟨by decide +kernel, rfl⟩
theorem dX7_leastAbove_11 : DB cX7_leastAbove 11 (.if_icmp .ge 39) 3 (39) 14 50 := ⟨by decide +kernel, rfl, by decide⟩
theorem dX7_leastAbove_14 : DR cX7_leastAbove 14 (.iload_n 3) 1 15 := ⟨by decide +kernel, rfl⟩
theorem dX7_leastAbove_15 : DR cX7_leastAbove 15 (.aload_n 0) 1 16 := ⟨by decide +kernel, rfl⟩
theorem dX7_leastAbove_16 : DR cX7_leastAbove 16 (.getfield 9) 3 19 := ⟨by decide +kernel, rfl⟩
theorem dX7_leastAbove_19 : DR cX7_leastAbove 19 (.arraylength) 1 20 := ⟨by decide +kernel, rfl⟩
theorem dX7_leastAbove_20 : DB cX7_leastAbove 20 (.if_icmp .ge 30) 3 (30) 23 50 := ⟨by decide +kernel, rfl, by decide⟩
theorem dX7_leastAbove_23 : DR cX7_leastAbove 23 (.iload_n 1) 1 24 := ⟨by decide +kernel, rfl⟩
theorem dX7_leastAbove_24 : DB cX7_leastAbove 24 (.ifCond .lt 20) 3 (20) 27 44 := ⟨by decide +kernel, rfl, by decide⟩
theorem dX7_leastAbove_27 : DR cX7_leastAbove 27 (.aload_n 0) 1 28 := ⟨by decide +kernel, rfl⟩
theorem dX7_leastAbove_28 : DR cX7_leastAbove 28 (.getfield 9) 3 31 := ⟨by decide +kernel, rfl⟩
theorem dX7_leastAbove_31 : DR cX7_leastAbove 31 (.iload_n 3) 1 32 := ⟨by decide +kernel, rfl⟩
theorem dX7_leastAbove_32 : DR cX7_leastAbove 32 (.iaload) 1 33 := ⟨by decide +kernel, rfl⟩
theorem dX7_leastAbove_33 : DR cX7_leastAbove 33 (.aload_n 0) 1 34 := ⟨by decide +kernel, rfl⟩
theorem dX7_leastAbove_34 : DR cX7_leastAbove 34 (.getfield 9) 3 37 := ⟨by decide +kernel, rfl⟩
theorem dX7_leastAbove_37 : DR cX7_leastAbove 37 (.iload_n 1) 1 38 := ⟨by decide +kernel, rfl⟩
theorem dX7_leastAbove_38 : DR cX7_leastAbove 38 (.iaload) 1 39 := ⟨by decide +kernel, rfl⟩
theorem dX7_leastAbove_39 : DB cX7_leastAbove 39 (.if_icmp .le 5) 3 (5) 42 44 := ⟨by decide +kernel, rfl, by decide⟩
theorem dX7_leastAbove_42 : DR cX7_leastAbove 42 (.iload_n 3) 1 43 := ⟨by decide +kernel, rfl⟩
theorem dX7_leastAbove_43 : DR cX7_leastAbove 43 (.istore_n 2) 1 44 := ⟨by decide +kernel, rfl⟩
theorem dX7_leastAbove_44 : DR cX7_leastAbove 44 (.iinc 3 1) 3 47 := ⟨by decide +kernel, rfl⟩
theorem dX7_leastAbove_47 : DB cX7_leastAbove 47 (.goto (-41)) 3 (-41) 50 6 := ⟨by decide +kernel, rfl, by decide⟩
theorem dX7_leastAbove_50 : DR cX7_leastAbove 50 (.iload_n 2) 1 51 := ⟨by decide +kernel, rfl⟩
theorem dX7_leastAbove_51 : DR cX7_leastAbove 51 (.ireturn) 1 52 := ⟨by decide +kernel, rfl⟩
theorem dX7_turnBehind_0 : DR cX7_turnBehind 0 (.aload_n 0) 1 1 := ⟨by decide +kernel, rfl⟩
theorem dX7_turnBehind_1 : DR cX7_turnBehind 1 (.getfield 18) 3 4 := ⟨by decide +kernel, rfl⟩
theorem dX7_turnBehind_4 : DR cX7_turnBehind 4 (.iconst 1) 1 5 := ⟨by decide +kernel, rfl⟩
theorem dX7_turnBehind_5 : DR cX7_turnBehind 5 (.isub) 1 6 := ⟨by decide +kernel, rfl⟩
theorem dX7_turnBehind_6 : DR cX7_turnBehind 6 (.istore_n 2) 1 7 := ⟨by decide +kernel, rfl⟩
theorem dX7_turnBehind_7 : DR cX7_turnBehind 7 (.iload_n 1) 1 8 := ⟨by decide +kernel, rfl⟩
theorem dX7_turnBehind_8 : DR cX7_turnBehind 8 (.iconst 1) 1 9 := ⟨by decide +kernel, rfl⟩
theorem dX7_turnBehind_9 : DR cX7_turnBehind 9 (.iadd) 1 10 := ⟨by decide +kernel, rfl⟩
theorem dX7_turnBehind_10 : DR cX7_turnBehind 10 (.istore_n 3) 1 11 := ⟨by decide +kernel, rfl⟩
theorem dX7_turnBehind_11 : DR cX7_turnBehind 11 (.iload_n 3) 1 12 := ⟨by decide +kernel, rfl⟩
theorem dX7_turnBehind_12 : DR cX7_turnBehind 12 (.iload_n 2) 1 13 := ⟨by decide +kernel, rfl⟩
theorem dX7_turnBehind_13 : DB cX7_turnBehind 13 (.if_icmp .ge 18) 3 (18) 16 31 := ⟨by decide +kernel, rfl, by decide⟩
theorem dX7_turnBehind_16 : DR cX7_turnBehind 16 (.aload_n 0) 1 17 := ⟨by decide +kernel, rfl⟩
theorem dX7_turnBehind_17 : DR cX7_turnBehind 17 (.iload_n 3) 1 18 := ⟨by decide +kernel, rfl⟩
theorem dX7_turnBehind_18 : DR cX7_turnBehind 18 (.iload_n 2) 1 19 := ⟨by decide +kernel, rfl⟩
theorem dX7_turnBehind_19 : DR cX7_turnBehind 19 (.invokevirtual 58) 3 22 := ⟨by decide +kernel, rfl⟩
theorem dX7_turnBehind_22 : DR cX7_turnBehind 22 (.iinc 2 (-1)) 3 25 := ⟨by decide +kernel, rfl⟩
theorem dX7_turnBehind_25 : DR cX7_turnBehind 25 (.iinc 3 1) 3 28 := ⟨by decide +kernel, rfl⟩
theorem dX7_turnBehind_28 : DB cX7_turnBehind 28 (.goto (-17)) 3 (-17) 31 11 := ⟨by decide +kernel, rfl, by decide⟩
theorem dX7_turnBehind_31 : DR cX7_turnBehind 31 (.return_) 1 32 := ⟨by decide +kernel, rfl⟩
theorem dX7_swap_0 : DR cX7_swap 0 (.iload_n 1) 1 1 := ⟨by decide +kernel, rfl⟩
theorem dX7_swap_1 : DR cX7_swap 1 (.iconst 0) 1 2 := ⟨by decide +kernel, rfl⟩
theorem dX7_swap_2 : DR cX7_swap 2 (.iconst 5) 1 3 := ⟨by decide +kernel, rfl⟩
theorem dX7_swap_3 : DR cX7_swap 3 (.invokestatic 66) 3 6 := ⟨by decide +kernel, rfl⟩
theorem dX7_swap_6 : DB cX7_swap 6 (.ifCond .ne 38) 3 (38) 9 44 := ⟨by decide +kernel, rfl, by decide⟩
theorem dX7_swap_9 : DR cX7_swap 9 (.iload_n 2) 1 10 := ⟨by decide +kernel, rfl⟩
theorem dX7_swap_10 : DR cX7_swap 10 (.iconst 0) 1 11 := ⟨by decide +kernel, rfl⟩
theorem dX7_swap_11 : DR cX7_swap 11 (.iconst 5) 1 12 := ⟨by decide +kernel, rfl⟩
theorem dX7_swap_12 : DR cX7_swap 12 (.invokestatic 66) 3 15 := ⟨by decide +kernel, rfl⟩
theorem dX7_swap_15 : DB cX7_swap 15 (.ifCond .ne 29) 3 (29) 18 44 := ⟨by decide +kernel, rfl, by decide⟩
theorem dX7_swap_18 : DR cX7_swap 18 (.aload_n 0) 1 19 := ⟨by decide +kernel, rfl⟩
theorem dX7_swap_19 : DR cX7_swap 19 (.getfield 9) 3 22 := ⟨by decide +kernel, rfl⟩
theorem dX7_swap_22 : DR cX7_swap 22 (.iload_n 1) 1 23 := ⟨by decide +kernel, rfl⟩
theorem dX7_swap_23 : DR cX7_swap 23 (.iaload) 1 24 := ⟨by decide +kernel, rfl⟩
theorem dX7_swap_24 : DR cX7_swap 24 (.istore_n 3) 1 25 := ⟨by decide +kernel, rfl⟩
theorem dX7_swap_25 : DR cX7_swap 25 (.aload_n 0) 1 26 := ⟨by decide +kernel, rfl⟩
theorem dX7_swap_26 : DR cX7_swap 26 (.getfield 9) 3 29 := ⟨by decide +kernel, rfl⟩
theorem dX7_swap_29 : DR cX7_swap 29 (.iload_n 1) 1 30 := ⟨by decide +kernel, rfl⟩
theorem dX7_swap_30 : DR cX7_swap 30 (.aload_n 0) 1 31 := ⟨by decide +kernel, rfl⟩
theorem dX7_swap_31 : DR cX7_swap 31 (.getfield 9) 3 34 := ⟨by decide +kernel, rfl⟩
theorem dX7_swap_34 : DR cX7_swap 34 (.iload_n 2) 1 35 := ⟨by decide +kernel, rfl⟩
theorem dX7_swap_35 : DR cX7_swap 35 (.iaload) 1 36 := ⟨by decide +kernel, rfl⟩
theorem dX7_swap_36 : DR cX7_swap 36 (.iastore) 1 37 := ⟨by decide +kernel, rfl⟩
theorem dX7_swap_37 : DR cX7_swap 37 (.aload_n 0) 1 38 := ⟨by decide +kernel, rfl⟩
theorem dX7_swap_38 : DR cX7_swap 38 (.getfield 9) 3 41 := ⟨by decide +kernel, rfl⟩
theorem dX7_swap_41 : DR cX7_swap 41 (.iload_n 2) 1 42 := ⟨by decide +kernel, rfl⟩
theorem dX7_swap_42 : DR cX7_swap 42 (.iload_n 3) 1 43 := ⟨by decide +kernel, rfl⟩
theorem dX7_swap_43 : DR cX7_swap 43 (.iastore) 1 44 := ⟨by decide +kernel, rfl⟩
theorem dX7_swap_44 : DR cX7_swap 44 (.return_) 1 45 := ⟨by decide +kernel, rfl⟩
theorem dX8_init_0 : DR cX8_init 0 (.aload_n 0) 1 1 := ⟨by decide +kernel, rfl⟩
theorem dX8_init_1 : DR cX8_init 1 (.invokespecial 3) 3 4 := ⟨by decide +kernel, rfl⟩
theorem dX8_init_4 : DR cX8_init 4 (.aload_n 0) 1 5 := ⟨by decide +kernel, rfl⟩
theorem dX8_init_5 : DR cX8_init 5 (.new 9) 3 8 := ⟨by decide +kernel, rfl⟩
theorem dX8_init_8 : DR cX8_init 8 (.dup) 1 9 := ⟨by decide +kernel, rfl⟩
theorem dX8_init_9 : DR cX8_init 9 (.invokespecial 11) 3 12 := ⟨by decide +kernel, rfl⟩
theorem dX8_init_12 : DR cX8_init 12 (.putfield 12) 3 15 := ⟨by decide +kernel, rfl⟩
theorem dX8_init_15 : DR cX8_init 15 (.aload_n 0) 1 16 := ⟨by decide +kernel, rfl⟩
theorem dX8_init_16 : DR cX8_init 16 (.new 16) 3 19 := ⟨by decide +kernel, rfl⟩
theorem dX8_init_19 : DR cX8_init 19 (.dup) 1 20 := ⟨by decide +kernel, rfl⟩
theorem dX8_init_20 : DR cX8_init 20 (.invokespecial 18) 3 23 := ⟨by decide +kernel, rfl⟩
theorem dX8_init_23 : DR cX8_init 23 (.putfield 19) 3 26 := ⟨by decide +kernel, rfl⟩
theorem dX8_init_26 : DR cX8_init 26 (.aload_n 0) 1 27 := ⟨by decide +kernel, rfl⟩
theorem dX8_init_27 : DR cX8_init 27 (.new 23) 3 30 := ⟨by decide +kernel, rfl⟩
theorem dX8_init_30 : DR cX8_init 30 (.dup) 1 31 := ⟨by decide +kernel, rfl⟩
theorem dX8_init_31 : DR cX8_init 31 (.invokespecial 25) 3 34 := ⟨by decide +kernel, rfl⟩
theorem dX8_init_34 : DR cX8_init 34 (.putfield 26) 3 37 := ⟨by decide +kernel, rfl⟩
theorem dX8_init_37 : DR cX8_init 37 (.aload_n 0) 1 38 := ⟨by decide +kernel, rfl⟩
theorem dX8_init_38 : DR cX8_init 38 (.new 23) 3 41 := ⟨by decide +kernel, rfl⟩
theorem dX8_init_41 : DR cX8_init 41 (.dup) 1 42 := ⟨by decide +kernel, rfl⟩
theorem dX8_init_42 : DR cX8_init 42 (.invokespecial 25) 3 45 := ⟨by decide +kernel, rfl⟩
theorem dX8_init_45 : DR cX8_init 45 (.putfield 30) 3 48 := ⟨by decide +kernel, rfl⟩
theorem dX8_init_48 : DR cX8_init 48 (.aload_n 0) 1 49 := ⟨by decide +kernel, rfl⟩
theorem dX8_init_49 : DR cX8_init 49 (.new 33) 3 52 := ⟨by decide +kernel, rfl⟩
theorem dX8_init_52 : DR cX8_init 52 (.dup) 1 53 := ⟨by decide +kernel, rfl⟩
theorem dX8_init_53 : DR cX8_init 53 (.bipush 8) 2 55 := ⟨by decide +kernel, rfl⟩
theorem dX8_init_55 : DR cX8_init 55 (.invokespecial 35) 3 58 := ⟨by decide +kernel, rfl⟩
theorem dX8_init_58 : DR cX8_init 58 (.putfield 38) 3 61 := ⟨by decide +kernel, rfl⟩
theorem dX8_init_61 : DR cX8_init 61 (.aload_n 0) 1 62 := ⟨by decide +kernel, rfl⟩
theorem dX8_init_62 : DR cX8_init 62 (.new 33) 3 65 := ⟨by decide +kernel, rfl⟩
theorem dX8_init_65 : DR cX8_init 65 (.dup) 1 66 := ⟨by decide +kernel, rfl⟩
theorem dX8_init_66 : DR cX8_init 66 (.iconst 2) 1 67 := ⟨by decide +kernel, rfl⟩
theorem dX8_init_67 : DR cX8_init 67 (.invokespecial 35) 3 70 := ⟨by decide +kernel, rfl⟩
theorem dX8_init_70 : DR cX8_init 70 (.putfield 42) 3 73 := ⟨by decide +kernel, rfl⟩
theorem dX8_init_73 : DR cX8_init 73 (.aload_n 0) 1 74 := ⟨by decide +kernel, rfl⟩
theorem dX8_init_74 : DR cX8_init 74 (.new 45) 3 77 := ⟨by decide +kernel, rfl⟩
theorem dX8_init_77 : DR cX8_init 77 (.dup) 1 78 := ⟨by decide +kernel, rfl⟩
theorem dX8_init_78 : DR cX8_init 78 (.invokespecial 47) 3 81 := ⟨by decide +kernel, rfl⟩
theorem dX8_init_81 : DR cX8_init 81 (.putfield 48) 3 84 := ⟨by decide +kernel, rfl⟩
theorem dX8_init_84 : DR cX8_init 84 (.aload_n 0) 1 85 := ⟨by decide +kernel, rfl⟩
theorem dX8_init_85 : DR cX8_init 85 (.new 52) 3 88 := ⟨by decide +kernel, rfl⟩
theorem dX8_init_88 : DR cX8_init 88 (.dup) 1 89 := ⟨by decide +kernel, rfl⟩
theorem dX8_init_89 : DR cX8_init 89 (.invokespecial 54) 3 92 := ⟨by decide +kernel, rfl⟩
theorem dX8_init_92 : DR cX8_init 92 (.putfield 55) 3 95 := ⟨by decide +kernel, rfl⟩
theorem dX8_init_95 : DR cX8_init 95 (.aload_n 0) 1 96 := ⟨by decide +kernel, rfl⟩
theorem dX8_init_96 : DR cX8_init 96 (.new 59) 3 99 := ⟨by decide +kernel, rfl⟩
theorem dX8_init_99 : DR cX8_init 99 (.dup) 1 100 := ⟨by decide +kernel, rfl⟩
theorem dX8_init_100 : DR cX8_init 100 (.invokespecial 61) 3 103 := ⟨by decide +kernel, rfl⟩
theorem dX8_init_103 : DR cX8_init 103 (.putfield 62) 3 106 := ⟨by decide +kernel, rfl⟩
theorem dX8_init_106 : DR cX8_init 106 (.aload_n 0) 1 107 := ⟨by decide +kernel, rfl⟩
theorem dX8_init_107 : DR cX8_init 107 (.new 59) 3 110 := ⟨by decide +kernel, rfl⟩
theorem dX8_init_110 : DR cX8_init 110 (.dup) 1 111 := ⟨by decide +kernel, rfl⟩
theorem dX8_init_111 : DR cX8_init 111 (.invokespecial 61) 3 114 := ⟨by decide +kernel, rfl⟩
theorem dX8_init_114 : DR cX8_init 114 (.putfield 66) 3 117 := ⟨by decide +kernel, rfl⟩
theorem dX8_init_117 : DR cX8_init 117 (.iconst 0) 1 118 := ⟨by decide +kernel, rfl⟩
theorem dX8_init_118 : DR cX8_init 118 (.istore_n 1) 1 119 := ⟨by decide +kernel, rfl⟩
theorem dX8_init_119 : DR cX8_init 119 (.iload_n 1) 1 120 := ⟨by decide +kernel, rfl⟩
theorem dX8_init_120 : DR cX8_init 120 (.ldc 69) 2 122 := ⟨by decide +kernel, rfl⟩
theorem dX8_init_122 : DR cX8_init 122 (.invokevirtual 71) 3 125 := ⟨by decide +kernel, rfl⟩
theorem dX8_init_125 : DB cX8_init 125 (.if_icmp .ge 22) 3 (22) 128 147 := ⟨by decide +kernel, rfl, by decide⟩
theorem dX8_init_128 : DR cX8_init 128 (.aload_n 0) 1 129 := ⟨by decide +kernel, rfl⟩
theorem dX8_init_129 : DR cX8_init 129 (.getfield 12) 3 132 := ⟨by decide +kernel, rfl⟩
theorem dX8_init_132 : DR cX8_init 132 (.ldc 69) 2 134 := ⟨by decide +kernel, rfl⟩
theorem dX8_init_134 : DR cX8_init 134 (.iload_n 1) 1 135 := ⟨by decide +kernel, rfl⟩
theorem dX8_init_135 : DR cX8_init 135 (.invokevirtual 77) 3 138 := ⟨by decide +kernel, rfl⟩
theorem dX8_init_138 : DR cX8_init 138 (.invokevirtual 81) 3 141 := ⟨by decide +kernel, rfl⟩
theorem dX8_init_141 : DR cX8_init 141 (.iinc 1 1) 3 144 := ⟨by decide +kernel, rfl⟩
theorem dX8_init_144 : DB cX8_init 144 (.goto (-25)) 3 (-25) 147 119 := ⟨by decide +kernel, rfl, by decide⟩
theorem dX8_init_147 : DR cX8_init 147 (.aload_n 0) 1 148 := ⟨by decide +kernel, rfl⟩
theorem dX8_init_148 : DR cX8_init 148 (.invokevirtual 85) 3 151 := ⟨by decide +kernel, rfl⟩
theorem dX8_init_151 : DR cX8_init 151 (.pop) 1 152 := ⟨by decide +kernel, rfl⟩
theorem dX8_init_152 : DR cX8_init 152 (.aload_n 0) 1 153 := ⟨by decide +kernel, rfl⟩
theorem dX8_init_153 : DR cX8_init 153 (.getfield 12) 3 156 := ⟨by decide +kernel, rfl⟩
theorem dX8_init_156 : DR cX8_init 156 (.invokevirtual 88) 3 159 := ⟨by decide +kernel, rfl⟩
theorem dX8_init_159 : DR cX8_init 159 (.return_) 1 160 := ⟨by decide +kernel, rfl⟩
theorem dX8_write_0 : DR cX8_write 0 (.iload_n 1) 1 1 := ⟨by decide +kernel, rfl⟩
theorem dX8_write_1 : DR cX8_write 1 (.bipush 32) 2 3 := ⟨by decide +kernel, rfl⟩
theorem dX8_write_3 : DR cX8_write 3 (.bipush 126) 2 5 := ⟨by decide +kernel, rfl⟩
theorem dX8_write_5 : DR cX8_write 5 (.invokestatic 91) 3 8 := ⟨by decide +kernel, rfl⟩
theorem dX8_write_8 : DB cX8_write 8 (.ifCond .eq 5) 3 (5) 11 13 := ⟨by decide +kernel, rfl, by decide⟩
theorem dX8_write_11 : DR cX8_write 11 (.iconst (-1)) 1 12 := ⟨by decide +kernel, rfl⟩
theorem dX8_write_12 : DR cX8_write 12 (.ireturn) 1 13 := ⟨by decide +kernel, rfl⟩
theorem dX8_write_13 : DR cX8_write 13 (.aload_n 0) 1 14 := ⟨by decide +kernel, rfl⟩
theorem dX8_write_14 : DR cX8_write 14 (.getfield 12) 3 17 := ⟨by decide +kernel, rfl⟩
theorem dX8_write_17 : DR cX8_write 17 (.invokevirtual 95) 3 20 := ⟨by decide +kernel, rfl⟩
theorem dX8_write_20 : DB cX8_write 20 (.ifCond .eq 6) 3 (6) 23 26 := ⟨by decide +kernel, rfl, by decide⟩
theorem dX8_write_23 : DR cX8_write 23 (.bipush (-3)) 2 25 := ⟨by decide +kernel, rfl⟩
theorem dX8_write_25 : DR cX8_write 25 (.ireturn) 1 26 := ⟨by decide +kernel, rfl⟩
theorem dX8_write_26 : DR cX8_write 26 (.aload_n 0) 1 27 := ⟨by decide +kernel, rfl⟩
theorem dX8_write_27 : DR cX8_write 27 (.getfield 12) 3 30 := ⟨by decide +kernel, rfl⟩
theorem dX8_write_30 : DR cX8_write 30 (.iload_n 1) 1 31 := ⟨by decide +kernel, rfl⟩
theorem dX8_write_31 : DR cX8_write 31 (.i2c) 1 32 := ⟨by decide +kernel, rfl⟩
theorem dX8_write_32 : DR cX8_write 32 (.invokevirtual 81) 3 35 := ⟨by decide +kernel, rfl⟩
theorem dX8_write_35 : DR cX8_write 35 (.aload_n 0) 1 36 := ⟨by decide +kernel, rfl⟩
theorem dX8_write_36 : DR cX8_write 36 (.getfield 12) 3 39 := ⟨by decide +kernel, rfl⟩
theorem dX8_write_39 : DR cX8_write 39 (.getfield 99) 3 42 := ⟨by decide +kernel, rfl⟩
theorem dX8_write_42 : DR cX8_write 42 (.ireturn) 1 43 := ⟨by decide +kernel, rfl⟩
theorem dX8_wipe_0 : DR cX8_wipe 0 (.aload_n 0) 1 1 := ⟨by decide +kernel, rfl⟩
theorem dX8_wipe_1 : DR cX8_wipe 1 (.getfield 12) 3 4 := ⟨by decide +kernel, rfl⟩
theorem dX8_wipe_4 : DR cX8_wipe 4 (.getfield 99) 3 7 := ⟨by decide +kernel, rfl⟩
theorem dX8_wipe_7 : DR cX8_wipe 7 (.istore_n 1) 1 8 := ⟨by decide +kernel, rfl⟩
theorem dX8_wipe_8 : DR cX8_wipe 8 (.aload_n 0) 1 9 := ⟨by decide +kernel, rfl⟩
theorem dX8_wipe_9 : DR cX8_wipe 9 (.getfield 12) 3 12 := ⟨by decide +kernel, rfl⟩
theorem dX8_wipe_12 : DR cX8_wipe 12 (.invokevirtual 88) 3 15 := ⟨by decide +kernel, rfl⟩
theorem dX8_wipe_15 : DR cX8_wipe 15 (.iload_n 1) 1 16 := ⟨by decide +kernel, rfl⟩
theorem dX8_wipe_16 : DR cX8_wipe 16 (.ireturn) 1 17 := ⟨by decide +kernel, rfl⟩
theorem dX8_fault_0 : DR cX8_fault 0 (.aload_n 0) 1 1 := ⟨by decide +kernel, rfl⟩
theorem dX8_fault_1 : DR cX8_fault 1 (.getfield 19) 3 4 := ⟨by decide +kernel, rfl⟩
theorem dX8_fault_4 : DR cX8_fault 4 (.aload_n 0) 1 5 := ⟨by decide +kernel, rfl⟩
theorem dX8_fault_5 : DR cX8_fault 5 (.getfield 12) 3 8 := ⟨by decide +kernel, rfl⟩
theorem dX8_fault_8 : DR cX8_fault 8 (.aload_n 0) 1 9 := ⟨by decide +kernel, rfl⟩
theorem dX8_fault_9 : DR cX8_fault 9 (.getfield 66) 3 12 := ⟨by decide +kernel, rfl⟩
theorem dX8_fault_12 : DR cX8_fault 12 (.invokevirtual 103) 3 15 := ⟨by decide +kernel, rfl⟩
theorem dX8_fault_15 : DR cX8_fault 15 (.ireturn) 1 16 := ⟨by decide +kernel, rfl⟩
theorem dX8_lay_0 : DR cX8_lay 0 (.aload_n 0) 1 1 := ⟨by decide +kernel, rfl⟩
theorem dX8_lay_1 : DR cX8_lay 1 (.invokevirtual 85) 3 4 := ⟨by decide +kernel, rfl⟩
theorem dX8_lay_4 : DR cX8_lay 4 (.ireturn) 1 5 := ⟨by decide +kernel, rfl⟩
theorem dX8_loom_0 : DR cX8_loom 0 (.aload_n 0) 1 1 := ⟨by decide +kernel, rfl⟩
theorem dX8_loom_1 : DR cX8_loom 1 (.iload_n 1) 1 2 := ⟨by decide +kernel, rfl⟩
theorem dX8_loom_2 : DR cX8_loom 2 (.invokevirtual 107) 3 5 := ⟨by decide +kernel, rfl⟩
theorem dX8_loom_5 : DB cX8_loom 5 (.ifCond .ne 12) 3 (12) 8 17 := ⟨by decide +kernel, rfl, by decide⟩
theorem dX8_loom_8 : DR cX8_loom 8 (.iload_n 2) 1 9 := ⟨by decide +kernel, rfl⟩
theorem dX8_loom_9 : DR cX8_loom 9 (.iconst 0) 1 10 := ⟨by decide +kernel, rfl⟩
theorem dX8_loom_10 : DR cX8_loom 10 (.iconst 5) 1 11 := ⟨by decide +kernel, rfl⟩
theorem dX8_loom_11 : DR cX8_loom 11 (.invokestatic 91) 3 14 := ⟨by decide +kernel, rfl⟩
theorem dX8_loom_14 : DB cX8_loom 14 (.ifCond .eq 5) 3 (5) 17 19 := ⟨by decide +kernel, rfl, by decide⟩
theorem dX8_loom_17 : DR cX8_loom 17 (.iconst (-1)) 1 18 := ⟨by decide +kernel, rfl⟩
theorem dX8_loom_18 : DR cX8_loom 18 (.ireturn) 1 19 := ⟨by decide +kernel, rfl⟩
theorem dX8_loom_19 : DR cX8_loom 19 (.aload_n 0) 1 20 := ⟨by decide +kernel, rfl⟩
theorem dX8_loom_20 : DR cX8_loom 20 (.getfield 26) 3 23 := ⟨by decide +kernel, rfl⟩
theorem dX8_loom_23 : DR cX8_loom 23 (.iload_n 1) 1 24 := ⟨by decide +kernel, rfl⟩
theorem dX8_loom_24 : DR cX8_loom 24 (.invokevirtual 111) 3 27 := ⟨by decide +kernel, rfl⟩
theorem dX8_loom_27 : DR cX8_loom 27 (.iload_n 2) 1 28 := ⟨by decide +kernel, rfl⟩
theorem dX8_loom_28 : DR cX8_loom 28 (.invokevirtual 115) 3 31 := ⟨by decide +kernel, rfl⟩
theorem dX8_loom_31 : DR cX8_loom 31 (.ireturn) 1 32 := ⟨by decide +kernel, rfl⟩
theorem dX8_hour_0 : DR cX8_hour 0 (.iload_n 1) 1 1 := ⟨by decide +kernel, rfl⟩
theorem dX8_hour_1 : DR cX8_hour 1 (.iconst 0) 1 2 := ⟨by decide +kernel, rfl⟩
theorem dX8_hour_2 : DR cX8_hour 2 (.bipush 99) 2 4 := ⟨by decide +kernel, rfl⟩
theorem dX8_hour_4 : DR cX8_hour 4 (.invokestatic 91) 3 7 := ⟨by decide +kernel, rfl⟩
theorem dX8_hour_7 : DB cX8_hour 7 (.ifCond .ne 12) 3 (12) 10 19 := ⟨by decide +kernel, rfl, by decide⟩
theorem dX8_hour_10 : DR cX8_hour 10 (.iload_n 2) 1 11 := ⟨by decide +kernel, rfl⟩
theorem dX8_hour_11 : DR cX8_hour 11 (.iconst 0) 1 12 := ⟨by decide +kernel, rfl⟩
theorem dX8_hour_12 : DR cX8_hour 12 (.iconst 1) 1 13 := ⟨by decide +kernel, rfl⟩
theorem dX8_hour_13 : DR cX8_hour 13 (.invokestatic 91) 3 16 := ⟨by decide +kernel, rfl⟩
theorem dX8_hour_16 : DB cX8_hour 16 (.ifCond .eq 5) 3 (5) 19 21 := ⟨by decide +kernel, rfl, by decide⟩
theorem dX8_hour_19 : DR cX8_hour 19 (.iconst (-1)) 1 20 := ⟨by decide +kernel, rfl⟩
theorem dX8_hour_20 : DR cX8_hour 20 (.ireturn) 1 21 := ⟨by decide +kernel, rfl⟩
theorem dX8_hour_21 : DR cX8_hour 21 (.iload_n 2) 1 22 := ⟨by decide +kernel, rfl⟩
theorem dX8_hour_22 : DB cX8_hour 22 (.ifCond .ne 14) 3 (14) 25 36 := ⟨by decide +kernel, rfl, by decide⟩
theorem dX8_hour_25 : DR cX8_hour 25 (.aload_n 0) 1 26 := ⟨by decide +kernel, rfl⟩
theorem dX8_hour_26 : DR cX8_hour 26 (.getfield 62) 3 29 := ⟨by decide +kernel, rfl⟩
theorem dX8_hour_29 : DR cX8_hour 29 (.iload_n 1) 1 30 := ⟨by decide +kernel, rfl⟩
theorem dX8_hour_30 : DR cX8_hour 30 (.invokevirtual 121) 3 33 := ⟨by decide +kernel, rfl⟩
theorem dX8_hour_33 : DB cX8_hour 33 (.goto 11) 3 (11) 36 44 := ⟨by decide +kernel, rfl, by decide⟩
theorem dX8_hour_36 : DR cX8_hour 36 (.aload_n 0) 1 37 := ⟨by decide +kernel, rfl⟩
theorem dX8_hour_37 : DR cX8_hour 37 (.getfield 62) 3 40 := ⟨by decide +kernel, rfl⟩
theorem dX8_hour_40 : DR cX8_hour 40 (.iload_n 1) 1 41 := ⟨by decide +kernel, rfl⟩
theorem dX8_hour_41 : DR cX8_hour 41 (.invokevirtual 124) 3 44 := ⟨by decide +kernel, rfl⟩
theorem dX8_hour_44 : DR cX8_hour 44 (.ireturn) 1 45 := ⟨by decide +kernel, rfl⟩
theorem dX8_at_0 : DR cX8_at 0 (.iload_n 1) 1 1 := ⟨by decide +kernel, rfl⟩
theorem dX8_at_1 : DR cX8_at 1 (.invokestatic 127) 3 4 := ⟨by decide +kernel, rfl⟩
theorem dX8_at_4 : DB cX8_at 4 (.ifCond .eq 5) 3 (5) 7 9 := ⟨by decide +kernel, rfl, by decide⟩
theorem dX8_at_7 : DR cX8_at 7 (.iconst (-1)) 1 8 := ⟨by decide +kernel, rfl⟩
theorem dX8_at_8 : DR cX8_at 8 (.ireturn) 1 9 := ⟨by decide +kernel, rfl⟩
theorem dX8_at_9 : DR cX8_at 9 (.aload_n 0) 1 10 := ⟨by decide +kernel, rfl⟩
theorem dX8_at_10 : DR cX8_at 10 (.getfield 26) 3 13 := ⟨by decide +kernel, rfl⟩
theorem dX8_at_13 : DR cX8_at 13 (.iload_n 1) 1 14 := ⟨by decide +kernel, rfl⟩
theorem dX8_at_14 : DR cX8_at 14 (.invokevirtual 130) 3 17 := ⟨by decide +kernel, rfl⟩
theorem dX8_at_17 : DR cX8_at 17 (.ireturn) 1 18 := ⟨by decide +kernel, rfl⟩
theorem dX8_pass_0 : DR cX8_pass 0 (.iload_n 1) 1 1 := ⟨by decide +kernel, rfl⟩
theorem dX8_pass_1 : DR cX8_pass 1 (.iconst 1) 1 2 := ⟨by decide +kernel, rfl⟩
theorem dX8_pass_2 : DR cX8_pass 2 (.bipush 24) 2 4 := ⟨by decide +kernel, rfl⟩
theorem dX8_pass_4 : DR cX8_pass 4 (.invokestatic 91) 3 7 := ⟨by decide +kernel, rfl⟩
theorem dX8_pass_7 : DB cX8_pass 7 (.ifCond .eq 5) 3 (5) 10 12 := ⟨by decide +kernel, rfl, by decide⟩
theorem dX8_pass_10 : DR cX8_pass 10 (.iconst (-1)) 1 11 := ⟨by decide +kernel, rfl⟩
theorem dX8_pass_11 : DR cX8_pass 11 (.ireturn) 1 12 := ⟨by decide +kernel, rfl⟩
theorem dX8_pass_12 : DR cX8_pass 12 (.aload_n 0) 1 13 := ⟨by decide +kernel, rfl⟩
theorem dX8_pass_13 : DR cX8_pass 13 (.getfield 26) 3 16 := ⟨by decide +kernel, rfl⟩
theorem dX8_pass_16 : DR cX8_pass 16 (.getfield 133) 3 19 := ⟨by decide +kernel, rfl⟩
theorem dX8_pass_19 : DR cX8_pass 19 (.iload_n 1) 1 20 := ⟨by decide +kernel, rfl⟩
theorem dX8_pass_20 : DR cX8_pass 20 (.iadd) 1 21 := ⟨by decide +kernel, rfl⟩
theorem dX8_pass_21 : DR cX8_pass 21 (.bipush 99) 2 23 := ⟨by decide +kernel, rfl⟩
theorem dX8_pass_23 : DB cX8_pass 23 (.if_icmp .le 6) 3 (6) 26 29 := ⟨by decide +kernel, rfl, by decide⟩
theorem dX8_pass_26 : DR cX8_pass 26 (.bipush (-2)) 2 28 := ⟨by decide +kernel, rfl⟩
theorem dX8_pass_28 : DR cX8_pass 28 (.ireturn) 1 29 := ⟨by decide +kernel, rfl⟩
theorem dX8_pass_29 : DR cX8_pass 29 (.aload_n 0) 1 30 := ⟨by decide +kernel, rfl⟩
theorem dX8_pass_30 : DR cX8_pass 30 (.getfield 38) 3 33 := ⟨by decide +kernel, rfl⟩
theorem dX8_pass_33 : DR cX8_pass 33 (.aload_n 0) 1 34 := ⟨by decide +kernel, rfl⟩
theorem dX8_pass_34 : DR cX8_pass 34 (.getfield 26) 3 37 := ⟨by decide +kernel, rfl⟩
theorem dX8_pass_37 : DR cX8_pass 37 (.invokevirtual 136) 3 40 := ⟨by decide +kernel, rfl⟩
theorem dX8_pass_40 : DR cX8_pass 40 (.aload_n 0) 1 41 := ⟨by decide +kernel, rfl⟩
theorem dX8_pass_41 : DR cX8_pass 41 (.getfield 62) 3 44 := ⟨by decide +kernel, rfl⟩
theorem dX8_pass_44 : DR cX8_pass 44 (.aload_n 0) 1 45 := ⟨by decide +kernel, rfl⟩
theorem dX8_pass_45 : DR cX8_pass 45 (.getfield 26) 3 48 := ⟨by decide +kernel, rfl⟩
theorem dX8_pass_48 : DR cX8_pass 48 (.iload_n 1) 1 49 := ⟨by decide +kernel, rfl⟩
theorem dX8_pass_49 : DR cX8_pass 49 (.invokevirtual 140) 3 52 := ⟨by decide +kernel, rfl⟩
theorem dX8_pass_52 : DR cX8_pass 52 (.aload_n 0) 1 53 := ⟨by decide +kernel, rfl⟩
theorem dX8_pass_53 : DR cX8_pass 53 (.getfield 26) 3 56 := ⟨by decide +kernel, rfl⟩
theorem dX8_pass_56 : DR cX8_pass 56 (.invokevirtual 144) 3 59 := ⟨by decide +kernel, rfl⟩
theorem dX8_pass_59 : DR cX8_pass 59 (.ireturn) 1 60 := ⟨by decide +kernel, rfl⟩
theorem dX8_shade_0 : DR cX8_shade 0 (.aload_n 0) 1 1 := ⟨by decide +kernel, rfl⟩
theorem dX8_shade_1 : DR cX8_shade 1 (.iload_n 1) 1 2 := ⟨by decide +kernel, rfl⟩
theorem dX8_shade_2 : DR cX8_shade 2 (.invokevirtual 107) 3 5 := ⟨by decide +kernel, rfl⟩
theorem dX8_shade_5 : DB cX8_shade 5 (.ifCond .eq 5) 3 (5) 8 10 := ⟨by decide +kernel, rfl, by decide⟩
theorem dX8_shade_8 : DR cX8_shade 8 (.iconst (-1)) 1 9 := ⟨by decide +kernel, rfl⟩
theorem dX8_shade_9 : DR cX8_shade 9 (.ireturn) 1 10 := ⟨by decide +kernel, rfl⟩
theorem dX8_shade_10 : DR cX8_shade 10 (.aload_n 0) 1 11 := ⟨by decide +kernel, rfl⟩
theorem dX8_shade_11 : DR cX8_shade 11 (.getfield 38) 3 14 := ⟨by decide +kernel, rfl⟩
theorem dX8_shade_14 : DR cX8_shade 14 (.aload_n 0) 1 15 := ⟨by decide +kernel, rfl⟩
theorem dX8_shade_15 : DR cX8_shade 15 (.getfield 26) 3 18 := ⟨by decide +kernel, rfl⟩
theorem dX8_shade_18 : DR cX8_shade 18 (.invokevirtual 136) 3 21 := ⟨by decide +kernel, rfl⟩
theorem dX8_shade_21 : DR cX8_shade 21 (.aload_n 0) 1 22 := ⟨by decide +kernel, rfl⟩
theorem dX8_shade_22 : DR cX8_shade 22 (.getfield 26) 3 25 := ⟨by decide +kernel, rfl⟩
theorem dX8_shade_25 : DR cX8_shade 25 (.iload_n 1) 1 26 := ⟨by decide +kernel, rfl⟩
theorem dX8_shade_26 : DR cX8_shade 26 (.invokevirtual 111) 3 29 := ⟨by decide +kernel, rfl⟩
theorem dX8_shade_29 : DR cX8_shade 29 (.invokevirtual 147) 3 32 := ⟨by decide +kernel, rfl⟩
theorem dX8_shade_32 : DR cX8_shade 32 (.aload_n 0) 1 33 := ⟨by decide +kernel, rfl⟩
theorem dX8_shade_33 : DR cX8_shade 33 (.getfield 26) 3 36 := ⟨by decide +kernel, rfl⟩
theorem dX8_shade_36 : DR cX8_shade 36 (.iload_n 1) 1 37 := ⟨by decide +kernel, rfl⟩
theorem dX8_shade_37 : DR cX8_shade 37 (.invokevirtual 111) 3 40 := ⟨by decide +kernel, rfl⟩
theorem dX8_shade_40 : DR cX8_shade 40 (.getfield 150) 3 43 := ⟨by decide +kernel, rfl⟩
theorem dX8_shade_43 : DB cX8_shade 43 (.ifCond .eq 7) 3 (7) 46 50 := ⟨by decide +kernel, rfl, by decide⟩
theorem dX8_shade_46 : DR cX8_shade 46 (.iconst 1) 1 47 := ⟨by decide +kernel, rfl⟩
theorem dX8_shade_47 : DB cX8_shade 47 (.goto 4) 3 (4) 50 51 := ⟨by decide +kernel, rfl, by decide⟩
theorem dX8_shade_50 : DR cX8_shade 50 (.iconst 0) 1 51 := ⟨by decide +kernel, rfl⟩
theorem dX8_shade_51 : DR cX8_shade 51 (.ireturn) 1 52 := ⟨by decide +kernel, rfl⟩
theorem dX8_cow_0 : DR cX8_cow 0 (.aload_n 0) 1 1 := ⟨by decide +kernel, rfl⟩
theorem dX8_cow_1 : DR cX8_cow 1 (.iload_n 1) 1 2 := ⟨by decide +kernel, rfl⟩
theorem dX8_cow_2 : DR cX8_cow 2 (.invokevirtual 107) 3 5 := ⟨by decide +kernel, rfl⟩
theorem dX8_cow_5 : DB cX8_cow 5 (.ifCond .eq 5) 3 (5) 8 10 := ⟨by decide +kernel, rfl, by decide⟩
theorem dX8_cow_8 : DR cX8_cow 8 (.iconst (-1)) 1 9 := ⟨by decide +kernel, rfl⟩
theorem dX8_cow_9 : DR cX8_cow 9 (.ireturn) 1 10 := ⟨by decide +kernel, rfl⟩
theorem dX8_cow_10 : DR cX8_cow 10 (.aload_n 0) 1 11 := ⟨by decide +kernel, rfl⟩
theorem dX8_cow_11 : DR cX8_cow 11 (.getfield 26) 3 14 := ⟨by decide +kernel, rfl⟩
theorem dX8_cow_14 : DR cX8_cow 14 (.iload_n 1) 1 15 := ⟨by decide +kernel, rfl⟩
theorem dX8_cow_15 : DR cX8_cow 15 (.invokevirtual 111) 3 18 := ⟨by decide +kernel, rfl⟩
theorem dX8_cow_18 : DR cX8_cow 18 (.getfield 154) 3 21 := ⟨by decide +kernel, rfl⟩
theorem dX8_cow_21 : DB cX8_cow 21 (.ifCond .ne 6) 3 (6) 24 27 := ⟨by decide +kernel, rfl, by decide⟩
theorem dX8_cow_24 : DR cX8_cow 24 (.bipush (-2)) 2 26 := ⟨by decide +kernel, rfl⟩
theorem dX8_cow_26 : DR cX8_cow 26 (.ireturn) 1 27 := ⟨by decide +kernel, rfl⟩
theorem dX8_cow_27 : DR cX8_cow 27 (.aload_n 0) 1 28 := ⟨by decide +kernel, rfl⟩
theorem dX8_cow_28 : DR cX8_cow 28 (.getfield 38) 3 31 := ⟨by decide +kernel, rfl⟩
theorem dX8_cow_31 : DR cX8_cow 31 (.aload_n 0) 1 32 := ⟨by decide +kernel, rfl⟩
theorem dX8_cow_32 : DR cX8_cow 32 (.getfield 26) 3 35 := ⟨by decide +kernel, rfl⟩
theorem dX8_cow_35 : DR cX8_cow 35 (.invokevirtual 136) 3 38 := ⟨by decide +kernel, rfl⟩
theorem dX8_cow_38 : DR cX8_cow 38 (.aload_n 0) 1 39 := ⟨by decide +kernel, rfl⟩
theorem dX8_cow_39 : DR cX8_cow 39 (.getfield 26) 3 42 := ⟨by decide +kernel, rfl⟩
theorem dX8_cow_42 : DR cX8_cow 42 (.iload_n 1) 1 43 := ⟨by decide +kernel, rfl⟩
theorem dX8_cow_43 : DR cX8_cow 43 (.invokevirtual 111) 3 46 := ⟨by decide +kernel, rfl⟩
theorem dX8_cow_46 : DR cX8_cow 46 (.invokevirtual 157) 3 49 := ⟨by decide +kernel, rfl⟩
theorem dX8_cow_49 : DR cX8_cow 49 (.aload_n 0) 1 50 := ⟨by decide +kernel, rfl⟩
theorem dX8_cow_50 : DR cX8_cow 50 (.getfield 26) 3 53 := ⟨by decide +kernel, rfl⟩
theorem dX8_cow_53 : DR cX8_cow 53 (.iload_n 1) 1 54 := ⟨by decide +kernel, rfl⟩
theorem dX8_cow_54 : DR cX8_cow 54 (.invokevirtual 111) 3 57 := ⟨by decide +kernel, rfl⟩
theorem dX8_cow_57 : DR cX8_cow 57 (.getfield 154) 3 60 := ⟨by decide +kernel, rfl⟩
theorem dX8_cow_60 : DR cX8_cow 60 (.ireturn) 1 61 := ⟨by decide +kernel, rfl⟩
theorem dX8_tears_0 : DR cX8_tears 0 (.aload_n 0) 1 1 := ⟨by decide +kernel, rfl⟩
theorem dX8_tears_1 : DR cX8_tears 1 (.iload_n 1) 1 2 := ⟨by decide +kernel, rfl⟩
theorem dX8_tears_2 : DR cX8_tears 2 (.invokevirtual 107) 3 5 := ⟨by decide +kernel, rfl⟩
theorem dX8_tears_5 : DB cX8_tears 5 (.ifCond .eq 5) 3 (5) 8 10 := ⟨by decide +kernel, rfl, by decide⟩
theorem dX8_tears_8 : DR cX8_tears 8 (.iconst (-1)) 1 9 := ⟨by decide +kernel, rfl⟩
theorem dX8_tears_9 : DR cX8_tears 9 (.ireturn) 1 10 := ⟨by decide +kernel, rfl⟩
theorem dX8_tears_10 : DR cX8_tears 10 (.aload_n 0) 1 11 := ⟨by decide +kernel, rfl⟩
theorem dX8_tears_11 : DR cX8_tears 11 (.getfield 26) 3 14 := ⟨by decide +kernel, rfl⟩
theorem dX8_tears_14 : DR cX8_tears 14 (.iload_n 1) 1 15 := ⟨by decide +kernel, rfl⟩
theorem dX8_tears_15 : DR cX8_tears 15 (.invokevirtual 111) 3 18 := ⟨by decide +kernel, rfl⟩
theorem dX8_tears_18 : DR cX8_tears 18 (.getfield 154) 3 21 := ⟨by decide +kernel, rfl⟩
theorem dX8_tears_21 : DR cX8_tears 21 (.aload_n 0) 1 22 := ⟨by decide +kernel, rfl⟩
theorem dX8_tears_22 : DR cX8_tears 22 (.getfield 26) 3 25 := ⟨by decide +kernel, rfl⟩
theorem dX8_tears_25 : DR cX8_tears 25 (.iload_n 1) 1 26 := ⟨by decide +kernel, rfl⟩
theorem dX8_tears_26 : DR cX8_tears 26 (.invokevirtual 111) 3 29 := ⟨by decide +kernel, rfl⟩
theorem dX8_tears_29 : DR cX8_tears 29 (.invokevirtual 160) 3 32 := ⟨by decide +kernel, rfl⟩
theorem dX8_tears_32 : DB cX8_tears 32 (.if_icmp .lt 6) 3 (6) 35 38 := ⟨by decide +kernel, rfl, by decide⟩
theorem dX8_tears_35 : DR cX8_tears 35 (.bipush (-2)) 2 37 := ⟨by decide +kernel, rfl⟩
theorem dX8_tears_37 : DR cX8_tears 37 (.ireturn) 1 38 := ⟨by decide +kernel, rfl⟩
theorem dX8_tears_38 : DR cX8_tears 38 (.aload_n 0) 1 39 := ⟨by decide +kernel, rfl⟩
theorem dX8_tears_39 : DR cX8_tears 39 (.getfield 38) 3 42 := ⟨by decide +kernel, rfl⟩
theorem dX8_tears_42 : DR cX8_tears 42 (.aload_n 0) 1 43 := ⟨by decide +kernel, rfl⟩
theorem dX8_tears_43 : DR cX8_tears 43 (.getfield 26) 3 46 := ⟨by decide +kernel, rfl⟩
theorem dX8_tears_46 : DR cX8_tears 46 (.invokevirtual 136) 3 49 := ⟨by decide +kernel, rfl⟩
theorem dX8_tears_49 : DR cX8_tears 49 (.aload_n 0) 1 50 := ⟨by decide +kernel, rfl⟩
theorem dX8_tears_50 : DR cX8_tears 50 (.getfield 26) 3 53 := ⟨by decide +kernel, rfl⟩
theorem dX8_tears_53 : DR cX8_tears 53 (.iload_n 1) 1 54 := ⟨by decide +kernel, rfl⟩
theorem dX8_tears_54 : DR cX8_tears 54 (.invokevirtual 111) 3 57 := ⟨by decide +kernel, rfl⟩
theorem dX8_tears_57 : DR cX8_tears 57 (.invokevirtual 163) 3 60 := ⟨by decide +kernel, rfl⟩
theorem dX8_tears_60 : DR cX8_tears 60 (.aload_n 0) 1 61 := ⟨by decide +kernel, rfl⟩
theorem dX8_tears_61 : DR cX8_tears 61 (.getfield 26) 3 64 := ⟨by decide +kernel, rfl⟩
theorem dX8_tears_64 : DR cX8_tears 64 (.iload_n 1) 1 65 := ⟨by decide +kernel, rfl⟩
theorem dX8_tears_65 : DR cX8_tears 65 (.invokevirtual 111) 3 68 := ⟨by decide +kernel, rfl⟩
theorem dX8_tears_68 : DR cX8_tears 68 (.getfield 154) 3 71 := ⟨by decide +kernel, rfl⟩
theorem dX8_tears_71 : DR cX8_tears 71 (.ireturn) 1 72 := ⟨by decide +kernel, rfl⟩
theorem dX8_set_0 : DR cX8_set 0 (.aload_n 0) 1 1 := ⟨by decide +kernel, rfl⟩
theorem dX8_set_1 : DR cX8_set 1 (.iload_n 1) 1 2 := ⟨by decide +kernel, rfl⟩
theorem dX8_set_2 : DR cX8_set 2 (.invokevirtual 107) 3 5 := ⟨by decide +kernel, rfl⟩
theorem dX8_set_5 : DB cX8_set 5 (.ifCond .ne 10) 3 (10) 8 15 := ⟨by decide +kernel, rfl, by decide⟩
theorem dX8_set_8 : DR cX8_set 8 (.iload_n 2) 1 9 := ⟨by decide +kernel, rfl⟩
theorem dX8_set_9 : DR cX8_set 9 (.invokestatic 127) 3 12 := ⟨by decide +kernel, rfl⟩
theorem dX8_set_12 : DB cX8_set 12 (.ifCond .eq 5) 3 (5) 15 17 := ⟨by decide +kernel, rfl, by decide⟩
theorem dX8_set_15 : DR cX8_set 15 (.iconst (-1)) 1 16 := ⟨by decide +kernel, rfl⟩
theorem dX8_set_16 : DR cX8_set 16 (.ireturn) 1 17 := ⟨by decide +kernel, rfl⟩
theorem dX8_set_17 : DR cX8_set 17 (.aload_n 0) 1 18 := ⟨by decide +kernel, rfl⟩
theorem dX8_set_18 : DR cX8_set 18 (.getfield 26) 3 21 := ⟨by decide +kernel, rfl⟩
theorem dX8_set_21 : DR cX8_set 21 (.iload_n 2) 1 22 := ⟨by decide +kernel, rfl⟩
theorem dX8_set_22 : DR cX8_set 22 (.invokevirtual 130) 3 25 := ⟨by decide +kernel, rfl⟩
theorem dX8_set_25 : DR cX8_set 25 (.bipush (-4)) 2 27 := ⟨by decide +kernel, rfl⟩
theorem dX8_set_27 : DB cX8_set 27 (.if_icmp .eq 6) 3 (6) 30 33 := ⟨by decide +kernel, rfl, by decide⟩
theorem dX8_set_30 : DR cX8_set 30 (.bipush (-2)) 2 32 := ⟨by decide +kernel, rfl⟩
theorem dX8_set_32 : DR cX8_set 32 (.ireturn) 1 33 := ⟨by decide +kernel, rfl⟩
theorem dX8_set_33 : DR cX8_set 33 (.aload_n 0) 1 34 := ⟨by decide +kernel, rfl⟩
theorem dX8_set_34 : DR cX8_set 34 (.getfield 38) 3 37 := ⟨by decide +kernel, rfl⟩
theorem dX8_set_37 : DR cX8_set 37 (.aload_n 0) 1 38 := ⟨by decide +kernel, rfl⟩
theorem dX8_set_38 : DR cX8_set 38 (.getfield 26) 3 41 := ⟨by decide +kernel, rfl⟩
theorem dX8_set_41 : DR cX8_set 41 (.invokevirtual 136) 3 44 := ⟨by decide +kernel, rfl⟩
theorem dX8_set_44 : DR cX8_set 44 (.aload_n 0) 1 45 := ⟨by decide +kernel, rfl⟩
theorem dX8_set_45 : DR cX8_set 45 (.getfield 26) 3 48 := ⟨by decide +kernel, rfl⟩
theorem dX8_set_48 : DR cX8_set 48 (.iload_n 1) 1 49 := ⟨by decide +kernel, rfl⟩
theorem dX8_set_49 : DR cX8_set 49 (.invokevirtual 111) 3 52 := ⟨by decide +kernel, rfl⟩
theorem dX8_set_52 : DR cX8_set 52 (.getfield 166) 3 55 := ⟨by decide +kernel, rfl⟩
theorem dX8_set_55 : DR cX8_set 55 (.istore_n 3) 1 56 := ⟨by decide +kernel, rfl⟩
theorem dX8_set_56 : DR cX8_set 56 (.aload_n 0) 1 57 := ⟨by decide +kernel, rfl⟩
theorem dX8_set_57 : DR cX8_set 57 (.getfield 26) 3 60 := ⟨by decide +kernel, rfl⟩
theorem dX8_set_60 : DR cX8_set 60 (.iload_n 1) 1 61 := ⟨by decide +kernel, rfl⟩
theorem dX8_set_61 : DR cX8_set 61 (.invokevirtual 111) 3 64 := ⟨by decide +kernel, rfl⟩
theorem dX8_set_64 : DR cX8_set 64 (.iload_n 2) 1 65 := ⟨by decide +kernel, rfl⟩
theorem dX8_set_65 : DR cX8_set 65 (.putfield 166) 3 68 := ⟨by decide +kernel, rfl⟩
theorem dX8_set_68 : DR cX8_set 68 (.aload_n 0) 1 69 := ⟨by decide +kernel, rfl⟩
theorem dX8_set_69 : DR cX8_set 69 (.getfield 26) 3 72 := ⟨by decide +kernel, rfl⟩
theorem dX8_set_72 : DR cX8_set 72 (.invokevirtual 169) 3 75 := ⟨by decide +kernel, rfl⟩
theorem dX8_set_75 : DR cX8_set 75 (.iload_n 3) 1 76 := ⟨by decide +kernel, rfl⟩
theorem dX8_set_76 : DR cX8_set 76 (.ireturn) 1 77 := ⟨by decide +kernel, rfl⟩
theorem dX8_undo_0 : DR cX8_undo 0 (.aload_n 0) 1 1 := ⟨by decide +kernel, rfl⟩
theorem dX8_undo_1 : DR cX8_undo 1 (.getfield 38) 3 4 := ⟨by decide +kernel, rfl⟩
theorem dX8_undo_4 : DR cX8_undo 4 (.getfield 172) 3 7 := ⟨by decide +kernel, rfl⟩
theorem dX8_undo_7 : DB cX8_undo 7 (.ifCond .ne 6) 3 (6) 10 13 := ⟨by decide +kernel, rfl, by decide⟩
theorem dX8_undo_10 : DR cX8_undo 10 (.bipush (-2)) 2 12 := ⟨by decide +kernel, rfl⟩
theorem dX8_undo_12 : DR cX8_undo 12 (.ireturn) 1 13 := ⟨by decide +kernel, rfl⟩
theorem dX8_undo_13 : DR cX8_undo 13 (.aload_n 0) 1 14 := ⟨by decide +kernel, rfl⟩
theorem dX8_undo_14 : DR cX8_undo 14 (.getfield 38) 3 17 := ⟨by decide +kernel, rfl⟩
theorem dX8_undo_17 : DR cX8_undo 17 (.aload_n 0) 1 18 := ⟨by decide +kernel, rfl⟩
theorem dX8_undo_18 : DR cX8_undo 18 (.getfield 26) 3 21 := ⟨by decide +kernel, rfl⟩
theorem dX8_undo_21 : DR cX8_undo 21 (.invokevirtual 173) 3 24 := ⟨by decide +kernel, rfl⟩
theorem dX8_undo_24 : DR cX8_undo 24 (.aload_n 0) 1 25 := ⟨by decide +kernel, rfl⟩
theorem dX8_undo_25 : DR cX8_undo 25 (.getfield 38) 3 28 := ⟨by decide +kernel, rfl⟩
theorem dX8_undo_28 : DR cX8_undo 28 (.getfield 172) 3 31 := ⟨by decide +kernel, rfl⟩
theorem dX8_undo_31 : DR cX8_undo 31 (.ireturn) 1 32 := ⟨by decide +kernel, rfl⟩
theorem dX8_behind_0 : DR cX8_behind 0 (.iload_n 1) 1 1 := ⟨by decide +kernel, rfl⟩
theorem dX8_behind_1 : DR cX8_behind 1 (.iconst 0) 1 2 := ⟨by decide +kernel, rfl⟩
theorem dX8_behind_2 : DR cX8_behind 2 (.bipush 24) 2 4 := ⟨by decide +kernel, rfl⟩
theorem dX8_behind_4 : DR cX8_behind 4 (.invokestatic 91) 3 7 := ⟨by decide +kernel, rfl⟩
theorem dX8_behind_7 : DB cX8_behind 7 (.ifCond .ne 20) 3 (20) 10 27 := ⟨by decide +kernel, rfl, by decide⟩
theorem dX8_behind_10 : DR cX8_behind 10 (.aload_n 0) 1 11 := ⟨by decide +kernel, rfl⟩
theorem dX8_behind_11 : DR cX8_behind 11 (.iload_n 2) 1 12 := ⟨by decide +kernel, rfl⟩
theorem dX8_behind_12 : DR cX8_behind 12 (.invokevirtual 107) 3 15 := ⟨by decide +kernel, rfl⟩
theorem dX8_behind_15 : DB cX8_behind 15 (.ifCond .ne 12) 3 (12) 18 27 := ⟨by decide +kernel, rfl, by decide⟩
theorem dX8_behind_18 : DR cX8_behind 18 (.iload_n 3) 1 19 := ⟨by decide +kernel, rfl⟩
theorem dX8_behind_19 : DR cX8_behind 19 (.iconst 0) 1 20 := ⟨by decide +kernel, rfl⟩
theorem dX8_behind_20 : DR cX8_behind 20 (.iconst 1) 1 21 := ⟨by decide +kernel, rfl⟩
theorem dX8_behind_21 : DR cX8_behind 21 (.invokestatic 91) 3 24 := ⟨by decide +kernel, rfl⟩
theorem dX8_behind_24 : DB cX8_behind 24 (.ifCond .eq 5) 3 (5) 27 29 := ⟨by decide +kernel, rfl, by decide⟩
theorem dX8_behind_27 : DR cX8_behind 27 (.iconst (-1)) 1 28 := ⟨by decide +kernel, rfl⟩
theorem dX8_behind_28 : DR cX8_behind 28 (.ireturn) 1 29 := ⟨by decide +kernel, rfl⟩
theorem dX8_behind_29 : DR cX8_behind 29 (.aload_n 0) 1 30 := ⟨by decide +kernel, rfl⟩
theorem dX8_behind_30 : DR cX8_behind 30 (.getfield 30) 3 33 := ⟨by decide +kernel, rfl⟩
theorem dX8_behind_33 : DR cX8_behind 33 (.aload_n 0) 1 34 := ⟨by decide +kernel, rfl⟩
theorem dX8_behind_34 : DR cX8_behind 34 (.getfield 26) 3 37 := ⟨by decide +kernel, rfl⟩
theorem dX8_behind_37 : DR cX8_behind 37 (.invokevirtual 176) 3 40 := ⟨by decide +kernel, rfl⟩
theorem dX8_behind_40 : DR cX8_behind 40 (.aload_n 0) 1 41 := ⟨by decide +kernel, rfl⟩
theorem dX8_behind_41 : DR cX8_behind 41 (.getfield 62) 3 44 := ⟨by decide +kernel, rfl⟩
theorem dX8_behind_44 : DR cX8_behind 44 (.aload_n 0) 1 45 := ⟨by decide +kernel, rfl⟩
theorem dX8_behind_45 : DR cX8_behind 45 (.getfield 30) 3 48 := ⟨by decide +kernel, rfl⟩
theorem dX8_behind_48 : DR cX8_behind 48 (.iload_n 1) 1 49 := ⟨by decide +kernel, rfl⟩
theorem dX8_behind_49 : DR cX8_behind 49 (.invokevirtual 140) 3 52 := ⟨by decide +kernel, rfl⟩
theorem dX8_behind_52 : DR cX8_behind 52 (.iload_n 3) 1 53 := ⟨by decide +kernel, rfl⟩
theorem dX8_behind_53 : DB cX8_behind 53 (.ifCond .ne 17) 3 (17) 56 70 := ⟨by decide +kernel, rfl, by decide⟩
theorem dX8_behind_56 : DR cX8_behind 56 (.aload_n 0) 1 57 := ⟨by decide +kernel, rfl⟩
theorem dX8_behind_57 : DR cX8_behind 57 (.getfield 30) 3 60 := ⟨by decide +kernel, rfl⟩
theorem dX8_behind_60 : DR cX8_behind 60 (.iload_n 2) 1 61 := ⟨by decide +kernel, rfl⟩
theorem dX8_behind_61 : DR cX8_behind 61 (.invokevirtual 111) 3 64 := ⟨by decide +kernel, rfl⟩
theorem dX8_behind_64 : DR cX8_behind 64 (.getfield 154) 3 67 := ⟨by decide +kernel, rfl⟩
theorem dX8_behind_67 : DB cX8_behind 67 (.goto 14) 3 (14) 70 81 := ⟨by decide +kernel, rfl, by decide⟩
theorem dX8_behind_70 : DR cX8_behind 70 (.aload_n 0) 1 71 := ⟨by decide +kernel, rfl⟩
theorem dX8_behind_71 : DR cX8_behind 71 (.getfield 30) 3 74 := ⟨by decide +kernel, rfl⟩
theorem dX8_behind_74 : DR cX8_behind 74 (.iload_n 2) 1 75 := ⟨by decide +kernel, rfl⟩
theorem dX8_behind_75 : DR cX8_behind 75 (.invokevirtual 111) 3 78 := ⟨by decide +kernel, rfl⟩
theorem dX8_behind_78 : DR cX8_behind 78 (.getfield 179) 3 81 := ⟨by decide +kernel, rfl⟩
theorem dX8_behind_81 : DR cX8_behind 81 (.ireturn) 1 82 := ⟨by decide +kernel, rfl⟩
theorem dX8_yards_0 : DR cX8_yards 0 (.aload_n 0) 1 1 := ⟨by decide +kernel, rfl⟩
theorem dX8_yards_1 : DR cX8_yards 1 (.getfield 30) 3 4 := ⟨by decide +kernel, rfl⟩
theorem dX8_yards_4 : DR cX8_yards 4 (.aload_n 0) 1 5 := ⟨by decide +kernel, rfl⟩
theorem dX8_yards_5 : DR cX8_yards 5 (.getfield 26) 3 8 := ⟨by decide +kernel, rfl⟩
theorem dX8_yards_8 : DR cX8_yards 8 (.invokevirtual 176) 3 11 := ⟨by decide +kernel, rfl⟩
theorem dX8_yards_11 : DR cX8_yards 11 (.aload_n 0) 1 12 := ⟨by decide +kernel, rfl⟩
theorem dX8_yards_12 : DR cX8_yards 12 (.invokevirtual 182) 3 15 := ⟨by decide +kernel, rfl⟩
theorem dX8_yards_15 : DR cX8_yards 15 (.ireturn) 1 16 := ⟨by decide +kernel, rfl⟩
theorem dX8_setting_0 : DR cX8_setting 0 (.iload_n 1) 1 1 := ⟨by decide +kernel, rfl⟩
theorem dX8_setting_1 : DR cX8_setting 1 (.iconst (-1)) 1 2 := ⟨by decide +kernel, rfl⟩
theorem dX8_setting_2 : DR cX8_setting 2 (.aload_n 0) 1 3 := ⟨by decide +kernel, rfl⟩
theorem dX8_setting_3 : DR cX8_setting 3 (.getfield 26) 3 6 := ⟨by decide +kernel, rfl⟩
theorem dX8_setting_6 : DR cX8_setting 6 (.getfield 185) 3 9 := ⟨by decide +kernel, rfl⟩
theorem dX8_setting_9 : DR cX8_setting 9 (.iconst 1) 1 10 := ⟨by decide +kernel, rfl⟩
theorem dX8_setting_10 : DR cX8_setting 10 (.isub) 1 11 := ⟨by decide +kernel, rfl⟩
theorem dX8_setting_11 : DR cX8_setting 11 (.invokestatic 91) 3 14 := ⟨by decide +kernel, rfl⟩
theorem dX8_setting_14 : DB cX8_setting 14 (.ifCond .eq 5) 3 (5) 17 19 := ⟨by decide +kernel, rfl, by decide⟩
theorem dX8_setting_17 : DR cX8_setting 17 (.iconst (-1)) 1 18 := ⟨by decide +kernel, rfl⟩
theorem dX8_setting_18 : DR cX8_setting 18 (.ireturn) 1 19 := ⟨by decide +kernel, rfl⟩
theorem dX8_setting_19 : DR cX8_setting 19 (.aload_n 0) 1 20 := ⟨by decide +kernel, rfl⟩
theorem dX8_setting_20 : DR cX8_setting 20 (.getfield 26) 3 23 := ⟨by decide +kernel, rfl⟩
theorem dX8_setting_23 : DR cX8_setting 23 (.invokevirtual 186) 3 26 := ⟨by decide +kernel, rfl⟩
theorem dX8_setting_26 : DR cX8_setting 26 (.istore_n 2) 1 27 := ⟨by decide +kernel, rfl⟩
theorem dX8_setting_27 : DR cX8_setting 27 (.aload_n 0) 1 28 := ⟨by decide +kernel, rfl⟩
theorem dX8_setting_28 : DR cX8_setting 28 (.getfield 55) 3 31 := ⟨by decide +kernel, rfl⟩
theorem dX8_setting_31 : DR cX8_setting 31 (.aload_n 0) 1 32 := ⟨by decide +kernel, rfl⟩
theorem dX8_setting_32 : DR cX8_setting 32 (.getfield 26) 3 35 := ⟨by decide +kernel, rfl⟩
theorem dX8_setting_35 : DR cX8_setting 35 (.invokevirtual 189) 3 38 := ⟨by decide +kernel, rfl⟩
theorem dX8_setting_38 : DR cX8_setting 38 (.iconst 1) 1 39 := ⟨by decide +kernel, rfl⟩
theorem dX8_setting_39 : DR cX8_setting 39 (.istore_n 3) 1 40 := ⟨by decide +kernel, rfl⟩
theorem dX8_setting_40 : DR cX8_setting 40 (.iconst 0) 1 41 := ⟨by decide +kernel, rfl⟩
theorem dX8_setting_41 : DR cX8_setting 41 (.istore 4) 2 43 := ⟨by decide +kernel, rfl⟩
theorem dX8_setting_43 : DR cX8_setting 43 (.iload_n 3) 1 44 := ⟨by decide +kernel, rfl⟩
theorem dX8_setting_44 : DB cX8_setting 44 (.ifCond .eq 76) 3 (76) 47 120 := ⟨by decide +kernel, rfl, by decide⟩
theorem dX8_setting_47 : DR cX8_setting 47 (.iload 4) 2 49 := ⟨by decide +kernel, rfl⟩
theorem dX8_setting_49 : DR cX8_setting 49 (.sipush 720) 3 52 := ⟨by decide +kernel, rfl⟩
theorem dX8_setting_52 : DB cX8_setting 52 (.if_icmp .ge 68) 3 (68) 55 120 := ⟨by decide +kernel, rfl, by decide⟩
theorem dX8_setting_55 : DR cX8_setting 55 (.aload_n 0) 1 56 := ⟨by decide +kernel, rfl⟩
theorem dX8_setting_56 : DR cX8_setting 56 (.getfield 30) 3 59 := ⟨by decide +kernel, rfl⟩
theorem dX8_setting_59 : DR cX8_setting 59 (.aload_n 0) 1 60 := ⟨by decide +kernel, rfl⟩
theorem dX8_setting_60 : DR cX8_setting 60 (.getfield 26) 3 63 := ⟨by decide +kernel, rfl⟩
theorem dX8_setting_63 : DR cX8_setting 63 (.invokevirtual 176) 3 66 := ⟨by decide +kernel, rfl⟩
theorem dX8_setting_66 : DR cX8_setting 66 (.aload_n 0) 1 67 := ⟨by decide +kernel, rfl⟩
theorem dX8_setting_67 : DR cX8_setting 67 (.getfield 55) 3 70 := ⟨by decide +kernel, rfl⟩
theorem dX8_setting_70 : DR cX8_setting 70 (.aload_n 0) 1 71 := ⟨by decide +kernel, rfl⟩
theorem dX8_setting_71 : DR cX8_setting 71 (.getfield 30) 3 74 := ⟨by decide +kernel, rfl⟩
theorem dX8_setting_74 : DR cX8_setting 74 (.invokevirtual 192) 3 77 := ⟨by decide +kernel, rfl⟩
theorem dX8_setting_77 : DR cX8_setting 77 (.aload_n 0) 1 78 := ⟨by decide +kernel, rfl⟩
theorem dX8_setting_78 : DR cX8_setting 78 (.invokevirtual 182) 3 81 := ⟨by decide +kernel, rfl⟩
theorem dX8_setting_81 : DR cX8_setting 81 (.invokestatic 195) 3 84 := ⟨by decide +kernel, rfl⟩
theorem dX8_setting_84 : DR cX8_setting 84 (.istore 5) 2 86 := ⟨by decide +kernel, rfl⟩
theorem dX8_setting_86 : DR cX8_setting 86 (.aload_n 0) 1 87 := ⟨by decide +kernel, rfl⟩
theorem dX8_setting_87 : DR cX8_setting 87 (.getfield 30) 3 90 := ⟨by decide +kernel, rfl⟩
theorem dX8_setting_90 : DR cX8_setting 90 (.invokevirtual 186) 3 93 := ⟨by decide +kernel, rfl⟩
theorem dX8_setting_93 : DR cX8_setting 93 (.iload_n 2) 1 94 := ⟨by decide +kernel, rfl⟩
theorem dX8_setting_94 : DB cX8_setting 94 (.if_icmp .ne 12) 3 (12) 97 106 := ⟨by decide +kernel, rfl, by decide⟩
theorem dX8_setting_97 : DR cX8_setting 97 (.aload_n 0) 1 98 := ⟨by decide +kernel, rfl⟩
theorem dX8_setting_98 : DR cX8_setting 98 (.getfield 55) 3 101 := ⟨by decide +kernel, rfl⟩
theorem dX8_setting_101 : DR cX8_setting 101 (.iload 5) 2 103 := ⟨by decide +kernel, rfl⟩
theorem dX8_setting_103 : DR cX8_setting 103 (.invokevirtual 200) 3 106 := ⟨by decide +kernel, rfl⟩
theorem dX8_setting_106 : DR cX8_setting 106 (.aload_n 0) 1 107 := ⟨by decide +kernel, rfl⟩
theorem dX8_setting_107 : DR cX8_setting 107 (.getfield 55) 3 110 := ⟨by decide +kernel, rfl⟩
theorem dX8_setting_110 : DR cX8_setting 110 (.invokevirtual 203) 3 113 := ⟨by decide +kernel, rfl⟩
theorem dX8_setting_113 : DR cX8_setting 113 (.istore_n 3) 1 114 := ⟨by decide +kernel, rfl⟩
theorem dX8_setting_114 : DR cX8_setting 114 (.iinc 4 1) 3 117 := ⟨by decide +kernel, rfl⟩
theorem dX8_setting_117 : DB cX8_setting 117 (.goto (-74)) 3 (-74) 120 43 := ⟨by decide +kernel, rfl, by decide⟩
theorem dX8_setting_120 : DR cX8_setting 120 (.aload_n 0) 1 121 := ⟨by decide +kernel, rfl⟩
theorem dX8_setting_121 : DR cX8_setting 121 (.getfield 55) 3 124 := ⟨by decide +kernel, rfl⟩
theorem dX8_setting_124 : DR cX8_setting 124 (.invokevirtual 206) 3 127 := ⟨by decide +kernel, rfl⟩
theorem dX8_setting_127 : DB cX8_setting 127 (.ifCond .ne 6) 3 (6) 130 133 := ⟨by decide +kernel, rfl, by decide⟩
theorem dX8_setting_130 : DR cX8_setting 130 (.bipush (-4)) 2 132 := ⟨by decide +kernel, rfl⟩
theorem dX8_setting_132 : DR cX8_setting 132 (.ireturn) 1 133 := ⟨by decide +kernel, rfl⟩
theorem dX8_setting_133 : DR cX8_setting 133 (.iload_n 1) 1 134 := ⟨by decide +kernel, rfl⟩
theorem dX8_setting_134 : DB cX8_setting 134 (.ifCond .ge 13) 3 (13) 137 147 := ⟨by decide +kernel, rfl, by decide⟩
theorem dX8_setting_137 : DR cX8_setting 137 (.aload_n 0) 1 138 := ⟨by decide +kernel, rfl⟩
theorem dX8_setting_138 : DR cX8_setting 138 (.getfield 55) 3 141 := ⟨by decide +kernel, rfl⟩
theorem dX8_setting_141 : DR cX8_setting 141 (.getfield 209) 3 144 := ⟨by decide +kernel, rfl⟩
theorem dX8_setting_144 : DB cX8_setting 144 (.goto 11) 3 (11) 147 155 := ⟨by decide +kernel, rfl, by decide⟩
theorem dX8_setting_147 : DR cX8_setting 147 (.aload_n 0) 1 148 := ⟨by decide +kernel, rfl⟩
theorem dX8_setting_148 : DR cX8_setting 148 (.getfield 55) 3 151 := ⟨by decide +kernel, rfl⟩
theorem dX8_setting_151 : DR cX8_setting 151 (.iload_n 1) 1 152 := ⟨by decide +kernel, rfl⟩
theorem dX8_setting_152 : DR cX8_setting 152 (.invokevirtual 212) 3 155 := ⟨by decide +kernel, rfl⟩
theorem dX8_setting_155 : DR cX8_setting 155 (.ireturn) 1 156 := ⟨by decide +kernel, rfl⟩
theorem dX8_shading_0 : DR cX8_shading 0 (.iload_n 1) 1 1 := ⟨by decide +kernel, rfl⟩
theorem dX8_shading_1 : DR cX8_shading 1 (.iconst 0) 1 2 := ⟨by decide +kernel, rfl⟩
theorem dX8_shading_2 : DR cX8_shading 2 (.iconst 1) 1 3 := ⟨by decide +kernel, rfl⟩
theorem dX8_shading_3 : DR cX8_shading 3 (.invokestatic 91) 3 6 := ⟨by decide +kernel, rfl⟩
theorem dX8_shading_6 : DB cX8_shading 6 (.ifCond .eq 5) 3 (5) 9 11 := ⟨by decide +kernel, rfl, by decide⟩
theorem dX8_shading_9 : DR cX8_shading 9 (.iconst (-1)) 1 10 := ⟨by decide +kernel, rfl⟩
theorem dX8_shading_10 : DR cX8_shading 10 (.ireturn) 1 11 := ⟨by decide +kernel, rfl⟩
theorem dX8_shading_11 : DR cX8_shading 11 (.aload_n 0) 1 12 := ⟨by decide +kernel, rfl⟩
theorem dX8_shading_12 : DR cX8_shading 12 (.getfield 26) 3 15 := ⟨by decide +kernel, rfl⟩
theorem dX8_shading_15 : DR cX8_shading 15 (.invokevirtual 215) 3 18 := ⟨by decide +kernel, rfl⟩
theorem dX8_shading_18 : DR cX8_shading 18 (.istore_n 2) 1 19 := ⟨by decide +kernel, rfl⟩
theorem dX8_shading_19 : DR cX8_shading 19 (.iconst 0) 1 20 := ⟨by decide +kernel, rfl⟩
theorem dX8_shading_20 : DR cX8_shading 20 (.istore_n 3) 1 21 := ⟨by decide +kernel, rfl⟩
theorem dX8_shading_21 : DR cX8_shading 21 (.aload_n 0) 1 22 := ⟨by decide +kernel, rfl⟩
theorem dX8_shading_22 : DR cX8_shading 22 (.iload_n 3) 1 23 := ⟨by decide +kernel, rfl⟩
theorem dX8_shading_23 : DR cX8_shading 23 (.invokevirtual 218) 3 26 := ⟨by decide +kernel, rfl⟩
theorem dX8_shading_26 : DR cX8_shading 26 (.aload_n 0) 1 27 := ⟨by decide +kernel, rfl⟩
theorem dX8_shading_27 : DR cX8_shading 27 (.invokevirtual 182) 3 30 := ⟨by decide +kernel, rfl⟩
theorem dX8_shading_30 : DR cX8_shading 30 (.invokestatic 195) 3 33 := ⟨by decide +kernel, rfl⟩
theorem dX8_shading_33 : DR cX8_shading 33 (.istore 4) 2 35 := ⟨by decide +kernel, rfl⟩
theorem dX8_shading_35 : DR cX8_shading 35 (.iconst 1) 1 36 := ⟨by decide +kernel, rfl⟩
theorem dX8_shading_36 : DR cX8_shading 36 (.istore 5) 2 38 := ⟨by decide +kernel, rfl⟩
theorem dX8_shading_38 : DR cX8_shading 38 (.iload 5) 2 40 := ⟨by decide +kernel, rfl⟩
theorem dX8_shading_40 : DR cX8_shading 40 (.iconst 1) 1 41 := ⟨by decide +kernel, rfl⟩
theorem dX8_shading_41 : DR cX8_shading 41 (.aload_n 0) 1 42 := ⟨by decide +kernel, rfl⟩
theorem dX8_shading_42 : DR cX8_shading 42 (.getfield 26) 3 45 := ⟨by decide +kernel, rfl⟩
theorem dX8_shading_45 : DR cX8_shading 45 (.getfield 185) 3 48 := ⟨by decide +kernel, rfl⟩
theorem dX8_shading_48 : DR cX8_shading 48 (.ishl) 1 49 := ⟨by decide +kernel, rfl⟩
theorem dX8_shading_49 : DB cX8_shading 49 (.if_icmp .ge 79) 3 (79) 52 128 := ⟨by decide +kernel, rfl, by decide⟩
theorem dX8_shading_52 : DR cX8_shading 52 (.iload 5) 2 54 := ⟨by decide +kernel, rfl⟩
theorem dX8_shading_54 : DR cX8_shading 54 (.iload_n 2) 1 55 := ⟨by decide +kernel, rfl⟩
theorem dX8_shading_55 : DR cX8_shading 55 (.iand) 1 56 := ⟨by decide +kernel, rfl⟩
theorem dX8_shading_56 : DB cX8_shading 56 (.ifCond .eq 6) 3 (6) 59 62 := ⟨by decide +kernel, rfl, by decide⟩
theorem dX8_shading_59 : DB cX8_shading 59 (.goto 63) 3 (63) 62 122 := ⟨by decide +kernel, rfl, by decide⟩
theorem dX8_shading_62 : DR cX8_shading 62 (.aload_n 0) 1 63 := ⟨by decide +kernel, rfl⟩
theorem dX8_shading_63 : DR cX8_shading 63 (.iload 5) 2 65 := ⟨by decide +kernel, rfl⟩
theorem dX8_shading_65 : DR cX8_shading 65 (.invokevirtual 218) 3 68 := ⟨by decide +kernel, rfl⟩
theorem dX8_shading_68 : DR cX8_shading 68 (.aload_n 0) 1 69 := ⟨by decide +kernel, rfl⟩
theorem dX8_shading_69 : DR cX8_shading 69 (.invokevirtual 182) 3 72 := ⟨by decide +kernel, rfl⟩
theorem dX8_shading_72 : DR cX8_shading 72 (.invokestatic 195) 3 75 := ⟨by decide +kernel, rfl⟩
theorem dX8_shading_75 : DR cX8_shading 75 (.istore 6) 2 77 := ⟨by decide +kernel, rfl⟩
theorem dX8_shading_77 : DR cX8_shading 77 (.iload 5) 2 79 := ⟨by decide +kernel, rfl⟩
theorem dX8_shading_79 : DR cX8_shading 79 (.invokestatic 195) 3 82 := ⟨by decide +kernel, rfl⟩
theorem dX8_shading_82 : DR cX8_shading 82 (.iload_n 3) 1 83 := ⟨by decide +kernel, rfl⟩
theorem dX8_shading_83 : DR cX8_shading 83 (.invokestatic 195) 3 86 := ⟨by decide +kernel, rfl⟩
theorem dX8_shading_86 : DB cX8_shading 86 (.if_icmp .ge 7) 3 (7) 89 93 := ⟨by decide +kernel, rfl, by decide⟩
theorem dX8_shading_89 : DR cX8_shading 89 (.iconst 1) 1 90 := ⟨by decide +kernel, rfl⟩
theorem dX8_shading_90 : DB cX8_shading 90 (.goto 4) 3 (4) 93 94 := ⟨by decide +kernel, rfl, by decide⟩
theorem dX8_shading_93 : DR cX8_shading 93 (.iconst 0) 1 94 := ⟨by decide +kernel, rfl⟩
theorem dX8_shading_94 : DR cX8_shading 94 (.istore 7) 2 96 := ⟨by decide +kernel, rfl⟩
theorem dX8_shading_96 : DR cX8_shading 96 (.iload 6) 2 98 := ⟨by decide +kernel, rfl⟩
theorem dX8_shading_98 : DR cX8_shading 98 (.iload 4) 2 100 := ⟨by decide +kernel, rfl⟩
theorem dX8_shading_100 : DB cX8_shading 100 (.if_icmp .gt 15) 3 (15) 103 115 := ⟨by decide +kernel, rfl, by decide⟩
theorem dX8_shading_103 : DR cX8_shading 103 (.iload 6) 2 105 := ⟨by decide +kernel, rfl⟩
theorem dX8_shading_105 : DR cX8_shading 105 (.iload 4) 2 107 := ⟨by decide +kernel, rfl⟩
theorem dX8_shading_107 : DB cX8_shading 107 (.if_icmp .ne 15) 3 (15) 110 122 := ⟨by decide +kernel, rfl, by decide⟩
theorem dX8_shading_110 : DR cX8_shading 110 (.iload 7) 2 112 := ⟨by decide +kernel, rfl⟩
theorem dX8_shading_112 : DB cX8_shading 112 (.ifCond .eq 10) 3 (10) 115 122 := ⟨by decide +kernel, rfl, by decide⟩
theorem dX8_shading_115 : DR cX8_shading 115 (.iload 6) 2 117 := ⟨by decide +kernel, rfl⟩
theorem dX8_shading_117 : DR cX8_shading 117 (.istore 4) 2 119 := ⟨by decide +kernel, rfl⟩
theorem dX8_shading_119 : DR cX8_shading 119 (.iload 5) 2 121 := ⟨by decide +kernel, rfl⟩
theorem dX8_shading_121 : DR cX8_shading 121 (.istore_n 3) 1 122 := ⟨by decide +kernel, rfl⟩
theorem dX8_shading_122 : DR cX8_shading 122 (.iinc 5 1) 3 125 := ⟨by decide +kernel, rfl⟩
theorem dX8_shading_125 : DB cX8_shading 125 (.goto (-87)) 3 (-87) 128 38 := ⟨by decide +kernel, rfl, by decide⟩
theorem dX8_shading_128 : DR cX8_shading 128 (.iload_n 1) 1 129 := ⟨by decide +kernel, rfl⟩
theorem dX8_shading_129 : DB cX8_shading 129 (.ifCond .ne 8) 3 (8) 132 137 := ⟨by decide +kernel, rfl, by decide⟩
theorem dX8_shading_132 : DR cX8_shading 132 (.iload 4) 2 134 := ⟨by decide +kernel, rfl⟩
theorem dX8_shading_134 : DB cX8_shading 134 (.goto 4) 3 (4) 137 138 := ⟨by decide +kernel, rfl, by decide⟩
theorem dX8_shading_137 : DR cX8_shading 137 (.iload_n 3) 1 138 := ⟨by decide +kernel, rfl⟩
theorem dX8_shading_138 : DR cX8_shading 138 (.ireturn) 1 139 := ⟨by decide +kernel, rfl⟩
theorem dX8_wants_0 : DR cX8_wants 0 (.aload_n 0) 1 1 := ⟨by decide +kernel, rfl⟩
theorem dX8_wants_1 : DR cX8_wants 1 (.iload_n 1) 1 2 := ⟨by decide +kernel, rfl⟩
theorem dX8_wants_2 : DR cX8_wants 2 (.invokevirtual 107) 3 5 := ⟨by decide +kernel, rfl⟩
theorem dX8_wants_5 : DB cX8_wants 5 (.ifCond .eq 5) 3 (5) 8 10 := ⟨by decide +kernel, rfl, by decide⟩
theorem dX8_wants_8 : DR cX8_wants 8 (.iconst (-1)) 1 9 := ⟨by decide +kernel, rfl⟩
theorem dX8_wants_9 : DR cX8_wants 9 (.ireturn) 1 10 := ⟨by decide +kernel, rfl⟩
theorem dX8_wants_10 : DR cX8_wants 10 (.iconst 0) 1 11 := ⟨by decide +kernel, rfl⟩
theorem dX8_wants_11 : DR cX8_wants 11 (.istore_n 2) 1 12 := ⟨by decide +kernel, rfl⟩
theorem dX8_wants_12 : DR cX8_wants 12 (.iload_n 2) 1 13 := ⟨by decide +kernel, rfl⟩
theorem dX8_wants_13 : DR cX8_wants 13 (.bipush 9) 2 15 := ⟨by decide +kernel, rfl⟩
theorem dX8_wants_15 : DB cX8_wants 15 (.if_icmp .gt 50) 3 (50) 18 65 := ⟨by decide +kernel, rfl, by decide⟩
theorem dX8_wants_18 : DR cX8_wants 18 (.aload_n 0) 1 19 := ⟨by decide +kernel, rfl⟩
theorem dX8_wants_19 : DR cX8_wants 19 (.getfield 30) 3 22 := ⟨by decide +kernel, rfl⟩
theorem dX8_wants_22 : DR cX8_wants 22 (.aload_n 0) 1 23 := ⟨by decide +kernel, rfl⟩
theorem dX8_wants_23 : DR cX8_wants 23 (.getfield 26) 3 26 := ⟨by decide +kernel, rfl⟩
theorem dX8_wants_26 : DR cX8_wants 26 (.invokevirtual 176) 3 29 := ⟨by decide +kernel, rfl⟩
theorem dX8_wants_29 : DR cX8_wants 29 (.aload_n 0) 1 30 := ⟨by decide +kernel, rfl⟩
theorem dX8_wants_30 : DR cX8_wants 30 (.getfield 30) 3 33 := ⟨by decide +kernel, rfl⟩
theorem dX8_wants_33 : DR cX8_wants 33 (.iload_n 1) 1 34 := ⟨by decide +kernel, rfl⟩
theorem dX8_wants_34 : DR cX8_wants 34 (.invokevirtual 111) 3 37 := ⟨by decide +kernel, rfl⟩
theorem dX8_wants_37 : DR cX8_wants 37 (.dup) 1 38 := ⟨by decide +kernel, rfl⟩
theorem dX8_wants_38 : DR cX8_wants 38 (.getfield 221) 3 41 := ⟨by decide +kernel, rfl⟩
theorem dX8_wants_41 : DR cX8_wants 41 (.iload_n 2) 1 42 := ⟨by decide +kernel, rfl⟩
theorem dX8_wants_42 : DR cX8_wants 42 (.iadd) 1 43 := ⟨by decide +kernel, rfl⟩
theorem dX8_wants_43 : DR cX8_wants 43 (.putfield 221) 3 46 := ⟨by decide +kernel, rfl⟩
theorem dX8_wants_46 : DR cX8_wants 46 (.aload_n 0) 1 47 := ⟨by decide +kernel, rfl⟩
theorem dX8_wants_47 : DR cX8_wants 47 (.invokevirtual 182) 3 50 := ⟨by decide +kernel, rfl⟩
theorem dX8_wants_50 : DR cX8_wants 50 (.iload_n 1) 1 51 := ⟨by decide +kernel, rfl⟩
theorem dX8_wants_51 : DR cX8_wants 51 (.invokestatic 224) 3 54 := ⟨by decide +kernel, rfl⟩
theorem dX8_wants_54 : DB cX8_wants 54 (.ifCond .eq 5) 3 (5) 57 59 := ⟨by decide +kernel, rfl, by decide⟩
theorem dX8_wants_57 : DR cX8_wants 57 (.iload_n 2) 1 58 := ⟨by decide +kernel, rfl⟩
theorem dX8_wants_58 : DR cX8_wants 58 (.ireturn) 1 59 := ⟨by decide +kernel, rfl⟩
theorem dX8_wants_59 : DR cX8_wants 59 (.iinc 2 1) 3 62 := ⟨by decide +kernel, rfl⟩
theorem dX8_wants_62 : DB cX8_wants 62 (.goto (-50)) 3 (-50) 65 12 := ⟨by decide +kernel, rfl, by decide⟩
theorem dX8_wants_65 : DR cX8_wants 65 (.bipush (-4)) 2 67 := ⟨by decide +kernel, rfl⟩
theorem dX8_wants_67 : DR cX8_wants 67 (.ireturn) 1 68 := ⟨by decide +kernel, rfl⟩
theorem dX8_drips_0 : DR cX8_drips 0 (.aload_n 0) 1 1 := ⟨by decide +kernel, rfl⟩
theorem dX8_drips_1 : DR cX8_drips 1 (.iload_n 1) 1 2 := ⟨by decide +kernel, rfl⟩
theorem dX8_drips_2 : DR cX8_drips 2 (.invokevirtual 107) 3 5 := ⟨by decide +kernel, rfl⟩
theorem dX8_drips_5 : DB cX8_drips 5 (.ifCond .eq 5) 3 (5) 8 10 := ⟨by decide +kernel, rfl, by decide⟩
theorem dX8_drips_8 : DR cX8_drips 8 (.iconst (-1)) 1 9 := ⟨by decide +kernel, rfl⟩
theorem dX8_drips_9 : DR cX8_drips 9 (.ireturn) 1 10 := ⟨by decide +kernel, rfl⟩
theorem dX8_drips_10 : DR cX8_drips 10 (.aload_n 0) 1 11 := ⟨by decide +kernel, rfl⟩
theorem dX8_drips_11 : DR cX8_drips 11 (.getfield 26) 3 14 := ⟨by decide +kernel, rfl⟩
theorem dX8_drips_14 : DR cX8_drips 14 (.iload_n 1) 1 15 := ⟨by decide +kernel, rfl⟩
theorem dX8_drips_15 : DR cX8_drips 15 (.invokevirtual 228) 3 18 := ⟨by decide +kernel, rfl⟩
theorem dX8_drips_18 : DR cX8_drips 18 (.istore_n 2) 1 19 := ⟨by decide +kernel, rfl⟩
theorem dX8_drips_19 : DR cX8_drips 19 (.aload_n 0) 1 20 := ⟨by decide +kernel, rfl⟩
theorem dX8_drips_20 : DR cX8_drips 20 (.getfield 30) 3 23 := ⟨by decide +kernel, rfl⟩
theorem dX8_drips_23 : DR cX8_drips 23 (.aload_n 0) 1 24 := ⟨by decide +kernel, rfl⟩
theorem dX8_drips_24 : DR cX8_drips 24 (.getfield 26) 3 27 := ⟨by decide +kernel, rfl⟩
theorem dX8_drips_27 : DR cX8_drips 27 (.invokevirtual 176) 3 30 := ⟨by decide +kernel, rfl⟩
theorem dX8_drips_30 : DR cX8_drips 30 (.aload_n 0) 1 31 := ⟨by decide +kernel, rfl⟩
theorem dX8_drips_31 : DR cX8_drips 31 (.getfield 62) 3 34 := ⟨by decide +kernel, rfl⟩
theorem dX8_drips_34 : DR cX8_drips 34 (.aload_n 0) 1 35 := ⟨by decide +kernel, rfl⟩
theorem dX8_drips_35 : DR cX8_drips 35 (.getfield 30) 3 38 := ⟨by decide +kernel, rfl⟩
theorem dX8_drips_38 : DR cX8_drips 38 (.iconst 1) 1 39 := ⟨by decide +kernel, rfl⟩
theorem dX8_drips_39 : DR cX8_drips 39 (.invokevirtual 140) 3 42 := ⟨by decide +kernel, rfl⟩
theorem dX8_drips_42 : DR cX8_drips 42 (.iload_n 2) 1 43 := ⟨by decide +kernel, rfl⟩
theorem dX8_drips_43 : DR cX8_drips 43 (.bipush (-4)) 2 45 := ⟨by decide +kernel, rfl⟩
theorem dX8_drips_45 : DB cX8_drips 45 (.if_icmp .eq 21) 3 (21) 48 66 := ⟨by decide +kernel, rfl, by decide⟩
theorem dX8_drips_48 : DR cX8_drips 48 (.aload_n 0) 1 49 := ⟨by decide +kernel, rfl⟩
theorem dX8_drips_49 : DR cX8_drips 49 (.getfield 30) 3 52 := ⟨by decide +kernel, rfl⟩
theorem dX8_drips_52 : DR cX8_drips 52 (.iload_n 2) 1 53 := ⟨by decide +kernel, rfl⟩
theorem dX8_drips_53 : DR cX8_drips 53 (.invokevirtual 111) 3 56 := ⟨by decide +kernel, rfl⟩
theorem dX8_drips_56 : DR cX8_drips 56 (.getfield 231) 3 59 := ⟨by decide +kernel, rfl⟩
theorem dX8_drips_59 : DB cX8_drips 59 (.ifCond .le 7) 3 (7) 62 66 := ⟨by decide +kernel, rfl, by decide⟩
theorem dX8_drips_62 : DR cX8_drips 62 (.iload_n 2) 1 63 := ⟨by decide +kernel, rfl⟩
theorem dX8_drips_63 : DB cX8_drips 63 (.goto 5) 3 (5) 66 68 := ⟨by decide +kernel, rfl, by decide⟩
theorem dX8_drips_66 : DR cX8_drips 66 (.bipush (-4)) 2 68 := ⟨by decide +kernel, rfl⟩
theorem dX8_drips_68 : DR cX8_drips 68 (.ireturn) 1 69 := ⟨by decide +kernel, rfl⟩
theorem dX8_seen_0 : DR cX8_seen 0 (.aload_n 0) 1 1 := ⟨by decide +kernel, rfl⟩
theorem dX8_seen_1 : DR cX8_seen 1 (.iload_n 1) 1 2 := ⟨by decide +kernel, rfl⟩
theorem dX8_seen_2 : DR cX8_seen 2 (.invokevirtual 107) 3 5 := ⟨by decide +kernel, rfl⟩
theorem dX8_seen_5 : DB cX8_seen 5 (.ifCond .ne 23) 3 (23) 8 28 := ⟨by decide +kernel, rfl, by decide⟩
theorem dX8_seen_8 : DR cX8_seen 8 (.iload_n 2) 1 9 := ⟨by decide +kernel, rfl⟩
theorem dX8_seen_9 : DR cX8_seen 9 (.iconst 0) 1 10 := ⟨by decide +kernel, rfl⟩
theorem dX8_seen_10 : DR cX8_seen 10 (.bipush 27) 2 12 := ⟨by decide +kernel, rfl⟩
theorem dX8_seen_12 : DR cX8_seen 12 (.invokestatic 91) 3 15 := ⟨by decide +kernel, rfl⟩
theorem dX8_seen_15 : DB cX8_seen 15 (.ifCond .ne 13) 3 (13) 18 28 := ⟨by decide +kernel, rfl, by decide⟩
theorem dX8_seen_18 : DR cX8_seen 18 (.iload_n 3) 1 19 := ⟨by decide +kernel, rfl⟩
theorem dX8_seen_19 : DR cX8_seen 19 (.iconst 0) 1 20 := ⟨by decide +kernel, rfl⟩
theorem dX8_seen_20 : DR cX8_seen 20 (.bipush 12) 2 22 := ⟨by decide +kernel, rfl⟩
theorem dX8_seen_22 : DR cX8_seen 22 (.invokestatic 91) 3 25 := ⟨by decide +kernel, rfl⟩
theorem dX8_seen_25 : DB cX8_seen 25 (.ifCond .eq 5) 3 (5) 28 30 := ⟨by decide +kernel, rfl, by decide⟩
theorem dX8_seen_28 : DR cX8_seen 28 (.iconst (-1)) 1 29 := ⟨by decide +kernel, rfl⟩
theorem dX8_seen_29 : DR cX8_seen 29 (.ireturn) 1 30 := ⟨by decide +kernel, rfl⟩
theorem dX8_seen_30 : DR cX8_seen 30 (.aload_n 0) 1 31 := ⟨by decide +kernel, rfl⟩
theorem dX8_seen_31 : DR cX8_seen 31 (.getfield 48) 3 34 := ⟨by decide +kernel, rfl⟩
theorem dX8_seen_34 : DR cX8_seen 34 (.invokevirtual 234) 3 37 := ⟨by decide +kernel, rfl⟩
theorem dX8_seen_37 : DB cX8_seen 37 (.ifCond .eq 6) 3 (6) 40 43 := ⟨by decide +kernel, rfl, by decide⟩
theorem dX8_seen_40 : DR cX8_seen 40 (.bipush (-3)) 2 42 := ⟨by decide +kernel, rfl⟩
theorem dX8_seen_42 : DR cX8_seen 42 (.ireturn) 1 43 := ⟨by decide +kernel, rfl⟩
theorem dX8_seen_43 : DR cX8_seen 43 (.aload_n 0) 1 44 := ⟨by decide +kernel, rfl⟩
theorem dX8_seen_44 : DR cX8_seen 44 (.getfield 48) 3 47 := ⟨by decide +kernel, rfl⟩
theorem dX8_seen_47 : DR cX8_seen 47 (.iload_n 1) 1 48 := ⟨by decide +kernel, rfl⟩
theorem dX8_seen_48 : DR cX8_seen 48 (.iload_n 2) 1 49 := ⟨by decide +kernel, rfl⟩
theorem dX8_seen_49 : DR cX8_seen 49 (.iload_n 3) 1 50 := ⟨by decide +kernel, rfl⟩
theorem dX8_seen_50 : DR cX8_seen 50 (.invokevirtual 235) 3 53 := ⟨by decide +kernel, rfl⟩
theorem dX8_seen_53 : DR cX8_seen 53 (.aload_n 0) 1 54 := ⟨by decide +kernel, rfl⟩
theorem dX8_seen_54 : DR cX8_seen 54 (.getfield 48) 3 57 := ⟨by decide +kernel, rfl⟩
theorem dX8_seen_57 : DR cX8_seen 57 (.getfield 238) 3 60 := ⟨by decide +kernel, rfl⟩
theorem dX8_seen_60 : DR cX8_seen 60 (.ireturn) 1 61 := ⟨by decide +kernel, rfl⟩
theorem dX8_forget_0 : DR cX8_forget 0 (.aload_n 0) 1 1 := ⟨by decide +kernel, rfl⟩
theorem dX8_forget_1 : DR cX8_forget 1 (.getfield 48) 3 4 := ⟨by decide +kernel, rfl⟩
theorem dX8_forget_4 : DR cX8_forget 4 (.getfield 238) 3 7 := ⟨by decide +kernel, rfl⟩
theorem dX8_forget_7 : DR cX8_forget 7 (.istore_n 1) 1 8 := ⟨by decide +kernel, rfl⟩
theorem dX8_forget_8 : DR cX8_forget 8 (.aload_n 0) 1 9 := ⟨by decide +kernel, rfl⟩
theorem dX8_forget_9 : DR cX8_forget 9 (.getfield 48) 3 12 := ⟨by decide +kernel, rfl⟩
theorem dX8_forget_12 : DR cX8_forget 12 (.invokevirtual 239) 3 15 := ⟨by decide +kernel, rfl⟩
theorem dX8_forget_15 : DR cX8_forget 15 (.iload_n 1) 1 16 := ⟨by decide +kernel, rfl⟩
theorem dX8_forget_16 : DR cX8_forget 16 (.ireturn) 1 17 := ⟨by decide +kernel, rfl⟩
theorem dX8_cows_0 : DR cX8_cows 0 (.aload_n 0) 1 1 := ⟨by decide +kernel, rfl⟩
theorem dX8_cows_1 : DR cX8_cows 1 (.getfield 30) 3 4 := ⟨by decide +kernel, rfl⟩
theorem dX8_cows_4 : DR cX8_cows 4 (.aload_n 0) 1 5 := ⟨by decide +kernel, rfl⟩
theorem dX8_cows_5 : DR cX8_cows 5 (.getfield 26) 3 8 := ⟨by decide +kernel, rfl⟩
theorem dX8_cows_8 : DR cX8_cows 8 (.invokevirtual 176) 3 11 := ⟨by decide +kernel, rfl⟩
theorem dX8_cows_11 : DR cX8_cows 11 (.aload_n 0) 1 12 := ⟨by decide +kernel, rfl⟩
theorem dX8_cows_12 : DR cX8_cows 12 (.aload_n 0) 1 13 := ⟨by decide +kernel, rfl⟩
theorem dX8_cows_13 : DR cX8_cows 13 (.invokevirtual 240) 3 16 := ⟨by decide +kernel, rfl⟩
theorem dX8_cows_16 : DR cX8_cows 16 (.invokevirtual 243) 3 19 := ⟨by decide +kernel, rfl⟩
theorem dX8_cows_19 : DB cX8_cows 19 (.ifCond .eq 8) 3 (8) 22 27 := ⟨by decide +kernel, rfl, by decide⟩
theorem dX8_cows_22 : DR cX8_cows 22 (.bipush 64) 2 24 := ⟨by decide +kernel, rfl⟩
theorem dX8_cows_24 : DB cX8_cows 24 (.goto 4) 3 (4) 27 28 := ⟨by decide +kernel, rfl, by decide⟩
theorem dX8_cows_27 : DR cX8_cows 27 (.iconst 0) 1 28 := ⟨by decide +kernel, rfl⟩
theorem dX8_cows_28 : DR cX8_cows 28 (.istore_n 1) 1 29 := ⟨by decide +kernel, rfl⟩
theorem dX8_cows_29 : DR cX8_cows 29 (.iconst 0) 1 30 := ⟨by decide +kernel, rfl⟩
theorem dX8_cows_30 : DR cX8_cows 30 (.istore_n 2) 1 31 := ⟨by decide +kernel, rfl⟩
theorem dX8_cows_31 : DR cX8_cows 31 (.iload_n 2) 1 32 := ⟨by decide +kernel, rfl⟩
theorem dX8_cows_32 : DR cX8_cows 32 (.aload_n 0) 1 33 := ⟨by decide +kernel, rfl⟩
theorem dX8_cows_33 : DR cX8_cows 33 (.getfield 26) 3 36 := ⟨by decide +kernel, rfl⟩
theorem dX8_cows_36 : DR cX8_cows 36 (.getfield 185) 3 39 := ⟨by decide +kernel, rfl⟩
theorem dX8_cows_39 : DB cX8_cows 39 (.if_icmp .ge 48) 3 (48) 42 87 := ⟨by decide +kernel, rfl, by decide⟩
theorem dX8_cows_42 : DR cX8_cows 42 (.aload_n 0) 1 43 := ⟨by decide +kernel, rfl⟩
theorem dX8_cows_43 : DR cX8_cows 43 (.getfield 30) 3 46 := ⟨by decide +kernel, rfl⟩
theorem dX8_cows_46 : DR cX8_cows 46 (.aload_n 0) 1 47 := ⟨by decide +kernel, rfl⟩
theorem dX8_cows_47 : DR cX8_cows 47 (.getfield 26) 3 50 := ⟨by decide +kernel, rfl⟩
theorem dX8_cows_50 : DR cX8_cows 50 (.invokevirtual 176) 3 53 := ⟨by decide +kernel, rfl⟩
theorem dX8_cows_53 : DR cX8_cows 53 (.aload_n 0) 1 54 := ⟨by decide +kernel, rfl⟩
theorem dX8_cows_54 : DR cX8_cows 54 (.getfield 30) 3 57 := ⟨by decide +kernel, rfl⟩
theorem dX8_cows_57 : DR cX8_cows 57 (.iload_n 2) 1 58 := ⟨by decide +kernel, rfl⟩
theorem dX8_cows_58 : DR cX8_cows 58 (.invokevirtual 111) 3 61 := ⟨by decide +kernel, rfl⟩
theorem dX8_cows_61 : DR cX8_cows 61 (.invokevirtual 157) 3 64 := ⟨by decide +kernel, rfl⟩
theorem dX8_cows_64 : DR cX8_cows 64 (.aload_n 0) 1 65 := ⟨by decide +kernel, rfl⟩
theorem dX8_cows_65 : DR cX8_cows 65 (.aload_n 0) 1 66 := ⟨by decide +kernel, rfl⟩
theorem dX8_cows_66 : DR cX8_cows 66 (.invokevirtual 240) 3 69 := ⟨by decide +kernel, rfl⟩
theorem dX8_cows_69 : DR cX8_cows 69 (.invokevirtual 243) 3 72 := ⟨by decide +kernel, rfl⟩
theorem dX8_cows_72 : DB cX8_cows 72 (.ifCond .eq 9) 3 (9) 75 81 := ⟨by decide +kernel, rfl, by decide⟩
theorem dX8_cows_75 : DR cX8_cows 75 (.iload_n 1) 1 76 := ⟨by decide +kernel, rfl⟩
theorem dX8_cows_76 : DR cX8_cows 76 (.iconst 1) 1 77 := ⟨by decide +kernel, rfl⟩
theorem dX8_cows_77 : DR cX8_cows 77 (.iload_n 2) 1 78 := ⟨by decide +kernel, rfl⟩
theorem dX8_cows_78 : DR cX8_cows 78 (.ishl) 1 79 := ⟨by decide +kernel, rfl⟩
theorem dX8_cows_79 : DR cX8_cows 79 (.ior) 1 80 := ⟨by decide +kernel, rfl⟩
theorem dX8_cows_80 : DR cX8_cows 80 (.istore_n 1) 1 81 := ⟨by decide +kernel, rfl⟩
theorem dX8_cows_81 : DR cX8_cows 81 (.iinc 2 1) 3 84 := ⟨by decide +kernel, rfl⟩
theorem dX8_cows_84 : DB cX8_cows 84 (.goto (-53)) 3 (-53) 87 31 := ⟨by decide +kernel, rfl, by decide⟩
theorem dX8_cows_87 : DR cX8_cows 87 (.iload_n 1) 1 88 := ⟨by decide +kernel, rfl⟩
theorem dX8_cows_88 : DR cX8_cows 88 (.ireturn) 1 89 := ⟨by decide +kernel, rfl⟩
theorem dX8_colds_0 : DR cX8_colds 0 (.iconst 0) 1 1 := ⟨by decide +kernel, rfl⟩
theorem dX8_colds_1 : DR cX8_colds 1 (.istore_n 1) 1 2 := ⟨by decide +kernel, rfl⟩
theorem dX8_colds_2 : DR cX8_colds 2 (.iconst 0) 1 3 := ⟨by decide +kernel, rfl⟩
theorem dX8_colds_3 : DR cX8_colds 3 (.istore_n 2) 1 4 := ⟨by decide +kernel, rfl⟩
theorem dX8_colds_4 : DR cX8_colds 4 (.iload_n 2) 1 5 := ⟨by decide +kernel, rfl⟩
theorem dX8_colds_5 : DR cX8_colds 5 (.bipush 9) 2 7 := ⟨by decide +kernel, rfl⟩
theorem dX8_colds_7 : DB cX8_colds 7 (.if_icmp .gt 34) 3 (34) 10 41 := ⟨by decide +kernel, rfl, by decide⟩
theorem dX8_colds_10 : DR cX8_colds 10 (.aload_n 0) 1 11 := ⟨by decide +kernel, rfl⟩
theorem dX8_colds_11 : DR cX8_colds 11 (.getfield 30) 3 14 := ⟨by decide +kernel, rfl⟩
theorem dX8_colds_14 : DR cX8_colds 14 (.aload_n 0) 1 15 := ⟨by decide +kernel, rfl⟩
theorem dX8_colds_15 : DR cX8_colds 15 (.getfield 26) 3 18 := ⟨by decide +kernel, rfl⟩
theorem dX8_colds_18 : DR cX8_colds 18 (.invokevirtual 176) 3 21 := ⟨by decide +kernel, rfl⟩
theorem dX8_colds_21 : DR cX8_colds 21 (.aload_n 0) 1 22 := ⟨by decide +kernel, rfl⟩
theorem dX8_colds_22 : DR cX8_colds 22 (.iload_n 2) 1 23 := ⟨by decide +kernel, rfl⟩
theorem dX8_colds_23 : DR cX8_colds 23 (.invokevirtual 243) 3 26 := ⟨by decide +kernel, rfl⟩
theorem dX8_colds_26 : DB cX8_colds 26 (.ifCond .eq 9) 3 (9) 29 35 := ⟨by decide +kernel, rfl, by decide⟩
theorem dX8_colds_29 : DR cX8_colds 29 (.iload_n 1) 1 30 := ⟨by decide +kernel, rfl⟩
theorem dX8_colds_30 : DR cX8_colds 30 (.iconst 1) 1 31 := ⟨by decide +kernel, rfl⟩
theorem dX8_colds_31 : DR cX8_colds 31 (.iload_n 2) 1 32 := ⟨by decide +kernel, rfl⟩
theorem dX8_colds_32 : DR cX8_colds 32 (.ishl) 1 33 := ⟨by decide +kernel, rfl⟩
theorem dX8_colds_33 : DR cX8_colds 33 (.ior) 1 34 := ⟨by decide +kernel, rfl⟩
theorem dX8_colds_34 : DR cX8_colds 34 (.istore_n 1) 1 35 := ⟨by decide +kernel, rfl⟩
theorem dX8_colds_35 : DR cX8_colds 35 (.iinc 2 1) 3 38 := ⟨by decide +kernel, rfl⟩
theorem dX8_colds_38 : DB cX8_colds 38 (.goto (-34)) 3 (-34) 41 4 := ⟨by decide +kernel, rfl, by decide⟩
theorem dX8_colds_41 : DR cX8_colds 41 (.iload_n 1) 1 42 := ⟨by decide +kernel, rfl⟩
theorem dX8_colds_42 : DR cX8_colds 42 (.ireturn) 1 43 := ⟨by decide +kernel, rfl⟩
theorem dX8_likely_0 : DR cX8_likely 0 (.aload_n 0) 1 1 := ⟨by decide +kernel, rfl⟩
theorem dX8_likely_1 : DR cX8_likely 1 (.iload_n 1) 1 2 := ⟨by decide +kernel, rfl⟩
theorem dX8_likely_2 : DR cX8_likely 2 (.invokevirtual 107) 3 5 := ⟨by decide +kernel, rfl⟩
theorem dX8_likely_5 : DB cX8_likely 5 (.ifCond .ne 33) 3 (33) 8 38 := ⟨by decide +kernel, rfl, by decide⟩
theorem dX8_likely_8 : DR cX8_likely 8 (.iload_n 2) 1 9 := ⟨by decide +kernel, rfl⟩
theorem dX8_likely_9 : DR cX8_likely 9 (.iconst 0) 1 10 := ⟨by decide +kernel, rfl⟩
theorem dX8_likely_10 : DR cX8_likely 10 (.bipush 6) 2 12 := ⟨by decide +kernel, rfl⟩
theorem dX8_likely_12 : DR cX8_likely 12 (.invokestatic 91) 3 15 := ⟨by decide +kernel, rfl⟩
theorem dX8_likely_15 : DB cX8_likely 15 (.ifCond .ne 23) 3 (23) 18 38 := ⟨by decide +kernel, rfl, by decide⟩
theorem dX8_likely_18 : DR cX8_likely 18 (.iload_n 3) 1 19 := ⟨by decide +kernel, rfl⟩
theorem dX8_likely_19 : DR cX8_likely 19 (.iconst 0) 1 20 := ⟨by decide +kernel, rfl⟩
theorem dX8_likely_20 : DR cX8_likely 20 (.bipush 10) 2 22 := ⟨by decide +kernel, rfl⟩
theorem dX8_likely_22 : DR cX8_likely 22 (.invokestatic 91) 3 25 := ⟨by decide +kernel, rfl⟩
theorem dX8_likely_25 : DB cX8_likely 25 (.ifCond .ne 13) 3 (13) 28 38 := ⟨by decide +kernel, rfl, by decide⟩
theorem dX8_likely_28 : DR cX8_likely 28 (.iload 4) 2 30 := ⟨by decide +kernel, rfl⟩
theorem dX8_likely_30 : DR cX8_likely 30 (.iconst 0) 1 31 := ⟨by decide +kernel, rfl⟩
theorem dX8_likely_31 : DR cX8_likely 31 (.iconst 1) 1 32 := ⟨by decide +kernel, rfl⟩
theorem dX8_likely_32 : DR cX8_likely 32 (.invokestatic 91) 3 35 := ⟨by decide +kernel, rfl⟩
theorem dX8_likely_35 : DB cX8_likely 35 (.ifCond .eq 5) 3 (5) 38 40 := ⟨by decide +kernel, rfl, by decide⟩
theorem dX8_likely_38 : DR cX8_likely 38 (.iconst (-1)) 1 39 := ⟨by decide +kernel, rfl⟩
theorem dX8_likely_39 : DR cX8_likely 39 (.ireturn) 1 40 := ⟨by decide +kernel, rfl⟩
theorem dX8_likely_40 : DR cX8_likely 40 (.aload_n 0) 1 41 := ⟨by decide +kernel, rfl⟩
theorem dX8_likely_41 : DR cX8_likely 41 (.iload_n 1) 1 42 := ⟨by decide +kernel, rfl⟩
theorem dX8_likely_42 : DR cX8_likely 42 (.iload_n 2) 1 43 := ⟨by decide +kernel, rfl⟩
theorem dX8_likely_43 : DR cX8_likely 43 (.iload_n 3) 1 44 := ⟨by decide +kernel, rfl⟩
theorem dX8_likely_44 : DR cX8_likely 44 (.invokevirtual 246) 3 47 := ⟨by decide +kernel, rfl⟩
theorem dX8_likely_47 : DR cX8_likely 47 (.istore 5) 2 49 := ⟨by decide +kernel, rfl⟩
theorem dX8_likely_49 : DR cX8_likely 49 (.bipush 10) 2 51 := ⟨by decide +kernel, rfl⟩
theorem dX8_likely_51 : DR cX8_likely 51 (.iload_n 2) 1 52 := ⟨by decide +kernel, rfl⟩
theorem dX8_likely_52 : DR cX8_likely 52 (.invokestatic 250) 3 55 := ⟨by decide +kernel, rfl⟩
theorem dX8_likely_55 : DR cX8_likely 55 (.istore 6) 2 57 := ⟨by decide +kernel, rfl⟩
theorem dX8_likely_57 : DR cX8_likely 57 (.iload 5) 2 59 := ⟨by decide +kernel, rfl⟩
theorem dX8_likely_59 : DR cX8_likely 59 (.iconst 2) 1 60 := ⟨by decide +kernel, rfl⟩
theorem dX8_likely_60 : DR cX8_likely 60 (.iload_n 2) 1 61 := ⟨by decide +kernel, rfl⟩
theorem dX8_likely_61 : DR cX8_likely 61 (.invokestatic 254) 3 64 := ⟨by decide +kernel, rfl⟩
theorem dX8_likely_64 : DR cX8_likely 64 (.iload 5) 2 66 := ⟨by decide +kernel, rfl⟩
theorem dX8_likely_66 : DR cX8_likely 66 (.iconst 5) 1 67 := ⟨by decide +kernel, rfl⟩
theorem dX8_likely_67 : DR cX8_likely 67 (.iload_n 2) 1 68 := ⟨by decide +kernel, rfl⟩
theorem dX8_likely_68 : DR cX8_likely 68 (.invokestatic 254) 3 71 := ⟨by decide +kernel, rfl⟩
theorem dX8_likely_71 : DR cX8_likely 71 (.imul) 1 72 := ⟨by decide +kernel, rfl⟩
theorem dX8_likely_72 : DR cX8_likely 72 (.istore 7) 2 74 := ⟨by decide +kernel, rfl⟩
theorem dX8_likely_74 : DR cX8_likely 74 (.iload 4) 2 76 := ⟨by decide +kernel, rfl⟩
theorem dX8_likely_76 : DB cX8_likely 76 (.ifCond .ne 8) 3 (8) 79 84 := ⟨by decide +kernel, rfl, by decide⟩
theorem dX8_likely_79 : DR cX8_likely 79 (.iload 5) 2 81 := ⟨by decide +kernel, rfl⟩
theorem dX8_likely_81 : DB cX8_likely 81 (.goto 5) 3 (5) 84 86 := ⟨by decide +kernel, rfl, by decide⟩
theorem dX8_likely_84 : DR cX8_likely 84 (.iload 6) 2 86 := ⟨by decide +kernel, rfl⟩
theorem dX8_likely_86 : DR cX8_likely 86 (.iconst 1) 1 87 := ⟨by decide +kernel, rfl⟩
theorem dX8_likely_87 : DR cX8_likely 87 (.iload 7) 2 89 := ⟨by decide +kernel, rfl⟩
theorem dX8_likely_89 : DR cX8_likely 89 (.invokestatic 257) 3 92 := ⟨by decide +kernel, rfl⟩
theorem dX8_likely_92 : DR cX8_likely 92 (.idiv) 1 93 := ⟨by decide +kernel, rfl⟩
theorem dX8_likely_93 : DR cX8_likely 93 (.ireturn) 1 94 := ⟨by decide +kernel, rfl⟩
theorem dX8_year_0 : DR cX8_year 0 (.iload_n 1) 1 1 := ⟨by decide +kernel, rfl⟩
theorem dX8_year_1 : DR cX8_year 1 (.iconst 0) 1 2 := ⟨by decide +kernel, rfl⟩
theorem dX8_year_2 : DR cX8_year 2 (.sipush 9999) 3 5 := ⟨by decide +kernel, rfl⟩
theorem dX8_year_5 : DR cX8_year 5 (.invokestatic 91) 3 8 := ⟨by decide +kernel, rfl⟩
theorem dX8_year_8 : DB cX8_year 8 (.ifCond .ne 22) 3 (22) 11 30 := ⟨by decide +kernel, rfl, by decide⟩
theorem dX8_year_11 : DR cX8_year 11 (.iload_n 2) 1 12 := ⟨by decide +kernel, rfl⟩
theorem dX8_year_12 : DR cX8_year 12 (.iconst 1) 1 13 := ⟨by decide +kernel, rfl⟩
theorem dX8_year_13 : DR cX8_year 13 (.bipush 40) 2 15 := ⟨by decide +kernel, rfl⟩
theorem dX8_year_15 : DR cX8_year 15 (.invokestatic 91) 3 18 := ⟨by decide +kernel, rfl⟩
theorem dX8_year_18 : DB cX8_year 18 (.ifCond .ne 12) 3 (12) 21 30 := ⟨by decide +kernel, rfl, by decide⟩
theorem dX8_year_21 : DR cX8_year 21 (.iload_n 3) 1 22 := ⟨by decide +kernel, rfl⟩
theorem dX8_year_22 : DR cX8_year 22 (.iconst 0) 1 23 := ⟨by decide +kernel, rfl⟩
theorem dX8_year_23 : DR cX8_year 23 (.iconst 2) 1 24 := ⟨by decide +kernel, rfl⟩
theorem dX8_year_24 : DR cX8_year 24 (.invokestatic 91) 3 27 := ⟨by decide +kernel, rfl⟩
theorem dX8_year_27 : DB cX8_year 27 (.ifCond .eq 5) 3 (5) 30 32 := ⟨by decide +kernel, rfl, by decide⟩
theorem dX8_year_30 : DR cX8_year 30 (.iconst (-1)) 1 31 := ⟨by decide +kernel, rfl⟩
theorem dX8_year_31 : DR cX8_year 31 (.ireturn) 1 32 := ⟨by decide +kernel, rfl⟩
theorem dX8_year_32 : DR cX8_year 32 (.aload_n 0) 1 33 := ⟨by decide +kernel, rfl⟩
theorem dX8_year_33 : DR cX8_year 33 (.getfield 30) 3 36 := ⟨by decide +kernel, rfl⟩
theorem dX8_year_36 : DR cX8_year 36 (.aload_n 0) 1 37 := ⟨by decide +kernel, rfl⟩
theorem dX8_year_37 : DR cX8_year 37 (.getfield 26) 3 40 := ⟨by decide +kernel, rfl⟩
theorem dX8_year_40 : DR cX8_year 40 (.invokevirtual 176) 3 43 := ⟨by decide +kernel, rfl⟩
theorem dX8_year_43 : DR cX8_year 43 (.iconst 0) 1 44 := ⟨by decide +kernel, rfl⟩
theorem dX8_year_44 : DR cX8_year 44 (.istore 4) 2 46 := ⟨by decide +kernel, rfl⟩
theorem dX8_year_46 : DR cX8_year 46 (.iload 4) 2 48 := ⟨by decide +kernel, rfl⟩
theorem dX8_year_48 : DR cX8_year 48 (.iload_n 2) 1 49 := ⟨by decide +kernel, rfl⟩
theorem dX8_year_49 : DB cX8_year 49 (.if_icmp .ge 31) 3 (31) 52 80 := ⟨by decide +kernel, rfl, by decide⟩
theorem dX8_year_52 : DR cX8_year 52 (.aload_n 0) 1 53 := ⟨by decide +kernel, rfl⟩
theorem dX8_year_53 : DR cX8_year 53 (.iload_n 1) 1 54 := ⟨by decide +kernel, rfl⟩
theorem dX8_year_54 : DR cX8_year 54 (.iload 4) 2 56 := ⟨by decide +kernel, rfl⟩
theorem dX8_year_56 : DR cX8_year 56 (.invokestatic 262) 3 59 := ⟨by decide +kernel, rfl⟩
theorem dX8_year_59 : DR cX8_year 59 (.invokevirtual 265) 3 62 := ⟨by decide +kernel, rfl⟩
theorem dX8_year_62 : DR cX8_year 62 (.aload_n 0) 1 63 := ⟨by decide +kernel, rfl⟩
theorem dX8_year_63 : DR cX8_year 63 (.getfield 62) 3 66 := ⟨by decide +kernel, rfl⟩
theorem dX8_year_66 : DR cX8_year 66 (.aload_n 0) 1 67 := ⟨by decide +kernel, rfl⟩
theorem dX8_year_67 : DR cX8_year 67 (.getfield 30) 3 70 := ⟨by decide +kernel, rfl⟩
theorem dX8_year_70 : DR cX8_year 70 (.iconst 1) 1 71 := ⟨by decide +kernel, rfl⟩
theorem dX8_year_71 : DR cX8_year 71 (.invokevirtual 140) 3 74 := ⟨by decide +kernel, rfl⟩
theorem dX8_year_74 : DR cX8_year 74 (.iinc 4 1) 3 77 := ⟨by decide +kernel, rfl⟩
theorem dX8_year_77 : DB cX8_year 77 (.goto (-31)) 3 (-31) 80 46 := ⟨by decide +kernel, rfl, by decide⟩
theorem dX8_year_80 : DR cX8_year 80 (.iload_n 3) 1 81 := ⟨by decide +kernel, rfl⟩
theorem dX8_year_81 : DR cX8_year 81 (.lookupswitch 53 #[(0, 27), (1, 45)]) 27 108 := ⟨by decide +kernel, rfl⟩
theorem dX8_year_108 : DR cX8_year 108 (.aload_n 0) 1 109 := ⟨by decide +kernel, rfl⟩
theorem dX8_year_109 : DR cX8_year 109 (.getfield 30) 3 112 := ⟨by decide +kernel, rfl⟩
theorem dX8_year_112 : DR cX8_year 112 (.aload_n 0) 1 113 := ⟨by decide +kernel, rfl⟩
theorem dX8_year_113 : DR cX8_year 113 (.getfield 62) 3 116 := ⟨by decide +kernel, rfl⟩
theorem dX8_year_116 : DR cX8_year 116 (.getfield 268) 3 119 := ⟨by decide +kernel, rfl⟩
theorem dX8_year_119 : DR cX8_year 119 (.invokevirtual 271) 3 122 := ⟨by decide +kernel, rfl⟩
theorem dX8_year_122 : DR cX8_year 122 (.invokestatic 195) 3 125 := ⟨by decide +kernel, rfl⟩
theorem dX8_year_125 : DR cX8_year 125 (.ireturn) 1 126 := ⟨by decide +kernel, rfl⟩
theorem dX8_year_126 : DR cX8_year 126 (.aload_n 0) 1 127 := ⟨by decide +kernel, rfl⟩
theorem dX8_year_127 : DR cX8_year 127 (.getfield 30) 3 130 := ⟨by decide +kernel, rfl⟩
theorem dX8_year_130 : DR cX8_year 130 (.getfield 274) 3 133 := ⟨by decide +kernel, rfl⟩
theorem dX8_year_133 : DR cX8_year 133 (.ireturn) 1 134 := ⟨by decide +kernel, rfl⟩
theorem dX8_year_134 : DR cX8_year 134 (.aload_n 0) 1 135 := ⟨by decide +kernel, rfl⟩
theorem dX8_year_135 : DR cX8_year 135 (.getfield 30) 3 138 := ⟨by decide +kernel, rfl⟩
theorem dX8_year_138 : DR cX8_year 138 (.invokevirtual 186) 3 141 := ⟨by decide +kernel, rfl⟩
theorem dX8_year_141 : DR cX8_year 141 (.ireturn) 1 142 := ⟨by decide +kernel, rfl⟩
theorem dX8_keep_0 : DR cX8_keep 0 (.aload_n 0) 1 1 := ⟨by decide +kernel, rfl⟩
theorem dX8_keep_1 : DR cX8_keep 1 (.getfield 42) 3 4 := ⟨by decide +kernel, rfl⟩
theorem dX8_keep_4 : DR cX8_keep 4 (.invokevirtual 277) 3 7 := ⟨by decide +kernel, rfl⟩
theorem dX8_keep_7 : DB cX8_keep 7 (.ifCond .eq 6) 3 (6) 10 13 := ⟨by decide +kernel, rfl, by decide⟩
theorem dX8_keep_10 : DR cX8_keep 10 (.bipush (-3)) 2 12 := ⟨by decide +kernel, rfl⟩
theorem dX8_keep_12 : DR cX8_keep 12 (.ireturn) 1 13 := ⟨by decide +kernel, rfl⟩
theorem dX8_keep_13 : DR cX8_keep 13 (.aload_n 0) 1 14 := ⟨by decide +kernel, rfl⟩
theorem dX8_keep_14 : DR cX8_keep 14 (.getfield 42) 3 17 := ⟨by decide +kernel, rfl⟩
theorem dX8_keep_17 : DR cX8_keep 17 (.aload_n 0) 1 18 := ⟨by decide +kernel, rfl⟩
theorem dX8_keep_18 : DR cX8_keep 18 (.getfield 26) 3 21 := ⟨by decide +kernel, rfl⟩
theorem dX8_keep_21 : DR cX8_keep 21 (.invokevirtual 136) 3 24 := ⟨by decide +kernel, rfl⟩
theorem dX8_keep_24 : DR cX8_keep 24 (.aload_n 0) 1 25 := ⟨by decide +kernel, rfl⟩
theorem dX8_keep_25 : DR cX8_keep 25 (.getfield 42) 3 28 := ⟨by decide +kernel, rfl⟩
theorem dX8_keep_28 : DR cX8_keep 28 (.getfield 172) 3 31 := ⟨by decide +kernel, rfl⟩
theorem dX8_keep_31 : DR cX8_keep 31 (.ireturn) 1 32 := ⟨by decide +kernel, rfl⟩
theorem dX8_back_0 : DR cX8_back 0 (.aload_n 0) 1 1 := ⟨by decide +kernel, rfl⟩
theorem dX8_back_1 : DR cX8_back 1 (.getfield 42) 3 4 := ⟨by decide +kernel, rfl⟩
theorem dX8_back_4 : DR cX8_back 4 (.getfield 172) 3 7 := ⟨by decide +kernel, rfl⟩
theorem dX8_back_7 : DB cX8_back 7 (.ifCond .ne 6) 3 (6) 10 13 := ⟨by decide +kernel, rfl, by decide⟩
theorem dX8_back_10 : DR cX8_back 10 (.bipush (-2)) 2 12 := ⟨by decide +kernel, rfl⟩
theorem dX8_back_12 : DR cX8_back 12 (.ireturn) 1 13 := ⟨by decide +kernel, rfl⟩
theorem dX8_back_13 : DR cX8_back 13 (.aload_n 0) 1 14 := ⟨by decide +kernel, rfl⟩
theorem dX8_back_14 : DR cX8_back 14 (.getfield 42) 3 17 := ⟨by decide +kernel, rfl⟩
theorem dX8_back_17 : DR cX8_back 17 (.aload_n 0) 1 18 := ⟨by decide +kernel, rfl⟩
theorem dX8_back_18 : DR cX8_back 18 (.getfield 26) 3 21 := ⟨by decide +kernel, rfl⟩
theorem dX8_back_21 : DR cX8_back 21 (.invokevirtual 173) 3 24 := ⟨by decide +kernel, rfl⟩
theorem dX8_back_24 : DR cX8_back 24 (.aload_n 0) 1 25 := ⟨by decide +kernel, rfl⟩
theorem dX8_back_25 : DR cX8_back 25 (.getfield 38) 3 28 := ⟨by decide +kernel, rfl⟩
theorem dX8_back_28 : DR cX8_back 28 (.invokevirtual 278) 3 31 := ⟨by decide +kernel, rfl⟩
theorem dX8_back_31 : DR cX8_back 31 (.aload_n 0) 1 32 := ⟨by decide +kernel, rfl⟩
theorem dX8_back_32 : DR cX8_back 32 (.getfield 42) 3 35 := ⟨by decide +kernel, rfl⟩
theorem dX8_back_35 : DR cX8_back 35 (.getfield 172) 3 38 := ⟨by decide +kernel, rfl⟩
theorem dX8_back_38 : DR cX8_back 38 (.ireturn) 1 39 := ⟨by decide +kernel, rfl⟩
theorem dX8_count_0 : DR cX8_count 0 (.iload_n 1) 1 1 := ⟨by decide +kernel, rfl⟩
theorem dX8_count_1 : DR cX8_count 1 (.tableswitch 160 0 10 #[59, 67, 75, 83, 91, 99, 110, 128, 136, 144, 152]) 59 60 := ⟨by decide +kernel, rfl⟩
theorem dX8_count_60 : DR cX8_count 60 (.aload_n 0) 1 61 := ⟨by decide +kernel, rfl⟩
theorem dX8_count_61 : DR cX8_count 61 (.getfield 26) 3 64 := ⟨by decide +kernel, rfl⟩
theorem dX8_count_64 : DR cX8_count 64 (.getfield 185) 3 67 := ⟨by decide +kernel, rfl⟩
theorem dX8_count_67 : DR cX8_count 67 (.ireturn) 1 68 := ⟨by decide +kernel, rfl⟩
theorem dX8_count_68 : DR cX8_count 68 (.aload_n 0) 1 69 := ⟨by decide +kernel, rfl⟩
theorem dX8_count_69 : DR cX8_count 69 (.getfield 26) 3 72 := ⟨by decide +kernel, rfl⟩
theorem dX8_count_72 : DR cX8_count 72 (.getfield 133) 3 75 := ⟨by decide +kernel, rfl⟩
theorem dX8_count_75 : DR cX8_count 75 (.ireturn) 1 76 := ⟨by decide +kernel, rfl⟩
theorem dX8_count_76 : DR cX8_count 76 (.aload_n 0) 1 77 := ⟨by decide +kernel, rfl⟩
theorem dX8_count_77 : DR cX8_count 77 (.getfield 26) 3 80 := ⟨by decide +kernel, rfl⟩
theorem dX8_count_80 : DR cX8_count 80 (.invokevirtual 144) 3 83 := ⟨by decide +kernel, rfl⟩
theorem dX8_count_83 : DR cX8_count 83 (.ireturn) 1 84 := ⟨by decide +kernel, rfl⟩
theorem dX8_count_84 : DR cX8_count 84 (.aload_n 0) 1 85 := ⟨by decide +kernel, rfl⟩
theorem dX8_count_85 : DR cX8_count 85 (.getfield 26) 3 88 := ⟨by decide +kernel, rfl⟩
theorem dX8_count_88 : DR cX8_count 88 (.getfield 274) 3 91 := ⟨by decide +kernel, rfl⟩
theorem dX8_count_91 : DR cX8_count 91 (.ireturn) 1 92 := ⟨by decide +kernel, rfl⟩
theorem dX8_count_92 : DR cX8_count 92 (.aload_n 0) 1 93 := ⟨by decide +kernel, rfl⟩
theorem dX8_count_93 : DR cX8_count 93 (.getfield 26) 3 96 := ⟨by decide +kernel, rfl⟩
theorem dX8_count_96 : DR cX8_count 96 (.invokevirtual 186) 3 99 := ⟨by decide +kernel, rfl⟩
theorem dX8_count_99 : DR cX8_count 99 (.ireturn) 1 100 := ⟨by decide +kernel, rfl⟩
theorem dX8_count_100 : DR cX8_count 100 (.aload_n 0) 1 101 := ⟨by decide +kernel, rfl⟩
theorem dX8_count_101 : DR cX8_count 101 (.getfield 26) 3 104 := ⟨by decide +kernel, rfl⟩
theorem dX8_count_104 : DR cX8_count 104 (.invokevirtual 215) 3 107 := ⟨by decide +kernel, rfl⟩
theorem dX8_count_107 : DR cX8_count 107 (.invokestatic 195) 3 110 := ⟨by decide +kernel, rfl⟩
theorem dX8_count_110 : DR cX8_count 110 (.ireturn) 1 111 := ⟨by decide +kernel, rfl⟩
theorem dX8_count_111 : DR cX8_count 111 (.aload_n 0) 1 112 := ⟨by decide +kernel, rfl⟩
theorem dX8_count_112 : DR cX8_count 112 (.getfield 26) 3 115 := ⟨by decide +kernel, rfl⟩
theorem dX8_count_115 : DR cX8_count 115 (.aload_n 0) 1 116 := ⟨by decide +kernel, rfl⟩
theorem dX8_count_116 : DR cX8_count 116 (.getfield 62) 3 119 := ⟨by decide +kernel, rfl⟩
theorem dX8_count_119 : DR cX8_count 119 (.getfield 268) 3 122 := ⟨by decide +kernel, rfl⟩
theorem dX8_count_122 : DR cX8_count 122 (.invokevirtual 271) 3 125 := ⟨by decide +kernel, rfl⟩
theorem dX8_count_125 : DR cX8_count 125 (.invokestatic 195) 3 128 := ⟨by decide +kernel, rfl⟩
theorem dX8_count_128 : DR cX8_count 128 (.ireturn) 1 129 := ⟨by decide +kernel, rfl⟩
theorem dX8_count_129 : DR cX8_count 129 (.aload_n 0) 1 130 := ⟨by decide +kernel, rfl⟩
theorem dX8_count_130 : DR cX8_count 130 (.getfield 48) 3 133 := ⟨by decide +kernel, rfl⟩
theorem dX8_count_133 : DR cX8_count 133 (.getfield 238) 3 136 := ⟨by decide +kernel, rfl⟩
theorem dX8_count_136 : DR cX8_count 136 (.ireturn) 1 137 := ⟨by decide +kernel, rfl⟩
theorem dX8_count_137 : DR cX8_count 137 (.aload_n 0) 1 138 := ⟨by decide +kernel, rfl⟩
theorem dX8_count_138 : DR cX8_count 138 (.getfield 38) 3 141 := ⟨by decide +kernel, rfl⟩
theorem dX8_count_141 : DR cX8_count 141 (.getfield 172) 3 144 := ⟨by decide +kernel, rfl⟩
theorem dX8_count_144 : DR cX8_count 144 (.ireturn) 1 145 := ⟨by decide +kernel, rfl⟩
theorem dX8_count_145 : DR cX8_count 145 (.aload_n 0) 1 146 := ⟨by decide +kernel, rfl⟩
theorem dX8_count_146 : DR cX8_count 146 (.getfield 42) 3 149 := ⟨by decide +kernel, rfl⟩
theorem dX8_count_149 : DR cX8_count 149 (.getfield 172) 3 152 := ⟨by decide +kernel, rfl⟩
theorem dX8_count_152 : DR cX8_count 152 (.ireturn) 1 153 := ⟨by decide +kernel, rfl⟩
theorem dX8_count_153 : DR cX8_count 153 (.aload_n 0) 1 154 := ⟨by decide +kernel, rfl⟩
theorem dX8_count_154 : DR cX8_count 154 (.getfield 12) 3 157 := ⟨by decide +kernel, rfl⟩
theorem dX8_count_157 : DR cX8_count 157 (.getfield 99) 3 160 := ⟨by decide +kernel, rfl⟩
theorem dX8_count_160 : DR cX8_count 160 (.ireturn) 1 161 := ⟨by decide +kernel, rfl⟩
theorem dX8_count_161 : DR cX8_count 161 (.iconst (-1)) 1 162 := ⟨by decide +kernel, rfl⟩
theorem dX8_count_162 : DR cX8_count 162 (.ireturn) 1 163 := ⟨by decide +kernel, rfl⟩
theorem dX8_layText_0 : DR cX8_layText 0 (.aload_n 0) 1 1 := ⟨by decide +kernel, rfl⟩
theorem dX8_layText_1 : DR cX8_layText 1 (.getfield 19) 3 4 := ⟨by decide +kernel, rfl⟩
theorem dX8_layText_4 : DR cX8_layText 4 (.aload_n 0) 1 5 := ⟨by decide +kernel, rfl⟩
theorem dX8_layText_5 : DR cX8_layText 5 (.getfield 12) 3 8 := ⟨by decide +kernel, rfl⟩
theorem dX8_layText_8 : DR cX8_layText 8 (.aload_n 0) 1 9 := ⟨by decide +kernel, rfl⟩
theorem dX8_layText_9 : DR cX8_layText 9 (.getfield 66) 3 12 := ⟨by decide +kernel, rfl⟩
theorem dX8_layText_12 : DR cX8_layText 12 (.invokevirtual 103) 3 15 := ⟨by decide +kernel, rfl⟩
theorem dX8_layText_15 : DR cX8_layText 15 (.bipush (-4)) 2 17 := ⟨by decide +kernel, rfl⟩
theorem dX8_layText_17 : DB cX8_layText 17 (.if_icmp .ne 16) 3 (16) 20 33 := ⟨by decide +kernel, rfl, by decide⟩
theorem dX8_layText_20 : DR cX8_layText 20 (.aload_n 0) 1 21 := ⟨by decide +kernel, rfl⟩
theorem dX8_layText_21 : DR cX8_layText 21 (.getfield 66) 3 24 := ⟨by decide +kernel, rfl⟩
theorem dX8_layText_24 : DR cX8_layText 24 (.getfield 279) 3 27 := ⟨by decide +kernel, rfl⟩
theorem dX8_layText_27 : DR cX8_layText 27 (.getfield 185) 3 30 := ⟨by decide +kernel, rfl⟩
theorem dX8_layText_30 : DB cX8_layText 30 (.ifCond .ne 6) 3 (6) 33 36 := ⟨by decide +kernel, rfl, by decide⟩
theorem dX8_layText_33 : DR cX8_layText 33 (.bipush (-2)) 2 35 := ⟨by decide +kernel, rfl⟩
theorem dX8_layText_35 : DR cX8_layText 35 (.ireturn) 1 36 := ⟨by decide +kernel, rfl⟩
theorem dX8_layText_36 : DR cX8_layText 36 (.aload_n 0) 1 37 := ⟨by decide +kernel, rfl⟩
theorem dX8_layText_37 : DR cX8_layText 37 (.getfield 66) 3 40 := ⟨by decide +kernel, rfl⟩
theorem dX8_layText_40 : DR cX8_layText 40 (.astore_n 1) 1 41 := ⟨by decide +kernel, rfl⟩
theorem dX8_layText_41 : DR cX8_layText 41 (.aload_n 0) 1 42 := ⟨by decide +kernel, rfl⟩
theorem dX8_layText_42 : DR cX8_layText 42 (.aload_n 0) 1 43 := ⟨by decide +kernel, rfl⟩
theorem dX8_layText_43 : DR cX8_layText 43 (.getfield 62) 3 46 := ⟨by decide +kernel, rfl⟩
theorem dX8_layText_46 : DR cX8_layText 46 (.putfield 66) 3 49 := ⟨by decide +kernel, rfl⟩
theorem dX8_layText_49 : DR cX8_layText 49 (.aload_n 0) 1 50 := ⟨by decide +kernel, rfl⟩
theorem dX8_layText_50 : DR cX8_layText 50 (.aload_n 1) 1 51 := ⟨by decide +kernel, rfl⟩
theorem dX8_layText_51 : DR cX8_layText 51 (.putfield 62) 3 54 := ⟨by decide +kernel, rfl⟩
theorem dX8_layText_54 : DR cX8_layText 54 (.aload_n 0) 1 55 := ⟨by decide +kernel, rfl⟩
theorem dX8_layText_55 : DR cX8_layText 55 (.getfield 26) 3 58 := ⟨by decide +kernel, rfl⟩
theorem dX8_layText_58 : DR cX8_layText 58 (.aload_n 0) 1 59 := ⟨by decide +kernel, rfl⟩
theorem dX8_layText_59 : DR cX8_layText 59 (.getfield 62) 3 62 := ⟨by decide +kernel, rfl⟩
theorem dX8_layText_62 : DR cX8_layText 62 (.getfield 279) 3 65 := ⟨by decide +kernel, rfl⟩
theorem dX8_layText_65 : DR cX8_layText 65 (.invokevirtual 176) 3 68 := ⟨by decide +kernel, rfl⟩
theorem dX8_layText_68 : DR cX8_layText 68 (.aload_n 0) 1 69 := ⟨by decide +kernel, rfl⟩
theorem dX8_layText_69 : DR cX8_layText 69 (.getfield 48) 3 72 := ⟨by decide +kernel, rfl⟩
theorem dX8_layText_72 : DR cX8_layText 72 (.invokevirtual 239) 3 75 := ⟨by decide +kernel, rfl⟩
theorem dX8_layText_75 : DR cX8_layText 75 (.aload_n 0) 1 76 := ⟨by decide +kernel, rfl⟩
theorem dX8_layText_76 : DR cX8_layText 76 (.getfield 38) 3 79 := ⟨by decide +kernel, rfl⟩
theorem dX8_layText_79 : DR cX8_layText 79 (.invokevirtual 278) 3 82 := ⟨by decide +kernel, rfl⟩
theorem dX8_layText_82 : DR cX8_layText 82 (.aload_n 0) 1 83 := ⟨by decide +kernel, rfl⟩
theorem dX8_layText_83 : DR cX8_layText 83 (.getfield 42) 3 86 := ⟨by decide +kernel, rfl⟩
theorem dX8_layText_86 : DR cX8_layText 86 (.invokevirtual 278) 3 89 := ⟨by decide +kernel, rfl⟩
theorem dX8_layText_89 : DR cX8_layText 89 (.aload_n 0) 1 90 := ⟨by decide +kernel, rfl⟩
theorem dX8_layText_90 : DR cX8_layText 90 (.getfield 26) 3 93 := ⟨by decide +kernel, rfl⟩
theorem dX8_layText_93 : DR cX8_layText 93 (.getfield 185) 3 96 := ⟨by decide +kernel, rfl⟩
theorem dX8_layText_96 : DR cX8_layText 96 (.ireturn) 1 97 := ⟨by decide +kernel, rfl⟩
theorem dX8_isNoLoom_0 : DR cX8_isNoLoom 0 (.iload_n 1) 1 1 := ⟨by decide +kernel, rfl⟩
theorem dX8_isNoLoom_1 : DR cX8_isNoLoom 1 (.iconst 0) 1 2 := ⟨by decide +kernel, rfl⟩
theorem dX8_isNoLoom_2 : DR cX8_isNoLoom 2 (.aload_n 0) 1 3 := ⟨by decide +kernel, rfl⟩
theorem dX8_isNoLoom_3 : DR cX8_isNoLoom 3 (.getfield 26) 3 6 := ⟨by decide +kernel, rfl⟩
theorem dX8_isNoLoom_6 : DR cX8_isNoLoom 6 (.getfield 185) 3 9 := ⟨by decide +kernel, rfl⟩
theorem dX8_isNoLoom_9 : DR cX8_isNoLoom 9 (.iconst 1) 1 10 := ⟨by decide +kernel, rfl⟩
theorem dX8_isNoLoom_10 : DR cX8_isNoLoom 10 (.isub) 1 11 := ⟨by decide +kernel, rfl⟩
theorem dX8_isNoLoom_11 : DR cX8_isNoLoom 11 (.invokestatic 91) 3 14 := ⟨by decide +kernel, rfl⟩
theorem dX8_isNoLoom_14 : DR cX8_isNoLoom 14 (.ireturn) 1 15 := ⟨by decide +kernel, rfl⟩
theorem dX8_isNoPlace_0 : DR cX8_isNoPlace 0 (.iload_n 0) 1 1 := ⟨by decide +kernel, rfl⟩
theorem dX8_isNoPlace_1 : DR cX8_isNoPlace 1 (.iconst 0) 1 2 := ⟨by decide +kernel, rfl⟩
theorem dX8_isNoPlace_2 : DR cX8_isNoPlace 2 (.bipush 9) 2 4 := ⟨by decide +kernel, rfl⟩
theorem dX8_isNoPlace_4 : DR cX8_isNoPlace 4 (.invokestatic 91) 3 7 := ⟨by decide +kernel, rfl⟩
theorem dX8_isNoPlace_7 : DR cX8_isNoPlace 7 (.ireturn) 1 8 := ⟨by decide +kernel, rfl⟩
theorem dX8_isOutside_0 : DR cX8_isOutside 0 (.iload_n 0) 1 1 := ⟨by decide +kernel, rfl⟩
theorem dX8_isOutside_1 : DR cX8_isOutside 1 (.iload_n 1) 1 2 := ⟨by decide +kernel, rfl⟩
theorem dX8_isOutside_2 : DB cX8_isOutside 2 (.if_icmp .lt 8) 3 (8) 5 10 := ⟨by decide +kernel, rfl, by decide⟩
theorem dX8_isOutside_5 : DR cX8_isOutside 5 (.iload_n 0) 1 6 := ⟨by decide +kernel, rfl⟩
theorem dX8_isOutside_6 : DR cX8_isOutside 6 (.iload_n 2) 1 7 := ⟨by decide +kernel, rfl⟩
theorem dX8_isOutside_7 : DB cX8_isOutside 7 (.if_icmp .le 7) 3 (7) 10 14 := ⟨by decide +kernel, rfl, by decide⟩
theorem dX8_isOutside_10 : DR cX8_isOutside 10 (.iconst 1) 1 11 := ⟨by decide +kernel, rfl⟩
theorem dX8_isOutside_11 : DB cX8_isOutside 11 (.goto 4) 3 (4) 14 15 := ⟨by decide +kernel, rfl, by decide⟩
theorem dX8_isOutside_14 : DR cX8_isOutside 14 (.iconst 0) 1 15 := ⟨by decide +kernel, rfl⟩
theorem dX8_isOutside_15 : DR cX8_isOutside 15 (.ireturn) 1 16 := ⟨by decide +kernel, rfl⟩
theorem dX8_hasBit_0 : DR cX8_hasBit 0 (.iload_n 0) 1 1 := ⟨by decide +kernel, rfl⟩
theorem dX8_hasBit_1 : DR cX8_hasBit 1 (.iload_n 1) 1 2 := ⟨by decide +kernel, rfl⟩
theorem dX8_hasBit_2 : DR cX8_hasBit 2 (.ishr) 1 3 := ⟨by decide +kernel, rfl⟩
theorem dX8_hasBit_3 : DR cX8_hasBit 3 (.iconst 1) 1 4 := ⟨by decide +kernel, rfl⟩
theorem dX8_hasBit_4 : DR cX8_hasBit 4 (.iand) 1 5 := ⟨by decide +kernel, rfl⟩
theorem dX8_hasBit_5 : DR cX8_hasBit 5 (.iconst 1) 1 6 := ⟨by decide +kernel, rfl⟩
theorem dX8_hasBit_6 : DB cX8_hasBit 6 (.if_icmp .ne 7) 3 (7) 9 13 := ⟨by decide +kernel, rfl, by decide⟩
theorem dX8_hasBit_9 : DR cX8_hasBit 9 (.iconst 1) 1 10 := ⟨by decide +kernel, rfl⟩
theorem dX8_hasBit_10 : DB cX8_hasBit 10 (.goto 4) 3 (4) 13 14 := ⟨by decide +kernel, rfl, by decide⟩
theorem dX8_hasBit_13 : DR cX8_hasBit 13 (.iconst 0) 1 14 := ⟨by decide +kernel, rfl⟩
theorem dX8_hasBit_14 : DR cX8_hasBit 14 (.ireturn) 1 15 := ⟨by decide +kernel, rfl⟩
theorem dX8_yardsOfTrial_0 : DR cX8_yardsOfTrial 0 (.aload_n 0) 1 1 := ⟨by decide +kernel, rfl⟩
theorem dX8_yardsOfTrial_1 : DR cX8_yardsOfTrial 1 (.getfield 62) 3 4 := ⟨by decide +kernel, rfl⟩
theorem dX8_yardsOfTrial_4 : DR cX8_yardsOfTrial 4 (.aload_n 0) 1 5 := ⟨by decide +kernel, rfl⟩
theorem dX8_yardsOfTrial_5 : DR cX8_yardsOfTrial 5 (.getfield 30) 3 8 := ⟨by decide +kernel, rfl⟩
theorem dX8_yardsOfTrial_8 : DR cX8_yardsOfTrial 8 (.aload_n 0) 1 9 := ⟨by decide +kernel, rfl⟩
theorem dX8_yardsOfTrial_9 : DR cX8_yardsOfTrial 9 (.invokevirtual 282) 3 12 := ⟨by decide +kernel, rfl⟩
theorem dX8_yardsOfTrial_12 : DR cX8_yardsOfTrial 12 (.invokevirtual 140) 3 15 := ⟨by decide +kernel, rfl⟩
theorem dX8_yardsOfTrial_15 : DR cX8_yardsOfTrial 15 (.aload_n 0) 1 16 := ⟨by decide +kernel, rfl⟩
theorem dX8_yardsOfTrial_16 : DR cX8_yardsOfTrial 16 (.getfield 30) 3 19 := ⟨by decide +kernel, rfl⟩
theorem dX8_yardsOfTrial_19 : DR cX8_yardsOfTrial 19 (.aload_n 0) 1 20 := ⟨by decide +kernel, rfl⟩
theorem dX8_yardsOfTrial_20 : DR cX8_yardsOfTrial 20 (.getfield 62) 3 23 := ⟨by decide +kernel, rfl⟩
theorem dX8_yardsOfTrial_23 : DR cX8_yardsOfTrial 23 (.getfield 268) 3 26 := ⟨by decide +kernel, rfl⟩
theorem dX8_yardsOfTrial_26 : DR cX8_yardsOfTrial 26 (.invokevirtual 271) 3 29 := ⟨by decide +kernel, rfl⟩
theorem dX8_yardsOfTrial_29 : DR cX8_yardsOfTrial 29 (.ireturn) 1 30 := ⟨by decide +kernel, rfl⟩
theorem dX8_hoursTillMerchants_0 : DR cX8_hoursTillMerchants 0 (.iconst 0) 1 1 := ⟨by decide +kernel, rfl⟩
theorem dX8_hoursTillMerchants_1 : DR cX8_hoursTillMerchants 1 (.aload_n 0) 1 2 := ⟨by decide +kernel, rfl⟩
theorem dX8_hoursTillMerchants_2 : DR cX8_hoursTillMerchants 2 (.getfield 62) 3 5 := ⟨by decide +kernel, rfl⟩
theorem dX8_hoursTillMerchants_5 : DR cX8_hoursTillMerchants 5 (.getfield 285) 3 8 := ⟨by decide +kernel, rfl⟩
theorem dX8_hoursTillMerchants_8 : DR cX8_hoursTillMerchants 8 (.aload_n 0) 1 9 := ⟨by decide +kernel, rfl⟩
theorem dX8_hoursTillMerchants_9 : DR cX8_hoursTillMerchants 9 (.getfield 26) 3 12 := ⟨by decide +kernel, rfl⟩
theorem dX8_hoursTillMerchants_12 : DR cX8_hoursTillMerchants 12 (.getfield 133) 3 15 := ⟨by decide +kernel, rfl⟩
theorem dX8_hoursTillMerchants_15 : DR cX8_hoursTillMerchants 15 (.isub) 1 16 := ⟨by decide +kernel, rfl⟩
theorem dX8_hoursTillMerchants_16 : DR cX8_hoursTillMerchants 16 (.invokestatic 257) 3 19 := ⟨by decide +kernel, rfl⟩
theorem dX8_hoursTillMerchants_19 : DR cX8_hoursTillMerchants 19 (.ireturn) 1 20 := ⟨by decide +kernel, rfl⟩
theorem dX8_shadeTrial_0 : DR cX8_shadeTrial 0 (.aload_n 0) 1 1 := ⟨by decide +kernel, rfl⟩
theorem dX8_shadeTrial_1 : DR cX8_shadeTrial 1 (.getfield 30) 3 4 := ⟨by decide +kernel, rfl⟩
theorem dX8_shadeTrial_4 : DR cX8_shadeTrial 4 (.aload_n 0) 1 5 := ⟨by decide +kernel, rfl⟩
theorem dX8_shadeTrial_5 : DR cX8_shadeTrial 5 (.getfield 26) 3 8 := ⟨by decide +kernel, rfl⟩
theorem dX8_shadeTrial_8 : DR cX8_shadeTrial 8 (.invokevirtual 176) 3 11 := ⟨by decide +kernel, rfl⟩
theorem dX8_shadeTrial_11 : DR cX8_shadeTrial 11 (.iconst 0) 1 12 := ⟨by decide +kernel, rfl⟩
theorem dX8_shadeTrial_12 : DR cX8_shadeTrial 12 (.istore_n 2) 1 13 := ⟨by decide +kernel, rfl⟩
theorem dX8_shadeTrial_13 : DR cX8_shadeTrial 13 (.iload_n 2) 1 14 := ⟨by decide +kernel, rfl⟩
theorem dX8_shadeTrial_14 : DR cX8_shadeTrial 14 (.aload_n 0) 1 15 := ⟨by decide +kernel, rfl⟩
theorem dX8_shadeTrial_15 : DR cX8_shadeTrial 15 (.getfield 26) 3 18 := ⟨by decide +kernel, rfl⟩
theorem dX8_shadeTrial_18 : DR cX8_shadeTrial 18 (.getfield 185) 3 21 := ⟨by decide +kernel, rfl⟩
theorem dX8_shadeTrial_21 : DB cX8_shadeTrial 21 (.if_icmp .ge 29) 3 (29) 24 50 := ⟨by decide +kernel, rfl, by decide⟩
theorem dX8_shadeTrial_24 : DR cX8_shadeTrial 24 (.iload_n 1) 1 25 := ⟨by decide +kernel, rfl⟩
theorem dX8_shadeTrial_25 : DR cX8_shadeTrial 25 (.iload_n 2) 1 26 := ⟨by decide +kernel, rfl⟩
theorem dX8_shadeTrial_26 : DR cX8_shadeTrial 26 (.invokestatic 224) 3 29 := ⟨by decide +kernel, rfl⟩
theorem dX8_shadeTrial_29 : DB cX8_shadeTrial 29 (.ifCond .eq 15) 3 (15) 32 44 := ⟨by decide +kernel, rfl, by decide⟩
theorem dX8_shadeTrial_32 : DR cX8_shadeTrial 32 (.aload_n 0) 1 33 := ⟨by decide +kernel, rfl⟩
theorem dX8_shadeTrial_33 : DR cX8_shadeTrial 33 (.getfield 30) 3 36 := ⟨by decide +kernel, rfl⟩
theorem dX8_shadeTrial_36 : DR cX8_shadeTrial 36 (.iload_n 2) 1 37 := ⟨by decide +kernel, rfl⟩
theorem dX8_shadeTrial_37 : DR cX8_shadeTrial 37 (.invokevirtual 111) 3 40 := ⟨by decide +kernel, rfl⟩
theorem dX8_shadeTrial_40 : DR cX8_shadeTrial 40 (.iconst 1) 1 41 := ⟨by decide +kernel, rfl⟩
theorem dX8_shadeTrial_41 : DR cX8_shadeTrial 41 (.putfield 150) 3 44 := ⟨by decide +kernel, rfl⟩
theorem dX8_shadeTrial_44 : DR cX8_shadeTrial 44 (.iinc 2 1) 3 47 := ⟨by decide +kernel, rfl⟩
theorem dX8_shadeTrial_47 : DB cX8_shadeTrial 47 (.goto (-34)) 3 (-34) 50 13 := ⟨by decide +kernel, rfl, by decide⟩
theorem dX8_shadeTrial_50 : DR cX8_shadeTrial 50 (.return_) 1 51 := ⟨by decide +kernel, rfl⟩
theorem dX8_ownNextCold_0 : DR cX8_ownNextCold 0 (.aload_n 0) 1 1 := ⟨by decide +kernel, rfl⟩
theorem dX8_ownNextCold_1 : DR cX8_ownNextCold 1 (.getfield 62) 3 4 := ⟨by decide +kernel, rfl⟩
theorem dX8_ownNextCold_4 : DR cX8_ownNextCold 4 (.aload_n 0) 1 5 := ⟨by decide +kernel, rfl⟩
theorem dX8_ownNextCold_5 : DR cX8_ownNextCold 5 (.getfield 26) 3 8 := ⟨by decide +kernel, rfl⟩
theorem dX8_ownNextCold_8 : DR cX8_ownNextCold 8 (.getfield 133) 3 11 := ⟨by decide +kernel, rfl⟩
theorem dX8_ownNextCold_11 : DR cX8_ownNextCold 11 (.invokevirtual 121) 3 14 := ⟨by decide +kernel, rfl⟩
theorem dX8_ownNextCold_14 : DR cX8_ownNextCold 14 (.ireturn) 1 15 := ⟨by decide +kernel, rfl⟩
theorem dX8_isAllSeenSo_0 : DR cX8_isAllSeenSo 0 (.iload_n 1) 1 1 := ⟨by decide +kernel, rfl⟩
theorem dX8_isAllSeenSo_1 : DR cX8_isAllSeenSo 1 (.istore_n 2) 1 2 := ⟨by decide +kernel, rfl⟩
theorem dX8_isAllSeenSo_2 : DR cX8_isAllSeenSo 2 (.iconst 0) 1 3 := ⟨by decide +kernel, rfl⟩
theorem dX8_isAllSeenSo_3 : DR cX8_isAllSeenSo 3 (.istore_n 3) 1 4 := ⟨by decide +kernel, rfl⟩
theorem dX8_isAllSeenSo_4 : DR cX8_isAllSeenSo 4 (.iload_n 3) 1 5 := ⟨by decide +kernel, rfl⟩
theorem dX8_isAllSeenSo_5 : DR cX8_isAllSeenSo 5 (.bipush 12) 2 7 := ⟨by decide +kernel, rfl⟩
theorem dX8_isAllSeenSo_7 : DB cX8_isAllSeenSo 7 (.if_icmp .gt 67) 3 (67) 10 74 := ⟨by decide +kernel, rfl, by decide⟩
theorem dX8_isAllSeenSo_10 : DR cX8_isAllSeenSo 10 (.aload_n 0) 1 11 := ⟨by decide +kernel, rfl⟩
theorem dX8_isAllSeenSo_11 : DR cX8_isAllSeenSo 11 (.getfield 48) 3 14 := ⟨by decide +kernel, rfl⟩
theorem dX8_isAllSeenSo_14 : DR cX8_isAllSeenSo 14 (.aload_n 0) 1 15 := ⟨by decide +kernel, rfl⟩
theorem dX8_isAllSeenSo_15 : DR cX8_isAllSeenSo 15 (.getfield 30) 3 18 := ⟨by decide +kernel, rfl⟩
theorem dX8_isAllSeenSo_18 : DR cX8_isAllSeenSo 18 (.iload_n 3) 1 19 := ⟨by decide +kernel, rfl⟩
theorem dX8_isAllSeenSo_19 : DR cX8_isAllSeenSo 19 (.invokevirtual 288) 3 22 := ⟨by decide +kernel, rfl⟩
theorem dX8_isAllSeenSo_22 : DB cX8_isAllSeenSo 22 (.ifCond .ne 5) 3 (5) 25 27 := ⟨by decide +kernel, rfl, by decide⟩
theorem dX8_isAllSeenSo_25 : DR cX8_isAllSeenSo 25 (.iconst 0) 1 26 := ⟨by decide +kernel, rfl⟩
theorem dX8_isAllSeenSo_26 : DR cX8_isAllSeenSo 26 (.ireturn) 1 27 := ⟨by decide +kernel, rfl⟩
theorem dX8_isAllSeenSo_27 : DR cX8_isAllSeenSo 27 (.aload_n 0) 1 28 := ⟨by decide +kernel, rfl⟩
theorem dX8_isAllSeenSo_28 : DR cX8_isAllSeenSo 28 (.getfield 62) 3 31 := ⟨by decide +kernel, rfl⟩
theorem dX8_isAllSeenSo_31 : DR cX8_isAllSeenSo 31 (.aload_n 0) 1 32 := ⟨by decide +kernel, rfl⟩
theorem dX8_isAllSeenSo_32 : DR cX8_isAllSeenSo 32 (.getfield 30) 3 35 := ⟨by decide +kernel, rfl⟩
theorem dX8_isAllSeenSo_35 : DR cX8_isAllSeenSo 35 (.iload_n 2) 1 36 := ⟨by decide +kernel, rfl⟩
theorem dX8_isAllSeenSo_36 : DR cX8_isAllSeenSo 36 (.aload_n 0) 1 37 := ⟨by decide +kernel, rfl⟩
theorem dX8_isAllSeenSo_37 : DR cX8_isAllSeenSo 37 (.getfield 62) 3 40 := ⟨by decide +kernel, rfl⟩
theorem dX8_isAllSeenSo_40 : DR cX8_isAllSeenSo 40 (.aload_n 0) 1 41 := ⟨by decide +kernel, rfl⟩
theorem dX8_isAllSeenSo_41 : DR cX8_isAllSeenSo 41 (.getfield 30) 3 44 := ⟨by decide +kernel, rfl⟩
theorem dX8_isAllSeenSo_44 : DR cX8_isAllSeenSo 44 (.getfield 133) 3 47 := ⟨by decide +kernel, rfl⟩
theorem dX8_isAllSeenSo_47 : DR cX8_isAllSeenSo 47 (.invokevirtual 124) 3 50 := ⟨by decide +kernel, rfl⟩
theorem dX8_isAllSeenSo_50 : DR cX8_isAllSeenSo 50 (.invokevirtual 292) 3 53 := ⟨by decide +kernel, rfl⟩
theorem dX8_isAllSeenSo_53 : DR cX8_isAllSeenSo 53 (.aload_n 0) 1 54 := ⟨by decide +kernel, rfl⟩
theorem dX8_isAllSeenSo_54 : DR cX8_isAllSeenSo 54 (.getfield 62) 3 57 := ⟨by decide +kernel, rfl⟩
theorem dX8_isAllSeenSo_57 : DR cX8_isAllSeenSo 57 (.aload_n 0) 1 58 := ⟨by decide +kernel, rfl⟩
theorem dX8_isAllSeenSo_58 : DR cX8_isAllSeenSo 58 (.getfield 30) 3 61 := ⟨by decide +kernel, rfl⟩
theorem dX8_isAllSeenSo_61 : DR cX8_isAllSeenSo 61 (.getfield 133) 3 64 := ⟨by decide +kernel, rfl⟩
theorem dX8_isAllSeenSo_64 : DR cX8_isAllSeenSo 64 (.invokevirtual 121) 3 67 := ⟨by decide +kernel, rfl⟩
theorem dX8_isAllSeenSo_67 : DR cX8_isAllSeenSo 67 (.istore_n 2) 1 68 := ⟨by decide +kernel, rfl⟩
theorem dX8_isAllSeenSo_68 : DR cX8_isAllSeenSo 68 (.iinc 3 1) 3 71 := ⟨by decide +kernel, rfl⟩
theorem dX8_isAllSeenSo_71 : DB cX8_isAllSeenSo 71 (.goto (-67)) 3 (-67) 74 4 := ⟨by decide +kernel, rfl, by decide⟩
theorem dX8_isAllSeenSo_74 : DR cX8_isAllSeenSo 74 (.iconst 1) 1 75 := ⟨by decide +kernel, rfl⟩
theorem dX8_isAllSeenSo_75 : DR cX8_isAllSeenSo 75 (.ireturn) 1 76 := ⟨by decide +kernel, rfl⟩
theorem dX8_chancesOfYard_0 : DR cX8_chancesOfYard 0 (.iconst 0) 1 1 := ⟨by decide +kernel, rfl⟩
theorem dX8_chancesOfYard_1 : DR cX8_chancesOfYard 1 (.istore 4) 2 3 := ⟨by decide +kernel, rfl⟩
theorem dX8_chancesOfYard_3 : DR cX8_chancesOfYard 3 (.iconst 0) 1 4 := ⟨by decide +kernel, rfl⟩
theorem dX8_chancesOfYard_4 : DR cX8_chancesOfYard 4 (.istore 5) 2 6 := ⟨by decide +kernel, rfl⟩
theorem dX8_chancesOfYard_6 : DR cX8_chancesOfYard 6 (.iload 5) 2 8 := ⟨by decide +kernel, rfl⟩
theorem dX8_chancesOfYard_8 : DR cX8_chancesOfYard 8 (.iconst 1) 1 9 := ⟨by decide +kernel, rfl⟩
theorem dX8_chancesOfYard_9 : DR cX8_chancesOfYard 9 (.iload_n 2) 1 10 := ⟨by decide +kernel, rfl⟩
theorem dX8_chancesOfYard_10 : DR cX8_chancesOfYard 10 (.ishl) 1 11 := ⟨by decide +kernel, rfl⟩
theorem dX8_chancesOfYard_11 : DB cX8_chancesOfYard 11 (.if_icmp .ge 118) 3 (118) 14 129 := ⟨by decide +kernel, rfl, by decide⟩
theorem dX8_chancesOfYard_14 : DR cX8_chancesOfYard 14 (.aload_n 0) 1 15 := ⟨by decide +kernel, rfl⟩
theorem dX8_chancesOfYard_15 : DR cX8_chancesOfYard 15 (.getfield 30) 3 18 := ⟨by decide +kernel, rfl⟩
theorem dX8_chancesOfYard_18 : DR cX8_chancesOfYard 18 (.aload_n 0) 1 19 := ⟨by decide +kernel, rfl⟩
theorem dX8_chancesOfYard_19 : DR cX8_chancesOfYard 19 (.getfield 26) 3 22 := ⟨by decide +kernel, rfl⟩
theorem dX8_chancesOfYard_22 : DR cX8_chancesOfYard 22 (.invokevirtual 176) 3 25 := ⟨by decide +kernel, rfl⟩
theorem dX8_chancesOfYard_25 : DR cX8_chancesOfYard 25 (.iconst 0) 1 26 := ⟨by decide +kernel, rfl⟩
theorem dX8_chancesOfYard_26 : DR cX8_chancesOfYard 26 (.istore 6) 2 28 := ⟨by decide +kernel, rfl⟩
theorem dX8_chancesOfYard_28 : DR cX8_chancesOfYard 28 (.iload 6) 2 30 := ⟨by decide +kernel, rfl⟩
theorem dX8_chancesOfYard_30 : DR cX8_chancesOfYard 30 (.iload_n 2) 1 31 := ⟨by decide +kernel, rfl⟩
theorem dX8_chancesOfYard_31 : DB cX8_chancesOfYard 31 (.if_icmp .ge 41) 3 (41) 34 72 := ⟨by decide +kernel, rfl, by decide⟩
theorem dX8_chancesOfYard_34 : DR cX8_chancesOfYard 34 (.aload_n 0) 1 35 := ⟨by decide +kernel, rfl⟩
theorem dX8_chancesOfYard_35 : DR cX8_chancesOfYard 35 (.getfield 62) 3 38 := ⟨by decide +kernel, rfl⟩
theorem dX8_chancesOfYard_38 : DR cX8_chancesOfYard 38 (.aload_n 0) 1 39 := ⟨by decide +kernel, rfl⟩
theorem dX8_chancesOfYard_39 : DR cX8_chancesOfYard 39 (.getfield 30) 3 42 := ⟨by decide +kernel, rfl⟩
theorem dX8_chancesOfYard_42 : DR cX8_chancesOfYard 42 (.aload_n 0) 1 43 := ⟨by decide +kernel, rfl⟩
theorem dX8_chancesOfYard_43 : DR cX8_chancesOfYard 43 (.getfield 62) 3 46 := ⟨by decide +kernel, rfl⟩
theorem dX8_chancesOfYard_46 : DR cX8_chancesOfYard 46 (.aload_n 0) 1 47 := ⟨by decide +kernel, rfl⟩
theorem dX8_chancesOfYard_47 : DR cX8_chancesOfYard 47 (.getfield 30) 3 50 := ⟨by decide +kernel, rfl⟩
theorem dX8_chancesOfYard_50 : DR cX8_chancesOfYard 50 (.getfield 133) 3 53 := ⟨by decide +kernel, rfl⟩
theorem dX8_chancesOfYard_53 : DR cX8_chancesOfYard 53 (.invokevirtual 121) 3 56 := ⟨by decide +kernel, rfl⟩
theorem dX8_chancesOfYard_56 : DR cX8_chancesOfYard 56 (.iload 5) 2 58 := ⟨by decide +kernel, rfl⟩
theorem dX8_chancesOfYard_58 : DR cX8_chancesOfYard 58 (.iload 6) 2 60 := ⟨by decide +kernel, rfl⟩
theorem dX8_chancesOfYard_60 : DR cX8_chancesOfYard 60 (.ishr) 1 61 := ⟨by decide +kernel, rfl⟩
theorem dX8_chancesOfYard_61 : DR cX8_chancesOfYard 61 (.iconst 1) 1 62 := ⟨by decide +kernel, rfl⟩
theorem dX8_chancesOfYard_62 : DR cX8_chancesOfYard 62 (.iand) 1 63 := ⟨by decide +kernel, rfl⟩
theorem dX8_chancesOfYard_63 : DR cX8_chancesOfYard 63 (.invokevirtual 292) 3 66 := ⟨by decide +kernel, rfl⟩
theorem dX8_chancesOfYard_66 : DR cX8_chancesOfYard 66 (.iinc 6 1) 3 69 := ⟨by decide +kernel, rfl⟩
theorem dX8_chancesOfYard_69 : DB cX8_chancesOfYard 69 (.goto (-41)) 3 (-41) 72 28 := ⟨by decide +kernel, rfl, by decide⟩
theorem dX8_chancesOfYard_72 : DR cX8_chancesOfYard 72 (.aload_n 0) 1 73 := ⟨by decide +kernel, rfl⟩
theorem dX8_chancesOfYard_73 : DR cX8_chancesOfYard 73 (.getfield 30) 3 76 := ⟨by decide +kernel, rfl⟩
theorem dX8_chancesOfYard_76 : DR cX8_chancesOfYard 76 (.aload_n 0) 1 77 := ⟨by decide +kernel, rfl⟩
theorem dX8_chancesOfYard_77 : DR cX8_chancesOfYard 77 (.getfield 62) 3 80 := ⟨by decide +kernel, rfl⟩
theorem dX8_chancesOfYard_80 : DR cX8_chancesOfYard 80 (.getfield 268) 3 83 := ⟨by decide +kernel, rfl⟩
theorem dX8_chancesOfYard_83 : DR cX8_chancesOfYard 83 (.invokevirtual 271) 3 86 := ⟨by decide +kernel, rfl⟩
theorem dX8_chancesOfYard_86 : DR cX8_chancesOfYard 86 (.iload_n 1) 1 87 := ⟨by decide +kernel, rfl⟩
theorem dX8_chancesOfYard_87 : DR cX8_chancesOfYard 87 (.invokestatic 224) 3 90 := ⟨by decide +kernel, rfl⟩
theorem dX8_chancesOfYard_90 : DB cX8_chancesOfYard 90 (.ifCond .eq 33) 3 (33) 93 123 := ⟨by decide +kernel, rfl, by decide⟩
theorem dX8_chancesOfYard_93 : DR cX8_chancesOfYard 93 (.iload 5) 2 95 := ⟨by decide +kernel, rfl⟩
theorem dX8_chancesOfYard_95 : DR cX8_chancesOfYard 95 (.invokestatic 195) 3 98 := ⟨by decide +kernel, rfl⟩
theorem dX8_chancesOfYard_98 : DR cX8_chancesOfYard 98 (.istore 6) 2 100 := ⟨by decide +kernel, rfl⟩
theorem dX8_chancesOfYard_100 : DR cX8_chancesOfYard 100 (.iload 4) 2 102 := ⟨by decide +kernel, rfl⟩
theorem dX8_chancesOfYard_102 : DR cX8_chancesOfYard 102 (.iload_n 3) 1 103 := ⟨by decide +kernel, rfl⟩
theorem dX8_chancesOfYard_103 : DR cX8_chancesOfYard 103 (.iload 6) 2 105 := ⟨by decide +kernel, rfl⟩
theorem dX8_chancesOfYard_105 : DR cX8_chancesOfYard 105 (.invokestatic 250) 3 108 := ⟨by decide +kernel, rfl⟩
theorem dX8_chancesOfYard_108 : DR cX8_chancesOfYard 108 (.bipush 10) 2 110 := ⟨by decide +kernel, rfl⟩
theorem dX8_chancesOfYard_110 : DR cX8_chancesOfYard 110 (.iload_n 3) 1 111 := ⟨by decide +kernel, rfl⟩
theorem dX8_chancesOfYard_111 : DR cX8_chancesOfYard 111 (.isub) 1 112 := ⟨by decide +kernel, rfl⟩
theorem dX8_chancesOfYard_112 : DR cX8_chancesOfYard 112 (.iload_n 2) 1 113 := ⟨by decide +kernel, rfl⟩
theorem dX8_chancesOfYard_113 : DR cX8_chancesOfYard 113 (.iload 6) 2 115 := ⟨by decide +kernel, rfl⟩
theorem dX8_chancesOfYard_115 : DR cX8_chancesOfYard 115 (.isub) 1 116 := ⟨by decide +kernel, rfl⟩
theorem dX8_chancesOfYard_116 : DR cX8_chancesOfYard 116 (.invokestatic 250) 3 119 := ⟨by decide +kernel, rfl⟩
theorem dX8_chancesOfYard_119 : DR cX8_chancesOfYard 119 (.imul) 1 120 := ⟨by decide +kernel, rfl⟩
theorem dX8_chancesOfYard_120 : DR cX8_chancesOfYard 120 (.iadd) 1 121 := ⟨by decide +kernel, rfl⟩
theorem dX8_chancesOfYard_121 : DR cX8_chancesOfYard 121 (.istore 4) 2 123 := ⟨by decide +kernel, rfl⟩
theorem dX8_chancesOfYard_123 : DR cX8_chancesOfYard 123 (.iinc 5 1) 3 126 := ⟨by decide +kernel, rfl⟩
theorem dX8_chancesOfYard_126 : DB cX8_chancesOfYard 126 (.goto (-120)) 3 (-120) 129 6 := ⟨by decide +kernel, rfl, by decide⟩
theorem dX8_chancesOfYard_129 : DR cX8_chancesOfYard 129 (.iload 4) 2 131 := ⟨by decide +kernel, rfl⟩
theorem dX8_chancesOfYard_131 : DR cX8_chancesOfYard 131 (.ireturn) 1 132 := ⟨by decide +kernel, rfl⟩
theorem dX8_power_0 : DR cX8_power 0 (.iconst 1) 1 1 := ⟨by decide +kernel, rfl⟩
theorem dX8_power_1 : DR cX8_power 1 (.istore_n 2) 1 2 := ⟨by decide +kernel, rfl⟩
theorem dX8_power_2 : DR cX8_power 2 (.iconst 0) 1 3 := ⟨by decide +kernel, rfl⟩
theorem dX8_power_3 : DR cX8_power 3 (.istore_n 3) 1 4 := ⟨by decide +kernel, rfl⟩
theorem dX8_power_4 : DR cX8_power 4 (.iload_n 3) 1 5 := ⟨by decide +kernel, rfl⟩
theorem dX8_power_5 : DR cX8_power 5 (.iload_n 1) 1 6 := ⟨by decide +kernel, rfl⟩
theorem dX8_power_6 : DB cX8_power 6 (.if_icmp .ge 13) 3 (13) 9 19 := ⟨by decide +kernel, rfl, by decide⟩
theorem dX8_power_9 : DR cX8_power 9 (.iload_n 2) 1 10 := ⟨by decide +kernel, rfl⟩
theorem dX8_power_10 : DR cX8_power 10 (.iload_n 0) 1 11 := ⟨by decide +kernel, rfl⟩
theorem dX8_power_11 : DR cX8_power 11 (.imul) 1 12 := ⟨by decide +kernel, rfl⟩
theorem dX8_power_12 : DR cX8_power 12 (.istore_n 2) 1 13 := ⟨by decide +kernel, rfl⟩
theorem dX8_power_13 : DR cX8_power 13 (.iinc 3 1) 3 16 := ⟨by decide +kernel, rfl⟩
theorem dX8_power_16 : DB cX8_power 16 (.goto (-12)) 3 (-12) 19 4 := ⟨by decide +kernel, rfl, by decide⟩
theorem dX8_power_19 : DR cX8_power 19 (.iload_n 2) 1 20 := ⟨by decide +kernel, rfl⟩
theorem dX8_power_20 : DR cX8_power 20 (.ireturn) 1 21 := ⟨by decide +kernel, rfl⟩
theorem dX8_sharedPower_0 : DR cX8_sharedPower 0 (.iconst 1) 1 1 := ⟨by decide +kernel, rfl⟩
theorem dX8_sharedPower_1 : DR cX8_sharedPower 1 (.istore_n 3) 1 2 := ⟨by decide +kernel, rfl⟩
theorem dX8_sharedPower_2 : DR cX8_sharedPower 2 (.iconst 0) 1 3 := ⟨by decide +kernel, rfl⟩
theorem dX8_sharedPower_3 : DR cX8_sharedPower 3 (.istore 4) 2 5 := ⟨by decide +kernel, rfl⟩
theorem dX8_sharedPower_5 : DR cX8_sharedPower 5 (.iload 4) 2 7 := ⟨by decide +kernel, rfl⟩
theorem dX8_sharedPower_7 : DR cX8_sharedPower 7 (.iload_n 2) 1 8 := ⟨by decide +kernel, rfl⟩
theorem dX8_sharedPower_8 : DB cX8_sharedPower 8 (.if_icmp .ge 31) 3 (31) 11 39 := ⟨by decide +kernel, rfl, by decide⟩
theorem dX8_sharedPower_11 : DR cX8_sharedPower 11 (.iload_n 3) 1 12 := ⟨by decide +kernel, rfl⟩
theorem dX8_sharedPower_12 : DR cX8_sharedPower 12 (.iload_n 1) 1 13 := ⟨by decide +kernel, rfl⟩
theorem dX8_sharedPower_13 : DR cX8_sharedPower 13 (.imul) 1 14 := ⟨by decide +kernel, rfl⟩
theorem dX8_sharedPower_14 : DR cX8_sharedPower 14 (.istore 5) 2 16 := ⟨by decide +kernel, rfl⟩
theorem dX8_sharedPower_16 : DR cX8_sharedPower 16 (.iload 5) 2 18 := ⟨by decide +kernel, rfl⟩
theorem dX8_sharedPower_18 : DB cX8_sharedPower 18 (.ifCond .le 10) 3 (10) 21 28 := ⟨by decide +kernel, rfl, by decide⟩
theorem dX8_sharedPower_21 : DR cX8_sharedPower 21 (.iload_n 0) 1 22 := ⟨by decide +kernel, rfl⟩
theorem dX8_sharedPower_22 : DR cX8_sharedPower 22 (.iload 5) 2 24 := ⟨by decide +kernel, rfl⟩
theorem dX8_sharedPower_24 : DR cX8_sharedPower 24 (.irem) 1 25 := ⟨by decide +kernel, rfl⟩
theorem dX8_sharedPower_25 : DB cX8_sharedPower 25 (.ifCond .eq 5) 3 (5) 28 30 := ⟨by decide +kernel, rfl, by decide⟩
theorem dX8_sharedPower_28 : DR cX8_sharedPower 28 (.iload_n 3) 1 29 := ⟨by decide +kernel, rfl⟩
theorem dX8_sharedPower_29 : DR cX8_sharedPower 29 (.ireturn) 1 30 := ⟨by decide +kernel, rfl⟩
theorem dX8_sharedPower_30 : DR cX8_sharedPower 30 (.iload 5) 2 32 := ⟨by decide +kernel, rfl⟩
theorem dX8_sharedPower_32 : DR cX8_sharedPower 32 (.istore_n 3) 1 33 := ⟨by decide +kernel, rfl⟩
theorem dX8_sharedPower_33 : DR cX8_sharedPower 33 (.iinc 4 1) 3 36 := ⟨by decide +kernel, rfl⟩
theorem dX8_sharedPower_36 : DB cX8_sharedPower 36 (.goto (-31)) 3 (-31) 39 5 := ⟨by decide +kernel, rfl, by decide⟩
theorem dX8_sharedPower_39 : DR cX8_sharedPower 39 (.iload_n 3) 1 40 := ⟨by decide +kernel, rfl⟩
theorem dX8_sharedPower_40 : DR cX8_sharedPower 40 (.ireturn) 1 41 := ⟨by decide +kernel, rfl⟩
theorem dX8_draw_0 : DR cX8_draw 0 (.ldc2_w 296) 3 3 := ⟨by decide +kernel, rfl⟩
theorem dX8_draw_3 : DR cX8_draw 3 (.iload_n 0) 1 4 := ⟨by decide +kernel, rfl⟩
theorem dX8_draw_4 : DR cX8_draw 4 (.i2l) 1 5 := ⟨by decide +kernel, rfl⟩
theorem dX8_draw_5 : DR cX8_draw 5 (.lmul) 1 6 := ⟨by decide +kernel, rfl⟩
theorem dX8_draw_6 : DR cX8_draw 6 (.ldc2_w 298) 3 9 := ⟨by decide +kernel, rfl⟩
theorem dX8_draw_9 : DR cX8_draw 9 (.iload_n 1) 1 10 := ⟨by decide +kernel, rfl⟩
theorem dX8_draw_10 : DR cX8_draw 10 (.i2l) 1 11 := ⟨by decide +kernel, rfl⟩
theorem dX8_draw_11 : DR cX8_draw 11 (.lmul) 1 12 := ⟨by decide +kernel, rfl⟩
theorem dX8_draw_12 : DR cX8_draw 12 (.ladd) 1 13 := ⟨by decide +kernel, rfl⟩
theorem dX8_draw_13 : DR cX8_draw 13 (.lconst 1) 1 14 := ⟨by decide +kernel, rfl⟩
theorem dX8_draw_14 : DR cX8_draw 14 (.ladd) 1 15 := ⟨by decide +kernel, rfl⟩
theorem dX8_draw_15 : DR cX8_draw 15 (.lstore_n 2) 1 16 := ⟨by decide +kernel, rfl⟩
theorem dX8_draw_16 : DR cX8_draw 16 (.lload_n 2) 1 17 := ⟨by decide +kernel, rfl⟩
theorem dX8_draw_17 : DR cX8_draw 17 (.lload_n 2) 1 18 := ⟨by decide +kernel, rfl⟩
theorem dX8_draw_18 : DR cX8_draw 18 (.lmul) 1 19 := ⟨by decide +kernel, rfl⟩
theorem dX8_draw_19 : DR cX8_draw 19 (.ldc2_w 300) 3 22 := ⟨by decide +kernel, rfl⟩
theorem dX8_draw_22 : DR cX8_draw 22 (.lrem) 1 23 := ⟨by decide +kernel, rfl⟩
theorem dX8_draw_23 : DR cX8_draw 23 (.ldc2_w 302) 3 26 := ⟨by decide +kernel, rfl⟩
theorem dX8_draw_26 : DR cX8_draw 26 (.ldiv) 1 27 := ⟨by decide +kernel, rfl⟩
theorem dX8_draw_27 : DR cX8_draw 27 (.l2i) 1 28 := ⟨by decide +kernel, rfl⟩
theorem dX8_draw_28 : DR cX8_draw 28 (.ireturn) 1 29 := ⟨by decide +kernel, rfl⟩
theorem dX8_actByDraw_0 : DR cX8_actByDraw 0 (.aload_n 0) 1 1 := ⟨by decide +kernel, rfl⟩
theorem dX8_actByDraw_1 : DR cX8_actByDraw 1 (.getfield 30) 3 4 := ⟨by decide +kernel, rfl⟩
theorem dX8_actByDraw_4 : DR cX8_actByDraw 4 (.iload_n 1) 1 5 := ⟨by decide +kernel, rfl⟩
theorem dX8_actByDraw_5 : DR cX8_actByDraw 5 (.iconst 1) 1 6 := ⟨by decide +kernel, rfl⟩
theorem dX8_actByDraw_6 : DR cX8_actByDraw 6 (.aload_n 0) 1 7 := ⟨by decide +kernel, rfl⟩
theorem dX8_actByDraw_7 : DR cX8_actByDraw 7 (.getfield 30) 3 10 := ⟨by decide +kernel, rfl⟩
theorem dX8_actByDraw_10 : DR cX8_actByDraw 10 (.getfield 185) 3 13 := ⟨by decide +kernel, rfl⟩
theorem dX8_actByDraw_13 : DR cX8_actByDraw 13 (.invokestatic 257) 3 16 := ⟨by decide +kernel, rfl⟩
theorem dX8_actByDraw_16 : DR cX8_actByDraw 16 (.irem) 1 17 := ⟨by decide +kernel, rfl⟩
theorem dX8_actByDraw_17 : DR cX8_actByDraw 17 (.invokevirtual 111) 3 20 := ⟨by decide +kernel, rfl⟩
theorem dX8_actByDraw_20 : DR cX8_actByDraw 20 (.astore_n 2) 1 21 := ⟨by decide +kernel, rfl⟩
theorem dX8_actByDraw_21 : DR cX8_actByDraw 21 (.iload_n 1) 1 22 := ⟨by decide +kernel, rfl⟩
theorem dX8_actByDraw_22 : DR cX8_actByDraw 22 (.bipush 8) 2 24 := ⟨by decide +kernel, rfl⟩
theorem dX8_actByDraw_24 : DR cX8_actByDraw 24 (.idiv) 1 25 := ⟨by decide +kernel, rfl⟩
theorem dX8_actByDraw_25 : DR cX8_actByDraw 25 (.iconst 5) 1 26 := ⟨by decide +kernel, rfl⟩
theorem dX8_actByDraw_26 : DR cX8_actByDraw 26 (.irem) 1 27 := ⟨by decide +kernel, rfl⟩
theorem dX8_actByDraw_27 : DR cX8_actByDraw 27 (.tableswitch 46 0 2 #[25, 32, 39]) 25 52 := ⟨by decide +kernel, rfl⟩
theorem dX8_actByDraw_52 : DR cX8_actByDraw 52 (.aload_n 2) 1 53 := ⟨by decide +kernel, rfl⟩
theorem dX8_actByDraw_53 : DR cX8_actByDraw 53 (.invokevirtual 157) 3 56 := ⟨by decide +kernel, rfl⟩
theorem dX8_actByDraw_56 : DB cX8_actByDraw 56 (.goto 17) 3 (17) 59 73 := ⟨by decide +kernel, rfl, by decide⟩
theorem dX8_actByDraw_59 : DR cX8_actByDraw 59 (.aload_n 2) 1 60 := ⟨by decide +kernel, rfl⟩
theorem dX8_actByDraw_60 : DR cX8_actByDraw 60 (.invokevirtual 163) 3 63 := ⟨by decide +kernel, rfl⟩
theorem dX8_actByDraw_63 : DB cX8_actByDraw 63 (.goto 10) 3 (10) 66 73 := ⟨by decide +kernel, rfl, by decide⟩
theorem dX8_actByDraw_66 : DR cX8_actByDraw 66 (.aload_n 2) 1 67 := ⟨by decide +kernel, rfl⟩
theorem dX8_actByDraw_67 : DR cX8_actByDraw 67 (.invokevirtual 147) 3 70 := ⟨by decide +kernel, rfl⟩
theorem dX8_actByDraw_70 : DB cX8_actByDraw 70 (.goto 3) 3 (3) 73 73 := ⟨by decide +kernel, rfl, by decide⟩
theorem dX8_actByDraw_73 : DR cX8_actByDraw 73 (.return_) 1 74 := ⟨by decide +kernel, rfl⟩
theorem dX9_init_0 : DR cX9_init 0 (.aload_n 0) 1 1 := ⟨by decide +kernel, rfl⟩
theorem dX9_init_1 : DR cX9_init 1 (.invokespecial 1) 3 4 := ⟨by decide +kernel, rfl⟩
theorem dX9_init_4 : DR cX9_init 4 (.aload_n 0) 1 5 := ⟨by decide +kernel, rfl⟩
theorem dX9_init_5 : DR cX9_init 5 (.sipush 200) 3 8 := ⟨by decide +kernel, rfl⟩
theorem dX9_init_8 : DR cX9_init 8 (.newarray .int) 2 10 := ⟨by decide +kernel, rfl⟩
theorem dX9_init_10 : DR cX9_init 10 (.putfield 7) 3 13 := ⟨by decide +kernel, rfl⟩
theorem dX9_init_13 : DR cX9_init 13 (.aload_n 0) 1 14 := ⟨by decide +kernel, rfl⟩
theorem dX9_init_14 : DR cX9_init 14 (.bipush 41) 2 16 := ⟨by decide +kernel, rfl⟩
theorem dX9_init_16 : DR cX9_init 16 (.newarray .int) 2 18 := ⟨by decide +kernel, rfl⟩
theorem dX9_init_18 : DR cX9_init 18 (.putfield 13) 3 21 := ⟨by decide +kernel, rfl⟩
theorem dX9_init_21 : DR cX9_init 21 (.aload_n 0) 1 22 := ⟨by decide +kernel, rfl⟩
theorem dX9_init_22 : DR cX9_init 22 (.bipush 41) 2 24 := ⟨by decide +kernel, rfl⟩
theorem dX9_init_24 : DR cX9_init 24 (.newarray .int) 2 26 := ⟨by decide +kernel, rfl⟩
theorem dX9_init_26 : DR cX9_init 26 (.putfield 16) 3 29 := ⟨by decide +kernel, rfl⟩
theorem dX9_init_29 : DR cX9_init 29 (.aload_n 0) 1 30 := ⟨by decide +kernel, rfl⟩
theorem dX9_init_30 : DR cX9_init 30 (.bipush 6) 2 32 := ⟨by decide +kernel, rfl⟩
theorem dX9_init_32 : DR cX9_init 32 (.newarray .int) 2 34 := ⟨by decide +kernel, rfl⟩
theorem dX9_init_34 : DR cX9_init 34 (.putfield 19) 3 37 := ⟨by decide +kernel, rfl⟩
theorem dX9_init_37 : DR cX9_init 37 (.aload_n 0) 1 38 := ⟨by decide +kernel, rfl⟩
theorem dX9_init_38 : DR cX9_init 38 (.bipush 26) 2 40 := ⟨by decide +kernel, rfl⟩
theorem dX9_init_40 : DR cX9_init 40 (.newarray .int) 2 42 := ⟨by decide +kernel, rfl⟩
theorem dX9_init_42 : DR cX9_init 42 (.putfield 22) 3 45 := ⟨by decide +kernel, rfl⟩
theorem dX9_init_45 : DR cX9_init 45 (.aload_n 0) 1 46 := ⟨by decide +kernel, rfl⟩
theorem dX9_init_46 : DR cX9_init 46 (.sipush 208) 3 49 := ⟨by decide +kernel, rfl⟩
theorem dX9_init_49 : DR cX9_init 49 (.newarray .int) 2 51 := ⟨by decide +kernel, rfl⟩
theorem dX9_init_51 : DR cX9_init 51 (.putfield 25) 3 54 := ⟨by decide +kernel, rfl⟩
theorem dX9_init_54 : DR cX9_init 54 (.aload_n 0) 1 55 := ⟨by decide +kernel, rfl⟩
theorem dX9_init_55 : DR cX9_init 55 (.bipush 52) 2 57 := ⟨by decide +kernel, rfl⟩
theorem dX9_init_57 : DR cX9_init 57 (.newarray .int) 2 59 := ⟨by decide +kernel, rfl⟩
theorem dX9_init_59 : DR cX9_init 59 (.putfield 28) 3 62 := ⟨by decide +kernel, rfl⟩
theorem dX9_init_62 : DR cX9_init 62 (.aload_n 0) 1 63 := ⟨by decide +kernel, rfl⟩
theorem dX9_init_63 : DR cX9_init 63 (.bipush 6) 2 65 := ⟨by decide +kernel, rfl⟩
theorem dX9_init_65 : DR cX9_init 65 (.newarray .int) 2 67 := ⟨by decide +kernel, rfl⟩
theorem dX9_init_67 : DR cX9_init 67 (.putfield 31) 3 70 := ⟨by decide +kernel, rfl⟩
theorem dX9_init_70 : DR cX9_init 70 (.aload_n 0) 1 71 := ⟨by decide +kernel, rfl⟩
theorem dX9_init_71 : DR cX9_init 71 (.bipush 6) 2 73 := ⟨by decide +kernel, rfl⟩
theorem dX9_init_73 : DR cX9_init 73 (.newarray .int) 2 75 := ⟨by decide +kernel, rfl⟩
theorem dX9_init_75 : DR cX9_init 75 (.putfield 34) 3 78 := ⟨by decide +kernel, rfl⟩
theorem dX9_init_78 : DR cX9_init 78 (.aload_n 0) 1 79 := ⟨by decide +kernel, rfl⟩
theorem dX9_init_79 : DR cX9_init 79 (.bipush 26) 2 81 := ⟨by decide +kernel, rfl⟩
theorem dX9_init_81 : DR cX9_init 81 (.newarray .int) 2 83 := ⟨by decide +kernel, rfl⟩
theorem dX9_init_83 : DR cX9_init 83 (.putfield 37) 3 86 := ⟨by decide +kernel, rfl⟩
theorem dX9_init_86 : DR cX9_init 86 (.aload_n 0) 1 87 := ⟨by decide +kernel, rfl⟩
theorem dX9_init_87 : DR cX9_init 87 (.invokevirtual 40) 3 90 := ⟨by decide +kernel, rfl⟩
theorem dX9_init_90 : DR cX9_init 90 (.aload_n 0) 1 91 := ⟨by decide +kernel, rfl⟩
theorem dX9_init_91 : DR cX9_init 91 (.iconst 0) 1 92 := ⟨by decide +kernel, rfl⟩
theorem dX9_init_92 : DR cX9_init 92 (.iconst 0) 1 93 := ⟨by decide +kernel, rfl⟩
theorem dX9_init_93 : DR cX9_init 93 (.iconst 3) 1 94 := ⟨by decide +kernel, rfl⟩
theorem dX9_init_94 : DR cX9_init 94 (.invokevirtual 43) 3 97 := ⟨by decide +kernel, rfl⟩
theorem dX9_init_97 : DR cX9_init 97 (.aload_n 0) 1 98 := ⟨by decide +kernel, rfl⟩
theorem dX9_init_98 : DR cX9_init 98 (.iconst 1) 1 99 := ⟨by decide +kernel, rfl⟩
theorem dX9_init_99 : DR cX9_init 99 (.iconst 2) 1 100 := ⟨by decide +kernel, rfl⟩
theorem dX9_init_100 : DR cX9_init 100 (.iconst 2) 1 101 := ⟨by decide +kernel, rfl⟩
theorem dX9_init_101 : DR cX9_init 101 (.invokevirtual 43) 3 104 := ⟨by decide +kernel, rfl⟩
theorem dX9_init_104 : DR cX9_init 104 (.aload_n 0) 1 105 := ⟨by decide +kernel, rfl⟩
theorem dX9_init_105 : DR cX9_init 105 (.iconst 2) 1 106 := ⟨by decide +kernel, rfl⟩
theorem dX9_init_106 : DR cX9_init 106 (.iconst 3) 1 107 := ⟨by decide +kernel, rfl⟩
theorem dX9_init_107 : DR cX9_init 107 (.iconst 3) 1 108 := ⟨by decide +kernel, rfl⟩
theorem dX9_init_108 : DR cX9_init 108 (.invokevirtual 43) 3 111 := ⟨by decide +kernel, rfl⟩
theorem dX9_init_111 : DR cX9_init 111 (.aload_n 0) 1 112 := ⟨by decide +kernel, rfl⟩
theorem dX9_init_112 : DR cX9_init 112 (.iconst 3) 1 113 := ⟨by decide +kernel, rfl⟩
theorem dX9_init_113 : DR cX9_init 113 (.iconst 5) 1 114 := ⟨by decide +kernel, rfl⟩
theorem dX9_init_114 : DR cX9_init 114 (.iconst 4) 1 115 := ⟨by decide +kernel, rfl⟩
theorem dX9_init_115 : DR cX9_init 115 (.invokevirtual 43) 3 118 := ⟨by decide +kernel, rfl⟩
theorem dX9_init_118 : DR cX9_init 118 (.aload_n 0) 1 119 := ⟨by decide +kernel, rfl⟩
theorem dX9_init_119 : DR cX9_init 119 (.iconst 0) 1 120 := ⟨by decide +kernel, rfl⟩
theorem dX9_init_120 : DR cX9_init 120 (.bipush 8) 2 122 := ⟨by decide +kernel, rfl⟩
theorem dX9_init_122 : DR cX9_init 122 (.iconst 2) 1 123 := ⟨by decide +kernel, rfl⟩
theorem dX9_init_123 : DR cX9_init 123 (.invokevirtual 43) 3 126 := ⟨by decide +kernel, rfl⟩
theorem dX9_init_126 : DR cX9_init 126 (.aload_n 0) 1 127 := ⟨by decide +kernel, rfl⟩
theorem dX9_init_127 : DR cX9_init 127 (.iconst 3) 1 128 := ⟨by decide +kernel, rfl⟩
theorem dX9_init_128 : DR cX9_init 128 (.iconst 0) 1 129 := ⟨by decide +kernel, rfl⟩
theorem dX9_init_129 : DR cX9_init 129 (.invokevirtual 47) 3 132 := ⟨by decide +kernel, rfl⟩
theorem dX9_init_132 : DR cX9_init 132 (.aload_n 0) 1 133 := ⟨by decide +kernel, rfl⟩
theorem dX9_init_133 : DR cX9_init 133 (.iconst 5) 1 134 := ⟨by decide +kernel, rfl⟩
theorem dX9_init_134 : DR cX9_init 134 (.iconst 0) 1 135 := ⟨by decide +kernel, rfl⟩
theorem dX9_init_135 : DR cX9_init 135 (.invokevirtual 47) 3 138 := ⟨by decide +kernel, rfl⟩
theorem dX9_init_138 : DR cX9_init 138 (.aload_n 0) 1 139 := ⟨by decide +kernel, rfl⟩
theorem dX9_init_139 : DR cX9_init 139 (.iconst 2) 1 140 := ⟨by decide +kernel, rfl⟩
theorem dX9_init_140 : DR cX9_init 140 (.iconst 1) 1 141 := ⟨by decide +kernel, rfl⟩
theorem dX9_init_141 : DR cX9_init 141 (.invokevirtual 47) 3 144 := ⟨by decide +kernel, rfl⟩
theorem dX9_init_144 : DR cX9_init 144 (.aload_n 0) 1 145 := ⟨by decide +kernel, rfl⟩
theorem dX9_init_145 : DR cX9_init 145 (.iconst 0) 1 146 := ⟨by decide +kernel, rfl⟩
theorem dX9_init_146 : DR cX9_init 146 (.iconst 1) 1 147 := ⟨by decide +kernel, rfl⟩
theorem dX9_init_147 : DR cX9_init 147 (.invokevirtual 47) 3 150 := ⟨by decide +kernel, rfl⟩
theorem dX9_init_150 : DR cX9_init 150 (.aload_n 0) 1 151 := ⟨by decide +kernel, rfl⟩
theorem dX9_init_151 : DR cX9_init 151 (.getfield 16) 3 154 := ⟨by decide +kernel, rfl⟩
theorem dX9_init_154 : DR cX9_init 154 (.iconst 2) 1 155 := ⟨by decide +kernel, rfl⟩
theorem dX9_init_155 : DR cX9_init 155 (.iconst 3) 1 156 := ⟨by decide +kernel, rfl⟩
theorem dX9_init_156 : DR cX9_init 156 (.iastore) 1 157 := ⟨by decide +kernel, rfl⟩
theorem dX9_init_157 : DR cX9_init 157 (.aload_n 0) 1 158 := ⟨by decide +kernel, rfl⟩
theorem dX9_init_158 : DR cX9_init 158 (.getfield 16) 3 161 := ⟨by decide +kernel, rfl⟩
theorem dX9_init_161 : DR cX9_init 161 (.iconst 3) 1 162 := ⟨by decide +kernel, rfl⟩
theorem dX9_init_162 : DR cX9_init 162 (.bipush 6) 2 164 := ⟨by decide +kernel, rfl⟩
theorem dX9_init_164 : DR cX9_init 164 (.iastore) 1 165 := ⟨by decide +kernel, rfl⟩
theorem dX9_init_165 : DR cX9_init 165 (.aload_n 0) 1 166 := ⟨by decide +kernel, rfl⟩
theorem dX9_init_166 : DR cX9_init 166 (.getfield 16) 3 169 := ⟨by decide +kernel, rfl⟩
theorem dX9_init_169 : DR cX9_init 169 (.iconst 4) 1 170 := ⟨by decide +kernel, rfl⟩
theorem dX9_init_170 : DR cX9_init 170 (.iconst 5) 1 171 := ⟨by decide +kernel, rfl⟩
theorem dX9_init_171 : DR cX9_init 171 (.iastore) 1 172 := ⟨by decide +kernel, rfl⟩
theorem dX9_init_172 : DR cX9_init 172 (.aload_n 0) 1 173 := ⟨by decide +kernel, rfl⟩
theorem dX9_init_173 : DR cX9_init 173 (.invokevirtual 51) 3 176 := ⟨by decide +kernel, rfl⟩
theorem dX9_init_176 : DR cX9_init 176 (.return_) 1 177 := ⟨by decide +kernel, rfl⟩
theorem dX9_in_0 : DR cX9_in 0 (.iload_n 0) 1 1 := ⟨by decide +kernel, rfl⟩
theorem dX9_in_1 : DR cX9_in 1 (.iload_n 1) 1 2 := ⟨by decide +kernel, rfl⟩
theorem dX9_in_2 : DB cX9_in 2 (.if_icmp .lt 12) 3 (12) 5 14 := ⟨by decide +kernel, rfl, by decide⟩
theorem dX9_in_5 : DR cX9_in 5 (.iload_n 0) 1 6 := ⟨by decide +kernel, rfl⟩
theorem dX9_in_6 : DR cX9_in 6 (.iload_n 2) 1 7 := ⟨by decide +kernel, rfl⟩
theorem dX9_in_7 : DB cX9_in 7 (.if_icmp .gt 7) 3 (7) 10 14 := ⟨by decide +kernel, rfl, by decide⟩
theorem dX9_in_10 : DR cX9_in 10 (.iconst 1) 1 11 := ⟨by decide +kernel, rfl⟩
theorem dX9_in_11 : DB cX9_in 11 (.goto 4) 3 (4) 14 15 := ⟨by decide +kernel, rfl, by decide⟩
theorem dX9_in_14 : DR cX9_in 14 (.iconst 0) 1 15 := ⟨by decide +kernel, rfl⟩
theorem dX9_in_15 : DR cX9_in 15 (.ireturn) 1 16 := ⟨by decide +kernel, rfl⟩
theorem dX9_isLoom_0 : DR cX9_isLoom 0 (.iload_n 1) 1 1 := ⟨by decide +kernel, rfl⟩
theorem dX9_isLoom_1 : DR cX9_isLoom 1 (.iconst 0) 1 2 := ⟨by decide +kernel, rfl⟩
theorem dX9_isLoom_2 : DR cX9_isLoom 2 (.aload_n 0) 1 3 := ⟨by decide +kernel, rfl⟩
theorem dX9_isLoom_3 : DR cX9_isLoom 3 (.getfield 13) 3 6 := ⟨by decide +kernel, rfl⟩
theorem dX9_isLoom_6 : DR cX9_isLoom 6 (.iconst 0) 1 7 := ⟨by decide +kernel, rfl⟩
theorem dX9_isLoom_7 : DR cX9_isLoom 7 (.iaload) 1 8 := ⟨by decide +kernel, rfl⟩
theorem dX9_isLoom_8 : DR cX9_isLoom 8 (.iconst 1) 1 9 := ⟨by decide +kernel, rfl⟩
theorem dX9_isLoom_9 : DR cX9_isLoom 9 (.isub) 1 10 := ⟨by decide +kernel, rfl⟩
theorem dX9_isLoom_10 : DR cX9_isLoom 10 (.invokestatic 54) 3 13 := ⟨by decide +kernel, rfl⟩
theorem dX9_isLoom_13 : DR cX9_isLoom 13 (.ireturn) 1 14 := ⟨by decide +kernel, rfl⟩
theorem dX9_write_0 : DR cX9_write 0 (.iload_n 1) 1 1 := ⟨by decide +kernel, rfl⟩
theorem dX9_write_1 : DR cX9_write 1 (.bipush 32) 2 3 := ⟨by decide +kernel, rfl⟩
theorem dX9_write_3 : DR cX9_write 3 (.bipush 126) 2 5 := ⟨by decide +kernel, rfl⟩
theorem dX9_write_5 : DR cX9_write 5 (.invokestatic 54) 3 8 := ⟨by decide +kernel, rfl⟩
theorem dX9_write_8 : DB cX9_write 8 (.ifCond .ne 5) 3 (5) 11 13 := ⟨by decide +kernel, rfl, by decide⟩
theorem dX9_write_11 : DR cX9_write 11 (.iconst (-1)) 1 12 := ⟨by decide +kernel, rfl⟩
theorem dX9_write_12 : DR cX9_write 12 (.ireturn) 1 13 := ⟨by decide +kernel, rfl⟩
theorem dX9_write_13 : DR cX9_write 13 (.aload_n 0) 1 14 := ⟨by decide +kernel, rfl⟩
theorem dX9_write_14 : DR cX9_write 14 (.getfield 58) 3 17 := ⟨by decide +kernel, rfl⟩
theorem dX9_write_17 : DR cX9_write 17 (.sipush 200) 3 20 := ⟨by decide +kernel, rfl⟩
theorem dX9_write_20 : DB cX9_write 20 (.if_icmp .ne 6) 3 (6) 23 26 := ⟨by decide +kernel, rfl, by decide⟩
theorem dX9_write_23 : DR cX9_write 23 (.bipush (-3)) 2 25 := ⟨by decide +kernel, rfl⟩
theorem dX9_write_25 : DR cX9_write 25 (.ireturn) 1 26 := ⟨by decide +kernel, rfl⟩
theorem dX9_write_26 : DR cX9_write 26 (.aload_n 0) 1 27 := ⟨by decide +kernel, rfl⟩
theorem dX9_write_27 : DR cX9_write 27 (.getfield 7) 3 30 := ⟨by decide +kernel, rfl⟩
theorem dX9_write_30 : DR cX9_write 30 (.aload_n 0) 1 31 := ⟨by decide +kernel, rfl⟩
theorem dX9_write_31 : DR cX9_write 31 (.getfield 58) 3 34 := ⟨by decide +kernel, rfl⟩
theorem dX9_write_34 : DR cX9_write 34 (.iload_n 1) 1 35 := ⟨by decide +kernel, rfl⟩
theorem dX9_write_35 : DR cX9_write 35 (.iastore) 1 36 := ⟨by decide +kernel, rfl⟩
theorem dX9_write_36 : DR cX9_write 36 (.aload_n 0) 1 37 := ⟨by decide +kernel, rfl⟩
theorem dX9_write_37 : DR cX9_write 37 (.dup) 1 38 := ⟨by decide +kernel, rfl⟩
theorem dX9_write_38 : DR cX9_write 38 (.getfield 58) 3 41 := ⟨by decide +kernel, rfl⟩
theorem dX9_write_41 : DR cX9_write 41 (.iconst 1) 1 42 := ⟨by decide +kernel, rfl⟩
theorem dX9_write_42 : DR cX9_write 42 (.iadd) 1 43 := ⟨by decide +kernel, rfl⟩
theorem dX9_write_43 : DR cX9_write 43 (.putfield 58) 3 46 := ⟨by decide +kernel, rfl⟩
theorem dX9_write_46 : DR cX9_write 46 (.aload_n 0) 1 47 := ⟨by decide +kernel, rfl⟩
theorem dX9_write_47 : DR cX9_write 47 (.getfield 58) 3 50 := ⟨by decide +kernel, rfl⟩
theorem dX9_write_50 : DR cX9_write 50 (.ireturn) 1 51 := ⟨by decide +kernel, rfl⟩
theorem dX9_wipe_0 : DR cX9_wipe 0 (.aload_n 0) 1 1 := ⟨by decide +kernel, rfl⟩
theorem dX9_wipe_1 : DR cX9_wipe 1 (.getfield 58) 3 4 := ⟨by decide +kernel, rfl⟩
theorem dX9_wipe_4 : DR cX9_wipe 4 (.istore_n 1) 1 5 := ⟨by decide +kernel, rfl⟩
theorem dX9_wipe_5 : DR cX9_wipe 5 (.aload_n 0) 1 6 := ⟨by decide +kernel, rfl⟩
theorem dX9_wipe_6 : DR cX9_wipe 6 (.iconst 0) 1 7 := ⟨by decide +kernel, rfl⟩
theorem dX9_wipe_7 : DR cX9_wipe 7 (.putfield 58) 3 10 := ⟨by decide +kernel, rfl⟩
theorem dX9_wipe_10 : DR cX9_wipe 10 (.iload_n 1) 1 11 := ⟨by decide +kernel, rfl⟩
theorem dX9_wipe_11 : DR cX9_wipe 11 (.ireturn) 1 12 := ⟨by decide +kernel, rfl⟩
theorem dX9_letterAt_0 : DR cX9_letterAt 0 (.iload_n 1) 1 1 := ⟨by decide +kernel, rfl⟩
theorem dX9_letterAt_1 : DR cX9_letterAt 1 (.aload_n 0) 1 2 := ⟨by decide +kernel, rfl⟩
theorem dX9_letterAt_2 : DR cX9_letterAt 2 (.getfield 58) 3 5 := ⟨by decide +kernel, rfl⟩
theorem dX9_letterAt_5 : DB cX9_letterAt 5 (.if_icmp .ge 12) 3 (12) 8 17 := ⟨by decide +kernel, rfl, by decide⟩
theorem dX9_letterAt_8 : DR cX9_letterAt 8 (.aload_n 0) 1 9 := ⟨by decide +kernel, rfl⟩
theorem dX9_letterAt_9 : DR cX9_letterAt 9 (.getfield 7) 3 12 := ⟨by decide +kernel, rfl⟩
theorem dX9_letterAt_12 : DR cX9_letterAt 12 (.iload_n 1) 1 13 := ⟨by decide +kernel, rfl⟩
theorem dX9_letterAt_13 : DR cX9_letterAt 13 (.iaload) 1 14 := ⟨by decide +kernel, rfl⟩
theorem dX9_letterAt_14 : DB cX9_letterAt 14 (.goto 4) 3 (4) 17 18 := ⟨by decide +kernel, rfl, by decide⟩
theorem dX9_letterAt_17 : DR cX9_letterAt 17 (.iconst (-1)) 1 18 := ⟨by decide +kernel, rfl⟩
theorem dX9_letterAt_18 : DR cX9_letterAt 18 (.ireturn) 1 19 := ⟨by decide +kernel, rfl⟩
theorem dX9_isFigure_0 : DR cX9_isFigure 0 (.iload_n 0) 1 1 := ⟨by decide +kernel, rfl⟩
theorem dX9_isFigure_1 : DR cX9_isFigure 1 (.bipush 48) 2 3 := ⟨by decide +kernel, rfl⟩
theorem dX9_isFigure_3 : DR cX9_isFigure 3 (.bipush 57) 2 5 := ⟨by decide +kernel, rfl⟩
theorem dX9_isFigure_5 : DR cX9_isFigure 5 (.invokestatic 54) 3 8 := ⟨by decide +kernel, rfl⟩
theorem dX9_isFigure_8 : DR cX9_isFigure 8 (.ireturn) 1 9 := ⟨by decide +kernel, rfl⟩
theorem dX9_number_0 : DR cX9_number 0 (.aload_n 0) 1 1 := ⟨by decide +kernel, rfl⟩
theorem dX9_number_1 : DR cX9_number 1 (.aload_n 0) 1 2 := ⟨by decide +kernel, rfl⟩
theorem dX9_number_2 : DR cX9_number 2 (.getfield 62) 3 5 := ⟨by decide +kernel, rfl⟩
theorem dX9_number_5 : DR cX9_number 5 (.invokevirtual 65) 3 8 := ⟨by decide +kernel, rfl⟩
theorem dX9_number_8 : DR cX9_number 8 (.invokestatic 69) 3 11 := ⟨by decide +kernel, rfl⟩
theorem dX9_number_11 : DB cX9_number 11 (.ifCond .ne 5) 3 (5) 14 16 := ⟨by decide +kernel, rfl, by decide⟩
theorem dX9_number_14 : DR cX9_number 14 (.iconst (-1)) 1 15 := ⟨by decide +kernel, rfl⟩
theorem dX9_number_15 : DR cX9_number 15 (.ireturn) 1 16 := ⟨by decide +kernel, rfl⟩
theorem dX9_number_16 : DR cX9_number 16 (.aload_n 0) 1 17 := ⟨by decide +kernel, rfl⟩
theorem dX9_number_17 : DR cX9_number 17 (.aload_n 0) 1 18 := ⟨by decide +kernel, rfl⟩
theorem dX9_number_18 : DR cX9_number 18 (.getfield 62) 3 21 := ⟨by decide +kernel, rfl⟩
theorem dX9_number_21 : DR cX9_number 21 (.invokevirtual 65) 3 24 := ⟨by decide +kernel, rfl⟩
theorem dX9_number_24 : DR cX9_number 24 (.bipush 48) 2 26 := ⟨by decide +kernel, rfl⟩
theorem dX9_number_26 : DR cX9_number 26 (.isub) 1 27 := ⟨by decide +kernel, rfl⟩
theorem dX9_number_27 : DR cX9_number 27 (.istore 4) 2 29 := ⟨by decide +kernel, rfl⟩
theorem dX9_number_29 : DR cX9_number 29 (.aload_n 0) 1 30 := ⟨by decide +kernel, rfl⟩
theorem dX9_number_30 : DR cX9_number 30 (.dup) 1 31 := ⟨by decide +kernel, rfl⟩
theorem dX9_number_31 : DR cX9_number 31 (.getfield 62) 3 34 := ⟨by decide +kernel, rfl⟩
theorem dX9_number_34 : DR cX9_number 34 (.iconst 1) 1 35 := ⟨by decide +kernel, rfl⟩
theorem dX9_number_35 : DR cX9_number 35 (.iadd) 1 36 := ⟨by decide +kernel, rfl⟩
theorem dX9_number_36 : DR cX9_number 36 (.putfield 62) 3 39 := ⟨by decide +kernel, rfl⟩
theorem dX9_number_39 : DR cX9_number 39 (.aload_n 0) 1 40 := ⟨by decide +kernel, rfl⟩
theorem dX9_number_40 : DR cX9_number 40 (.aload_n 0) 1 41 := ⟨by decide +kernel, rfl⟩
theorem dX9_number_41 : DR cX9_number 41 (.getfield 62) 3 44 := ⟨by decide +kernel, rfl⟩
theorem dX9_number_44 : DR cX9_number 44 (.invokevirtual 65) 3 47 := ⟨by decide +kernel, rfl⟩
theorem dX9_number_47 : DR cX9_number 47 (.invokestatic 69) 3 50 := ⟨by decide +kernel, rfl⟩
theorem dX9_number_50 : DB cX9_number 50 (.ifCond .eq 32) 3 (32) 53 82 := ⟨by decide +kernel, rfl, by decide⟩
theorem dX9_number_53 : DR cX9_number 53 (.bipush 10) 2 55 := ⟨by decide +kernel, rfl⟩
theorem dX9_number_55 : DR cX9_number 55 (.iload 4) 2 57 := ⟨by decide +kernel, rfl⟩
theorem dX9_number_57 : DR cX9_number 57 (.imul) 1 58 := ⟨by decide +kernel, rfl⟩
theorem dX9_number_58 : DR cX9_number 58 (.aload_n 0) 1 59 := ⟨by decide +kernel, rfl⟩
theorem dX9_number_59 : DR cX9_number 59 (.aload_n 0) 1 60 := ⟨by decide +kernel, rfl⟩
theorem dX9_number_60 : DR cX9_number 60 (.getfield 62) 3 63 := ⟨by decide +kernel, rfl⟩
theorem dX9_number_63 : DR cX9_number 63 (.invokevirtual 65) 3 66 := ⟨by decide +kernel, rfl⟩
theorem dX9_number_66 : DR cX9_number 66 (.iadd) 1 67 := ⟨by decide +kernel, rfl⟩
theorem dX9_number_67 : DR cX9_number 67 (.bipush 48) 2 69 := ⟨by decide +kernel, rfl⟩
theorem dX9_number_69 : DR cX9_number 69 (.isub) 1 70 := ⟨by decide +kernel, rfl⟩
theorem dX9_number_70 : DR cX9_number 70 (.istore 4) 2 72 := ⟨by decide +kernel, rfl⟩
theorem dX9_number_72 : DR cX9_number 72 (.aload_n 0) 1 73 := ⟨by decide +kernel, rfl⟩
theorem dX9_number_73 : DR cX9_number 73 (.dup) 1 74 := ⟨by decide +kernel, rfl⟩
theorem dX9_number_74 : DR cX9_number 74 (.getfield 62) 3 77 := ⟨by decide +kernel, rfl⟩
theorem dX9_number_77 : DR cX9_number 77 (.iconst 1) 1 78 := ⟨by decide +kernel, rfl⟩
theorem dX9_number_78 : DR cX9_number 78 (.iadd) 1 79 := ⟨by decide +kernel, rfl⟩
theorem dX9_number_79 : DR cX9_number 79 (.putfield 62) 3 82 := ⟨by decide +kernel, rfl⟩
theorem dX9_number_82 : DR cX9_number 82 (.aload_n 0) 1 83 := ⟨by decide +kernel, rfl⟩
theorem dX9_number_83 : DR cX9_number 83 (.aload_n 0) 1 84 := ⟨by decide +kernel, rfl⟩
theorem dX9_number_84 : DR cX9_number 84 (.getfield 62) 3 87 := ⟨by decide +kernel, rfl⟩
theorem dX9_number_87 : DR cX9_number 87 (.invokevirtual 65) 3 90 := ⟨by decide +kernel, rfl⟩
theorem dX9_number_90 : DR cX9_number 90 (.iload_n 3) 1 91 := ⟨by decide +kernel, rfl⟩
theorem dX9_number_91 : DB cX9_number 91 (.if_icmp .ne 17) 3 (17) 94 108 := ⟨by decide +kernel, rfl, by decide⟩
theorem dX9_number_94 : DR cX9_number 94 (.iload 4) 2 96 := ⟨by decide +kernel, rfl⟩
theorem dX9_number_96 : DR cX9_number 96 (.iload_n 1) 1 97 := ⟨by decide +kernel, rfl⟩
theorem dX9_number_97 : DR cX9_number 97 (.iload_n 2) 1 98 := ⟨by decide +kernel, rfl⟩
theorem dX9_number_98 : DR cX9_number 98 (.invokestatic 54) 3 101 := ⟨by decide +kernel, rfl⟩
theorem dX9_number_101 : DB cX9_number 101 (.ifCond .eq 7) 3 (7) 104 108 := ⟨by decide +kernel, rfl, by decide⟩
theorem dX9_number_104 : DR cX9_number 104 (.iconst 1) 1 105 := ⟨by decide +kernel, rfl⟩
theorem dX9_number_105 : DB cX9_number 105 (.goto 4) 3 (4) 108 109 := ⟨by decide +kernel, rfl, by decide⟩
theorem dX9_number_108 : DR cX9_number 108 (.iconst 0) 1 109 := ⟨by decide +kernel, rfl⟩
theorem dX9_number_109 : DR cX9_number 109 (.istore 5) 2 111 := ⟨by decide +kernel, rfl⟩
theorem dX9_number_111 : DR cX9_number 111 (.aload_n 0) 1 112 := ⟨by decide +kernel, rfl⟩
theorem dX9_number_112 : DR cX9_number 112 (.dup) 1 113 := ⟨by decide +kernel, rfl⟩
theorem dX9_number_113 : DR cX9_number 113 (.getfield 62) 3 116 := ⟨by decide +kernel, rfl⟩
theorem dX9_number_116 : DR cX9_number 116 (.iconst 1) 1 117 := ⟨by decide +kernel, rfl⟩
theorem dX9_number_117 : DR cX9_number 117 (.iadd) 1 118 := ⟨by decide +kernel, rfl⟩
theorem dX9_number_118 : DR cX9_number 118 (.putfield 62) 3 121 := ⟨by decide +kernel, rfl⟩
theorem dX9_number_121 : DR cX9_number 121 (.iload 5) 2 123 := ⟨by decide +kernel, rfl⟩
theorem dX9_number_123 : DB cX9_number 123 (.ifCond .eq 8) 3 (8) 126 131 := ⟨by decide +kernel, rfl, by decide⟩
theorem dX9_number_126 : DR cX9_number 126 (.iload 4) 2 128 := ⟨by decide +kernel, rfl⟩
theorem dX9_number_128 : DB cX9_number 128 (.goto 4) 3 (4) 131 132 := ⟨by decide +kernel, rfl, by decide⟩
theorem dX9_number_131 : DR cX9_number 131 (.iconst (-1)) 1 132 := ⟨by decide +kernel, rfl⟩
theorem dX9_number_132 : DR cX9_number 132 (.ireturn) 1 133 := ⟨by decide +kernel, rfl⟩
theorem dX9_begins_0 : DR cX9_begins 0 (.iconst 0) 1 1 := ⟨by decide +kernel, rfl⟩
theorem dX9_begins_1 : DR cX9_begins 1 (.istore_n 1) 1 2 := ⟨by decide +kernel, rfl⟩
theorem dX9_begins_2 : DR cX9_begins 2 (.iload_n 1) 1 3 := ⟨by decide +kernel, rfl⟩
theorem dX9_begins_3 : DR cX9_begins 3 (.bipush 41) 2 5 := ⟨by decide +kernel, rfl⟩
theorem dX9_begins_5 : DB cX9_begins 5 (.if_icmp .ge 16) 3 (16) 8 21 := ⟨by decide +kernel, rfl, by decide⟩
theorem dX9_begins_8 : DR cX9_begins 8 (.aload_n 0) 1 9 := ⟨by decide +kernel, rfl⟩
theorem dX9_begins_9 : DR cX9_begins 9 (.getfield 16) 3 12 := ⟨by decide +kernel, rfl⟩
theorem dX9_begins_12 : DR cX9_begins 12 (.iload_n 1) 1 13 := ⟨by decide +kernel, rfl⟩
theorem dX9_begins_13 : DR cX9_begins 13 (.iconst 0) 1 14 := ⟨by decide +kernel, rfl⟩
theorem dX9_begins_14 : DR cX9_begins 14 (.iastore) 1 15 := ⟨by decide +kernel, rfl⟩
theorem dX9_begins_15 : DR cX9_begins 15 (.iinc 1 1) 3 18 := ⟨by decide +kernel, rfl⟩
theorem dX9_begins_18 : DB cX9_begins 18 (.goto (-16)) 3 (-16) 21 2 := ⟨by decide +kernel, rfl, by decide⟩
theorem dX9_begins_21 : DR cX9_begins 21 (.aload_n 0) 1 22 := ⟨by decide +kernel, rfl⟩
theorem dX9_begins_22 : DR cX9_begins 22 (.getfield 16) 3 25 := ⟨by decide +kernel, rfl⟩
theorem dX9_begins_25 : DR cX9_begins 25 (.iconst 2) 1 26 := ⟨by decide +kernel, rfl⟩
theorem dX9_begins_26 : DR cX9_begins 26 (.bipush 6) 2 28 := ⟨by decide +kernel, rfl⟩
theorem dX9_begins_28 : DR cX9_begins 28 (.iastore) 1 29 := ⟨by decide +kernel, rfl⟩
theorem dX9_begins_29 : DR cX9_begins 29 (.aload_n 0) 1 30 := ⟨by decide +kernel, rfl⟩
theorem dX9_begins_30 : DR cX9_begins 30 (.getfield 16) 3 33 := ⟨by decide +kernel, rfl⟩
theorem dX9_begins_33 : DR cX9_begins 33 (.iconst 3) 1 34 := ⟨by decide +kernel, rfl⟩
theorem dX9_begins_34 : DR cX9_begins 34 (.bipush 9) 2 36 := ⟨by decide +kernel, rfl⟩
theorem dX9_begins_36 : DR cX9_begins 36 (.iastore) 1 37 := ⟨by decide +kernel, rfl⟩
theorem dX9_begins_37 : DR cX9_begins 37 (.aload_n 0) 1 38 := ⟨by decide +kernel, rfl⟩
theorem dX9_begins_38 : DR cX9_begins 38 (.getfield 16) 3 41 := ⟨by decide +kernel, rfl⟩
theorem dX9_begins_41 : DR cX9_begins 41 (.iconst 4) 1 42 := ⟨by decide +kernel, rfl⟩
theorem dX9_begins_42 : DR cX9_begins 42 (.bipush 6) 2 44 := ⟨by decide +kernel, rfl⟩
theorem dX9_begins_44 : DR cX9_begins 44 (.iastore) 1 45 := ⟨by decide +kernel, rfl⟩
theorem dX9_begins_45 : DR cX9_begins 45 (.return_) 1 46 := ⟨by decide +kernel, rfl⟩
theorem dX9_loomOf_0 : DR cX9_loomOf 0 (.aload_n 0) 1 1 := ⟨by decide +kernel, rfl⟩
theorem dX9_loomOf_1 : DR cX9_loomOf 1 (.getfield 16) 3 4 := ⟨by decide +kernel, rfl⟩
theorem dX9_loomOf_4 : DR cX9_loomOf 4 (.iconst 5) 1 5 := ⟨by decide +kernel, rfl⟩
theorem dX9_loomOf_5 : DR cX9_loomOf 5 (.aload_n 0) 1 6 := ⟨by decide +kernel, rfl⟩
theorem dX9_loomOf_6 : DR cX9_loomOf 6 (.getfield 16) 3 9 := ⟨by decide +kernel, rfl⟩
theorem dX9_loomOf_9 : DR cX9_loomOf 9 (.iconst 0) 1 10 := ⟨by decide +kernel, rfl⟩
theorem dX9_loomOf_10 : DR cX9_loomOf 10 (.iaload) 1 11 := ⟨by decide +kernel, rfl⟩
theorem dX9_loomOf_11 : DR cX9_loomOf 11 (.iadd) 1 12 := ⟨by decide +kernel, rfl⟩
theorem dX9_loomOf_12 : DR cX9_loomOf 12 (.iload_n 1) 1 13 := ⟨by decide +kernel, rfl⟩
theorem dX9_loomOf_13 : DR cX9_loomOf 13 (.iastore) 1 14 := ⟨by decide +kernel, rfl⟩
theorem dX9_loomOf_14 : DR cX9_loomOf 14 (.aload_n 0) 1 15 := ⟨by decide +kernel, rfl⟩
theorem dX9_loomOf_15 : DR cX9_loomOf 15 (.getfield 16) 3 18 := ⟨by decide +kernel, rfl⟩
theorem dX9_loomOf_18 : DR cX9_loomOf 18 (.bipush 11) 2 20 := ⟨by decide +kernel, rfl⟩
theorem dX9_loomOf_20 : DR cX9_loomOf 20 (.aload_n 0) 1 21 := ⟨by decide +kernel, rfl⟩
theorem dX9_loomOf_21 : DR cX9_loomOf 21 (.getfield 16) 3 24 := ⟨by decide +kernel, rfl⟩
theorem dX9_loomOf_24 : DR cX9_loomOf 24 (.iconst 0) 1 25 := ⟨by decide +kernel, rfl⟩
theorem dX9_loomOf_25 : DR cX9_loomOf 25 (.iaload) 1 26 := ⟨by decide +kernel, rfl⟩
theorem dX9_loomOf_26 : DR cX9_loomOf 26 (.iadd) 1 27 := ⟨by decide +kernel, rfl⟩
theorem dX9_loomOf_27 : DR cX9_loomOf 27 (.iload_n 3) 1 28 := ⟨by decide +kernel, rfl⟩
theorem dX9_loomOf_28 : DR cX9_loomOf 28 (.iastore) 1 29 := ⟨by decide +kernel, rfl⟩
theorem dX9_loomOf_29 : DR cX9_loomOf 29 (.aload_n 0) 1 30 := ⟨by decide +kernel, rfl⟩
theorem dX9_loomOf_30 : DR cX9_loomOf 30 (.getfield 19) 3 33 := ⟨by decide +kernel, rfl⟩
theorem dX9_loomOf_33 : DR cX9_loomOf 33 (.aload_n 0) 1 34 := ⟨by decide +kernel, rfl⟩
theorem dX9_loomOf_34 : DR cX9_loomOf 34 (.getfield 16) 3 37 := ⟨by decide +kernel, rfl⟩
theorem dX9_loomOf_37 : DR cX9_loomOf 37 (.iconst 0) 1 38 := ⟨by decide +kernel, rfl⟩
theorem dX9_loomOf_38 : DR cX9_loomOf 38 (.iaload) 1 39 := ⟨by decide +kernel, rfl⟩
theorem dX9_loomOf_39 : DR cX9_loomOf 39 (.iload_n 2) 1 40 := ⟨by decide +kernel, rfl⟩
theorem dX9_loomOf_40 : DR cX9_loomOf 40 (.iastore) 1 41 := ⟨by decide +kernel, rfl⟩
theorem dX9_loomOf_41 : DR cX9_loomOf 41 (.aload_n 0) 1 42 := ⟨by decide +kernel, rfl⟩
theorem dX9_loomOf_42 : DR cX9_loomOf 42 (.getfield 16) 3 45 := ⟨by decide +kernel, rfl⟩
theorem dX9_loomOf_45 : DR cX9_loomOf 45 (.iconst 0) 1 46 := ⟨by decide +kernel, rfl⟩
theorem dX9_loomOf_46 : DR cX9_loomOf 46 (.dup2) 1 47 := ⟨by decide +kernel, rfl⟩
theorem dX9_loomOf_47 : DR cX9_loomOf 47 (.iaload) 1 48 := ⟨by decide +kernel, rfl⟩
theorem dX9_loomOf_48 : DR cX9_loomOf 48 (.iconst 1) 1 49 := ⟨by decide +kernel, rfl⟩
theorem dX9_loomOf_49 : DR cX9_loomOf 49 (.iadd) 1 50 := ⟨by decide +kernel, rfl⟩
theorem dX9_loomOf_50 : DR cX9_loomOf 50 (.iastore) 1 51 := ⟨by decide +kernel, rfl⟩
theorem dX9_loomOf_51 : DR cX9_loomOf 51 (.return_) 1 52 := ⟨by decide +kernel, rfl⟩
theorem dX9_hourOf_0 : DR cX9_hourOf 0 (.aload_n 0) 1 1 := ⟨by decide +kernel, rfl⟩
theorem dX9_hourOf_1 : DR cX9_hourOf 1 (.getfield 16) 3 4 := ⟨by decide +kernel, rfl⟩
theorem dX9_hourOf_4 : DR cX9_hourOf 4 (.bipush 17) 2 6 := ⟨by decide +kernel, rfl⟩
theorem dX9_hourOf_6 : DR cX9_hourOf 6 (.aload_n 0) 1 7 := ⟨by decide +kernel, rfl⟩
theorem dX9_hourOf_7 : DR cX9_hourOf 7 (.getfield 16) 3 10 := ⟨by decide +kernel, rfl⟩
theorem dX9_hourOf_10 : DR cX9_hourOf 10 (.iconst 1) 1 11 := ⟨by decide +kernel, rfl⟩
theorem dX9_hourOf_11 : DR cX9_hourOf 11 (.iaload) 1 12 := ⟨by decide +kernel, rfl⟩
theorem dX9_hourOf_12 : DR cX9_hourOf 12 (.iadd) 1 13 := ⟨by decide +kernel, rfl⟩
theorem dX9_hourOf_13 : DR cX9_hourOf 13 (.iload_n 1) 1 14 := ⟨by decide +kernel, rfl⟩
theorem dX9_hourOf_14 : DR cX9_hourOf 14 (.iastore) 1 15 := ⟨by decide +kernel, rfl⟩
theorem dX9_hourOf_15 : DR cX9_hourOf 15 (.aload_n 0) 1 16 := ⟨by decide +kernel, rfl⟩
theorem dX9_hourOf_16 : DR cX9_hourOf 16 (.getfield 16) 3 19 := ⟨by decide +kernel, rfl⟩
theorem dX9_hourOf_19 : DR cX9_hourOf 19 (.bipush 29) 2 21 := ⟨by decide +kernel, rfl⟩
theorem dX9_hourOf_21 : DR cX9_hourOf 21 (.aload_n 0) 1 22 := ⟨by decide +kernel, rfl⟩
theorem dX9_hourOf_22 : DR cX9_hourOf 22 (.getfield 16) 3 25 := ⟨by decide +kernel, rfl⟩
theorem dX9_hourOf_25 : DR cX9_hourOf 25 (.iconst 1) 1 26 := ⟨by decide +kernel, rfl⟩
theorem dX9_hourOf_26 : DR cX9_hourOf 26 (.iaload) 1 27 := ⟨by decide +kernel, rfl⟩
theorem dX9_hourOf_27 : DR cX9_hourOf 27 (.iadd) 1 28 := ⟨by decide +kernel, rfl⟩
theorem dX9_hourOf_28 : DR cX9_hourOf 28 (.iload_n 2) 1 29 := ⟨by decide +kernel, rfl⟩
theorem dX9_hourOf_29 : DR cX9_hourOf 29 (.iastore) 1 30 := ⟨by decide +kernel, rfl⟩
theorem dX9_hourOf_30 : DR cX9_hourOf 30 (.aload_n 0) 1 31 := ⟨by decide +kernel, rfl⟩
theorem dX9_hourOf_31 : DR cX9_hourOf 31 (.getfield 16) 3 34 := ⟨by decide +kernel, rfl⟩
theorem dX9_hourOf_34 : DR cX9_hourOf 34 (.iconst 1) 1 35 := ⟨by decide +kernel, rfl⟩
theorem dX9_hourOf_35 : DR cX9_hourOf 35 (.dup2) 1 36 := ⟨by decide +kernel, rfl⟩
theorem dX9_hourOf_36 : DR cX9_hourOf 36 (.iaload) 1 37 := ⟨by decide +kernel, rfl⟩
theorem dX9_hourOf_37 : DR cX9_hourOf 37 (.iconst 1) 1 38 := ⟨by decide +kernel, rfl⟩
theorem dX9_hourOf_38 : DR cX9_hourOf 38 (.iadd) 1 39 := ⟨by decide +kernel, rfl⟩
theorem dX9_hourOf_39 : DR cX9_hourOf 39 (.iastore) 1 40 := ⟨by decide +kernel, rfl⟩
theorem dX9_hourOf_40 : DR cX9_hourOf 40 (.return_) 1 41 := ⟨by decide +kernel, rfl⟩
theorem dX9_one_0 : DR cX9_one 0 (.aload_n 0) 1 1 := ⟨by decide +kernel, rfl⟩
theorem dX9_one_1 : DR cX9_one 1 (.getfield 16) 3 4 := ⟨by decide +kernel, rfl⟩
theorem dX9_one_4 : DR cX9_one 4 (.iload_n 1) 1 5 := ⟨by decide +kernel, rfl⟩
theorem dX9_one_5 : DR cX9_one 5 (.aload_n 0) 1 6 := ⟨by decide +kernel, rfl⟩
theorem dX9_one_6 : DR cX9_one 6 (.iload_n 2) 1 7 := ⟨by decide +kernel, rfl⟩
theorem dX9_one_7 : DR cX9_one 7 (.iload_n 3) 1 8 := ⟨by decide +kernel, rfl⟩
theorem dX9_one_8 : DR cX9_one 8 (.bipush 59) 2 10 := ⟨by decide +kernel, rfl⟩
theorem dX9_one_10 : DR cX9_one 10 (.invokevirtual 73) 3 13 := ⟨by decide +kernel, rfl⟩
theorem dX9_one_13 : DR cX9_one 13 (.iastore) 1 14 := ⟨by decide +kernel, rfl⟩
theorem dX9_one_14 : DR cX9_one 14 (.aload_n 0) 1 15 := ⟨by decide +kernel, rfl⟩
theorem dX9_one_15 : DR cX9_one 15 (.getfield 16) 3 18 := ⟨by decide +kernel, rfl⟩
theorem dX9_one_18 : DR cX9_one 18 (.iload_n 1) 1 19 := ⟨by decide +kernel, rfl⟩
theorem dX9_one_19 : DR cX9_one 19 (.iaload) 1 20 := ⟨by decide +kernel, rfl⟩
theorem dX9_one_20 : DB cX9_one 20 (.ifCond .lt 7) 3 (7) 23 27 := ⟨by decide +kernel, rfl, by decide⟩
theorem dX9_one_23 : DR cX9_one 23 (.iconst 1) 1 24 := ⟨by decide +kernel, rfl⟩
theorem dX9_one_24 : DB cX9_one 24 (.goto 4) 3 (4) 27 28 := ⟨by decide +kernel, rfl, by decide⟩
theorem dX9_one_27 : DR cX9_one 27 (.iconst 0) 1 28 := ⟨by decide +kernel, rfl⟩
theorem dX9_one_28 : DR cX9_one 28 (.ireturn) 1 29 := ⟨by decide +kernel, rfl⟩
theorem dX9_readsLoom_0 : DR cX9_readsLoom 0 (.aload_n 0) 1 1 := ⟨by decide +kernel, rfl⟩
theorem dX9_readsLoom_1 : DR cX9_readsLoom 1 (.iconst 0) 1 2 := ⟨by decide +kernel, rfl⟩
theorem dX9_readsLoom_2 : DR cX9_readsLoom 2 (.iconst 3) 1 3 := ⟨by decide +kernel, rfl⟩
theorem dX9_readsLoom_3 : DR cX9_readsLoom 3 (.bipush 44) 2 5 := ⟨by decide +kernel, rfl⟩
theorem dX9_readsLoom_5 : DR cX9_readsLoom 5 (.invokevirtual 73) 3 8 := ⟨by decide +kernel, rfl⟩
theorem dX9_readsLoom_8 : DR cX9_readsLoom 8 (.istore_n 1) 1 9 := ⟨by decide +kernel, rfl⟩
theorem dX9_readsLoom_9 : DR cX9_readsLoom 9 (.iload_n 1) 1 10 := ⟨by decide +kernel, rfl⟩
theorem dX9_readsLoom_10 : DB cX9_readsLoom 10 (.ifCond .ge 7) 3 (7) 13 17 := ⟨by decide +kernel, rfl, by decide⟩
theorem dX9_readsLoom_13 : DR cX9_readsLoom 13 (.iconst (-1)) 1 14 := ⟨by decide +kernel, rfl⟩
theorem dX9_readsLoom_14 : DB cX9_readsLoom 14 (.goto 12) 3 (12) 17 26 := ⟨by decide +kernel, rfl, by decide⟩
theorem dX9_readsLoom_17 : DR cX9_readsLoom 17 (.aload_n 0) 1 18 := ⟨by decide +kernel, rfl⟩
theorem dX9_readsLoom_18 : DR cX9_readsLoom 18 (.iconst 0) 1 19 := ⟨by decide +kernel, rfl⟩
theorem dX9_readsLoom_19 : DR cX9_readsLoom 19 (.bipush 9) 2 21 := ⟨by decide +kernel, rfl⟩
theorem dX9_readsLoom_21 : DR cX9_readsLoom 21 (.bipush 44) 2 23 := ⟨by decide +kernel, rfl⟩
theorem dX9_readsLoom_23 : DR cX9_readsLoom 23 (.invokevirtual 73) 3 26 := ⟨by decide +kernel, rfl⟩
theorem dX9_readsLoom_26 : DR cX9_readsLoom 26 (.istore_n 2) 1 27 := ⟨by decide +kernel, rfl⟩
theorem dX9_readsLoom_27 : DR cX9_readsLoom 27 (.iload_n 2) 1 28 := ⟨by decide +kernel, rfl⟩
theorem dX9_readsLoom_28 : DB cX9_readsLoom 28 (.ifCond .ge 7) 3 (7) 31 35 := ⟨by decide +kernel, rfl, by decide⟩
theorem dX9_readsLoom_31 : DR cX9_readsLoom 31 (.iconst (-1)) 1 32 := ⟨by decide +kernel, rfl⟩
theorem dX9_readsLoom_32 : DB cX9_readsLoom 32 (.goto 12) 3 (12) 35 44 := ⟨by decide +kernel, rfl, by decide⟩
theorem dX9_readsLoom_35 : DR cX9_readsLoom 35 (.aload_n 0) 1 36 := ⟨by decide +kernel, rfl⟩
theorem dX9_readsLoom_36 : DR cX9_readsLoom 36 (.iconst 1) 1 37 := ⟨by decide +kernel, rfl⟩
theorem dX9_readsLoom_37 : DR cX9_readsLoom 37 (.bipush 9) 2 39 := ⟨by decide +kernel, rfl⟩
theorem dX9_readsLoom_39 : DR cX9_readsLoom 39 (.bipush 59) 2 41 := ⟨by decide +kernel, rfl⟩
theorem dX9_readsLoom_41 : DR cX9_readsLoom 41 (.invokevirtual 73) 3 44 := ⟨by decide +kernel, rfl⟩
theorem dX9_readsLoom_44 : DR cX9_readsLoom 44 (.istore_n 3) 1 45 := ⟨by decide +kernel, rfl⟩
theorem dX9_readsLoom_45 : DR cX9_readsLoom 45 (.iload_n 3) 1 46 := ⟨by decide +kernel, rfl⟩
theorem dX9_readsLoom_46 : DB cX9_readsLoom 46 (.ifCond .lt 18) 3 (18) 49 64 := ⟨by decide +kernel, rfl, by decide⟩
theorem dX9_readsLoom_49 : DR cX9_readsLoom 49 (.aload_n 0) 1 50 := ⟨by decide +kernel, rfl⟩
theorem dX9_readsLoom_50 : DR cX9_readsLoom 50 (.getfield 16) 3 53 := ⟨by decide +kernel, rfl⟩
theorem dX9_readsLoom_53 : DR cX9_readsLoom 53 (.iconst 0) 1 54 := ⟨by decide +kernel, rfl⟩
theorem dX9_readsLoom_54 : DR cX9_readsLoom 54 (.iaload) 1 55 := ⟨by decide +kernel, rfl⟩
theorem dX9_readsLoom_55 : DR cX9_readsLoom 55 (.bipush 6) 2 57 := ⟨by decide +kernel, rfl⟩
theorem dX9_readsLoom_57 : DB cX9_readsLoom 57 (.if_icmp .ge 7) 3 (7) 60 64 := ⟨by decide +kernel, rfl, by decide⟩
theorem dX9_readsLoom_60 : DR cX9_readsLoom 60 (.iconst 1) 1 61 := ⟨by decide +kernel, rfl⟩
theorem dX9_readsLoom_61 : DB cX9_readsLoom 61 (.goto 4) 3 (4) 64 65 := ⟨by decide +kernel, rfl, by decide⟩
theorem dX9_readsLoom_64 : DR cX9_readsLoom 64 (.iconst 0) 1 65 := ⟨by decide +kernel, rfl⟩
theorem dX9_readsLoom_65 : DR cX9_readsLoom 65 (.istore 4) 2 67 := ⟨by decide +kernel, rfl⟩
theorem dX9_readsLoom_67 : DR cX9_readsLoom 67 (.iconst 0) 1 68 := ⟨by decide +kernel, rfl⟩
theorem dX9_readsLoom_68 : DR cX9_readsLoom 68 (.istore 5) 2 70 := ⟨by decide +kernel, rfl⟩
theorem dX9_readsLoom_70 : DR cX9_readsLoom 70 (.iload 5) 2 72 := ⟨by decide +kernel, rfl⟩
theorem dX9_readsLoom_72 : DR cX9_readsLoom 72 (.aload_n 0) 1 73 := ⟨by decide +kernel, rfl⟩
theorem dX9_readsLoom_73 : DR cX9_readsLoom 73 (.getfield 16) 3 76 := ⟨by decide +kernel, rfl⟩
theorem dX9_readsLoom_76 : DR cX9_readsLoom 76 (.iconst 0) 1 77 := ⟨by decide +kernel, rfl⟩
theorem dX9_readsLoom_77 : DR cX9_readsLoom 77 (.iaload) 1 78 := ⟨by decide +kernel, rfl⟩
theorem dX9_readsLoom_78 : DB cX9_readsLoom 78 (.if_icmp .ge 32) 3 (32) 81 110 := ⟨by decide +kernel, rfl, by decide⟩
theorem dX9_readsLoom_81 : DR cX9_readsLoom 81 (.iload 4) 2 83 := ⟨by decide +kernel, rfl⟩
theorem dX9_readsLoom_83 : DB cX9_readsLoom 83 (.ifCond .eq 18) 3 (18) 86 101 := ⟨by decide +kernel, rfl, by decide⟩
theorem dX9_readsLoom_86 : DR cX9_readsLoom 86 (.aload_n 0) 1 87 := ⟨by decide +kernel, rfl⟩
theorem dX9_readsLoom_87 : DR cX9_readsLoom 87 (.getfield 19) 3 90 := ⟨by decide +kernel, rfl⟩
theorem dX9_readsLoom_90 : DR cX9_readsLoom 90 (.iload 5) 2 92 := ⟨by decide +kernel, rfl⟩
theorem dX9_readsLoom_92 : DR cX9_readsLoom 92 (.iaload) 1 93 := ⟨by decide +kernel, rfl⟩
theorem dX9_readsLoom_93 : DR cX9_readsLoom 93 (.iload_n 2) 1 94 := ⟨by decide +kernel, rfl⟩
theorem dX9_readsLoom_94 : DB cX9_readsLoom 94 (.if_icmp .eq 7) 3 (7) 97 101 := ⟨by decide +kernel, rfl, by decide⟩
theorem dX9_readsLoom_97 : DR cX9_readsLoom 97 (.iconst 1) 1 98 := ⟨by decide +kernel, rfl⟩
theorem dX9_readsLoom_98 : DB cX9_readsLoom 98 (.goto 4) 3 (4) 101 102 := ⟨by decide +kernel, rfl, by decide⟩
theorem dX9_readsLoom_101 : DR cX9_readsLoom 101 (.iconst 0) 1 102 := ⟨by decide +kernel, rfl⟩
theorem dX9_readsLoom_102 : DR cX9_readsLoom 102 (.istore 4) 2 104 := ⟨by decide +kernel, rfl⟩
theorem dX9_readsLoom_104 : DR cX9_readsLoom 104 (.iinc 5 1) 3 107 := ⟨by decide +kernel, rfl⟩
theorem dX9_readsLoom_107 : DB cX9_readsLoom 107 (.goto (-37)) 3 (-37) 110 70 := ⟨by decide +kernel, rfl, by decide⟩
theorem dX9_readsLoom_110 : DR cX9_readsLoom 110 (.iload 4) 2 112 := ⟨by decide +kernel, rfl⟩
theorem dX9_readsLoom_112 : DB cX9_readsLoom 112 (.ifCond .eq 10) 3 (10) 115 122 := ⟨by decide +kernel, rfl, by decide⟩
theorem dX9_readsLoom_115 : DR cX9_readsLoom 115 (.aload_n 0) 1 116 := ⟨by decide +kernel, rfl⟩
theorem dX9_readsLoom_116 : DR cX9_readsLoom 116 (.iload_n 1) 1 117 := ⟨by decide +kernel, rfl⟩
theorem dX9_readsLoom_117 : DR cX9_readsLoom 117 (.iload_n 2) 1 118 := ⟨by decide +kernel, rfl⟩
theorem dX9_readsLoom_118 : DR cX9_readsLoom 118 (.iload_n 3) 1 119 := ⟨by decide +kernel, rfl⟩
theorem dX9_readsLoom_119 : DR cX9_readsLoom 119 (.invokevirtual 43) 3 122 := ⟨by decide +kernel, rfl⟩
theorem dX9_readsLoom_122 : DR cX9_readsLoom 122 (.iload 4) 2 124 := ⟨by decide +kernel, rfl⟩
theorem dX9_readsLoom_124 : DR cX9_readsLoom 124 (.ireturn) 1 125 := ⟨by decide +kernel, rfl⟩
theorem dX9_readsItem_0 : DR cX9_readsItem 0 (.iload_n 1) 1 1 := ⟨by decide +kernel, rfl⟩
theorem dX9_readsItem_1 : DR cX9_readsItem 1 (.lookupswitch 135 #[(104, 56), (108, 51), (109, 117), (115, 108), (121, 126)]) 51 52 := ⟨by decide +kernel, rfl⟩
theorem dX9_readsItem_52 : DR cX9_readsItem 52 (.aload_n 0) 1 53 := ⟨by decide +kernel, rfl⟩
theorem dX9_readsItem_53 : DR cX9_readsItem 53 (.invokevirtual 77) 3 56 := ⟨by decide +kernel, rfl⟩
theorem dX9_readsItem_56 : DR cX9_readsItem 56 (.ireturn) 1 57 := ⟨by decide +kernel, rfl⟩
theorem dX9_readsItem_57 : DR cX9_readsItem 57 (.aload_n 0) 1 58 := ⟨by decide +kernel, rfl⟩
theorem dX9_readsItem_58 : DR cX9_readsItem 58 (.iconst 0) 1 59 := ⟨by decide +kernel, rfl⟩
theorem dX9_readsItem_59 : DR cX9_readsItem 59 (.bipush 9) 2 61 := ⟨by decide +kernel, rfl⟩
theorem dX9_readsItem_61 : DR cX9_readsItem 61 (.bipush 44) 2 63 := ⟨by decide +kernel, rfl⟩
theorem dX9_readsItem_63 : DR cX9_readsItem 63 (.invokevirtual 73) 3 66 := ⟨by decide +kernel, rfl⟩
theorem dX9_readsItem_66 : DR cX9_readsItem 66 (.istore_n 2) 1 67 := ⟨by decide +kernel, rfl⟩
theorem dX9_readsItem_67 : DR cX9_readsItem 67 (.iload_n 2) 1 68 := ⟨by decide +kernel, rfl⟩
theorem dX9_readsItem_68 : DB cX9_readsItem 68 (.ifCond .ge 7) 3 (7) 71 75 := ⟨by decide +kernel, rfl, by decide⟩
theorem dX9_readsItem_71 : DR cX9_readsItem 71 (.iconst (-1)) 1 72 := ⟨by decide +kernel, rfl⟩
theorem dX9_readsItem_72 : DB cX9_readsItem 72 (.goto 11) 3 (11) 75 83 := ⟨by decide +kernel, rfl, by decide⟩
theorem dX9_readsItem_75 : DR cX9_readsItem 75 (.aload_n 0) 1 76 := ⟨by decide +kernel, rfl⟩
theorem dX9_readsItem_76 : DR cX9_readsItem 76 (.iconst 0) 1 77 := ⟨by decide +kernel, rfl⟩
theorem dX9_readsItem_77 : DR cX9_readsItem 77 (.iconst 1) 1 78 := ⟨by decide +kernel, rfl⟩
theorem dX9_readsItem_78 : DR cX9_readsItem 78 (.bipush 59) 2 80 := ⟨by decide +kernel, rfl⟩
theorem dX9_readsItem_80 : DR cX9_readsItem 80 (.invokevirtual 73) 3 83 := ⟨by decide +kernel, rfl⟩
theorem dX9_readsItem_83 : DR cX9_readsItem 83 (.istore_n 3) 1 84 := ⟨by decide +kernel, rfl⟩
theorem dX9_readsItem_84 : DR cX9_readsItem 84 (.iload_n 3) 1 85 := ⟨by decide +kernel, rfl⟩
theorem dX9_readsItem_85 : DB cX9_readsItem 85 (.ifCond .lt 14) 3 (14) 88 99 := ⟨by decide +kernel, rfl, by decide⟩
theorem dX9_readsItem_88 : DR cX9_readsItem 88 (.aload_n 0) 1 89 := ⟨by decide +kernel, rfl⟩
theorem dX9_readsItem_89 : DR cX9_readsItem 89 (.getfield 16) 3 92 := ⟨by decide +kernel, rfl⟩
theorem dX9_readsItem_92 : DR cX9_readsItem 92 (.iconst 1) 1 93 := ⟨by decide +kernel, rfl⟩
theorem dX9_readsItem_93 : DR cX9_readsItem 93 (.iaload) 1 94 := ⟨by decide +kernel, rfl⟩
theorem dX9_readsItem_94 : DR cX9_readsItem 94 (.bipush 12) 2 96 := ⟨by decide +kernel, rfl⟩
theorem dX9_readsItem_96 : DB cX9_readsItem 96 (.if_icmp .ne 5) 3 (5) 99 101 := ⟨by decide +kernel, rfl, by decide⟩
theorem dX9_readsItem_99 : DR cX9_readsItem 99 (.iconst 0) 1 100 := ⟨by decide +kernel, rfl⟩
theorem dX9_readsItem_100 : DR cX9_readsItem 100 (.ireturn) 1 101 := ⟨by decide +kernel, rfl⟩
theorem dX9_readsItem_101 : DR cX9_readsItem 101 (.aload_n 0) 1 102 := ⟨by decide +kernel, rfl⟩
theorem dX9_readsItem_102 : DR cX9_readsItem 102 (.iload_n 2) 1 103 := ⟨by decide +kernel, rfl⟩
theorem dX9_readsItem_103 : DR cX9_readsItem 103 (.iload_n 3) 1 104 := ⟨by decide +kernel, rfl⟩
theorem dX9_readsItem_104 : DR cX9_readsItem 104 (.invokevirtual 47) 3 107 := ⟨by decide +kernel, rfl⟩
theorem dX9_readsItem_107 : DR cX9_readsItem 107 (.iconst 1) 1 108 := ⟨by decide +kernel, rfl⟩
theorem dX9_readsItem_108 : DR cX9_readsItem 108 (.ireturn) 1 109 := ⟨by decide +kernel, rfl⟩
theorem dX9_readsItem_109 : DR cX9_readsItem 109 (.aload_n 0) 1 110 := ⟨by decide +kernel, rfl⟩
theorem dX9_readsItem_110 : DR cX9_readsItem 110 (.iconst 2) 1 111 := ⟨by decide +kernel, rfl⟩
theorem dX9_readsItem_111 : DR cX9_readsItem 111 (.iconst 0) 1 112 := ⟨by decide +kernel, rfl⟩
theorem dX9_readsItem_112 : DR cX9_readsItem 112 (.bipush 20) 2 114 := ⟨by decide +kernel, rfl⟩
theorem dX9_readsItem_114 : DR cX9_readsItem 114 (.invokevirtual 81) 3 117 := ⟨by decide +kernel, rfl⟩
theorem dX9_readsItem_117 : DR cX9_readsItem 117 (.ireturn) 1 118 := ⟨by decide +kernel, rfl⟩
theorem dX9_readsItem_118 : DR cX9_readsItem 118 (.aload_n 0) 1 119 := ⟨by decide +kernel, rfl⟩
theorem dX9_readsItem_119 : DR cX9_readsItem 119 (.iconst 3) 1 120 := ⟨by decide +kernel, rfl⟩
theorem dX9_readsItem_120 : DR cX9_readsItem 120 (.iconst 1) 1 121 := ⟨by decide +kernel, rfl⟩
theorem dX9_readsItem_121 : DR cX9_readsItem 121 (.bipush 24) 2 123 := ⟨by decide +kernel, rfl⟩
theorem dX9_readsItem_123 : DR cX9_readsItem 123 (.invokevirtual 81) 3 126 := ⟨by decide +kernel, rfl⟩
theorem dX9_readsItem_126 : DR cX9_readsItem 126 (.ireturn) 1 127 := ⟨by decide +kernel, rfl⟩
theorem dX9_readsItem_127 : DR cX9_readsItem 127 (.aload_n 0) 1 128 := ⟨by decide +kernel, rfl⟩
theorem dX9_readsItem_128 : DR cX9_readsItem 128 (.iconst 4) 1 129 := ⟨by decide +kernel, rfl⟩
theorem dX9_readsItem_129 : DR cX9_readsItem 129 (.iconst 1) 1 130 := ⟨by decide +kernel, rfl⟩
theorem dX9_readsItem_130 : DR cX9_readsItem 130 (.bipush 27) 2 132 := ⟨by decide +kernel, rfl⟩
theorem dX9_readsItem_132 : DR cX9_readsItem 132 (.invokevirtual 81) 3 135 := ⟨by decide +kernel, rfl⟩
theorem dX9_readsItem_135 : DR cX9_readsItem 135 (.ireturn) 1 136 := ⟨by decide +kernel, rfl⟩
theorem dX9_readsItem_136 : DR cX9_readsItem 136 (.iconst 0) 1 137 := ⟨by decide +kernel, rfl⟩
theorem dX9_readsItem_137 : DR cX9_readsItem 137 (.ireturn) 1 138 := ⟨by decide +kernel, rfl⟩
theorem dX9_readsAll_0 : DR cX9_readsAll 0 (.aload_n 0) 1 1 := ⟨by decide +kernel, rfl⟩
theorem dX9_readsAll_1 : DR cX9_readsAll 1 (.invokevirtual 40) 3 4 := ⟨by decide +kernel, rfl⟩
theorem dX9_readsAll_4 : DR cX9_readsAll 4 (.aload_n 0) 1 5 := ⟨by decide +kernel, rfl⟩
theorem dX9_readsAll_5 : DR cX9_readsAll 5 (.iconst 0) 1 6 := ⟨by decide +kernel, rfl⟩
theorem dX9_readsAll_6 : DR cX9_readsAll 6 (.putfield 62) 3 9 := ⟨by decide +kernel, rfl⟩
theorem dX9_readsAll_9 : DR cX9_readsAll 9 (.aload_n 0) 1 10 := ⟨by decide +kernel, rfl⟩
theorem dX9_readsAll_10 : DR cX9_readsAll 10 (.getfield 62) 3 13 := ⟨by decide +kernel, rfl⟩
theorem dX9_readsAll_13 : DR cX9_readsAll 13 (.aload_n 0) 1 14 := ⟨by decide +kernel, rfl⟩
theorem dX9_readsAll_14 : DR cX9_readsAll 14 (.getfield 58) 3 17 := ⟨by decide +kernel, rfl⟩
theorem dX9_readsAll_17 : DB cX9_readsAll 17 (.if_icmp .ge 36) 3 (36) 20 53 := ⟨by decide +kernel, rfl, by decide⟩
theorem dX9_readsAll_20 : DR cX9_readsAll 20 (.aload_n 0) 1 21 := ⟨by decide +kernel, rfl⟩
theorem dX9_readsAll_21 : DR cX9_readsAll 21 (.getfield 62) 3 24 := ⟨by decide +kernel, rfl⟩
theorem dX9_readsAll_24 : DR cX9_readsAll 24 (.istore_n 1) 1 25 := ⟨by decide +kernel, rfl⟩
theorem dX9_readsAll_25 : DR cX9_readsAll 25 (.aload_n 0) 1 26 := ⟨by decide +kernel, rfl⟩
theorem dX9_readsAll_26 : DR cX9_readsAll 26 (.dup) 1 27 := ⟨by decide +kernel, rfl⟩
theorem dX9_readsAll_27 : DR cX9_readsAll 27 (.getfield 62) 3 30 := ⟨by decide +kernel, rfl⟩
theorem dX9_readsAll_30 : DR cX9_readsAll 30 (.iconst 1) 1 31 := ⟨by decide +kernel, rfl⟩
theorem dX9_readsAll_31 : DR cX9_readsAll 31 (.iadd) 1 32 := ⟨by decide +kernel, rfl⟩
theorem dX9_readsAll_32 : DR cX9_readsAll 32 (.putfield 62) 3 35 := ⟨by decide +kernel, rfl⟩
theorem dX9_readsAll_35 : DR cX9_readsAll 35 (.aload_n 0) 1 36 := ⟨by decide +kernel, rfl⟩
theorem dX9_readsAll_36 : DR cX9_readsAll 36 (.aload_n 0) 1 37 := ⟨by decide +kernel, rfl⟩
theorem dX9_readsAll_37 : DR cX9_readsAll 37 (.getfield 7) 3 40 := ⟨by decide +kernel, rfl⟩
theorem dX9_readsAll_40 : DR cX9_readsAll 40 (.iload_n 1) 1 41 := ⟨by decide +kernel, rfl⟩
theorem dX9_readsAll_41 : DR cX9_readsAll 41 (.iaload) 1 42 := ⟨by decide +kernel, rfl⟩
theorem dX9_readsAll_42 : DR cX9_readsAll 42 (.invokevirtual 84) 3 45 := ⟨by decide +kernel, rfl⟩
theorem dX9_readsAll_45 : DB cX9_readsAll 45 (.ifCond .ne 5) 3 (5) 48 50 := ⟨by decide +kernel, rfl, by decide⟩
theorem dX9_readsAll_48 : DR cX9_readsAll 48 (.iload_n 1) 1 49 := ⟨by decide +kernel, rfl⟩
theorem dX9_readsAll_49 : DR cX9_readsAll 49 (.ireturn) 1 50 := ⟨by decide +kernel, rfl⟩
theorem dX9_readsAll_50 : DB cX9_readsAll 50 (.goto (-41)) 3 (-41) 53 9 := ⟨by decide +kernel, rfl, by decide⟩
theorem dX9_readsAll_53 : DR cX9_readsAll 53 (.bipush (-4)) 2 55 := ⟨by decide +kernel, rfl⟩
theorem dX9_readsAll_55 : DR cX9_readsAll 55 (.ireturn) 1 56 := ⟨by decide +kernel, rfl⟩
theorem dX9_fault_0 : DR cX9_fault 0 (.aload_n 0) 1 1 := ⟨by decide +kernel, rfl⟩
theorem dX9_fault_1 : DR cX9_fault 1 (.invokevirtual 87) 3 4 := ⟨by decide +kernel, rfl⟩
theorem dX9_fault_4 : DR cX9_fault 4 (.ireturn) 1 5 := ⟨by decide +kernel, rfl⟩
theorem dX9_lays_0 : DR cX9_lays 0 (.iconst 0) 1 1 := ⟨by decide +kernel, rfl⟩
theorem dX9_lays_1 : DR cX9_lays 1 (.istore_n 1) 1 2 := ⟨by decide +kernel, rfl⟩
theorem dX9_lays_2 : DR cX9_lays 2 (.iload_n 1) 1 3 := ⟨by decide +kernel, rfl⟩
theorem dX9_lays_3 : DR cX9_lays 3 (.bipush 41) 2 5 := ⟨by decide +kernel, rfl⟩
theorem dX9_lays_5 : DB cX9_lays 5 (.if_icmp .ge 21) 3 (21) 8 26 := ⟨by decide +kernel, rfl, by decide⟩
theorem dX9_lays_8 : DR cX9_lays 8 (.aload_n 0) 1 9 := ⟨by decide +kernel, rfl⟩
theorem dX9_lays_9 : DR cX9_lays 9 (.getfield 13) 3 12 := ⟨by decide +kernel, rfl⟩
theorem dX9_lays_12 : DR cX9_lays 12 (.iload_n 1) 1 13 := ⟨by decide +kernel, rfl⟩
theorem dX9_lays_13 : DR cX9_lays 13 (.aload_n 0) 1 14 := ⟨by decide +kernel, rfl⟩
theorem dX9_lays_14 : DR cX9_lays 14 (.getfield 16) 3 17 := ⟨by decide +kernel, rfl⟩
theorem dX9_lays_17 : DR cX9_lays 17 (.iload_n 1) 1 18 := ⟨by decide +kernel, rfl⟩
theorem dX9_lays_18 : DR cX9_lays 18 (.iaload) 1 19 := ⟨by decide +kernel, rfl⟩
theorem dX9_lays_19 : DR cX9_lays 19 (.iastore) 1 20 := ⟨by decide +kernel, rfl⟩
theorem dX9_lays_20 : DR cX9_lays 20 (.iinc 1 1) 3 23 := ⟨by decide +kernel, rfl⟩
theorem dX9_lays_23 : DB cX9_lays 23 (.goto (-21)) 3 (-21) 26 2 := ⟨by decide +kernel, rfl, by decide⟩
theorem dX9_lays_26 : DR cX9_lays 26 (.iconst 0) 1 27 := ⟨by decide +kernel, rfl⟩
theorem dX9_lays_27 : DR cX9_lays 27 (.istore_n 1) 1 28 := ⟨by decide +kernel, rfl⟩
theorem dX9_lays_28 : DR cX9_lays 28 (.iload_n 1) 1 29 := ⟨by decide +kernel, rfl⟩
theorem dX9_lays_29 : DR cX9_lays 29 (.bipush 26) 2 31 := ⟨by decide +kernel, rfl⟩
theorem dX9_lays_31 : DB cX9_lays 31 (.if_icmp .ge 31) 3 (31) 34 62 := ⟨by decide +kernel, rfl, by decide⟩
theorem dX9_lays_34 : DR cX9_lays 34 (.aload_n 0) 1 35 := ⟨by decide +kernel, rfl⟩
theorem dX9_lays_35 : DR cX9_lays 35 (.getfield 22) 3 38 := ⟨by decide +kernel, rfl⟩
theorem dX9_lays_38 : DR cX9_lays 38 (.iload_n 1) 1 39 := ⟨by decide +kernel, rfl⟩
theorem dX9_lays_39 : DR cX9_lays 39 (.iload_n 1) 1 40 := ⟨by decide +kernel, rfl⟩
theorem dX9_lays_40 : DR cX9_lays 40 (.bipush 6) 2 42 := ⟨by decide +kernel, rfl⟩
theorem dX9_lays_42 : DB cX9_lays 42 (.if_icmp .ge 12) 3 (12) 45 54 := ⟨by decide +kernel, rfl, by decide⟩
theorem dX9_lays_45 : DR cX9_lays 45 (.aload_n 0) 1 46 := ⟨by decide +kernel, rfl⟩
theorem dX9_lays_46 : DR cX9_lays 46 (.getfield 19) 3 49 := ⟨by decide +kernel, rfl⟩
theorem dX9_lays_49 : DR cX9_lays 49 (.iload_n 1) 1 50 := ⟨by decide +kernel, rfl⟩
theorem dX9_lays_50 : DR cX9_lays 50 (.iaload) 1 51 := ⟨by decide +kernel, rfl⟩
theorem dX9_lays_51 : DB cX9_lays 51 (.goto 4) 3 (4) 54 55 := ⟨by decide +kernel, rfl, by decide⟩
theorem dX9_lays_54 : DR cX9_lays 54 (.iconst 0) 1 55 := ⟨by decide +kernel, rfl⟩
theorem dX9_lays_55 : DR cX9_lays 55 (.iastore) 1 56 := ⟨by decide +kernel, rfl⟩
theorem dX9_lays_56 : DR cX9_lays 56 (.iinc 1 1) 3 59 := ⟨by decide +kernel, rfl⟩
theorem dX9_lays_59 : DB cX9_lays 59 (.goto (-31)) 3 (-31) 62 28 := ⟨by decide +kernel, rfl, by decide⟩
theorem dX9_lays_62 : DR cX9_lays 62 (.aload_n 0) 1 63 := ⟨by decide +kernel, rfl⟩
theorem dX9_lays_63 : DR cX9_lays 63 (.iconst 0) 1 64 := ⟨by decide +kernel, rfl⟩
theorem dX9_lays_64 : DR cX9_lays 64 (.putfield 91) 3 67 := ⟨by decide +kernel, rfl⟩
theorem dX9_lays_67 : DR cX9_lays 67 (.aload_n 0) 1 68 := ⟨by decide +kernel, rfl⟩
theorem dX9_lays_68 : DR cX9_lays 68 (.iconst 0) 1 69 := ⟨by decide +kernel, rfl⟩
theorem dX9_lays_69 : DR cX9_lays 69 (.putfield 94) 3 72 := ⟨by decide +kernel, rfl⟩
theorem dX9_lays_72 : DR cX9_lays 72 (.aload_n 0) 1 73 := ⟨by decide +kernel, rfl⟩
theorem dX9_lays_73 : DR cX9_lays 73 (.iconst 0) 1 74 := ⟨by decide +kernel, rfl⟩
theorem dX9_lays_74 : DR cX9_lays 74 (.putfield 97) 3 77 := ⟨by decide +kernel, rfl⟩
theorem dX9_lays_77 : DR cX9_lays 77 (.return_) 1 78 := ⟨by decide +kernel, rfl⟩
theorem dX9_lay_0 : DR cX9_lay 0 (.aload_n 0) 1 1 := ⟨by decide +kernel, rfl⟩
theorem dX9_lay_1 : DR cX9_lay 1 (.invokevirtual 87) 3 4 := ⟨by decide +kernel, rfl⟩
theorem dX9_lay_4 : DR cX9_lay 4 (.bipush (-4)) 2 6 := ⟨by decide +kernel, rfl⟩
theorem dX9_lay_6 : DB cX9_lay 6 (.if_icmp .ne 12) 3 (12) 9 18 := ⟨by decide +kernel, rfl, by decide⟩
theorem dX9_lay_9 : DR cX9_lay 9 (.aload_n 0) 1 10 := ⟨by decide +kernel, rfl⟩
theorem dX9_lay_10 : DR cX9_lay 10 (.getfield 16) 3 13 := ⟨by decide +kernel, rfl⟩
theorem dX9_lay_13 : DR cX9_lay 13 (.iconst 0) 1 14 := ⟨by decide +kernel, rfl⟩
theorem dX9_lay_14 : DR cX9_lay 14 (.iaload) 1 15 := ⟨by decide +kernel, rfl⟩
theorem dX9_lay_15 : DB cX9_lay 15 (.ifCond .ne 6) 3 (6) 18 21 := ⟨by decide +kernel, rfl, by decide⟩
theorem dX9_lay_18 : DR cX9_lay 18 (.bipush (-2)) 2 20 := ⟨by decide +kernel, rfl⟩
theorem dX9_lay_20 : DR cX9_lay 20 (.ireturn) 1 21 := ⟨by decide +kernel, rfl⟩
theorem dX9_lay_21 : DR cX9_lay 21 (.aload_n 0) 1 22 := ⟨by decide +kernel, rfl⟩
theorem dX9_lay_22 : DR cX9_lay 22 (.invokevirtual 51) 3 25 := ⟨by decide +kernel, rfl⟩
theorem dX9_lay_25 : DR cX9_lay 25 (.aload_n 0) 1 26 := ⟨by decide +kernel, rfl⟩
theorem dX9_lay_26 : DR cX9_lay 26 (.getfield 13) 3 29 := ⟨by decide +kernel, rfl⟩
theorem dX9_lay_29 : DR cX9_lay 29 (.iconst 0) 1 30 := ⟨by decide +kernel, rfl⟩
theorem dX9_lay_30 : DR cX9_lay 30 (.iaload) 1 31 := ⟨by decide +kernel, rfl⟩
theorem dX9_lay_31 : DR cX9_lay 31 (.ireturn) 1 32 := ⟨by decide +kernel, rfl⟩
theorem dX9_loom_0 : DR cX9_loom 0 (.aload_n 0) 1 1 := ⟨by decide +kernel, rfl⟩
theorem dX9_loom_1 : DR cX9_loom 1 (.iload_n 1) 1 2 := ⟨by decide +kernel, rfl⟩
theorem dX9_loom_2 : DR cX9_loom 2 (.invokevirtual 100) 3 5 := ⟨by decide +kernel, rfl⟩
theorem dX9_loom_5 : DB cX9_loom 5 (.ifCond .ne 5) 3 (5) 8 10 := ⟨by decide +kernel, rfl, by decide⟩
theorem dX9_loom_8 : DR cX9_loom 8 (.iconst (-1)) 1 9 := ⟨by decide +kernel, rfl⟩
theorem dX9_loom_9 : DR cX9_loom 9 (.ireturn) 1 10 := ⟨by decide +kernel, rfl⟩
theorem dX9_loom_10 : DR cX9_loom 10 (.iload_n 2) 1 11 := ⟨by decide +kernel, rfl⟩
theorem dX9_loom_11 : DR cX9_loom 11 (.tableswitch 93 0 5 #[37, 46, 53, 63, 73, 83]) 37 48 := ⟨by decide +kernel, rfl⟩
theorem dX9_loom_48 : DR cX9_loom 48 (.aload_n 0) 1 49 := ⟨by decide +kernel, rfl⟩
theorem dX9_loom_49 : DR cX9_loom 49 (.getfield 13) 3 52 := ⟨by decide +kernel, rfl⟩
theorem dX9_loom_52 : DR cX9_loom 52 (.iconst 5) 1 53 := ⟨by decide +kernel, rfl⟩
theorem dX9_loom_53 : DR cX9_loom 53 (.iload_n 1) 1 54 := ⟨by decide +kernel, rfl⟩
theorem dX9_loom_54 : DR cX9_loom 54 (.iadd) 1 55 := ⟨by decide +kernel, rfl⟩
theorem dX9_loom_55 : DR cX9_loom 55 (.iaload) 1 56 := ⟨by decide +kernel, rfl⟩
theorem dX9_loom_56 : DR cX9_loom 56 (.ireturn) 1 57 := ⟨by decide +kernel, rfl⟩
theorem dX9_loom_57 : DR cX9_loom 57 (.aload_n 0) 1 58 := ⟨by decide +kernel, rfl⟩
theorem dX9_loom_58 : DR cX9_loom 58 (.getfield 22) 3 61 := ⟨by decide +kernel, rfl⟩
theorem dX9_loom_61 : DR cX9_loom 61 (.iload_n 1) 1 62 := ⟨by decide +kernel, rfl⟩
theorem dX9_loom_62 : DR cX9_loom 62 (.iaload) 1 63 := ⟨by decide +kernel, rfl⟩
theorem dX9_loom_63 : DR cX9_loom 63 (.ireturn) 1 64 := ⟨by decide +kernel, rfl⟩
theorem dX9_loom_64 : DR cX9_loom 64 (.aload_n 0) 1 65 := ⟨by decide +kernel, rfl⟩
theorem dX9_loom_65 : DR cX9_loom 65 (.getfield 13) 3 68 := ⟨by decide +kernel, rfl⟩
theorem dX9_loom_68 : DR cX9_loom 68 (.bipush 11) 2 70 := ⟨by decide +kernel, rfl⟩
theorem dX9_loom_70 : DR cX9_loom 70 (.iload_n 1) 1 71 := ⟨by decide +kernel, rfl⟩
theorem dX9_loom_71 : DR cX9_loom 71 (.iadd) 1 72 := ⟨by decide +kernel, rfl⟩
theorem dX9_loom_72 : DR cX9_loom 72 (.iaload) 1 73 := ⟨by decide +kernel, rfl⟩
theorem dX9_loom_73 : DR cX9_loom 73 (.ireturn) 1 74 := ⟨by decide +kernel, rfl⟩
theorem dX9_loom_74 : DR cX9_loom 74 (.aload_n 0) 1 75 := ⟨by decide +kernel, rfl⟩
theorem dX9_loom_75 : DR cX9_loom 75 (.getfield 22) 3 78 := ⟨by decide +kernel, rfl⟩
theorem dX9_loom_78 : DR cX9_loom 78 (.bipush 6) 2 80 := ⟨by decide +kernel, rfl⟩
theorem dX9_loom_80 : DR cX9_loom 80 (.iload_n 1) 1 81 := ⟨by decide +kernel, rfl⟩
theorem dX9_loom_81 : DR cX9_loom 81 (.iadd) 1 82 := ⟨by decide +kernel, rfl⟩
theorem dX9_loom_82 : DR cX9_loom 82 (.iaload) 1 83 := ⟨by decide +kernel, rfl⟩
theorem dX9_loom_83 : DR cX9_loom 83 (.ireturn) 1 84 := ⟨by decide +kernel, rfl⟩
theorem dX9_loom_84 : DR cX9_loom 84 (.aload_n 0) 1 85 := ⟨by decide +kernel, rfl⟩
theorem dX9_loom_85 : DR cX9_loom 85 (.getfield 22) 3 88 := ⟨by decide +kernel, rfl⟩
theorem dX9_loom_88 : DR cX9_loom 88 (.bipush 12) 2 90 := ⟨by decide +kernel, rfl⟩
theorem dX9_loom_90 : DR cX9_loom 90 (.iload_n 1) 1 91 := ⟨by decide +kernel, rfl⟩
theorem dX9_loom_91 : DR cX9_loom 91 (.iadd) 1 92 := ⟨by decide +kernel, rfl⟩
theorem dX9_loom_92 : DR cX9_loom 92 (.iaload) 1 93 := ⟨by decide +kernel, rfl⟩
theorem dX9_loom_93 : DR cX9_loom 93 (.ireturn) 1 94 := ⟨by decide +kernel, rfl⟩
theorem dX9_loom_94 : DR cX9_loom 94 (.aload_n 0) 1 95 := ⟨by decide +kernel, rfl⟩
theorem dX9_loom_95 : DR cX9_loom 95 (.getfield 22) 3 98 := ⟨by decide +kernel, rfl⟩
theorem dX9_loom_98 : DR cX9_loom 98 (.bipush 18) 2 100 := ⟨by decide +kernel, rfl⟩
theorem dX9_loom_100 : DR cX9_loom 100 (.iload_n 1) 1 101 := ⟨by decide +kernel, rfl⟩
theorem dX9_loom_101 : DR cX9_loom 101 (.iadd) 1 102 := ⟨by decide +kernel, rfl⟩
theorem dX9_loom_102 : DR cX9_loom 102 (.iaload) 1 103 := ⟨by decide +kernel, rfl⟩
theorem dX9_loom_103 : DR cX9_loom 103 (.ireturn) 1 104 := ⟨by decide +kernel, rfl⟩
theorem dX9_loom_104 : DR cX9_loom 104 (.iconst (-1)) 1 105 := ⟨by decide +kernel, rfl⟩
theorem dX9_loom_105 : DR cX9_loom 105 (.ireturn) 1 106 := ⟨by decide +kernel, rfl⟩
theorem dX9_nth_0 : DR cX9_nth 0 (.iload_n 1) 1 1 := ⟨by decide +kernel, rfl⟩
theorem dX9_nth_1 : DR cX9_nth 1 (.aload_n 0) 1 2 := ⟨by decide +kernel, rfl⟩
theorem dX9_nth_2 : DR cX9_nth 2 (.getfield 13) 3 5 := ⟨by decide +kernel, rfl⟩
theorem dX9_nth_5 : DR cX9_nth 5 (.iconst 1) 1 6 := ⟨by decide +kernel, rfl⟩
theorem dX9_nth_6 : DR cX9_nth 6 (.iaload) 1 7 := ⟨by decide +kernel, rfl⟩
theorem dX9_nth_7 : DB cX9_nth 7 (.if_icmp .ge 7) 3 (7) 10 14 := ⟨by decide +kernel, rfl, by decide⟩
theorem dX9_nth_10 : DR cX9_nth 10 (.iload_n 1) 1 11 := ⟨by decide +kernel, rfl⟩
theorem dX9_nth_11 : DB cX9_nth 11 (.goto 11) 3 (11) 14 22 := ⟨by decide +kernel, rfl, by decide⟩
theorem dX9_nth_14 : DR cX9_nth 14 (.aload_n 0) 1 15 := ⟨by decide +kernel, rfl⟩
theorem dX9_nth_15 : DR cX9_nth 15 (.getfield 13) 3 18 := ⟨by decide +kernel, rfl⟩
theorem dX9_nth_18 : DR cX9_nth 18 (.iconst 1) 1 19 := ⟨by decide +kernel, rfl⟩
theorem dX9_nth_19 : DR cX9_nth 19 (.iaload) 1 20 := ⟨by decide +kernel, rfl⟩
theorem dX9_nth_20 : DR cX9_nth 20 (.iconst 1) 1 21 := ⟨by decide +kernel, rfl⟩
theorem dX9_nth_21 : DR cX9_nth 21 (.isub) 1 22 := ⟨by decide +kernel, rfl⟩
theorem dX9_nth_22 : DR cX9_nth 22 (.ireturn) 1 23 := ⟨by decide +kernel, rfl⟩
theorem dX9_coldOf_0 : DR cX9_coldOf 0 (.aload_n 0) 1 1 := ⟨by decide +kernel, rfl⟩
theorem dX9_coldOf_1 : DR cX9_coldOf 1 (.getfield 13) 3 4 := ⟨by decide +kernel, rfl⟩
theorem dX9_coldOf_4 : DR cX9_coldOf 4 (.iconst 1) 1 5 := ⟨by decide +kernel, rfl⟩
theorem dX9_coldOf_5 : DR cX9_coldOf 5 (.iaload) 1 6 := ⟨by decide +kernel, rfl⟩
theorem dX9_coldOf_6 : DB cX9_coldOf 6 (.ifCond .ne 7) 3 (7) 9 13 := ⟨by decide +kernel, rfl, by decide⟩
theorem dX9_coldOf_9 : DR cX9_coldOf 9 (.iconst 4) 1 10 := ⟨by decide +kernel, rfl⟩
theorem dX9_coldOf_10 : DB cX9_coldOf 10 (.goto 16) 3 (16) 13 26 := ⟨by decide +kernel, rfl, by decide⟩
theorem dX9_coldOf_13 : DR cX9_coldOf 13 (.aload_n 0) 1 14 := ⟨by decide +kernel, rfl⟩
theorem dX9_coldOf_14 : DR cX9_coldOf 14 (.getfield 13) 3 17 := ⟨by decide +kernel, rfl⟩
theorem dX9_coldOf_17 : DR cX9_coldOf 17 (.bipush 17) 2 19 := ⟨by decide +kernel, rfl⟩
theorem dX9_coldOf_19 : DR cX9_coldOf 19 (.aload_n 0) 1 20 := ⟨by decide +kernel, rfl⟩
theorem dX9_coldOf_20 : DR cX9_coldOf 20 (.iload_n 1) 1 21 := ⟨by decide +kernel, rfl⟩
theorem dX9_coldOf_21 : DR cX9_coldOf 21 (.invokevirtual 103) 3 24 := ⟨by decide +kernel, rfl⟩
theorem dX9_coldOf_24 : DR cX9_coldOf 24 (.iadd) 1 25 := ⟨by decide +kernel, rfl⟩
theorem dX9_coldOf_25 : DR cX9_coldOf 25 (.iaload) 1 26 := ⟨by decide +kernel, rfl⟩
theorem dX9_coldOf_26 : DR cX9_coldOf 26 (.ireturn) 1 27 := ⟨by decide +kernel, rfl⟩
theorem dX9_mistOf_0 : DR cX9_mistOf 0 (.aload_n 0) 1 1 := ⟨by decide +kernel, rfl⟩
theorem dX9_mistOf_1 : DR cX9_mistOf 1 (.getfield 13) 3 4 := ⟨by decide +kernel, rfl⟩
theorem dX9_mistOf_4 : DR cX9_mistOf 4 (.iconst 1) 1 5 := ⟨by decide +kernel, rfl⟩
theorem dX9_mistOf_5 : DR cX9_mistOf 5 (.iaload) 1 6 := ⟨by decide +kernel, rfl⟩
theorem dX9_mistOf_6 : DB cX9_mistOf 6 (.ifCond .ne 7) 3 (7) 9 13 := ⟨by decide +kernel, rfl, by decide⟩
theorem dX9_mistOf_9 : DR cX9_mistOf 9 (.iconst 0) 1 10 := ⟨by decide +kernel, rfl⟩
theorem dX9_mistOf_10 : DB cX9_mistOf 10 (.goto 16) 3 (16) 13 26 := ⟨by decide +kernel, rfl, by decide⟩
theorem dX9_mistOf_13 : DR cX9_mistOf 13 (.aload_n 0) 1 14 := ⟨by decide +kernel, rfl⟩
theorem dX9_mistOf_14 : DR cX9_mistOf 14 (.getfield 13) 3 17 := ⟨by decide +kernel, rfl⟩
theorem dX9_mistOf_17 : DR cX9_mistOf 17 (.bipush 29) 2 19 := ⟨by decide +kernel, rfl⟩
theorem dX9_mistOf_19 : DR cX9_mistOf 19 (.aload_n 0) 1 20 := ⟨by decide +kernel, rfl⟩
theorem dX9_mistOf_20 : DR cX9_mistOf 20 (.iload_n 1) 1 21 := ⟨by decide +kernel, rfl⟩
theorem dX9_mistOf_21 : DR cX9_mistOf 21 (.invokevirtual 103) 3 24 := ⟨by decide +kernel, rfl⟩
theorem dX9_mistOf_24 : DR cX9_mistOf 24 (.iadd) 1 25 := ⟨by decide +kernel, rfl⟩
theorem dX9_mistOf_25 : DR cX9_mistOf 25 (.iaload) 1 26 := ⟨by decide +kernel, rfl⟩
theorem dX9_mistOf_26 : DR cX9_mistOf 26 (.ireturn) 1 27 := ⟨by decide +kernel, rfl⟩
theorem dX9_hour_0 : DR cX9_hour 0 (.iload_n 1) 1 1 := ⟨by decide +kernel, rfl⟩
theorem dX9_hour_1 : DR cX9_hour 1 (.iconst 0) 1 2 := ⟨by decide +kernel, rfl⟩
theorem dX9_hour_2 : DR cX9_hour 2 (.bipush 99) 2 4 := ⟨by decide +kernel, rfl⟩
theorem dX9_hour_4 : DR cX9_hour 4 (.invokestatic 54) 3 7 := ⟨by decide +kernel, rfl⟩
theorem dX9_hour_7 : DB cX9_hour 7 (.ifCond .eq 12) 3 (12) 10 19 := ⟨by decide +kernel, rfl, by decide⟩
theorem dX9_hour_10 : DR cX9_hour 10 (.iload_n 2) 1 11 := ⟨by decide +kernel, rfl⟩
theorem dX9_hour_11 : DR cX9_hour 11 (.iconst 0) 1 12 := ⟨by decide +kernel, rfl⟩
theorem dX9_hour_12 : DR cX9_hour 12 (.iconst 1) 1 13 := ⟨by decide +kernel, rfl⟩
theorem dX9_hour_13 : DR cX9_hour 13 (.invokestatic 54) 3 16 := ⟨by decide +kernel, rfl⟩
theorem dX9_hour_16 : DB cX9_hour 16 (.ifCond .ne 7) 3 (7) 19 23 := ⟨by decide +kernel, rfl, by decide⟩
theorem dX9_hour_19 : DR cX9_hour 19 (.iconst (-1)) 1 20 := ⟨by decide +kernel, rfl⟩
theorem dX9_hour_20 : DB cX9_hour 20 (.goto 20) 3 (20) 23 40 := ⟨by decide +kernel, rfl, by decide⟩
theorem dX9_hour_23 : DR cX9_hour 23 (.iload_n 2) 1 24 := ⟨by decide +kernel, rfl⟩
theorem dX9_hour_24 : DB cX9_hour 24 (.ifCond .ne 11) 3 (11) 27 35 := ⟨by decide +kernel, rfl, by decide⟩
theorem dX9_hour_27 : DR cX9_hour 27 (.aload_n 0) 1 28 := ⟨by decide +kernel, rfl⟩
theorem dX9_hour_28 : DR cX9_hour 28 (.iload_n 1) 1 29 := ⟨by decide +kernel, rfl⟩
theorem dX9_hour_29 : DR cX9_hour 29 (.invokevirtual 106) 3 32 := ⟨by decide +kernel, rfl⟩
theorem dX9_hour_32 : DB cX9_hour 32 (.goto 8) 3 (8) 35 40 := ⟨by decide +kernel, rfl, by decide⟩
theorem dX9_hour_35 : DR cX9_hour 35 (.aload_n 0) 1 36 := ⟨by decide +kernel, rfl⟩
theorem dX9_hour_36 : DR cX9_hour 36 (.iload_n 1) 1 37 := ⟨by decide +kernel, rfl⟩
theorem dX9_hour_37 : DR cX9_hour 37 (.invokevirtual 109) 3 40 := ⟨by decide +kernel, rfl⟩
theorem dX9_hour_40 : DR cX9_hour 40 (.ireturn) 1 41 := ⟨by decide +kernel, rfl⟩
theorem dX9_loomAt_0 : DR cX9_loomAt 0 (.bipush (-4)) 2 2 := ⟨by decide +kernel, rfl⟩
theorem dX9_loomAt_2 : DR cX9_loomAt 2 (.istore_n 2) 1 3 := ⟨by decide +kernel, rfl⟩
theorem dX9_loomAt_3 : DR cX9_loomAt 3 (.iconst 0) 1 4 := ⟨by decide +kernel, rfl⟩
theorem dX9_loomAt_4 : DR cX9_loomAt 4 (.istore_n 3) 1 5 := ⟨by decide +kernel, rfl⟩
theorem dX9_loomAt_5 : DR cX9_loomAt 5 (.iload_n 3) 1 6 := ⟨by decide +kernel, rfl⟩
theorem dX9_loomAt_6 : DR cX9_loomAt 6 (.aload_n 0) 1 7 := ⟨by decide +kernel, rfl⟩
theorem dX9_loomAt_7 : DR cX9_loomAt 7 (.getfield 13) 3 10 := ⟨by decide +kernel, rfl⟩
theorem dX9_loomAt_10 : DR cX9_loomAt 10 (.iconst 0) 1 11 := ⟨by decide +kernel, rfl⟩
theorem dX9_loomAt_11 : DR cX9_loomAt 11 (.iaload) 1 12 := ⟨by decide +kernel, rfl⟩
theorem dX9_loomAt_12 : DB cX9_loomAt 12 (.if_icmp .ge 25) 3 (25) 15 37 := ⟨by decide +kernel, rfl, by decide⟩
theorem dX9_loomAt_15 : DR cX9_loomAt 15 (.aload_n 0) 1 16 := ⟨by decide +kernel, rfl⟩
theorem dX9_loomAt_16 : DR cX9_loomAt 16 (.getfield 22) 3 19 := ⟨by decide +kernel, rfl⟩
theorem dX9_loomAt_19 : DR cX9_loomAt 19 (.iload_n 3) 1 20 := ⟨by decide +kernel, rfl⟩
theorem dX9_loomAt_20 : DR cX9_loomAt 20 (.iaload) 1 21 := ⟨by decide +kernel, rfl⟩
theorem dX9_loomAt_21 : DR cX9_loomAt 21 (.iload_n 1) 1 22 := ⟨by decide +kernel, rfl⟩
theorem dX9_loomAt_22 : DB cX9_loomAt 22 (.if_icmp .ne 7) 3 (7) 25 29 := ⟨by decide +kernel, rfl, by decide⟩
theorem dX9_loomAt_25 : DR cX9_loomAt 25 (.iload_n 3) 1 26 := ⟨by decide +kernel, rfl⟩
theorem dX9_loomAt_26 : DB cX9_loomAt 26 (.goto 4) 3 (4) 29 30 := ⟨by decide +kernel, rfl, by decide⟩
theorem dX9_loomAt_29 : DR cX9_loomAt 29 (.iload_n 2) 1 30 := ⟨by decide +kernel, rfl⟩
theorem dX9_loomAt_30 : DR cX9_loomAt 30 (.istore_n 2) 1 31 := ⟨by decide +kernel, rfl⟩
theorem dX9_loomAt_31 : DR cX9_loomAt 31 (.iinc 3 1) 3 34 := ⟨by decide +kernel, rfl⟩
theorem dX9_loomAt_34 : DB cX9_loomAt 34 (.goto (-29)) 3 (-29) 37 5 := ⟨by decide +kernel, rfl, by decide⟩
theorem dX9_loomAt_37 : DR cX9_loomAt 37 (.iload_n 2) 1 38 := ⟨by decide +kernel, rfl⟩
theorem dX9_loomAt_38 : DR cX9_loomAt 38 (.ireturn) 1 39 := ⟨by decide +kernel, rfl⟩
theorem dX9_at_0 : DR cX9_at 0 (.iload_n 1) 1 1 := ⟨by decide +kernel, rfl⟩
theorem dX9_at_1 : DR cX9_at 1 (.iconst 0) 1 2 := ⟨by decide +kernel, rfl⟩
theorem dX9_at_2 : DR cX9_at 2 (.bipush 9) 2 4 := ⟨by decide +kernel, rfl⟩
theorem dX9_at_4 : DR cX9_at 4 (.invokestatic 54) 3 7 := ⟨by decide +kernel, rfl⟩
theorem dX9_at_7 : DB cX9_at 7 (.ifCond .eq 11) 3 (11) 10 18 := ⟨by decide +kernel, rfl, by decide⟩
theorem dX9_at_10 : DR cX9_at 10 (.aload_n 0) 1 11 := ⟨by decide +kernel, rfl⟩
theorem dX9_at_11 : DR cX9_at 11 (.iload_n 1) 1 12 := ⟨by decide +kernel, rfl⟩
theorem dX9_at_12 : DR cX9_at 12 (.invokevirtual 112) 3 15 := ⟨by decide +kernel, rfl⟩
theorem dX9_at_15 : DB cX9_at 15 (.goto 4) 3 (4) 18 19 := ⟨by decide +kernel, rfl, by decide⟩
theorem dX9_at_18 : DR cX9_at 18 (.iconst (-1)) 1 19 := ⟨by decide +kernel, rfl⟩
theorem dX9_at_19 : DR cX9_at 19 (.ireturn) 1 20 := ⟨by decide +kernel, rfl⟩
theorem dX9_keeps_0 : DR cX9_keeps 0 (.aload_n 0) 1 1 := ⟨by decide +kernel, rfl⟩
theorem dX9_keeps_1 : DR cX9_keeps 1 (.getfield 91) 3 4 := ⟨by decide +kernel, rfl⟩
theorem dX9_keeps_4 : DR cX9_keeps 4 (.bipush 8) 2 6 := ⟨by decide +kernel, rfl⟩
theorem dX9_keeps_6 : DB cX9_keeps 6 (.if_icmp .ne 43) 3 (43) 9 49 := ⟨by decide +kernel, rfl, by decide⟩
theorem dX9_keeps_9 : DR cX9_keeps 9 (.iconst 0) 1 10 := ⟨by decide +kernel, rfl⟩
theorem dX9_keeps_10 : DR cX9_keeps 10 (.istore_n 1) 1 11 := ⟨by decide +kernel, rfl⟩
theorem dX9_keeps_11 : DR cX9_keeps 11 (.iload_n 1) 1 12 := ⟨by decide +kernel, rfl⟩
theorem dX9_keeps_12 : DR cX9_keeps 12 (.sipush 182) 3 15 := ⟨by decide +kernel, rfl⟩
theorem dX9_keeps_15 : DB cX9_keeps 15 (.if_icmp .ge 24) 3 (24) 18 39 := ⟨by decide +kernel, rfl, by decide⟩
theorem dX9_keeps_18 : DR cX9_keeps 18 (.aload_n 0) 1 19 := ⟨by decide +kernel, rfl⟩
theorem dX9_keeps_19 : DR cX9_keeps 19 (.getfield 25) 3 22 := ⟨by decide +kernel, rfl⟩
theorem dX9_keeps_22 : DR cX9_keeps 22 (.iload_n 1) 1 23 := ⟨by decide +kernel, rfl⟩
theorem dX9_keeps_23 : DR cX9_keeps 23 (.aload_n 0) 1 24 := ⟨by decide +kernel, rfl⟩
theorem dX9_keeps_24 : DR cX9_keeps 24 (.getfield 25) 3 27 := ⟨by decide +kernel, rfl⟩
theorem dX9_keeps_27 : DR cX9_keeps 27 (.iload_n 1) 1 28 := ⟨by decide +kernel, rfl⟩
theorem dX9_keeps_28 : DR cX9_keeps 28 (.bipush 26) 2 30 := ⟨by decide +kernel, rfl⟩
theorem dX9_keeps_30 : DR cX9_keeps 30 (.iadd) 1 31 := ⟨by decide +kernel, rfl⟩
theorem dX9_keeps_31 : DR cX9_keeps 31 (.iaload) 1 32 := ⟨by decide +kernel, rfl⟩
theorem dX9_keeps_32 : DR cX9_keeps 32 (.iastore) 1 33 := ⟨by decide +kernel, rfl⟩
theorem dX9_keeps_33 : DR cX9_keeps 33 (.iinc 1 1) 3 36 := ⟨by decide +kernel, rfl⟩
theorem dX9_keeps_36 : DB cX9_keeps 36 (.goto (-25)) 3 (-25) 39 11 := ⟨by decide +kernel, rfl, by decide⟩
theorem dX9_keeps_39 : DR cX9_keeps 39 (.aload_n 0) 1 40 := ⟨by decide +kernel, rfl⟩
theorem dX9_keeps_40 : DR cX9_keeps 40 (.dup) 1 41 := ⟨by decide +kernel, rfl⟩
theorem dX9_keeps_41 : DR cX9_keeps 41 (.getfield 91) 3 44 := ⟨by decide +kernel, rfl⟩
theorem dX9_keeps_44 : DR cX9_keeps 44 (.iconst 1) 1 45 := ⟨by decide +kernel, rfl⟩
theorem dX9_keeps_45 : DR cX9_keeps 45 (.isub) 1 46 := ⟨by decide +kernel, rfl⟩
theorem dX9_keeps_46 : DR cX9_keeps 46 (.putfield 91) 3 49 := ⟨by decide +kernel, rfl⟩
theorem dX9_keeps_49 : DR cX9_keeps 49 (.iconst 0) 1 50 := ⟨by decide +kernel, rfl⟩
theorem dX9_keeps_50 : DR cX9_keeps 50 (.istore_n 1) 1 51 := ⟨by decide +kernel, rfl⟩
theorem dX9_keeps_51 : DR cX9_keeps 51 (.iload_n 1) 1 52 := ⟨by decide +kernel, rfl⟩
theorem dX9_keeps_52 : DR cX9_keeps 52 (.bipush 26) 2 54 := ⟨by decide +kernel, rfl⟩
theorem dX9_keeps_54 : DB cX9_keeps 54 (.if_icmp .ge 29) 3 (29) 57 83 := ⟨by decide +kernel, rfl, by decide⟩
theorem dX9_keeps_57 : DR cX9_keeps 57 (.aload_n 0) 1 58 := ⟨by decide +kernel, rfl⟩
theorem dX9_keeps_58 : DR cX9_keeps 58 (.getfield 25) 3 61 := ⟨by decide +kernel, rfl⟩
theorem dX9_keeps_61 : DR cX9_keeps 61 (.bipush 26) 2 63 := ⟨by decide +kernel, rfl⟩
theorem dX9_keeps_63 : DR cX9_keeps 63 (.aload_n 0) 1 64 := ⟨by decide +kernel, rfl⟩
theorem dX9_keeps_64 : DR cX9_keeps 64 (.getfield 91) 3 67 := ⟨by decide +kernel, rfl⟩
theorem dX9_keeps_67 : DR cX9_keeps 67 (.imul) 1 68 := ⟨by decide +kernel, rfl⟩
theorem dX9_keeps_68 : DR cX9_keeps 68 (.iload_n 1) 1 69 := ⟨by decide +kernel, rfl⟩
theorem dX9_keeps_69 : DR cX9_keeps 69 (.iadd) 1 70 := ⟨by decide +kernel, rfl⟩
theorem dX9_keeps_70 : DR cX9_keeps 70 (.aload_n 0) 1 71 := ⟨by decide +kernel, rfl⟩
theorem dX9_keeps_71 : DR cX9_keeps 71 (.getfield 22) 3 74 := ⟨by decide +kernel, rfl⟩
theorem dX9_keeps_74 : DR cX9_keeps 74 (.iload_n 1) 1 75 := ⟨by decide +kernel, rfl⟩
theorem dX9_keeps_75 : DR cX9_keeps 75 (.iaload) 1 76 := ⟨by decide +kernel, rfl⟩
theorem dX9_keeps_76 : DR cX9_keeps 76 (.iastore) 1 77 := ⟨by decide +kernel, rfl⟩
theorem dX9_keeps_77 : DR cX9_keeps 77 (.iinc 1 1) 3 80 := ⟨by decide +kernel, rfl⟩
theorem dX9_keeps_80 : DB cX9_keeps 80 (.goto (-29)) 3 (-29) 83 51 := ⟨by decide +kernel, rfl, by decide⟩
theorem dX9_keeps_83 : DR cX9_keeps 83 (.aload_n 0) 1 84 := ⟨by decide +kernel, rfl⟩
theorem dX9_keeps_84 : DR cX9_keeps 84 (.dup) 1 85 := ⟨by decide +kernel, rfl⟩
theorem dX9_keeps_85 : DR cX9_keeps 85 (.getfield 91) 3 88 := ⟨by decide +kernel, rfl⟩
theorem dX9_keeps_88 : DR cX9_keeps 88 (.iconst 1) 1 89 := ⟨by decide +kernel, rfl⟩
theorem dX9_keeps_89 : DR cX9_keeps 89 (.iadd) 1 90 := ⟨by decide +kernel, rfl⟩
theorem dX9_keeps_90 : DR cX9_keeps 90 (.putfield 91) 3 93 := ⟨by decide +kernel, rfl⟩
theorem dX9_keeps_93 : DR cX9_keeps 93 (.return_) 1 94 := ⟨by decide +kernel, rfl⟩
theorem dX9_holds_0 : DR cX9_holds 0 (.iconst 3) 1 1 := ⟨by decide +kernel, rfl⟩
theorem dX9_holds_1 : DR cX9_holds 1 (.aload_n 0) 1 2 := ⟨by decide +kernel, rfl⟩
theorem dX9_holds_2 : DR cX9_holds 2 (.getfield 13) 3 5 := ⟨by decide +kernel, rfl⟩
theorem dX9_holds_5 : DR cX9_holds 5 (.bipush 11) 2 7 := ⟨by decide +kernel, rfl⟩
theorem dX9_holds_7 : DR cX9_holds 7 (.iload_n 1) 1 8 := ⟨by decide +kernel, rfl⟩
theorem dX9_holds_8 : DR cX9_holds 8 (.iadd) 1 9 := ⟨by decide +kernel, rfl⟩
theorem dX9_holds_9 : DR cX9_holds 9 (.iaload) 1 10 := ⟨by decide +kernel, rfl⟩
theorem dX9_holds_10 : DR cX9_holds 10 (.imul) 1 11 := ⟨by decide +kernel, rfl⟩
theorem dX9_holds_11 : DR cX9_holds 11 (.ireturn) 1 12 := ⟨by decide +kernel, rfl⟩
theorem dX9_settles_0 : DR cX9_settles 0 (.aload_n 0) 1 1 := ⟨by decide +kernel, rfl⟩
theorem dX9_settles_1 : DR cX9_settles 1 (.getfield 13) 3 4 := ⟨by decide +kernel, rfl⟩
theorem dX9_settles_4 : DR cX9_settles 4 (.iconst 5) 1 5 := ⟨by decide +kernel, rfl⟩
theorem dX9_settles_5 : DR cX9_settles 5 (.iload_n 1) 1 6 := ⟨by decide +kernel, rfl⟩
theorem dX9_settles_6 : DR cX9_settles 6 (.iadd) 1 7 := ⟨by decide +kernel, rfl⟩
theorem dX9_settles_7 : DR cX9_settles 7 (.iaload) 1 8 := ⟨by decide +kernel, rfl⟩
theorem dX9_settles_8 : DR cX9_settles 8 (.istore 4) 2 10 := ⟨by decide +kernel, rfl⟩
theorem dX9_settles_10 : DR cX9_settles 10 (.iload_n 3) 1 11 := ⟨by decide +kernel, rfl⟩
theorem dX9_settles_11 : DR cX9_settles 11 (.iconst 1) 1 12 := ⟨by decide +kernel, rfl⟩
theorem dX9_settles_12 : DB cX9_settles 12 (.if_icmp .ne 9) 3 (9) 15 21 := ⟨by decide +kernel, rfl, by decide⟩
theorem dX9_settles_15 : DR cX9_settles 15 (.iload_n 2) 1 16 := ⟨by decide +kernel, rfl⟩
theorem dX9_settles_16 : DR cX9_settles 16 (.iconst 2) 1 17 := ⟨by decide +kernel, rfl⟩
theorem dX9_settles_17 : DR cX9_settles 17 (.idiv) 1 18 := ⟨by decide +kernel, rfl⟩
theorem dX9_settles_18 : DB cX9_settles 18 (.goto 4) 3 (4) 21 22 := ⟨by decide +kernel, rfl, by decide⟩
theorem dX9_settles_21 : DR cX9_settles 21 (.iload_n 2) 1 22 := ⟨by decide +kernel, rfl⟩
theorem dX9_settles_22 : DR cX9_settles 22 (.istore 5) 2 24 := ⟨by decide +kernel, rfl⟩
theorem dX9_settles_24 : DR cX9_settles 24 (.iload 4) 2 26 := ⟨by decide +kernel, rfl⟩
theorem dX9_settles_26 : DR cX9_settles 26 (.iconst 1) 1 27 := ⟨by decide +kernel, rfl⟩
theorem dX9_settles_27 : DB cX9_settles 27 (.if_icmp .ne 10) 3 (10) 30 37 := ⟨by decide +kernel, rfl, by decide⟩
theorem dX9_settles_30 : DR cX9_settles 30 (.iconst 2) 1 31 := ⟨by decide +kernel, rfl⟩
theorem dX9_settles_31 : DR cX9_settles 31 (.iload 5) 2 33 := ⟨by decide +kernel, rfl⟩
theorem dX9_settles_33 : DR cX9_settles 33 (.imul) 1 34 := ⟨by decide +kernel, rfl⟩
theorem dX9_settles_34 : DB cX9_settles 34 (.goto 19) 3 (19) 37 53 := ⟨by decide +kernel, rfl, by decide⟩
theorem dX9_settles_37 : DR cX9_settles 37 (.iload 4) 2 39 := ⟨by decide +kernel, rfl⟩
theorem dX9_settles_39 : DR cX9_settles 39 (.iconst 3) 1 40 := ⟨by decide +kernel, rfl⟩
theorem dX9_settles_40 : DB cX9_settles 40 (.if_icmp .ne 11) 3 (11) 43 51 := ⟨by decide +kernel, rfl, by decide⟩
theorem dX9_settles_43 : DR cX9_settles 43 (.iload_n 2) 1 44 := ⟨by decide +kernel, rfl⟩
theorem dX9_settles_44 : DR cX9_settles 44 (.iconst 2) 1 45 := ⟨by decide +kernel, rfl⟩
theorem dX9_settles_45 : DR cX9_settles 45 (.iload_n 3) 1 46 := ⟨by decide +kernel, rfl⟩
theorem dX9_settles_46 : DR cX9_settles 46 (.imul) 1 47 := ⟨by decide +kernel, rfl⟩
theorem dX9_settles_47 : DR cX9_settles 47 (.iadd) 1 48 := ⟨by decide +kernel, rfl⟩
theorem dX9_settles_48 : DB cX9_settles 48 (.goto 5) 3 (5) 51 53 := ⟨by decide +kernel, rfl, by decide⟩
theorem dX9_settles_51 : DR cX9_settles 51 (.iload 5) 2 53 := ⟨by decide +kernel, rfl⟩
theorem dX9_settles_53 : DR cX9_settles 53 (.ireturn) 1 54 := ⟨by decide +kernel, rfl⟩
theorem dX9_passes_0 : DR cX9_passes 0 (.iconst 0) 1 1 := ⟨by decide +kernel, rfl⟩
theorem dX9_passes_1 : DR cX9_passes 1 (.istore_n 3) 1 2 := ⟨by decide +kernel, rfl⟩
theorem dX9_passes_2 : DR cX9_passes 2 (.iload_n 3) 1 3 := ⟨by decide +kernel, rfl⟩
theorem dX9_passes_3 : DR cX9_passes 3 (.bipush 6) 2 5 := ⟨by decide +kernel, rfl⟩
theorem dX9_passes_5 : DB cX9_passes 5 (.if_icmp .ge 17) 3 (17) 8 22 := ⟨by decide +kernel, rfl, by decide⟩
theorem dX9_passes_8 : DR cX9_passes 8 (.aload_n 0) 1 9 := ⟨by decide +kernel, rfl⟩
theorem dX9_passes_9 : DR cX9_passes 9 (.getfield 34) 3 12 := ⟨by decide +kernel, rfl⟩
theorem dX9_passes_12 : DR cX9_passes 12 (.iload_n 3) 1 13 := ⟨by decide +kernel, rfl⟩
theorem dX9_passes_13 : DR cX9_passes 13 (.bipush (-4)) 2 15 := ⟨by decide +kernel, rfl⟩
theorem dX9_passes_15 : DR cX9_passes 15 (.iastore) 1 16 := ⟨by decide +kernel, rfl⟩
theorem dX9_passes_16 : DR cX9_passes 16 (.iinc 3 1) 3 19 := ⟨by decide +kernel, rfl⟩
theorem dX9_passes_19 : DB cX9_passes 19 (.goto (-17)) 3 (-17) 22 2 := ⟨by decide +kernel, rfl, by decide⟩
theorem dX9_passes_22 : DR cX9_passes 22 (.iconst 0) 1 23 := ⟨by decide +kernel, rfl⟩
theorem dX9_passes_23 : DR cX9_passes 23 (.istore_n 3) 1 24 := ⟨by decide +kernel, rfl⟩
theorem dX9_passes_24 : DR cX9_passes 24 (.bipush (-4)) 2 26 := ⟨by decide +kernel, rfl⟩
theorem dX9_passes_26 : DR cX9_passes 26 (.istore 4) 2 28 := ⟨by decide +kernel, rfl⟩
theorem dX9_passes_28 : DR cX9_passes 28 (.iconst 0) 1 29 := ⟨by decide +kernel, rfl⟩
theorem dX9_passes_29 : DR cX9_passes 29 (.istore 5) 2 31 := ⟨by decide +kernel, rfl⟩
theorem dX9_passes_31 : DR cX9_passes 31 (.iload 5) 2 33 := ⟨by decide +kernel, rfl⟩
theorem dX9_passes_33 : DR cX9_passes 33 (.bipush 10) 2 35 := ⟨by decide +kernel, rfl⟩
theorem dX9_passes_35 : DB cX9_passes 35 (.if_icmp .ge 268) 3 (268) 38 303 := ⟨by decide +kernel, rfl, by decide⟩
theorem dX9_passes_38 : DR cX9_passes 38 (.aload_n 0) 1 39 := ⟨by decide +kernel, rfl⟩
theorem dX9_passes_39 : DR cX9_passes 39 (.iload 5) 2 41 := ⟨by decide +kernel, rfl⟩
theorem dX9_passes_41 : DR cX9_passes 41 (.invokevirtual 112) 3 44 := ⟨by decide +kernel, rfl⟩
theorem dX9_passes_44 : DR cX9_passes 44 (.istore 6) 2 46 := ⟨by decide +kernel, rfl⟩
theorem dX9_passes_46 : DR cX9_passes 46 (.iload 6) 2 48 := ⟨by decide +kernel, rfl⟩
theorem dX9_passes_48 : DR cX9_passes 48 (.bipush (-4)) 2 50 := ⟨by decide +kernel, rfl⟩
theorem dX9_passes_50 : DB cX9_passes 50 (.if_icmp .eq 165) 3 (165) 53 215 := ⟨by decide +kernel, rfl, by decide⟩
theorem dX9_passes_53 : DR cX9_passes 53 (.aload_n 0) 1 54 := ⟨by decide +kernel, rfl⟩
theorem dX9_passes_54 : DR cX9_passes 54 (.getfield 22) 3 57 := ⟨by decide +kernel, rfl⟩
theorem dX9_passes_57 : DR cX9_passes 57 (.bipush 25) 2 59 := ⟨by decide +kernel, rfl⟩
theorem dX9_passes_59 : DR cX9_passes 59 (.iaload) 1 60 := ⟨by decide +kernel, rfl⟩
theorem dX9_passes_60 : DR cX9_passes 60 (.aload_n 0) 1 61 := ⟨by decide +kernel, rfl⟩
theorem dX9_passes_61 : DR cX9_passes 61 (.getfield 13) 3 64 := ⟨by decide +kernel, rfl⟩
theorem dX9_passes_64 : DR cX9_passes 64 (.iconst 2) 1 65 := ⟨by decide +kernel, rfl⟩
theorem dX9_passes_65 : DR cX9_passes 65 (.iaload) 1 66 := ⟨by decide +kernel, rfl⟩
theorem dX9_passes_66 : DB cX9_passes 66 (.if_icmp .ge 149) 3 (149) 69 215 := ⟨by decide +kernel, rfl, by decide⟩
theorem dX9_passes_69 : DR cX9_passes 69 (.aload_n 0) 1 70 := ⟨by decide +kernel, rfl⟩
theorem dX9_passes_70 : DR cX9_passes 70 (.getfield 34) 3 73 := ⟨by decide +kernel, rfl⟩
theorem dX9_passes_73 : DR cX9_passes 73 (.iload 6) 2 75 := ⟨by decide +kernel, rfl⟩
theorem dX9_passes_75 : DR cX9_passes 75 (.iload_n 3) 1 76 := ⟨by decide +kernel, rfl⟩
theorem dX9_passes_76 : DB cX9_passes 76 (.ifCond .le 8) 3 (8) 79 84 := ⟨by decide +kernel, rfl, by decide⟩
theorem dX9_passes_79 : DR cX9_passes 79 (.iload 4) 2 81 := ⟨by decide +kernel, rfl⟩
theorem dX9_passes_81 : DB cX9_passes 81 (.goto 5) 3 (5) 84 86 := ⟨by decide +kernel, rfl, by decide⟩
theorem dX9_passes_84 : DR cX9_passes 84 (.bipush (-4)) 2 86 := ⟨by decide +kernel, rfl⟩
theorem dX9_passes_86 : DR cX9_passes 86 (.iastore) 1 87 := ⟨by decide +kernel, rfl⟩
theorem dX9_passes_87 : DR cX9_passes 87 (.aload_n 0) 1 88 := ⟨by decide +kernel, rfl⟩
theorem dX9_passes_88 : DR cX9_passes 88 (.getfield 13) 3 91 := ⟨by decide +kernel, rfl⟩
theorem dX9_passes_91 : DR cX9_passes 91 (.iconst 5) 1 92 := ⟨by decide +kernel, rfl⟩
theorem dX9_passes_92 : DR cX9_passes 92 (.iload 6) 2 94 := ⟨by decide +kernel, rfl⟩
theorem dX9_passes_94 : DR cX9_passes 94 (.iadd) 1 95 := ⟨by decide +kernel, rfl⟩
theorem dX9_passes_95 : DR cX9_passes 95 (.iaload) 1 96 := ⟨by decide +kernel, rfl⟩
theorem dX9_passes_96 : DR cX9_passes 96 (.iconst 2) 1 97 := ⟨by decide +kernel, rfl⟩
theorem dX9_passes_97 : DB cX9_passes 97 (.if_icmp .ne 7) 3 (7) 100 104 := ⟨by decide +kernel, rfl, by decide⟩
theorem dX9_passes_100 : DR cX9_passes 100 (.iconst 1) 1 101 := ⟨by decide +kernel, rfl⟩
theorem dX9_passes_101 : DB cX9_passes 101 (.goto 4) 3 (4) 104 105 := ⟨by decide +kernel, rfl, by decide⟩
theorem dX9_passes_104 : DR cX9_passes 104 (.iconst 0) 1 105 := ⟨by decide +kernel, rfl⟩
theorem dX9_passes_105 : DR cX9_passes 105 (.istore 7) 2 107 := ⟨by decide +kernel, rfl⟩
theorem dX9_passes_107 : DR cX9_passes 107 (.aload_n 0) 1 108 := ⟨by decide +kernel, rfl⟩
theorem dX9_passes_108 : DR cX9_passes 108 (.getfield 22) 3 111 := ⟨by decide +kernel, rfl⟩
theorem dX9_passes_111 : DR cX9_passes 111 (.bipush 12) 2 113 := ⟨by decide +kernel, rfl⟩
theorem dX9_passes_113 : DR cX9_passes 113 (.iload 6) 2 115 := ⟨by decide +kernel, rfl⟩
theorem dX9_passes_115 : DR cX9_passes 115 (.iadd) 1 116 := ⟨by decide +kernel, rfl⟩
theorem dX9_passes_116 : DR cX9_passes 116 (.dup2) 1 117 := ⟨by decide +kernel, rfl⟩
theorem dX9_passes_117 : DR cX9_passes 117 (.iaload) 1 118 := ⟨by decide +kernel, rfl⟩
theorem dX9_passes_118 : DR cX9_passes 118 (.iload 7) 2 120 := ⟨by decide +kernel, rfl⟩
theorem dX9_passes_120 : DB cX9_passes 120 (.ifCond .eq 7) 3 (7) 123 127 := ⟨by decide +kernel, rfl, by decide⟩
theorem dX9_passes_123 : DR cX9_passes 123 (.iload_n 3) 1 124 := ⟨by decide +kernel, rfl⟩
theorem dX9_passes_124 : DB cX9_passes 124 (.goto 4) 3 (4) 127 128 := ⟨by decide +kernel, rfl, by decide⟩
theorem dX9_passes_127 : DR cX9_passes 127 (.iconst 0) 1 128 := ⟨by decide +kernel, rfl⟩
theorem dX9_passes_128 : DR cX9_passes 128 (.iadd) 1 129 := ⟨by decide +kernel, rfl⟩
theorem dX9_passes_129 : DR cX9_passes 129 (.iastore) 1 130 := ⟨by decide +kernel, rfl⟩
theorem dX9_passes_130 : DR cX9_passes 130 (.aload_n 0) 1 131 := ⟨by decide +kernel, rfl⟩
theorem dX9_passes_131 : DR cX9_passes 131 (.getfield 22) 3 134 := ⟨by decide +kernel, rfl⟩
theorem dX9_passes_134 : DR cX9_passes 134 (.bipush 6) 2 136 := ⟨by decide +kernel, rfl⟩
theorem dX9_passes_136 : DR cX9_passes 136 (.iload 6) 2 138 := ⟨by decide +kernel, rfl⟩
theorem dX9_passes_138 : DR cX9_passes 138 (.iadd) 1 139 := ⟨by decide +kernel, rfl⟩
theorem dX9_passes_139 : DR cX9_passes 139 (.iaload) 1 140 := ⟨by decide +kernel, rfl⟩
theorem dX9_passes_140 : DR cX9_passes 140 (.aload_n 0) 1 141 := ⟨by decide +kernel, rfl⟩
theorem dX9_passes_141 : DR cX9_passes 141 (.iload 6) 2 143 := ⟨by decide +kernel, rfl⟩
theorem dX9_passes_143 : DR cX9_passes 143 (.iload_n 1) 1 144 := ⟨by decide +kernel, rfl⟩
theorem dX9_passes_144 : DR cX9_passes 144 (.iload_n 2) 1 145 := ⟨by decide +kernel, rfl⟩
theorem dX9_passes_145 : DR cX9_passes 145 (.invokevirtual 115) 3 148 := ⟨by decide +kernel, rfl⟩
theorem dX9_passes_148 : DR cX9_passes 148 (.iadd) 1 149 := ⟨by decide +kernel, rfl⟩
theorem dX9_passes_149 : DR cX9_passes 149 (.iload 7) 2 151 := ⟨by decide +kernel, rfl⟩
theorem dX9_passes_151 : DB cX9_passes 151 (.ifCond .eq 7) 3 (7) 154 158 := ⟨by decide +kernel, rfl, by decide⟩
theorem dX9_passes_154 : DR cX9_passes 154 (.iconst 0) 1 155 := ⟨by decide +kernel, rfl⟩
theorem dX9_passes_155 : DB cX9_passes 155 (.goto 4) 3 (4) 158 159 := ⟨by decide +kernel, rfl, by decide⟩
theorem dX9_passes_158 : DR cX9_passes 158 (.iload_n 3) 1 159 := ⟨by decide +kernel, rfl⟩
theorem dX9_passes_159 : DR cX9_passes 159 (.iadd) 1 160 := ⟨by decide +kernel, rfl⟩
theorem dX9_passes_160 : DR cX9_passes 160 (.istore 8) 2 162 := ⟨by decide +kernel, rfl⟩
theorem dX9_passes_162 : DR cX9_passes 162 (.aload_n 0) 1 163 := ⟨by decide +kernel, rfl⟩
theorem dX9_passes_163 : DR cX9_passes 163 (.getfield 22) 3 166 := ⟨by decide +kernel, rfl⟩
theorem dX9_passes_166 : DR cX9_passes 166 (.bipush 6) 2 168 := ⟨by decide +kernel, rfl⟩
theorem dX9_passes_168 : DR cX9_passes 168 (.iload 6) 2 170 := ⟨by decide +kernel, rfl⟩
theorem dX9_passes_170 : DR cX9_passes 170 (.iadd) 1 171 := ⟨by decide +kernel, rfl⟩
theorem dX9_passes_171 : DR cX9_passes 171 (.iload 8) 2 173 := ⟨by decide +kernel, rfl⟩
theorem dX9_passes_173 : DR cX9_passes 173 (.aload_n 0) 1 174 := ⟨by decide +kernel, rfl⟩
theorem dX9_passes_174 : DR cX9_passes 174 (.iload 6) 2 176 := ⟨by decide +kernel, rfl⟩
theorem dX9_passes_176 : DR cX9_passes 176 (.invokevirtual 118) 3 179 := ⟨by decide +kernel, rfl⟩
theorem dX9_passes_179 : DB cX9_passes 179 (.if_icmp .le 12) 3 (12) 182 191 := ⟨by decide +kernel, rfl, by decide⟩
theorem dX9_passes_182 : DR cX9_passes 182 (.aload_n 0) 1 183 := ⟨by decide +kernel, rfl⟩
theorem dX9_passes_183 : DR cX9_passes 183 (.iload 6) 2 185 := ⟨by decide +kernel, rfl⟩
theorem dX9_passes_185 : DR cX9_passes 185 (.invokevirtual 118) 3 188 := ⟨by decide +kernel, rfl⟩
theorem dX9_passes_188 : DB cX9_passes 188 (.goto 5) 3 (5) 191 193 := ⟨by decide +kernel, rfl, by decide⟩
theorem dX9_passes_191 : DR cX9_passes 191 (.iload 8) 2 193 := ⟨by decide +kernel, rfl⟩
theorem dX9_passes_193 : DR cX9_passes 193 (.iastore) 1 194 := ⟨by decide +kernel, rfl⟩
theorem dX9_passes_194 : DR cX9_passes 194 (.iload 8) 2 196 := ⟨by decide +kernel, rfl⟩
theorem dX9_passes_196 : DR cX9_passes 196 (.aload_n 0) 1 197 := ⟨by decide +kernel, rfl⟩
theorem dX9_passes_197 : DR cX9_passes 197 (.getfield 22) 3 200 := ⟨by decide +kernel, rfl⟩
theorem dX9_passes_200 : DR cX9_passes 200 (.bipush 6) 2 202 := ⟨by decide +kernel, rfl⟩
theorem dX9_passes_202 : DR cX9_passes 202 (.iload 6) 2 204 := ⟨by decide +kernel, rfl⟩
theorem dX9_passes_204 : DR cX9_passes 204 (.iadd) 1 205 := ⟨by decide +kernel, rfl⟩
theorem dX9_passes_205 : DR cX9_passes 205 (.iaload) 1 206 := ⟨by decide +kernel, rfl⟩
theorem dX9_passes_206 : DR cX9_passes 206 (.isub) 1 207 := ⟨by decide +kernel, rfl⟩
theorem dX9_passes_207 : DR cX9_passes 207 (.istore_n 3) 1 208 := ⟨by decide +kernel, rfl⟩
theorem dX9_passes_208 : DR cX9_passes 208 (.iload 6) 2 210 := ⟨by decide +kernel, rfl⟩
theorem dX9_passes_210 : DR cX9_passes 210 (.istore 4) 2 212 := ⟨by decide +kernel, rfl⟩
theorem dX9_passes_212 : DB cX9_passes 212 (.goto 85) 3 (85) 215 297 := ⟨by decide +kernel, rfl, by decide⟩
theorem dX9_passes_215 : DR cX9_passes 215 (.iload 6) 2 217 := ⟨by decide +kernel, rfl⟩
theorem dX9_passes_217 : DR cX9_passes 217 (.bipush (-4)) 2 219 := ⟨by decide +kernel, rfl⟩
theorem dX9_passes_219 : DB cX9_passes 219 (.if_icmp .eq 78) 3 (78) 222 297 := ⟨by decide +kernel, rfl, by decide⟩
theorem dX9_passes_222 : DR cX9_passes 222 (.aload_n 0) 1 223 := ⟨by decide +kernel, rfl⟩
theorem dX9_passes_223 : DR cX9_passes 223 (.getfield 22) 3 226 := ⟨by decide +kernel, rfl⟩
theorem dX9_passes_226 : DR cX9_passes 226 (.bipush 18) 2 228 := ⟨by decide +kernel, rfl⟩
theorem dX9_passes_228 : DR cX9_passes 228 (.iload 6) 2 230 := ⟨by decide +kernel, rfl⟩
theorem dX9_passes_230 : DR cX9_passes 230 (.iadd) 1 231 := ⟨by decide +kernel, rfl⟩
theorem dX9_passes_231 : DR cX9_passes 231 (.iaload) 1 232 := ⟨by decide +kernel, rfl⟩
theorem dX9_passes_232 : DB cX9_passes 232 (.ifCond .ne 65) 3 (65) 235 297 := ⟨by decide +kernel, rfl, by decide⟩
theorem dX9_passes_235 : DR cX9_passes 235 (.aload_n 0) 1 236 := ⟨by decide +kernel, rfl⟩
theorem dX9_passes_236 : DR cX9_passes 236 (.getfield 13) 3 239 := ⟨by decide +kernel, rfl⟩
theorem dX9_passes_239 : DR cX9_passes 239 (.iconst 5) 1 240 := ⟨by decide +kernel, rfl⟩
theorem dX9_passes_240 : DR cX9_passes 240 (.iload 6) 2 242 := ⟨by decide +kernel, rfl⟩
theorem dX9_passes_242 : DR cX9_passes 242 (.iadd) 1 243 := ⟨by decide +kernel, rfl⟩
theorem dX9_passes_243 : DR cX9_passes 243 (.iaload) 1 244 := ⟨by decide +kernel, rfl⟩
theorem dX9_passes_244 : DR cX9_passes 244 (.iconst 3) 1 245 := ⟨by decide +kernel, rfl⟩
theorem dX9_passes_245 : DB cX9_passes 245 (.if_icmp .ne 7) 3 (7) 248 252 := ⟨by decide +kernel, rfl, by decide⟩
theorem dX9_passes_248 : DR cX9_passes 248 (.iconst 1) 1 249 := ⟨by decide +kernel, rfl⟩
theorem dX9_passes_249 : DB cX9_passes 249 (.goto 4) 3 (4) 252 253 := ⟨by decide +kernel, rfl, by decide⟩
theorem dX9_passes_252 : DR cX9_passes 252 (.iconst 2) 1 253 := ⟨by decide +kernel, rfl⟩
theorem dX9_passes_253 : DR cX9_passes 253 (.istore 7) 2 255 := ⟨by decide +kernel, rfl⟩
theorem dX9_passes_255 : DR cX9_passes 255 (.aload_n 0) 1 256 := ⟨by decide +kernel, rfl⟩
theorem dX9_passes_256 : DR cX9_passes 256 (.getfield 22) 3 259 := ⟨by decide +kernel, rfl⟩
theorem dX9_passes_259 : DR cX9_passes 259 (.bipush 6) 2 261 := ⟨by decide +kernel, rfl⟩
theorem dX9_passes_261 : DR cX9_passes 261 (.iload 6) 2 263 := ⟨by decide +kernel, rfl⟩
theorem dX9_passes_263 : DR cX9_passes 263 (.iadd) 1 264 := ⟨by decide +kernel, rfl⟩
theorem dX9_passes_264 : DR cX9_passes 264 (.aload_n 0) 1 265 := ⟨by decide +kernel, rfl⟩
theorem dX9_passes_265 : DR cX9_passes 265 (.getfield 22) 3 268 := ⟨by decide +kernel, rfl⟩
theorem dX9_passes_268 : DR cX9_passes 268 (.bipush 6) 2 270 := ⟨by decide +kernel, rfl⟩
theorem dX9_passes_270 : DR cX9_passes 270 (.iload 6) 2 272 := ⟨by decide +kernel, rfl⟩
theorem dX9_passes_272 : DR cX9_passes 272 (.iadd) 1 273 := ⟨by decide +kernel, rfl⟩
theorem dX9_passes_273 : DR cX9_passes 273 (.iaload) 1 274 := ⟨by decide +kernel, rfl⟩
theorem dX9_passes_274 : DR cX9_passes 274 (.iload 7) 2 276 := ⟨by decide +kernel, rfl⟩
theorem dX9_passes_276 : DB cX9_passes 276 (.if_icmp .le 19) 3 (19) 279 295 := ⟨by decide +kernel, rfl, by decide⟩
theorem dX9_passes_279 : DR cX9_passes 279 (.aload_n 0) 1 280 := ⟨by decide +kernel, rfl⟩
theorem dX9_passes_280 : DR cX9_passes 280 (.getfield 22) 3 283 := ⟨by decide +kernel, rfl⟩
theorem dX9_passes_283 : DR cX9_passes 283 (.bipush 6) 2 285 := ⟨by decide +kernel, rfl⟩
theorem dX9_passes_285 : DR cX9_passes 285 (.iload 6) 2 287 := ⟨by decide +kernel, rfl⟩
theorem dX9_passes_287 : DR cX9_passes 287 (.iadd) 1 288 := ⟨by decide +kernel, rfl⟩
theorem dX9_passes_288 : DR cX9_passes 288 (.iaload) 1 289 := ⟨by decide +kernel, rfl⟩
theorem dX9_passes_289 : DR cX9_passes 289 (.iload 7) 2 291 := ⟨by decide +kernel, rfl⟩
theorem dX9_passes_291 : DR cX9_passes 291 (.isub) 1 292 := ⟨by decide +kernel, rfl⟩
theorem dX9_passes_292 : DB cX9_passes 292 (.goto 4) 3 (4) 295 296 := ⟨by decide +kernel, rfl, by decide⟩
theorem dX9_passes_295 : DR cX9_passes 295 (.iconst 0) 1 296 := ⟨by decide +kernel, rfl⟩
theorem dX9_passes_296 : DR cX9_passes 296 (.iastore) 1 297 := ⟨by decide +kernel, rfl⟩
theorem dX9_passes_297 : DR cX9_passes 297 (.iinc 5 1) 3 300 := ⟨by decide +kernel, rfl⟩
theorem dX9_passes_300 : DB cX9_passes 300 (.goto (-269)) 3 (-269) 303 31 := ⟨by decide +kernel, rfl, by decide⟩
theorem dX9_passes_303 : DR cX9_passes 303 (.aload_n 0) 1 304 := ⟨by decide +kernel, rfl⟩
theorem dX9_passes_304 : DR cX9_passes 304 (.getfield 22) 3 307 := ⟨by decide +kernel, rfl⟩
theorem dX9_passes_307 : DR cX9_passes 307 (.bipush 24) 2 309 := ⟨by decide +kernel, rfl⟩
theorem dX9_passes_309 : DR cX9_passes 309 (.dup2) 1 310 := ⟨by decide +kernel, rfl⟩
theorem dX9_passes_310 : DR cX9_passes 310 (.iaload) 1 311 := ⟨by decide +kernel, rfl⟩
theorem dX9_passes_311 : DR cX9_passes 311 (.iload_n 3) 1 312 := ⟨by decide +kernel, rfl⟩
theorem dX9_passes_312 : DR cX9_passes 312 (.iadd) 1 313 := ⟨by decide +kernel, rfl⟩
theorem dX9_passes_313 : DR cX9_passes 313 (.iastore) 1 314 := ⟨by decide +kernel, rfl⟩
theorem dX9_passes_314 : DR cX9_passes 314 (.aload_n 0) 1 315 := ⟨by decide +kernel, rfl⟩
theorem dX9_passes_315 : DR cX9_passes 315 (.getfield 22) 3 318 := ⟨by decide +kernel, rfl⟩
theorem dX9_passes_318 : DR cX9_passes 318 (.bipush 25) 2 320 := ⟨by decide +kernel, rfl⟩
theorem dX9_passes_320 : DR cX9_passes 320 (.dup2) 1 321 := ⟨by decide +kernel, rfl⟩
theorem dX9_passes_321 : DR cX9_passes 321 (.iaload) 1 322 := ⟨by decide +kernel, rfl⟩
theorem dX9_passes_322 : DR cX9_passes 322 (.iconst 1) 1 323 := ⟨by decide +kernel, rfl⟩
theorem dX9_passes_323 : DR cX9_passes 323 (.iadd) 1 324 := ⟨by decide +kernel, rfl⟩
theorem dX9_passes_324 : DR cX9_passes 324 (.iastore) 1 325 := ⟨by decide +kernel, rfl⟩
theorem dX9_passes_325 : DR cX9_passes 325 (.return_) 1 326 := ⟨by decide +kernel, rfl⟩
theorem dX9_hours_0 : DR cX9_hours 0 (.iconst 0) 1 1 := ⟨by decide +kernel, rfl⟩
theorem dX9_hours_1 : DR cX9_hours 1 (.istore_n 2) 1 2 := ⟨by decide +kernel, rfl⟩
theorem dX9_hours_2 : DR cX9_hours 2 (.iload_n 2) 1 3 := ⟨by decide +kernel, rfl⟩
theorem dX9_hours_3 : DR cX9_hours 3 (.iload_n 1) 1 4 := ⟨by decide +kernel, rfl⟩
theorem dX9_hours_4 : DB cX9_hours 4 (.if_icmp .ge 35) 3 (35) 7 39 := ⟨by decide +kernel, rfl, by decide⟩
theorem dX9_hours_7 : DR cX9_hours 7 (.aload_n 0) 1 8 := ⟨by decide +kernel, rfl⟩
theorem dX9_hours_8 : DR cX9_hours 8 (.aload_n 0) 1 9 := ⟨by decide +kernel, rfl⟩
theorem dX9_hours_9 : DR cX9_hours 9 (.aload_n 0) 1 10 := ⟨by decide +kernel, rfl⟩
theorem dX9_hours_10 : DR cX9_hours 10 (.getfield 22) 3 13 := ⟨by decide +kernel, rfl⟩
theorem dX9_hours_13 : DR cX9_hours 13 (.bipush 25) 2 15 := ⟨by decide +kernel, rfl⟩
theorem dX9_hours_15 : DR cX9_hours 15 (.iaload) 1 16 := ⟨by decide +kernel, rfl⟩
theorem dX9_hours_16 : DR cX9_hours 16 (.invokevirtual 106) 3 19 := ⟨by decide +kernel, rfl⟩
theorem dX9_hours_19 : DR cX9_hours 19 (.aload_n 0) 1 20 := ⟨by decide +kernel, rfl⟩
theorem dX9_hours_20 : DR cX9_hours 20 (.aload_n 0) 1 21 := ⟨by decide +kernel, rfl⟩
theorem dX9_hours_21 : DR cX9_hours 21 (.getfield 22) 3 24 := ⟨by decide +kernel, rfl⟩
theorem dX9_hours_24 : DR cX9_hours 24 (.bipush 25) 2 26 := ⟨by decide +kernel, rfl⟩
theorem dX9_hours_26 : DR cX9_hours 26 (.iaload) 1 27 := ⟨by decide +kernel, rfl⟩
theorem dX9_hours_27 : DR cX9_hours 27 (.invokevirtual 109) 3 30 := ⟨by decide +kernel, rfl⟩
theorem dX9_hours_30 : DR cX9_hours 30 (.invokevirtual 121) 3 33 := ⟨by decide +kernel, rfl⟩
theorem dX9_hours_33 : DR cX9_hours 33 (.iinc 2 1) 3 36 := ⟨by decide +kernel, rfl⟩
theorem dX9_hours_36 : DB cX9_hours 36 (.goto (-34)) 3 (-34) 39 2 := ⟨by decide +kernel, rfl, by decide⟩
theorem dX9_hours_39 : DR cX9_hours 39 (.return_) 1 40 := ⟨by decide +kernel, rfl⟩
theorem dX9_sumOf_0 : DR cX9_sumOf 0 (.iconst 0) 1 1 := ⟨by decide +kernel, rfl⟩
theorem dX9_sumOf_1 : DR cX9_sumOf 1 (.istore_n 2) 1 2 := ⟨by decide +kernel, rfl⟩
theorem dX9_sumOf_2 : DR cX9_sumOf 2 (.iconst 0) 1 3 := ⟨by decide +kernel, rfl⟩
theorem dX9_sumOf_3 : DR cX9_sumOf 3 (.istore_n 3) 1 4 := ⟨by decide +kernel, rfl⟩
theorem dX9_sumOf_4 : DR cX9_sumOf 4 (.iload_n 3) 1 5 := ⟨by decide +kernel, rfl⟩
theorem dX9_sumOf_5 : DR cX9_sumOf 5 (.aload_n 0) 1 6 := ⟨by decide +kernel, rfl⟩
theorem dX9_sumOf_6 : DR cX9_sumOf 6 (.getfield 13) 3 9 := ⟨by decide +kernel, rfl⟩
theorem dX9_sumOf_9 : DR cX9_sumOf 9 (.iconst 0) 1 10 := ⟨by decide +kernel, rfl⟩
theorem dX9_sumOf_10 : DR cX9_sumOf 10 (.iaload) 1 11 := ⟨by decide +kernel, rfl⟩
theorem dX9_sumOf_11 : DB cX9_sumOf 11 (.if_icmp .ge 20) 3 (20) 14 31 := ⟨by decide +kernel, rfl, by decide⟩
theorem dX9_sumOf_14 : DR cX9_sumOf 14 (.iload_n 2) 1 15 := ⟨by decide +kernel, rfl⟩
theorem dX9_sumOf_15 : DR cX9_sumOf 15 (.aload_n 0) 1 16 := ⟨by decide +kernel, rfl⟩
theorem dX9_sumOf_16 : DR cX9_sumOf 16 (.getfield 22) 3 19 := ⟨by decide +kernel, rfl⟩
theorem dX9_sumOf_19 : DR cX9_sumOf 19 (.iload_n 1) 1 20 := ⟨by decide +kernel, rfl⟩
theorem dX9_sumOf_20 : DR cX9_sumOf 20 (.iload_n 3) 1 21 := ⟨by decide +kernel, rfl⟩
theorem dX9_sumOf_21 : DR cX9_sumOf 21 (.iadd) 1 22 := ⟨by decide +kernel, rfl⟩
theorem dX9_sumOf_22 : DR cX9_sumOf 22 (.iaload) 1 23 := ⟨by decide +kernel, rfl⟩
theorem dX9_sumOf_23 : DR cX9_sumOf 23 (.iadd) 1 24 := ⟨by decide +kernel, rfl⟩
theorem dX9_sumOf_24 : DR cX9_sumOf 24 (.istore_n 2) 1 25 := ⟨by decide +kernel, rfl⟩
theorem dX9_sumOf_25 : DR cX9_sumOf 25 (.iinc 3 1) 3 28 := ⟨by decide +kernel, rfl⟩
theorem dX9_sumOf_28 : DB cX9_sumOf 28 (.goto (-24)) 3 (-24) 31 4 := ⟨by decide +kernel, rfl, by decide⟩
theorem dX9_sumOf_31 : DR cX9_sumOf 31 (.iload_n 2) 1 32 := ⟨by decide +kernel, rfl⟩
theorem dX9_sumOf_32 : DR cX9_sumOf 32 (.ireturn) 1 33 := ⟨by decide +kernel, rfl⟩
theorem dX9_pass_0 : DR cX9_pass 0 (.iload_n 1) 1 1 := ⟨by decide +kernel, rfl⟩
theorem dX9_pass_1 : DR cX9_pass 1 (.iconst 1) 1 2 := ⟨by decide +kernel, rfl⟩
theorem dX9_pass_2 : DR cX9_pass 2 (.bipush 24) 2 4 := ⟨by decide +kernel, rfl⟩
theorem dX9_pass_4 : DR cX9_pass 4 (.invokestatic 54) 3 7 := ⟨by decide +kernel, rfl⟩
theorem dX9_pass_7 : DB cX9_pass 7 (.ifCond .ne 5) 3 (5) 10 12 := ⟨by decide +kernel, rfl, by decide⟩
theorem dX9_pass_10 : DR cX9_pass 10 (.iconst (-1)) 1 11 := ⟨by decide +kernel, rfl⟩
theorem dX9_pass_11 : DR cX9_pass 11 (.ireturn) 1 12 := ⟨by decide +kernel, rfl⟩
theorem dX9_pass_12 : DR cX9_pass 12 (.aload_n 0) 1 13 := ⟨by decide +kernel, rfl⟩
theorem dX9_pass_13 : DR cX9_pass 13 (.getfield 22) 3 16 := ⟨by decide +kernel, rfl⟩
theorem dX9_pass_16 : DR cX9_pass 16 (.bipush 25) 2 18 := ⟨by decide +kernel, rfl⟩
theorem dX9_pass_18 : DR cX9_pass 18 (.iaload) 1 19 := ⟨by decide +kernel, rfl⟩
theorem dX9_pass_19 : DR cX9_pass 19 (.iload_n 1) 1 20 := ⟨by decide +kernel, rfl⟩
theorem dX9_pass_20 : DR cX9_pass 20 (.iadd) 1 21 := ⟨by decide +kernel, rfl⟩
theorem dX9_pass_21 : DR cX9_pass 21 (.bipush 99) 2 23 := ⟨by decide +kernel, rfl⟩
theorem dX9_pass_23 : DB cX9_pass 23 (.if_icmp .le 6) 3 (6) 26 29 := ⟨by decide +kernel, rfl, by decide⟩
theorem dX9_pass_26 : DR cX9_pass 26 (.bipush (-2)) 2 28 := ⟨by decide +kernel, rfl⟩
theorem dX9_pass_28 : DR cX9_pass 28 (.ireturn) 1 29 := ⟨by decide +kernel, rfl⟩
theorem dX9_pass_29 : DR cX9_pass 29 (.aload_n 0) 1 30 := ⟨by decide +kernel, rfl⟩
theorem dX9_pass_30 : DR cX9_pass 30 (.invokevirtual 124) 3 33 := ⟨by decide +kernel, rfl⟩
theorem dX9_pass_33 : DR cX9_pass 33 (.aload_n 0) 1 34 := ⟨by decide +kernel, rfl⟩
theorem dX9_pass_34 : DR cX9_pass 34 (.iload_n 1) 1 35 := ⟨by decide +kernel, rfl⟩
theorem dX9_pass_35 : DR cX9_pass 35 (.invokevirtual 127) 3 38 := ⟨by decide +kernel, rfl⟩
theorem dX9_pass_38 : DR cX9_pass 38 (.aload_n 0) 1 39 := ⟨by decide +kernel, rfl⟩
theorem dX9_pass_39 : DR cX9_pass 39 (.bipush 6) 2 41 := ⟨by decide +kernel, rfl⟩
theorem dX9_pass_41 : DR cX9_pass 41 (.invokevirtual 131) 3 44 := ⟨by decide +kernel, rfl⟩
theorem dX9_pass_44 : DR cX9_pass 44 (.ireturn) 1 45 := ⟨by decide +kernel, rfl⟩
theorem dX9_shade_0 : DR cX9_shade 0 (.aload_n 0) 1 1 := ⟨by decide +kernel, rfl⟩
theorem dX9_shade_1 : DR cX9_shade 1 (.iload_n 1) 1 2 := ⟨by decide +kernel, rfl⟩
theorem dX9_shade_2 : DR cX9_shade 2 (.invokevirtual 100) 3 5 := ⟨by decide +kernel, rfl⟩
theorem dX9_shade_5 : DB cX9_shade 5 (.ifCond .ne 5) 3 (5) 8 10 := ⟨by decide +kernel, rfl, by decide⟩
theorem dX9_shade_8 : DR cX9_shade 8 (.iconst (-1)) 1 9 := ⟨by decide +kernel, rfl⟩
theorem dX9_shade_9 : DR cX9_shade 9 (.ireturn) 1 10 := ⟨by decide +kernel, rfl⟩
theorem dX9_shade_10 : DR cX9_shade 10 (.aload_n 0) 1 11 := ⟨by decide +kernel, rfl⟩
theorem dX9_shade_11 : DR cX9_shade 11 (.invokevirtual 124) 3 14 := ⟨by decide +kernel, rfl⟩
theorem dX9_shade_14 : DR cX9_shade 14 (.aload_n 0) 1 15 := ⟨by decide +kernel, rfl⟩
theorem dX9_shade_15 : DR cX9_shade 15 (.getfield 22) 3 18 := ⟨by decide +kernel, rfl⟩
theorem dX9_shade_18 : DR cX9_shade 18 (.bipush 18) 2 20 := ⟨by decide +kernel, rfl⟩
theorem dX9_shade_20 : DR cX9_shade 20 (.iload_n 1) 1 21 := ⟨by decide +kernel, rfl⟩
theorem dX9_shade_21 : DR cX9_shade 21 (.iadd) 1 22 := ⟨by decide +kernel, rfl⟩
theorem dX9_shade_22 : DR cX9_shade 22 (.iconst 1) 1 23 := ⟨by decide +kernel, rfl⟩
theorem dX9_shade_23 : DR cX9_shade 23 (.aload_n 0) 1 24 := ⟨by decide +kernel, rfl⟩
theorem dX9_shade_24 : DR cX9_shade 24 (.getfield 22) 3 27 := ⟨by decide +kernel, rfl⟩
theorem dX9_shade_27 : DR cX9_shade 27 (.bipush 18) 2 29 := ⟨by decide +kernel, rfl⟩
theorem dX9_shade_29 : DR cX9_shade 29 (.iload_n 1) 1 30 := ⟨by decide +kernel, rfl⟩
theorem dX9_shade_30 : DR cX9_shade 30 (.iadd) 1 31 := ⟨by decide +kernel, rfl⟩
theorem dX9_shade_31 : DR cX9_shade 31 (.iaload) 1 32 := ⟨by decide +kernel, rfl⟩
theorem dX9_shade_32 : DR cX9_shade 32 (.isub) 1 33 := ⟨by decide +kernel, rfl⟩
theorem dX9_shade_33 : DR cX9_shade 33 (.iastore) 1 34 := ⟨by decide +kernel, rfl⟩
theorem dX9_shade_34 : DR cX9_shade 34 (.aload_n 0) 1 35 := ⟨by decide +kernel, rfl⟩
theorem dX9_shade_35 : DR cX9_shade 35 (.getfield 22) 3 38 := ⟨by decide +kernel, rfl⟩
theorem dX9_shade_38 : DR cX9_shade 38 (.bipush 18) 2 40 := ⟨by decide +kernel, rfl⟩
theorem dX9_shade_40 : DR cX9_shade 40 (.iload_n 1) 1 41 := ⟨by decide +kernel, rfl⟩
theorem dX9_shade_41 : DR cX9_shade 41 (.iadd) 1 42 := ⟨by decide +kernel, rfl⟩
theorem dX9_shade_42 : DR cX9_shade 42 (.iaload) 1 43 := ⟨by decide +kernel, rfl⟩
theorem dX9_shade_43 : DR cX9_shade 43 (.ireturn) 1 44 := ⟨by decide +kernel, rfl⟩
theorem dX9_cow_0 : DR cX9_cow 0 (.aload_n 0) 1 1 := ⟨by decide +kernel, rfl⟩
theorem dX9_cow_1 : DR cX9_cow 1 (.iload_n 1) 1 2 := ⟨by decide +kernel, rfl⟩
theorem dX9_cow_2 : DR cX9_cow 2 (.invokevirtual 100) 3 5 := ⟨by decide +kernel, rfl⟩
theorem dX9_cow_5 : DB cX9_cow 5 (.ifCond .ne 5) 3 (5) 8 10 := ⟨by decide +kernel, rfl, by decide⟩
theorem dX9_cow_8 : DR cX9_cow 8 (.iconst (-1)) 1 9 := ⟨by decide +kernel, rfl⟩
theorem dX9_cow_9 : DR cX9_cow 9 (.ireturn) 1 10 := ⟨by decide +kernel, rfl⟩
theorem dX9_cow_10 : DR cX9_cow 10 (.aload_n 0) 1 11 := ⟨by decide +kernel, rfl⟩
theorem dX9_cow_11 : DR cX9_cow 11 (.getfield 22) 3 14 := ⟨by decide +kernel, rfl⟩
theorem dX9_cow_14 : DR cX9_cow 14 (.bipush 6) 2 16 := ⟨by decide +kernel, rfl⟩
theorem dX9_cow_16 : DR cX9_cow 16 (.iload_n 1) 1 17 := ⟨by decide +kernel, rfl⟩
theorem dX9_cow_17 : DR cX9_cow 17 (.iadd) 1 18 := ⟨by decide +kernel, rfl⟩
theorem dX9_cow_18 : DR cX9_cow 18 (.iaload) 1 19 := ⟨by decide +kernel, rfl⟩
theorem dX9_cow_19 : DB cX9_cow 19 (.ifCond .ne 6) 3 (6) 22 25 := ⟨by decide +kernel, rfl, by decide⟩
theorem dX9_cow_22 : DR cX9_cow 22 (.bipush (-2)) 2 24 := ⟨by decide +kernel, rfl⟩
theorem dX9_cow_24 : DR cX9_cow 24 (.ireturn) 1 25 := ⟨by decide +kernel, rfl⟩
theorem dX9_cow_25 : DR cX9_cow 25 (.aload_n 0) 1 26 := ⟨by decide +kernel, rfl⟩
theorem dX9_cow_26 : DR cX9_cow 26 (.invokevirtual 124) 3 29 := ⟨by decide +kernel, rfl⟩
theorem dX9_cow_29 : DR cX9_cow 29 (.aload_n 0) 1 30 := ⟨by decide +kernel, rfl⟩
theorem dX9_cow_30 : DR cX9_cow 30 (.getfield 22) 3 33 := ⟨by decide +kernel, rfl⟩
theorem dX9_cow_33 : DR cX9_cow 33 (.bipush 6) 2 35 := ⟨by decide +kernel, rfl⟩
theorem dX9_cow_35 : DR cX9_cow 35 (.iload_n 1) 1 36 := ⟨by decide +kernel, rfl⟩
theorem dX9_cow_36 : DR cX9_cow 36 (.iadd) 1 37 := ⟨by decide +kernel, rfl⟩
theorem dX9_cow_37 : DR cX9_cow 37 (.dup2) 1 38 := ⟨by decide +kernel, rfl⟩
theorem dX9_cow_38 : DR cX9_cow 38 (.iaload) 1 39 := ⟨by decide +kernel, rfl⟩
theorem dX9_cow_39 : DR cX9_cow 39 (.iconst 2) 1 40 := ⟨by decide +kernel, rfl⟩
theorem dX9_cow_40 : DR cX9_cow 40 (.idiv) 1 41 := ⟨by decide +kernel, rfl⟩
theorem dX9_cow_41 : DR cX9_cow 41 (.iastore) 1 42 := ⟨by decide +kernel, rfl⟩
theorem dX9_cow_42 : DR cX9_cow 42 (.aload_n 0) 1 43 := ⟨by decide +kernel, rfl⟩
theorem dX9_cow_43 : DR cX9_cow 43 (.getfield 22) 3 46 := ⟨by decide +kernel, rfl⟩
theorem dX9_cow_46 : DR cX9_cow 46 (.bipush 6) 2 48 := ⟨by decide +kernel, rfl⟩
theorem dX9_cow_48 : DR cX9_cow 48 (.iload_n 1) 1 49 := ⟨by decide +kernel, rfl⟩
theorem dX9_cow_49 : DR cX9_cow 49 (.iadd) 1 50 := ⟨by decide +kernel, rfl⟩
theorem dX9_cow_50 : DR cX9_cow 50 (.iaload) 1 51 := ⟨by decide +kernel, rfl⟩
theorem dX9_cow_51 : DR cX9_cow 51 (.ireturn) 1 52 := ⟨by decide +kernel, rfl⟩
theorem dX9_weeps_0 : DR cX9_weeps 0 (.aload_n 0) 1 1 := ⟨by decide +kernel, rfl⟩
theorem dX9_weeps_1 : DR cX9_weeps 1 (.getfield 22) 3 4 := ⟨by decide +kernel, rfl⟩
theorem dX9_weeps_4 : DR cX9_weeps 4 (.bipush 6) 2 6 := ⟨by decide +kernel, rfl⟩
theorem dX9_weeps_6 : DR cX9_weeps 6 (.iload_n 1) 1 7 := ⟨by decide +kernel, rfl⟩
theorem dX9_weeps_7 : DR cX9_weeps 7 (.iadd) 1 8 := ⟨by decide +kernel, rfl⟩
theorem dX9_weeps_8 : DR cX9_weeps 8 (.iaload) 1 9 := ⟨by decide +kernel, rfl⟩
theorem dX9_weeps_9 : DR cX9_weeps 9 (.aload_n 0) 1 10 := ⟨by decide +kernel, rfl⟩
theorem dX9_weeps_10 : DR cX9_weeps 10 (.getfield 13) 3 13 := ⟨by decide +kernel, rfl⟩
theorem dX9_weeps_13 : DR cX9_weeps 13 (.bipush 11) 2 15 := ⟨by decide +kernel, rfl⟩
theorem dX9_weeps_15 : DR cX9_weeps 15 (.iload_n 1) 1 16 := ⟨by decide +kernel, rfl⟩
theorem dX9_weeps_16 : DR cX9_weeps 16 (.iadd) 1 17 := ⟨by decide +kernel, rfl⟩
theorem dX9_weeps_17 : DR cX9_weeps 17 (.iaload) 1 18 := ⟨by decide +kernel, rfl⟩
theorem dX9_weeps_18 : DR cX9_weeps 18 (.iadd) 1 19 := ⟨by decide +kernel, rfl⟩
theorem dX9_weeps_19 : DR cX9_weeps 19 (.istore_n 2) 1 20 := ⟨by decide +kernel, rfl⟩
theorem dX9_weeps_20 : DR cX9_weeps 20 (.aload_n 0) 1 21 := ⟨by decide +kernel, rfl⟩
theorem dX9_weeps_21 : DR cX9_weeps 21 (.getfield 22) 3 24 := ⟨by decide +kernel, rfl⟩
theorem dX9_weeps_24 : DR cX9_weeps 24 (.bipush 6) 2 26 := ⟨by decide +kernel, rfl⟩
theorem dX9_weeps_26 : DR cX9_weeps 26 (.iload_n 1) 1 27 := ⟨by decide +kernel, rfl⟩
theorem dX9_weeps_27 : DR cX9_weeps 27 (.iadd) 1 28 := ⟨by decide +kernel, rfl⟩
theorem dX9_weeps_28 : DR cX9_weeps 28 (.iload_n 2) 1 29 := ⟨by decide +kernel, rfl⟩
theorem dX9_weeps_29 : DR cX9_weeps 29 (.aload_n 0) 1 30 := ⟨by decide +kernel, rfl⟩
theorem dX9_weeps_30 : DR cX9_weeps 30 (.iload_n 1) 1 31 := ⟨by decide +kernel, rfl⟩
theorem dX9_weeps_31 : DR cX9_weeps 31 (.invokevirtual 118) 3 34 := ⟨by decide +kernel, rfl⟩
theorem dX9_weeps_34 : DB cX9_weeps 34 (.if_icmp .le 11) 3 (11) 37 45 := ⟨by decide +kernel, rfl, by decide⟩
theorem dX9_weeps_37 : DR cX9_weeps 37 (.aload_n 0) 1 38 := ⟨by decide +kernel, rfl⟩
theorem dX9_weeps_38 : DR cX9_weeps 38 (.iload_n 1) 1 39 := ⟨by decide +kernel, rfl⟩
theorem dX9_weeps_39 : DR cX9_weeps 39 (.invokevirtual 118) 3 42 := ⟨by decide +kernel, rfl⟩
theorem dX9_weeps_42 : DB cX9_weeps 42 (.goto 4) 3 (4) 45 46 := ⟨by decide +kernel, rfl, by decide⟩
theorem dX9_weeps_45 : DR cX9_weeps 45 (.iload_n 2) 1 46 := ⟨by decide +kernel, rfl⟩
theorem dX9_weeps_46 : DR cX9_weeps 46 (.iastore) 1 47 := ⟨by decide +kernel, rfl⟩
theorem dX9_weeps_47 : DR cX9_weeps 47 (.return_) 1 48 := ⟨by decide +kernel, rfl⟩
theorem dX9_tears_0 : DR cX9_tears 0 (.aload_n 0) 1 1 := ⟨by decide +kernel, rfl⟩
theorem dX9_tears_1 : DR cX9_tears 1 (.iload_n 1) 1 2 := ⟨by decide +kernel, rfl⟩
theorem dX9_tears_2 : DR cX9_tears 2 (.invokevirtual 100) 3 5 := ⟨by decide +kernel, rfl⟩
theorem dX9_tears_5 : DB cX9_tears 5 (.ifCond .ne 5) 3 (5) 8 10 := ⟨by decide +kernel, rfl, by decide⟩
theorem dX9_tears_8 : DR cX9_tears 8 (.iconst (-1)) 1 9 := ⟨by decide +kernel, rfl⟩
theorem dX9_tears_9 : DR cX9_tears 9 (.ireturn) 1 10 := ⟨by decide +kernel, rfl⟩
theorem dX9_tears_10 : DR cX9_tears 10 (.aload_n 0) 1 11 := ⟨by decide +kernel, rfl⟩
theorem dX9_tears_11 : DR cX9_tears 11 (.getfield 22) 3 14 := ⟨by decide +kernel, rfl⟩
theorem dX9_tears_14 : DR cX9_tears 14 (.bipush 6) 2 16 := ⟨by decide +kernel, rfl⟩
theorem dX9_tears_16 : DR cX9_tears 16 (.iload_n 1) 1 17 := ⟨by decide +kernel, rfl⟩
theorem dX9_tears_17 : DR cX9_tears 17 (.iadd) 1 18 := ⟨by decide +kernel, rfl⟩
theorem dX9_tears_18 : DR cX9_tears 18 (.iaload) 1 19 := ⟨by decide +kernel, rfl⟩
theorem dX9_tears_19 : DR cX9_tears 19 (.aload_n 0) 1 20 := ⟨by decide +kernel, rfl⟩
theorem dX9_tears_20 : DR cX9_tears 20 (.iload_n 1) 1 21 := ⟨by decide +kernel, rfl⟩
theorem dX9_tears_21 : DR cX9_tears 21 (.invokevirtual 118) 3 24 := ⟨by decide +kernel, rfl⟩
theorem dX9_tears_24 : DB cX9_tears 24 (.if_icmp .ne 6) 3 (6) 27 30 := ⟨by decide +kernel, rfl, by decide⟩
theorem dX9_tears_27 : DR cX9_tears 27 (.bipush (-2)) 2 29 := ⟨by decide +kernel, rfl⟩
theorem dX9_tears_29 : DR cX9_tears 29 (.ireturn) 1 30 := ⟨by decide +kernel, rfl⟩
theorem dX9_tears_30 : DR cX9_tears 30 (.aload_n 0) 1 31 := ⟨by decide +kernel, rfl⟩
theorem dX9_tears_31 : DR cX9_tears 31 (.invokevirtual 124) 3 34 := ⟨by decide +kernel, rfl⟩
theorem dX9_tears_34 : DR cX9_tears 34 (.aload_n 0) 1 35 := ⟨by decide +kernel, rfl⟩
theorem dX9_tears_35 : DR cX9_tears 35 (.iload_n 1) 1 36 := ⟨by decide +kernel, rfl⟩
theorem dX9_tears_36 : DR cX9_tears 36 (.invokevirtual 134) 3 39 := ⟨by decide +kernel, rfl⟩
theorem dX9_tears_39 : DR cX9_tears 39 (.aload_n 0) 1 40 := ⟨by decide +kernel, rfl⟩
theorem dX9_tears_40 : DR cX9_tears 40 (.getfield 22) 3 43 := ⟨by decide +kernel, rfl⟩
theorem dX9_tears_43 : DR cX9_tears 43 (.bipush 6) 2 45 := ⟨by decide +kernel, rfl⟩
theorem dX9_tears_45 : DR cX9_tears 45 (.iload_n 1) 1 46 := ⟨by decide +kernel, rfl⟩
theorem dX9_tears_46 : DR cX9_tears 46 (.iadd) 1 47 := ⟨by decide +kernel, rfl⟩
theorem dX9_tears_47 : DR cX9_tears 47 (.iaload) 1 48 := ⟨by decide +kernel, rfl⟩
theorem dX9_tears_48 : DR cX9_tears 48 (.ireturn) 1 49 := ⟨by decide +kernel, rfl⟩
theorem dX9_set_0 : DR cX9_set 0 (.aload_n 0) 1 1 := ⟨by decide +kernel, rfl⟩
theorem dX9_set_1 : DR cX9_set 1 (.iload_n 1) 1 2 := ⟨by decide +kernel, rfl⟩
theorem dX9_set_2 : DR cX9_set 2 (.invokevirtual 100) 3 5 := ⟨by decide +kernel, rfl⟩
theorem dX9_set_5 : DB cX9_set 5 (.ifCond .eq 13) 3 (13) 8 18 := ⟨by decide +kernel, rfl, by decide⟩
theorem dX9_set_8 : DR cX9_set 8 (.iload_n 2) 1 9 := ⟨by decide +kernel, rfl⟩
theorem dX9_set_9 : DR cX9_set 9 (.iconst 0) 1 10 := ⟨by decide +kernel, rfl⟩
theorem dX9_set_10 : DR cX9_set 10 (.bipush 9) 2 12 := ⟨by decide +kernel, rfl⟩
theorem dX9_set_12 : DR cX9_set 12 (.invokestatic 54) 3 15 := ⟨by decide +kernel, rfl⟩
theorem dX9_set_15 : DB cX9_set 15 (.ifCond .ne 5) 3 (5) 18 20 := ⟨by decide +kernel, rfl, by decide⟩
theorem dX9_set_18 : DR cX9_set 18 (.iconst (-1)) 1 19 := ⟨by decide +kernel, rfl⟩
theorem dX9_set_19 : DR cX9_set 19 (.ireturn) 1 20 := ⟨by decide +kernel, rfl⟩
theorem dX9_set_20 : DR cX9_set 20 (.aload_n 0) 1 21 := ⟨by decide +kernel, rfl⟩
theorem dX9_set_21 : DR cX9_set 21 (.iload_n 2) 1 22 := ⟨by decide +kernel, rfl⟩
theorem dX9_set_22 : DR cX9_set 22 (.invokevirtual 112) 3 25 := ⟨by decide +kernel, rfl⟩
theorem dX9_set_25 : DR cX9_set 25 (.bipush (-4)) 2 27 := ⟨by decide +kernel, rfl⟩
theorem dX9_set_27 : DB cX9_set 27 (.if_icmp .eq 6) 3 (6) 30 33 := ⟨by decide +kernel, rfl, by decide⟩
theorem dX9_set_30 : DR cX9_set 30 (.bipush (-2)) 2 32 := ⟨by decide +kernel, rfl⟩
theorem dX9_set_32 : DR cX9_set 32 (.ireturn) 1 33 := ⟨by decide +kernel, rfl⟩
theorem dX9_set_33 : DR cX9_set 33 (.aload_n 0) 1 34 := ⟨by decide +kernel, rfl⟩
theorem dX9_set_34 : DR cX9_set 34 (.invokevirtual 124) 3 37 := ⟨by decide +kernel, rfl⟩
theorem dX9_set_37 : DR cX9_set 37 (.aload_n 0) 1 38 := ⟨by decide +kernel, rfl⟩
theorem dX9_set_38 : DR cX9_set 38 (.getfield 22) 3 41 := ⟨by decide +kernel, rfl⟩
theorem dX9_set_41 : DR cX9_set 41 (.iload_n 1) 1 42 := ⟨by decide +kernel, rfl⟩
theorem dX9_set_42 : DR cX9_set 42 (.iaload) 1 43 := ⟨by decide +kernel, rfl⟩
theorem dX9_set_43 : DR cX9_set 43 (.istore_n 3) 1 44 := ⟨by decide +kernel, rfl⟩
theorem dX9_set_44 : DR cX9_set 44 (.aload_n 0) 1 45 := ⟨by decide +kernel, rfl⟩
theorem dX9_set_45 : DR cX9_set 45 (.getfield 22) 3 48 := ⟨by decide +kernel, rfl⟩
theorem dX9_set_48 : DR cX9_set 48 (.iload_n 1) 1 49 := ⟨by decide +kernel, rfl⟩
theorem dX9_set_49 : DR cX9_set 49 (.iload_n 2) 1 50 := ⟨by decide +kernel, rfl⟩
theorem dX9_set_50 : DR cX9_set 50 (.iastore) 1 51 := ⟨by decide +kernel, rfl⟩
theorem dX9_set_51 : DR cX9_set 51 (.iload_n 3) 1 52 := ⟨by decide +kernel, rfl⟩
theorem dX9_set_52 : DR cX9_set 52 (.ireturn) 1 53 := ⟨by decide +kernel, rfl⟩
theorem dX9_undo_0 : DR cX9_undo 0 (.aload_n 0) 1 1 := ⟨by decide +kernel, rfl⟩
theorem dX9_undo_1 : DR cX9_undo 1 (.getfield 91) 3 4 := ⟨by decide +kernel, rfl⟩
theorem dX9_undo_4 : DB cX9_undo 4 (.ifCond .ne 6) 3 (6) 7 10 := ⟨by decide +kernel, rfl, by decide⟩
theorem dX9_undo_7 : DR cX9_undo 7 (.bipush (-2)) 2 9 := ⟨by decide +kernel, rfl⟩
theorem dX9_undo_9 : DR cX9_undo 9 (.ireturn) 1 10 := ⟨by decide +kernel, rfl⟩
theorem dX9_undo_10 : DR cX9_undo 10 (.aload_n 0) 1 11 := ⟨by decide +kernel, rfl⟩
theorem dX9_undo_11 : DR cX9_undo 11 (.dup) 1 12 := ⟨by decide +kernel, rfl⟩
theorem dX9_undo_12 : DR cX9_undo 12 (.getfield 91) 3 15 := ⟨by decide +kernel, rfl⟩
theorem dX9_undo_15 : DR cX9_undo 15 (.iconst 1) 1 16 := ⟨by decide +kernel, rfl⟩
theorem dX9_undo_16 : DR cX9_undo 16 (.isub) 1 17 := ⟨by decide +kernel, rfl⟩
theorem dX9_undo_17 : DR cX9_undo 17 (.putfield 91) 3 20 := ⟨by decide +kernel, rfl⟩
theorem dX9_undo_20 : DR cX9_undo 20 (.iconst 0) 1 21 := ⟨by decide +kernel, rfl⟩
theorem dX9_undo_21 : DR cX9_undo 21 (.istore_n 1) 1 22 := ⟨by decide +kernel, rfl⟩
theorem dX9_undo_22 : DR cX9_undo 22 (.iload_n 1) 1 23 := ⟨by decide +kernel, rfl⟩
theorem dX9_undo_23 : DR cX9_undo 23 (.bipush 26) 2 25 := ⟨by decide +kernel, rfl⟩
theorem dX9_undo_25 : DB cX9_undo 25 (.if_icmp .ge 29) 3 (29) 28 54 := ⟨by decide +kernel, rfl, by decide⟩
theorem dX9_undo_28 : DR cX9_undo 28 (.aload_n 0) 1 29 := ⟨by decide +kernel, rfl⟩
theorem dX9_undo_29 : DR cX9_undo 29 (.getfield 22) 3 32 := ⟨by decide +kernel, rfl⟩
theorem dX9_undo_32 : DR cX9_undo 32 (.iload_n 1) 1 33 := ⟨by decide +kernel, rfl⟩
theorem dX9_undo_33 : DR cX9_undo 33 (.aload_n 0) 1 34 := ⟨by decide +kernel, rfl⟩
theorem dX9_undo_34 : DR cX9_undo 34 (.getfield 25) 3 37 := ⟨by decide +kernel, rfl⟩
theorem dX9_undo_37 : DR cX9_undo 37 (.bipush 26) 2 39 := ⟨by decide +kernel, rfl⟩
theorem dX9_undo_39 : DR cX9_undo 39 (.aload_n 0) 1 40 := ⟨by decide +kernel, rfl⟩
theorem dX9_undo_40 : DR cX9_undo 40 (.getfield 91) 3 43 := ⟨by decide +kernel, rfl⟩
theorem dX9_undo_43 : DR cX9_undo 43 (.imul) 1 44 := ⟨by decide +kernel, rfl⟩
theorem dX9_undo_44 : DR cX9_undo 44 (.iload_n 1) 1 45 := ⟨by decide +kernel, rfl⟩
theorem dX9_undo_45 : DR cX9_undo 45 (.iadd) 1 46 := ⟨by decide +kernel, rfl⟩
theorem dX9_undo_46 : DR cX9_undo 46 (.iaload) 1 47 := ⟨by decide +kernel, rfl⟩
theorem dX9_undo_47 : DR cX9_undo 47 (.iastore) 1 48 := ⟨by decide +kernel, rfl⟩
theorem dX9_undo_48 : DR cX9_undo 48 (.iinc 1 1) 3 51 := ⟨by decide +kernel, rfl⟩
theorem dX9_undo_51 : DB cX9_undo 51 (.goto (-29)) 3 (-29) 54 22 := ⟨by decide +kernel, rfl, by decide⟩
theorem dX9_undo_54 : DR cX9_undo 54 (.aload_n 0) 1 55 := ⟨by decide +kernel, rfl⟩
theorem dX9_undo_55 : DR cX9_undo 55 (.getfield 91) 3 58 := ⟨by decide +kernel, rfl⟩
theorem dX9_undo_58 : DR cX9_undo 58 (.ireturn) 1 59 := ⟨by decide +kernel, rfl⟩
theorem dX9_keepsAside_0 : DR cX9_keepsAside 0 (.iconst 0) 1 1 := ⟨by decide +kernel, rfl⟩
theorem dX9_keepsAside_1 : DR cX9_keepsAside 1 (.istore_n 1) 1 2 := ⟨by decide +kernel, rfl⟩
theorem dX9_keepsAside_2 : DR cX9_keepsAside 2 (.iload_n 1) 1 3 := ⟨by decide +kernel, rfl⟩
theorem dX9_keepsAside_3 : DR cX9_keepsAside 3 (.bipush 26) 2 5 := ⟨by decide +kernel, rfl⟩
theorem dX9_keepsAside_5 : DB cX9_keepsAside 5 (.if_icmp .ge 21) 3 (21) 8 26 := ⟨by decide +kernel, rfl, by decide⟩
theorem dX9_keepsAside_8 : DR cX9_keepsAside 8 (.aload_n 0) 1 9 := ⟨by decide +kernel, rfl⟩
theorem dX9_keepsAside_9 : DR cX9_keepsAside 9 (.getfield 37) 3 12 := ⟨by decide +kernel, rfl⟩
theorem dX9_keepsAside_12 : DR cX9_keepsAside 12 (.iload_n 1) 1 13 := ⟨by decide +kernel, rfl⟩
theorem dX9_keepsAside_13 : DR cX9_keepsAside 13 (.aload_n 0) 1 14 := ⟨by decide +kernel, rfl⟩
theorem dX9_keepsAside_14 : DR cX9_keepsAside 14 (.getfield 22) 3 17 := ⟨by decide +kernel, rfl⟩
theorem dX9_keepsAside_17 : DR cX9_keepsAside 17 (.iload_n 1) 1 18 := ⟨by decide +kernel, rfl⟩
theorem dX9_keepsAside_18 : DR cX9_keepsAside 18 (.iaload) 1 19 := ⟨by decide +kernel, rfl⟩
theorem dX9_keepsAside_19 : DR cX9_keepsAside 19 (.iastore) 1 20 := ⟨by decide +kernel, rfl⟩
theorem dX9_keepsAside_20 : DR cX9_keepsAside 20 (.iinc 1 1) 3 23 := ⟨by decide +kernel, rfl⟩
theorem dX9_keepsAside_23 : DB cX9_keepsAside 23 (.goto (-21)) 3 (-21) 26 2 := ⟨by decide +kernel, rfl, by decide⟩
theorem dX9_keepsAside_26 : DR cX9_keepsAside 26 (.return_) 1 27 := ⟨by decide +kernel, rfl⟩
theorem dX9_bringsBack_0 : DR cX9_bringsBack 0 (.iconst 0) 1 1 := ⟨by decide +kernel, rfl⟩
theorem dX9_bringsBack_1 : DR cX9_bringsBack 1 (.istore_n 1) 1 2 := ⟨by decide +kernel, rfl⟩
theorem dX9_bringsBack_2 : DR cX9_bringsBack 2 (.iload_n 1) 1 3 := ⟨by decide +kernel, rfl⟩
theorem dX9_bringsBack_3 : DR cX9_bringsBack 3 (.bipush 26) 2 5 := ⟨by decide +kernel, rfl⟩
theorem dX9_bringsBack_5 : DB cX9_bringsBack 5 (.if_icmp .ge 21) 3 (21) 8 26 := ⟨by decide +kernel, rfl, by decide⟩
theorem dX9_bringsBack_8 : DR cX9_bringsBack 8 (.aload_n 0) 1 9 := ⟨by decide +kernel, rfl⟩
theorem dX9_bringsBack_9 : DR cX9_bringsBack 9 (.getfield 22) 3 12 := ⟨by decide +kernel, rfl⟩
theorem dX9_bringsBack_12 : DR cX9_bringsBack 12 (.iload_n 1) 1 13 := ⟨by decide +kernel, rfl⟩
theorem dX9_bringsBack_13 : DR cX9_bringsBack 13 (.aload_n 0) 1 14 := ⟨by decide +kernel, rfl⟩
theorem dX9_bringsBack_14 : DR cX9_bringsBack 14 (.getfield 37) 3 17 := ⟨by decide +kernel, rfl⟩
theorem dX9_bringsBack_17 : DR cX9_bringsBack 17 (.iload_n 1) 1 18 := ⟨by decide +kernel, rfl⟩
theorem dX9_bringsBack_18 : DR cX9_bringsBack 18 (.iaload) 1 19 := ⟨by decide +kernel, rfl⟩
theorem dX9_bringsBack_19 : DR cX9_bringsBack 19 (.iastore) 1 20 := ⟨by decide +kernel, rfl⟩
theorem dX9_bringsBack_20 : DR cX9_bringsBack 20 (.iinc 1 1) 3 23 := ⟨by decide +kernel, rfl⟩
theorem dX9_bringsBack_23 : DB cX9_bringsBack 23 (.goto (-21)) 3 (-21) 26 2 := ⟨by decide +kernel, rfl, by decide⟩
theorem dX9_bringsBack_26 : DR cX9_bringsBack 26 (.return_) 1 27 := ⟨by decide +kernel, rfl⟩
theorem dX9_behind_0 : DR cX9_behind 0 (.iload_n 1) 1 1 := ⟨by decide +kernel, rfl⟩
theorem dX9_behind_1 : DR cX9_behind 1 (.iconst 0) 1 2 := ⟨by decide +kernel, rfl⟩
theorem dX9_behind_2 : DR cX9_behind 2 (.bipush 24) 2 4 := ⟨by decide +kernel, rfl⟩
theorem dX9_behind_4 : DR cX9_behind 4 (.invokestatic 54) 3 7 := ⟨by decide +kernel, rfl⟩
theorem dX9_behind_7 : DB cX9_behind 7 (.ifCond .eq 20) 3 (20) 10 27 := ⟨by decide +kernel, rfl, by decide⟩
theorem dX9_behind_10 : DR cX9_behind 10 (.aload_n 0) 1 11 := ⟨by decide +kernel, rfl⟩
theorem dX9_behind_11 : DR cX9_behind 11 (.iload_n 2) 1 12 := ⟨by decide +kernel, rfl⟩
theorem dX9_behind_12 : DR cX9_behind 12 (.invokevirtual 100) 3 15 := ⟨by decide +kernel, rfl⟩
theorem dX9_behind_15 : DB cX9_behind 15 (.ifCond .eq 12) 3 (12) 18 27 := ⟨by decide +kernel, rfl, by decide⟩
theorem dX9_behind_18 : DR cX9_behind 18 (.iload_n 3) 1 19 := ⟨by decide +kernel, rfl⟩
theorem dX9_behind_19 : DR cX9_behind 19 (.iconst 0) 1 20 := ⟨by decide +kernel, rfl⟩
theorem dX9_behind_20 : DR cX9_behind 20 (.iconst 1) 1 21 := ⟨by decide +kernel, rfl⟩
theorem dX9_behind_21 : DR cX9_behind 21 (.invokestatic 54) 3 24 := ⟨by decide +kernel, rfl⟩
theorem dX9_behind_24 : DB cX9_behind 24 (.ifCond .ne 5) 3 (5) 27 29 := ⟨by decide +kernel, rfl, by decide⟩
theorem dX9_behind_27 : DR cX9_behind 27 (.iconst (-1)) 1 28 := ⟨by decide +kernel, rfl⟩
theorem dX9_behind_28 : DR cX9_behind 28 (.ireturn) 1 29 := ⟨by decide +kernel, rfl⟩
theorem dX9_behind_29 : DR cX9_behind 29 (.aload_n 0) 1 30 := ⟨by decide +kernel, rfl⟩
theorem dX9_behind_30 : DR cX9_behind 30 (.invokevirtual 137) 3 33 := ⟨by decide +kernel, rfl⟩
theorem dX9_behind_33 : DR cX9_behind 33 (.aload_n 0) 1 34 := ⟨by decide +kernel, rfl⟩
theorem dX9_behind_34 : DR cX9_behind 34 (.iload_n 1) 1 35 := ⟨by decide +kernel, rfl⟩
theorem dX9_behind_35 : DR cX9_behind 35 (.invokevirtual 127) 3 38 := ⟨by decide +kernel, rfl⟩
theorem dX9_behind_38 : DR cX9_behind 38 (.aload_n 0) 1 39 := ⟨by decide +kernel, rfl⟩
theorem dX9_behind_39 : DR cX9_behind 39 (.getfield 22) 3 42 := ⟨by decide +kernel, rfl⟩
theorem dX9_behind_42 : DR cX9_behind 42 (.iload_n 3) 1 43 := ⟨by decide +kernel, rfl⟩
theorem dX9_behind_43 : DB cX9_behind 43 (.ifCond .ne 8) 3 (8) 46 51 := ⟨by decide +kernel, rfl, by decide⟩
theorem dX9_behind_46 : DR cX9_behind 46 (.bipush 6) 2 48 := ⟨by decide +kernel, rfl⟩
theorem dX9_behind_48 : DB cX9_behind 48 (.goto 5) 3 (5) 51 53 := ⟨by decide +kernel, rfl, by decide⟩
theorem dX9_behind_51 : DR cX9_behind 51 (.bipush 12) 2 53 := ⟨by decide +kernel, rfl⟩
theorem dX9_behind_53 : DR cX9_behind 53 (.iload_n 2) 1 54 := ⟨by decide +kernel, rfl⟩
theorem dX9_behind_54 : DR cX9_behind 54 (.iadd) 1 55 := ⟨by decide +kernel, rfl⟩
theorem dX9_behind_55 : DR cX9_behind 55 (.iaload) 1 56 := ⟨by decide +kernel, rfl⟩
theorem dX9_behind_56 : DR cX9_behind 56 (.istore 4) 2 58 := ⟨by decide +kernel, rfl⟩
theorem dX9_behind_58 : DR cX9_behind 58 (.aload_n 0) 1 59 := ⟨by decide +kernel, rfl⟩
theorem dX9_behind_59 : DR cX9_behind 59 (.invokevirtual 140) 3 62 := ⟨by decide +kernel, rfl⟩
theorem dX9_behind_62 : DR cX9_behind 62 (.iload 4) 2 64 := ⟨by decide +kernel, rfl⟩
theorem dX9_behind_64 : DR cX9_behind 64 (.ireturn) 1 65 := ⟨by decide +kernel, rfl⟩
theorem dX9_yardsNow_0 : DR cX9_yardsNow 0 (.iconst 0) 1 1 := ⟨by decide +kernel, rfl⟩
theorem dX9_yardsNow_1 : DR cX9_yardsNow 1 (.istore_n 1) 1 2 := ⟨by decide +kernel, rfl⟩
theorem dX9_yardsNow_2 : DR cX9_yardsNow 2 (.iconst 0) 1 3 := ⟨by decide +kernel, rfl⟩
theorem dX9_yardsNow_3 : DR cX9_yardsNow 3 (.istore_n 2) 1 4 := ⟨by decide +kernel, rfl⟩
theorem dX9_yardsNow_4 : DR cX9_yardsNow 4 (.iload_n 2) 1 5 := ⟨by decide +kernel, rfl⟩
theorem dX9_yardsNow_5 : DR cX9_yardsNow 5 (.aload_n 0) 1 6 := ⟨by decide +kernel, rfl⟩
theorem dX9_yardsNow_6 : DR cX9_yardsNow 6 (.getfield 13) 3 9 := ⟨by decide +kernel, rfl⟩
theorem dX9_yardsNow_9 : DR cX9_yardsNow 9 (.iconst 0) 1 10 := ⟨by decide +kernel, rfl⟩
theorem dX9_yardsNow_10 : DR cX9_yardsNow 10 (.iaload) 1 11 := ⟨by decide +kernel, rfl⟩
theorem dX9_yardsNow_11 : DB cX9_yardsNow 11 (.if_icmp .ge 37) 3 (37) 14 48 := ⟨by decide +kernel, rfl, by decide⟩
theorem dX9_yardsNow_14 : DR cX9_yardsNow 14 (.iload_n 1) 1 15 := ⟨by decide +kernel, rfl⟩
theorem dX9_yardsNow_15 : DR cX9_yardsNow 15 (.aload_n 0) 1 16 := ⟨by decide +kernel, rfl⟩
theorem dX9_yardsNow_16 : DR cX9_yardsNow 16 (.getfield 22) 3 19 := ⟨by decide +kernel, rfl⟩
theorem dX9_yardsNow_19 : DR cX9_yardsNow 19 (.bipush 6) 2 21 := ⟨by decide +kernel, rfl⟩
theorem dX9_yardsNow_21 : DR cX9_yardsNow 21 (.iload_n 2) 1 22 := ⟨by decide +kernel, rfl⟩
theorem dX9_yardsNow_22 : DR cX9_yardsNow 22 (.iadd) 1 23 := ⟨by decide +kernel, rfl⟩
theorem dX9_yardsNow_23 : DR cX9_yardsNow 23 (.iaload) 1 24 := ⟨by decide +kernel, rfl⟩
theorem dX9_yardsNow_24 : DR cX9_yardsNow 24 (.aload_n 0) 1 25 := ⟨by decide +kernel, rfl⟩
theorem dX9_yardsNow_25 : DR cX9_yardsNow 25 (.getfield 13) 3 28 := ⟨by decide +kernel, rfl⟩
theorem dX9_yardsNow_28 : DR cX9_yardsNow 28 (.iconst 4) 1 29 := ⟨by decide +kernel, rfl⟩
theorem dX9_yardsNow_29 : DR cX9_yardsNow 29 (.iaload) 1 30 := ⟨by decide +kernel, rfl⟩
theorem dX9_yardsNow_30 : DB cX9_yardsNow 30 (.if_icmp .lt 9) 3 (9) 33 39 := ⟨by decide +kernel, rfl, by decide⟩
theorem dX9_yardsNow_33 : DR cX9_yardsNow 33 (.iconst 1) 1 34 := ⟨by decide +kernel, rfl⟩
theorem dX9_yardsNow_34 : DR cX9_yardsNow 34 (.iload_n 2) 1 35 := ⟨by decide +kernel, rfl⟩
theorem dX9_yardsNow_35 : DR cX9_yardsNow 35 (.ishl) 1 36 := ⟨by decide +kernel, rfl⟩
theorem dX9_yardsNow_36 : DB cX9_yardsNow 36 (.goto 4) 3 (4) 39 40 := ⟨by decide +kernel, rfl, by decide⟩
theorem dX9_yardsNow_39 : DR cX9_yardsNow 39 (.iconst 0) 1 40 := ⟨by decide +kernel, rfl⟩
theorem dX9_yardsNow_40 : DR cX9_yardsNow 40 (.ior) 1 41 := ⟨by decide +kernel, rfl⟩
theorem dX9_yardsNow_41 : DR cX9_yardsNow 41 (.istore_n 1) 1 42 := ⟨by decide +kernel, rfl⟩
theorem dX9_yardsNow_42 : DR cX9_yardsNow 42 (.iinc 2 1) 3 45 := ⟨by decide +kernel, rfl⟩
theorem dX9_yardsNow_45 : DB cX9_yardsNow 45 (.goto (-41)) 3 (-41) 48 4 := ⟨by decide +kernel, rfl, by decide⟩
theorem dX9_yardsNow_48 : DR cX9_yardsNow 48 (.iload_n 1) 1 49 := ⟨by decide +kernel, rfl⟩
theorem dX9_yardsNow_49 : DR cX9_yardsNow 49 (.ireturn) 1 50 := ⟨by decide +kernel, rfl⟩
theorem dX9_ones_0 : DR cX9_ones 0 (.iconst 0) 1 1 := ⟨by decide +kernel, rfl⟩
theorem dX9_ones_1 : DR cX9_ones 1 (.istore_n 1) 1 2 := ⟨by decide +kernel, rfl⟩
theorem dX9_ones_2 : DR cX9_ones 2 (.iconst 0) 1 3 := ⟨by decide +kernel, rfl⟩
theorem dX9_ones_3 : DR cX9_ones 3 (.istore_n 2) 1 4 := ⟨by decide +kernel, rfl⟩
theorem dX9_ones_4 : DR cX9_ones 4 (.iload_n 2) 1 5 := ⟨by decide +kernel, rfl⟩
theorem dX9_ones_5 : DR cX9_ones 5 (.bipush 6) 2 7 := ⟨by decide +kernel, rfl⟩
theorem dX9_ones_7 : DB cX9_ones 7 (.if_icmp .ge 17) 3 (17) 10 24 := ⟨by decide +kernel, rfl, by decide⟩
theorem dX9_ones_10 : DR cX9_ones 10 (.iload_n 1) 1 11 := ⟨by decide +kernel, rfl⟩
theorem dX9_ones_11 : DR cX9_ones 11 (.iload_n 0) 1 12 := ⟨by decide +kernel, rfl⟩
theorem dX9_ones_12 : DR cX9_ones 12 (.iload_n 2) 1 13 := ⟨by decide +kernel, rfl⟩
theorem dX9_ones_13 : DR cX9_ones 13 (.ishr) 1 14 := ⟨by decide +kernel, rfl⟩
theorem dX9_ones_14 : DR cX9_ones 14 (.iconst 1) 1 15 := ⟨by decide +kernel, rfl⟩
theorem dX9_ones_15 : DR cX9_ones 15 (.iand) 1 16 := ⟨by decide +kernel, rfl⟩
theorem dX9_ones_16 : DR cX9_ones 16 (.iadd) 1 17 := ⟨by decide +kernel, rfl⟩
theorem dX9_ones_17 : DR cX9_ones 17 (.istore_n 1) 1 18 := ⟨by decide +kernel, rfl⟩
theorem dX9_ones_18 : DR cX9_ones 18 (.iinc 2 1) 3 21 := ⟨by decide +kernel, rfl⟩
theorem dX9_ones_21 : DB cX9_ones 21 (.goto (-17)) 3 (-17) 24 4 := ⟨by decide +kernel, rfl, by decide⟩
theorem dX9_ones_24 : DR cX9_ones 24 (.iload_n 1) 1 25 := ⟨by decide +kernel, rfl⟩
theorem dX9_ones_25 : DR cX9_ones 25 (.ireturn) 1 26 := ⟨by decide +kernel, rfl⟩
theorem dX9_sells_0 : DR cX9_sells 0 (.aload_n 0) 1 1 := ⟨by decide +kernel, rfl⟩
theorem dX9_sells_1 : DR cX9_sells 1 (.aload_n 0) 1 2 := ⟨by decide +kernel, rfl⟩
theorem dX9_sells_2 : DR cX9_sells 2 (.getfield 13) 3 5 := ⟨by decide +kernel, rfl⟩
theorem dX9_sells_5 : DR cX9_sells 5 (.iconst 3) 1 6 := ⟨by decide +kernel, rfl⟩
theorem dX9_sells_6 : DR cX9_sells 6 (.iaload) 1 7 := ⟨by decide +kernel, rfl⟩
theorem dX9_sells_7 : DR cX9_sells 7 (.aload_n 0) 1 8 := ⟨by decide +kernel, rfl⟩
theorem dX9_sells_8 : DR cX9_sells 8 (.getfield 22) 3 11 := ⟨by decide +kernel, rfl⟩
theorem dX9_sells_11 : DR cX9_sells 11 (.bipush 25) 2 13 := ⟨by decide +kernel, rfl⟩
theorem dX9_sells_13 : DR cX9_sells 13 (.iaload) 1 14 := ⟨by decide +kernel, rfl⟩
theorem dX9_sells_14 : DB cX9_sells 14 (.if_icmp .le 20) 3 (20) 17 34 := ⟨by decide +kernel, rfl, by decide⟩
theorem dX9_sells_17 : DR cX9_sells 17 (.aload_n 0) 1 18 := ⟨by decide +kernel, rfl⟩
theorem dX9_sells_18 : DR cX9_sells 18 (.getfield 13) 3 21 := ⟨by decide +kernel, rfl⟩
theorem dX9_sells_21 : DR cX9_sells 21 (.iconst 3) 1 22 := ⟨by decide +kernel, rfl⟩
theorem dX9_sells_22 : DR cX9_sells 22 (.iaload) 1 23 := ⟨by decide +kernel, rfl⟩
theorem dX9_sells_23 : DR cX9_sells 23 (.aload_n 0) 1 24 := ⟨by decide +kernel, rfl⟩
theorem dX9_sells_24 : DR cX9_sells 24 (.getfield 22) 3 27 := ⟨by decide +kernel, rfl⟩
theorem dX9_sells_27 : DR cX9_sells 27 (.bipush 25) 2 29 := ⟨by decide +kernel, rfl⟩
theorem dX9_sells_29 : DR cX9_sells 29 (.iaload) 1 30 := ⟨by decide +kernel, rfl⟩
theorem dX9_sells_30 : DR cX9_sells 30 (.isub) 1 31 := ⟨by decide +kernel, rfl⟩
theorem dX9_sells_31 : DB cX9_sells 31 (.goto 4) 3 (4) 34 35 := ⟨by decide +kernel, rfl, by decide⟩
theorem dX9_sells_34 : DR cX9_sells 34 (.iconst 0) 1 35 := ⟨by decide +kernel, rfl⟩
theorem dX9_sells_35 : DR cX9_sells 35 (.invokevirtual 127) 3 38 := ⟨by decide +kernel, rfl⟩
theorem dX9_sells_38 : DR cX9_sells 38 (.return_) 1 39 := ⟨by decide +kernel, rfl⟩
theorem dX9_yards_0 : DR cX9_yards 0 (.aload_n 0) 1 1 := ⟨by decide +kernel, rfl⟩
theorem dX9_yards_1 : DR cX9_yards 1 (.invokevirtual 137) 3 4 := ⟨by decide +kernel, rfl⟩
theorem dX9_yards_4 : DR cX9_yards 4 (.aload_n 0) 1 5 := ⟨by decide +kernel, rfl⟩
theorem dX9_yards_5 : DR cX9_yards 5 (.invokevirtual 143) 3 8 := ⟨by decide +kernel, rfl⟩
theorem dX9_yards_8 : DR cX9_yards 8 (.aload_n 0) 1 9 := ⟨by decide +kernel, rfl⟩
theorem dX9_yards_9 : DR cX9_yards 9 (.invokevirtual 146) 3 12 := ⟨by decide +kernel, rfl⟩
theorem dX9_yards_12 : DR cX9_yards 12 (.istore_n 1) 1 13 := ⟨by decide +kernel, rfl⟩
theorem dX9_yards_13 : DR cX9_yards 13 (.aload_n 0) 1 14 := ⟨by decide +kernel, rfl⟩
theorem dX9_yards_14 : DR cX9_yards 14 (.invokevirtual 140) 3 17 := ⟨by decide +kernel, rfl⟩
theorem dX9_yards_17 : DR cX9_yards 17 (.iload_n 1) 1 18 := ⟨by decide +kernel, rfl⟩
theorem dX9_yards_18 : DR cX9_yards 18 (.ireturn) 1 19 := ⟨by decide +kernel, rfl⟩
theorem dX9_placeOf_0 : DR cX9_placeOf 0 (.iload_n 1) 1 1 := ⟨by decide +kernel, rfl⟩
theorem dX9_placeOf_1 : DR cX9_placeOf 1 (.istore_n 2) 1 2 := ⟨by decide +kernel, rfl⟩
theorem dX9_placeOf_2 : DR cX9_placeOf 2 (.bipush (-4)) 2 4 := ⟨by decide +kernel, rfl⟩
theorem dX9_placeOf_4 : DR cX9_placeOf 4 (.istore_n 3) 1 5 := ⟨by decide +kernel, rfl⟩
theorem dX9_placeOf_5 : DR cX9_placeOf 5 (.iconst 0) 1 6 := ⟨by decide +kernel, rfl⟩
theorem dX9_placeOf_6 : DR cX9_placeOf 6 (.istore 4) 2 8 := ⟨by decide +kernel, rfl⟩
theorem dX9_placeOf_8 : DR cX9_placeOf 8 (.iload 4) 2 10 := ⟨by decide +kernel, rfl⟩
theorem dX9_placeOf_10 : DR cX9_placeOf 10 (.bipush 10) 2 12 := ⟨by decide +kernel, rfl⟩
theorem dX9_placeOf_12 : DB cX9_placeOf 12 (.if_icmp .ge 85) 3 (85) 15 97 := ⟨by decide +kernel, rfl, by decide⟩
theorem dX9_placeOf_15 : DR cX9_placeOf 15 (.iconst 0) 1 16 := ⟨by decide +kernel, rfl⟩
theorem dX9_placeOf_16 : DR cX9_placeOf 16 (.istore 5) 2 18 := ⟨by decide +kernel, rfl⟩
theorem dX9_placeOf_18 : DR cX9_placeOf 18 (.iconst 0) 1 19 := ⟨by decide +kernel, rfl⟩
theorem dX9_placeOf_19 : DR cX9_placeOf 19 (.istore 6) 2 21 := ⟨by decide +kernel, rfl⟩
theorem dX9_placeOf_21 : DR cX9_placeOf 21 (.iload 6) 2 23 := ⟨by decide +kernel, rfl⟩
theorem dX9_placeOf_23 : DR cX9_placeOf 23 (.aload_n 0) 1 24 := ⟨by decide +kernel, rfl⟩
theorem dX9_placeOf_24 : DR cX9_placeOf 24 (.getfield 13) 3 27 := ⟨by decide +kernel, rfl⟩
theorem dX9_placeOf_27 : DR cX9_placeOf 27 (.iconst 0) 1 28 := ⟨by decide +kernel, rfl⟩
theorem dX9_placeOf_28 : DR cX9_placeOf 28 (.iaload) 1 29 := ⟨by decide +kernel, rfl⟩
theorem dX9_placeOf_29 : DB cX9_placeOf 29 (.if_icmp .ge 33) 3 (33) 32 62 := ⟨by decide +kernel, rfl, by decide⟩
theorem dX9_placeOf_32 : DR cX9_placeOf 32 (.iload 5) 2 34 := ⟨by decide +kernel, rfl⟩
theorem dX9_placeOf_34 : DB cX9_placeOf 34 (.ifCond .ne 15) 3 (15) 37 49 := ⟨by decide +kernel, rfl, by decide⟩
theorem dX9_placeOf_37 : DR cX9_placeOf 37 (.aload_n 0) 1 38 := ⟨by decide +kernel, rfl⟩
theorem dX9_placeOf_38 : DR cX9_placeOf 38 (.getfield 37) 3 41 := ⟨by decide +kernel, rfl⟩
theorem dX9_placeOf_41 : DR cX9_placeOf 41 (.iload 6) 2 43 := ⟨by decide +kernel, rfl⟩
theorem dX9_placeOf_43 : DR cX9_placeOf 43 (.iaload) 1 44 := ⟨by decide +kernel, rfl⟩
theorem dX9_placeOf_44 : DR cX9_placeOf 44 (.iload 4) 2 46 := ⟨by decide +kernel, rfl⟩
theorem dX9_placeOf_46 : DB cX9_placeOf 46 (.if_icmp .ne 7) 3 (7) 49 53 := ⟨by decide +kernel, rfl, by decide⟩
theorem dX9_placeOf_49 : DR cX9_placeOf 49 (.iconst 1) 1 50 := ⟨by decide +kernel, rfl⟩
theorem dX9_placeOf_50 : DB cX9_placeOf 50 (.goto 4) 3 (4) 53 54 := ⟨by decide +kernel, rfl, by decide⟩
theorem dX9_placeOf_53 : DR cX9_placeOf 53 (.iconst 0) 1 54 := ⟨by decide +kernel, rfl⟩
theorem dX9_placeOf_54 : DR cX9_placeOf 54 (.istore 5) 2 56 := ⟨by decide +kernel, rfl⟩
theorem dX9_placeOf_56 : DR cX9_placeOf 56 (.iinc 6 1) 3 59 := ⟨by decide +kernel, rfl⟩
theorem dX9_placeOf_59 : DB cX9_placeOf 59 (.goto (-38)) 3 (-38) 62 21 := ⟨by decide +kernel, rfl, by decide⟩
theorem dX9_placeOf_62 : DR cX9_placeOf 62 (.iload 5) 2 64 := ⟨by decide +kernel, rfl⟩
theorem dX9_placeOf_64 : DB cX9_placeOf 64 (.ifCond .eq 12) 3 (12) 67 76 := ⟨by decide +kernel, rfl, by decide⟩
theorem dX9_placeOf_67 : DR cX9_placeOf 67 (.iload_n 2) 1 68 := ⟨by decide +kernel, rfl⟩
theorem dX9_placeOf_68 : DB cX9_placeOf 68 (.ifCond .ne 8) 3 (8) 71 76 := ⟨by decide +kernel, rfl, by decide⟩
theorem dX9_placeOf_71 : DR cX9_placeOf 71 (.iload 4) 2 73 := ⟨by decide +kernel, rfl⟩
theorem dX9_placeOf_73 : DB cX9_placeOf 73 (.goto 4) 3 (4) 76 77 := ⟨by decide +kernel, rfl, by decide⟩
theorem dX9_placeOf_76 : DR cX9_placeOf 76 (.iload_n 3) 1 77 := ⟨by decide +kernel, rfl⟩
theorem dX9_placeOf_77 : DR cX9_placeOf 77 (.istore_n 3) 1 78 := ⟨by decide +kernel, rfl⟩
theorem dX9_placeOf_78 : DR cX9_placeOf 78 (.iload_n 2) 1 79 := ⟨by decide +kernel, rfl⟩
theorem dX9_placeOf_79 : DR cX9_placeOf 79 (.iload 5) 2 81 := ⟨by decide +kernel, rfl⟩
theorem dX9_placeOf_81 : DB cX9_placeOf 81 (.ifCond .eq 7) 3 (7) 84 88 := ⟨by decide +kernel, rfl, by decide⟩
theorem dX9_placeOf_84 : DR cX9_placeOf 84 (.iconst 1) 1 85 := ⟨by decide +kernel, rfl⟩
theorem dX9_placeOf_85 : DB cX9_placeOf 85 (.goto 4) 3 (4) 88 89 := ⟨by decide +kernel, rfl, by decide⟩
theorem dX9_placeOf_88 : DR cX9_placeOf 88 (.iconst 0) 1 89 := ⟨by decide +kernel, rfl⟩
theorem dX9_placeOf_89 : DR cX9_placeOf 89 (.isub) 1 90 := ⟨by decide +kernel, rfl⟩
theorem dX9_placeOf_90 : DR cX9_placeOf 90 (.istore_n 2) 1 91 := ⟨by decide +kernel, rfl⟩
theorem dX9_placeOf_91 : DR cX9_placeOf 91 (.iinc 4 1) 3 94 := ⟨by decide +kernel, rfl⟩
theorem dX9_placeOf_94 : DB cX9_placeOf 94 (.goto (-86)) 3 (-86) 97 8 := ⟨by decide +kernel, rfl, by decide⟩
theorem dX9_placeOf_97 : DR cX9_placeOf 97 (.iload_n 3) 1 98 := ⟨by decide +kernel, rfl⟩
theorem dX9_placeOf_98 : DR cX9_placeOf 98 (.ireturn) 1 99 := ⟨by decide +kernel, rfl⟩
theorem dX9_setting_0 : DR cX9_setting 0 (.iload_n 1) 1 1 := ⟨by decide +kernel, rfl⟩
theorem dX9_setting_1 : DR cX9_setting 1 (.iconst (-1)) 1 2 := ⟨by decide +kernel, rfl⟩
theorem dX9_setting_2 : DR cX9_setting 2 (.aload_n 0) 1 3 := ⟨by decide +kernel, rfl⟩
theorem dX9_setting_3 : DR cX9_setting 3 (.getfield 13) 3 6 := ⟨by decide +kernel, rfl⟩
theorem dX9_setting_6 : DR cX9_setting 6 (.iconst 0) 1 7 := ⟨by decide +kernel, rfl⟩
theorem dX9_setting_7 : DR cX9_setting 7 (.iaload) 1 8 := ⟨by decide +kernel, rfl⟩
theorem dX9_setting_8 : DR cX9_setting 8 (.iconst 1) 1 9 := ⟨by decide +kernel, rfl⟩
theorem dX9_setting_9 : DR cX9_setting 9 (.isub) 1 10 := ⟨by decide +kernel, rfl⟩
theorem dX9_setting_10 : DR cX9_setting 10 (.invokestatic 54) 3 13 := ⟨by decide +kernel, rfl⟩
theorem dX9_setting_13 : DB cX9_setting 13 (.ifCond .ne 5) 3 (5) 16 18 := ⟨by decide +kernel, rfl, by decide⟩
theorem dX9_setting_16 : DR cX9_setting 16 (.iconst (-1)) 1 17 := ⟨by decide +kernel, rfl⟩
theorem dX9_setting_17 : DR cX9_setting 17 (.ireturn) 1 18 := ⟨by decide +kernel, rfl⟩
theorem dX9_setting_18 : DR cX9_setting 18 (.aload_n 0) 1 19 := ⟨by decide +kernel, rfl⟩
theorem dX9_setting_19 : DR cX9_setting 19 (.invokevirtual 137) 3 22 := ⟨by decide +kernel, rfl⟩
theorem dX9_setting_22 : DR cX9_setting 22 (.iconst 1) 1 23 := ⟨by decide +kernel, rfl⟩
theorem dX9_setting_23 : DR cX9_setting 23 (.istore_n 2) 1 24 := ⟨by decide +kernel, rfl⟩
theorem dX9_setting_24 : DR cX9_setting 24 (.iconst 0) 1 25 := ⟨by decide +kernel, rfl⟩
theorem dX9_setting_25 : DR cX9_setting 25 (.istore_n 3) 1 26 := ⟨by decide +kernel, rfl⟩
theorem dX9_setting_26 : DR cX9_setting 26 (.iload_n 3) 1 27 := ⟨by decide +kernel, rfl⟩
theorem dX9_setting_27 : DR cX9_setting 27 (.aload_n 0) 1 28 := ⟨by decide +kernel, rfl⟩
theorem dX9_setting_28 : DR cX9_setting 28 (.getfield 13) 3 31 := ⟨by decide +kernel, rfl⟩
theorem dX9_setting_31 : DR cX9_setting 31 (.iconst 0) 1 32 := ⟨by decide +kernel, rfl⟩
theorem dX9_setting_32 : DR cX9_setting 32 (.iaload) 1 33 := ⟨by decide +kernel, rfl⟩
theorem dX9_setting_33 : DB cX9_setting 33 (.if_icmp .ge 18) 3 (18) 36 51 := ⟨by decide +kernel, rfl, by decide⟩
theorem dX9_setting_36 : DR cX9_setting 36 (.iload_n 2) 1 37 := ⟨by decide +kernel, rfl⟩
theorem dX9_setting_37 : DR cX9_setting 37 (.aload_n 0) 1 38 := ⟨by decide +kernel, rfl⟩
theorem dX9_setting_38 : DR cX9_setting 38 (.getfield 13) 3 41 := ⟨by decide +kernel, rfl⟩
theorem dX9_setting_41 : DR cX9_setting 41 (.iconst 0) 1 42 := ⟨by decide +kernel, rfl⟩
theorem dX9_setting_42 : DR cX9_setting 42 (.iaload) 1 43 := ⟨by decide +kernel, rfl⟩
theorem dX9_setting_43 : DR cX9_setting 43 (.imul) 1 44 := ⟨by decide +kernel, rfl⟩
theorem dX9_setting_44 : DR cX9_setting 44 (.istore_n 2) 1 45 := ⟨by decide +kernel, rfl⟩
theorem dX9_setting_45 : DR cX9_setting 45 (.iinc 3 1) 3 48 := ⟨by decide +kernel, rfl⟩
theorem dX9_setting_48 : DB cX9_setting 48 (.goto (-22)) 3 (-22) 51 26 := ⟨by decide +kernel, rfl, by decide⟩
theorem dX9_setting_51 : DR cX9_setting 51 (.bipush (-4)) 2 53 := ⟨by decide +kernel, rfl⟩
theorem dX9_setting_53 : DR cX9_setting 53 (.istore_n 3) 1 54 := ⟨by decide +kernel, rfl⟩
theorem dX9_setting_54 : DR cX9_setting 54 (.bipush (-4)) 2 56 := ⟨by decide +kernel, rfl⟩
theorem dX9_setting_56 : DR cX9_setting 56 (.istore 4) 2 58 := ⟨by decide +kernel, rfl⟩
theorem dX9_setting_58 : DR cX9_setting 58 (.iconst 0) 1 59 := ⟨by decide +kernel, rfl⟩
theorem dX9_setting_59 : DR cX9_setting 59 (.istore 5) 2 61 := ⟨by decide +kernel, rfl⟩
theorem dX9_setting_61 : DR cX9_setting 61 (.iload 5) 2 63 := ⟨by decide +kernel, rfl⟩
theorem dX9_setting_63 : DR cX9_setting 63 (.iload_n 2) 1 64 := ⟨by decide +kernel, rfl⟩
theorem dX9_setting_64 : DB cX9_setting 64 (.if_icmp .ge 198) 3 (198) 67 262 := ⟨by decide +kernel, rfl, by decide⟩
theorem dX9_setting_67 : DR cX9_setting 67 (.iload 5) 2 69 := ⟨by decide +kernel, rfl⟩
theorem dX9_setting_69 : DR cX9_setting 69 (.istore 6) 2 71 := ⟨by decide +kernel, rfl⟩
theorem dX9_setting_71 : DR cX9_setting 71 (.iconst 0) 1 72 := ⟨by decide +kernel, rfl⟩
theorem dX9_setting_72 : DR cX9_setting 72 (.istore 7) 2 74 := ⟨by decide +kernel, rfl⟩
theorem dX9_setting_74 : DR cX9_setting 74 (.aload_n 0) 1 75 := ⟨by decide +kernel, rfl⟩
theorem dX9_setting_75 : DR cX9_setting 75 (.getfield 13) 3 78 := ⟨by decide +kernel, rfl⟩
theorem dX9_setting_78 : DR cX9_setting 78 (.iconst 0) 1 79 := ⟨by decide +kernel, rfl⟩
theorem dX9_setting_79 : DR cX9_setting 79 (.iaload) 1 80 := ⟨by decide +kernel, rfl⟩
theorem dX9_setting_80 : DR cX9_setting 80 (.iconst 1) 1 81 := ⟨by decide +kernel, rfl⟩
theorem dX9_setting_81 : DR cX9_setting 81 (.isub) 1 82 := ⟨by decide +kernel, rfl⟩
theorem dX9_setting_82 : DR cX9_setting 82 (.istore 8) 2 84 := ⟨by decide +kernel, rfl⟩
theorem dX9_setting_84 : DR cX9_setting 84 (.iload 8) 2 86 := ⟨by decide +kernel, rfl⟩
theorem dX9_setting_86 : DB cX9_setting 86 (.ifCond .lt 50) 3 (50) 89 136 := ⟨by decide +kernel, rfl, by decide⟩
theorem dX9_setting_89 : DR cX9_setting 89 (.aload_n 0) 1 90 := ⟨by decide +kernel, rfl⟩
theorem dX9_setting_90 : DR cX9_setting 90 (.getfield 22) 3 93 := ⟨by decide +kernel, rfl⟩
theorem dX9_setting_93 : DR cX9_setting 93 (.iload 8) 2 95 := ⟨by decide +kernel, rfl⟩
theorem dX9_setting_95 : DR cX9_setting 95 (.iload 6) 2 97 := ⟨by decide +kernel, rfl⟩
theorem dX9_setting_97 : DR cX9_setting 97 (.aload_n 0) 1 98 := ⟨by decide +kernel, rfl⟩
theorem dX9_setting_98 : DR cX9_setting 98 (.getfield 13) 3 101 := ⟨by decide +kernel, rfl⟩
theorem dX9_setting_101 : DR cX9_setting 101 (.iconst 0) 1 102 := ⟨by decide +kernel, rfl⟩
theorem dX9_setting_102 : DR cX9_setting 102 (.iaload) 1 103 := ⟨by decide +kernel, rfl⟩
theorem dX9_setting_103 : DR cX9_setting 103 (.irem) 1 104 := ⟨by decide +kernel, rfl⟩
theorem dX9_setting_104 : DR cX9_setting 104 (.iastore) 1 105 := ⟨by decide +kernel, rfl⟩
theorem dX9_setting_105 : DR cX9_setting 105 (.iload 7) 2 107 := ⟨by decide +kernel, rfl⟩
theorem dX9_setting_107 : DR cX9_setting 107 (.iconst 1) 1 108 := ⟨by decide +kernel, rfl⟩
theorem dX9_setting_108 : DR cX9_setting 108 (.aload_n 0) 1 109 := ⟨by decide +kernel, rfl⟩
theorem dX9_setting_109 : DR cX9_setting 109 (.getfield 22) 3 112 := ⟨by decide +kernel, rfl⟩
theorem dX9_setting_112 : DR cX9_setting 112 (.iload 8) 2 114 := ⟨by decide +kernel, rfl⟩
theorem dX9_setting_114 : DR cX9_setting 114 (.iaload) 1 115 := ⟨by decide +kernel, rfl⟩
theorem dX9_setting_115 : DR cX9_setting 115 (.ishl) 1 116 := ⟨by decide +kernel, rfl⟩
theorem dX9_setting_116 : DR cX9_setting 116 (.ior) 1 117 := ⟨by decide +kernel, rfl⟩
theorem dX9_setting_117 : DR cX9_setting 117 (.istore 7) 2 119 := ⟨by decide +kernel, rfl⟩
theorem dX9_setting_119 : DR cX9_setting 119 (.iload 6) 2 121 := ⟨by decide +kernel, rfl⟩
theorem dX9_setting_121 : DR cX9_setting 121 (.aload_n 0) 1 122 := ⟨by decide +kernel, rfl⟩
theorem dX9_setting_122 : DR cX9_setting 122 (.getfield 13) 3 125 := ⟨by decide +kernel, rfl⟩
theorem dX9_setting_125 : DR cX9_setting 125 (.iconst 0) 1 126 := ⟨by decide +kernel, rfl⟩
theorem dX9_setting_126 : DR cX9_setting 126 (.iaload) 1 127 := ⟨by decide +kernel, rfl⟩
theorem dX9_setting_127 : DR cX9_setting 127 (.idiv) 1 128 := ⟨by decide +kernel, rfl⟩
theorem dX9_setting_128 : DR cX9_setting 128 (.istore 6) 2 130 := ⟨by decide +kernel, rfl⟩
theorem dX9_setting_130 : DR cX9_setting 130 (.iinc 8 (-1)) 3 133 := ⟨by decide +kernel, rfl⟩
theorem dX9_setting_133 : DB cX9_setting 133 (.goto (-49)) 3 (-49) 136 84 := ⟨by decide +kernel, rfl, by decide⟩
theorem dX9_setting_136 : DR cX9_setting 136 (.iload 7) 2 138 := ⟨by decide +kernel, rfl⟩
theorem dX9_setting_138 : DR cX9_setting 138 (.iconst 1) 1 139 := ⟨by decide +kernel, rfl⟩
theorem dX9_setting_139 : DR cX9_setting 139 (.aload_n 0) 1 140 := ⟨by decide +kernel, rfl⟩
theorem dX9_setting_140 : DR cX9_setting 140 (.getfield 13) 3 143 := ⟨by decide +kernel, rfl⟩
theorem dX9_setting_143 : DR cX9_setting 143 (.iconst 0) 1 144 := ⟨by decide +kernel, rfl⟩
theorem dX9_setting_144 : DR cX9_setting 144 (.iaload) 1 145 := ⟨by decide +kernel, rfl⟩
theorem dX9_setting_145 : DR cX9_setting 145 (.ishl) 1 146 := ⟨by decide +kernel, rfl⟩
theorem dX9_setting_146 : DR cX9_setting 146 (.iconst 1) 1 147 := ⟨by decide +kernel, rfl⟩
theorem dX9_setting_147 : DR cX9_setting 147 (.isub) 1 148 := ⟨by decide +kernel, rfl⟩
theorem dX9_setting_148 : DB cX9_setting 148 (.if_icmp .ne 104) 3 (104) 151 252 := ⟨by decide +kernel, rfl, by decide⟩
theorem dX9_setting_151 : DR cX9_setting 151 (.iconst 0) 1 152 := ⟨by decide +kernel, rfl⟩
theorem dX9_setting_152 : DR cX9_setting 152 (.istore 8) 2 154 := ⟨by decide +kernel, rfl⟩
theorem dX9_setting_154 : DR cX9_setting 154 (.iload 8) 2 156 := ⟨by decide +kernel, rfl⟩
theorem dX9_setting_156 : DR cX9_setting 156 (.aload_n 0) 1 157 := ⟨by decide +kernel, rfl⟩
theorem dX9_setting_157 : DR cX9_setting 157 (.getfield 13) 3 160 := ⟨by decide +kernel, rfl⟩
theorem dX9_setting_160 : DR cX9_setting 160 (.iconst 0) 1 161 := ⟨by decide +kernel, rfl⟩
theorem dX9_setting_161 : DR cX9_setting 161 (.iaload) 1 162 := ⟨by decide +kernel, rfl⟩
theorem dX9_setting_162 : DB cX9_setting 162 (.if_icmp .ge 27) 3 (27) 165 189 := ⟨by decide +kernel, rfl, by decide⟩
theorem dX9_setting_165 : DR cX9_setting 165 (.aload_n 0) 1 166 := ⟨by decide +kernel, rfl⟩
theorem dX9_setting_166 : DR cX9_setting 166 (.getfield 22) 3 169 := ⟨by decide +kernel, rfl⟩
theorem dX9_setting_169 : DR cX9_setting 169 (.iload 8) 2 171 := ⟨by decide +kernel, rfl⟩
theorem dX9_setting_171 : DR cX9_setting 171 (.aload_n 0) 1 172 := ⟨by decide +kernel, rfl⟩
theorem dX9_setting_172 : DR cX9_setting 172 (.aload_n 0) 1 173 := ⟨by decide +kernel, rfl⟩
theorem dX9_setting_173 : DR cX9_setting 173 (.getfield 22) 3 176 := ⟨by decide +kernel, rfl⟩
theorem dX9_setting_176 : DR cX9_setting 176 (.iload 8) 2 178 := ⟨by decide +kernel, rfl⟩
theorem dX9_setting_178 : DR cX9_setting 178 (.iaload) 1 179 := ⟨by decide +kernel, rfl⟩
theorem dX9_setting_179 : DR cX9_setting 179 (.invokevirtual 149) 3 182 := ⟨by decide +kernel, rfl⟩
theorem dX9_setting_182 : DR cX9_setting 182 (.iastore) 1 183 := ⟨by decide +kernel, rfl⟩
theorem dX9_setting_183 : DR cX9_setting 183 (.iinc 8 1) 3 186 := ⟨by decide +kernel, rfl⟩
theorem dX9_setting_186 : DB cX9_setting 186 (.goto (-32)) 3 (-32) 189 154 := ⟨by decide +kernel, rfl, by decide⟩
theorem dX9_setting_189 : DR cX9_setting 189 (.iload_n 1) 1 190 := ⟨by decide +kernel, rfl⟩
theorem dX9_setting_190 : DB cX9_setting 190 (.ifCond .ge 8) 3 (8) 193 198 := ⟨by decide +kernel, rfl, by decide⟩
theorem dX9_setting_193 : DR cX9_setting 193 (.bipush (-4)) 2 195 := ⟨by decide +kernel, rfl⟩
theorem dX9_setting_195 : DB cX9_setting 195 (.goto 9) 3 (9) 198 204 := ⟨by decide +kernel, rfl, by decide⟩
theorem dX9_setting_198 : DR cX9_setting 198 (.aload_n 0) 1 199 := ⟨by decide +kernel, rfl⟩
theorem dX9_setting_199 : DR cX9_setting 199 (.getfield 22) 3 202 := ⟨by decide +kernel, rfl⟩
theorem dX9_setting_202 : DR cX9_setting 202 (.iload_n 1) 1 203 := ⟨by decide +kernel, rfl⟩
theorem dX9_setting_203 : DR cX9_setting 203 (.iaload) 1 204 := ⟨by decide +kernel, rfl⟩
theorem dX9_setting_204 : DR cX9_setting 204 (.istore 8) 2 206 := ⟨by decide +kernel, rfl⟩
theorem dX9_setting_206 : DR cX9_setting 206 (.aload_n 0) 1 207 := ⟨by decide +kernel, rfl⟩
theorem dX9_setting_207 : DR cX9_setting 207 (.bipush 12) 2 209 := ⟨by decide +kernel, rfl⟩
theorem dX9_setting_209 : DR cX9_setting 209 (.invokevirtual 131) 3 212 := ⟨by decide +kernel, rfl⟩
theorem dX9_setting_212 : DR cX9_setting 212 (.istore 9) 2 214 := ⟨by decide +kernel, rfl⟩
theorem dX9_setting_214 : DR cX9_setting 214 (.aload_n 0) 1 215 := ⟨by decide +kernel, rfl⟩
theorem dX9_setting_215 : DR cX9_setting 215 (.invokevirtual 143) 3 218 := ⟨by decide +kernel, rfl⟩
theorem dX9_setting_218 : DR cX9_setting 218 (.aload_n 0) 1 219 := ⟨by decide +kernel, rfl⟩
theorem dX9_setting_219 : DR cX9_setting 219 (.bipush 12) 2 221 := ⟨by decide +kernel, rfl⟩
theorem dX9_setting_221 : DR cX9_setting 221 (.invokevirtual 131) 3 224 := ⟨by decide +kernel, rfl⟩
theorem dX9_setting_224 : DR cX9_setting 224 (.iload 9) 2 226 := ⟨by decide +kernel, rfl⟩
theorem dX9_setting_226 : DB cX9_setting 226 (.if_icmp .ne 26) 3 (26) 229 252 := ⟨by decide +kernel, rfl, by decide⟩
theorem dX9_setting_229 : DR cX9_setting 229 (.aload_n 0) 1 230 := ⟨by decide +kernel, rfl⟩
theorem dX9_setting_230 : DR cX9_setting 230 (.invokevirtual 146) 3 233 := ⟨by decide +kernel, rfl⟩
theorem dX9_setting_233 : DR cX9_setting 233 (.invokestatic 152) 3 236 := ⟨by decide +kernel, rfl⟩
theorem dX9_setting_236 : DR cX9_setting 236 (.iload_n 3) 1 237 := ⟨by decide +kernel, rfl⟩
theorem dX9_setting_237 : DB cX9_setting 237 (.if_icmp .le 15) 3 (15) 240 252 := ⟨by decide +kernel, rfl, by decide⟩
theorem dX9_setting_240 : DR cX9_setting 240 (.aload_n 0) 1 241 := ⟨by decide +kernel, rfl⟩
theorem dX9_setting_241 : DR cX9_setting 241 (.invokevirtual 146) 3 244 := ⟨by decide +kernel, rfl⟩
theorem dX9_setting_244 : DR cX9_setting 244 (.invokestatic 152) 3 247 := ⟨by decide +kernel, rfl⟩
theorem dX9_setting_247 : DR cX9_setting 247 (.istore_n 3) 1 248 := ⟨by decide +kernel, rfl⟩
theorem dX9_setting_248 : DR cX9_setting 248 (.iload 8) 2 250 := ⟨by decide +kernel, rfl⟩
theorem dX9_setting_250 : DR cX9_setting 250 (.istore 4) 2 252 := ⟨by decide +kernel, rfl⟩
theorem dX9_setting_252 : DR cX9_setting 252 (.aload_n 0) 1 253 := ⟨by decide +kernel, rfl⟩
theorem dX9_setting_253 : DR cX9_setting 253 (.invokevirtual 140) 3 256 := ⟨by decide +kernel, rfl⟩
theorem dX9_setting_256 : DR cX9_setting 256 (.iinc 5 1) 3 259 := ⟨by decide +kernel, rfl⟩
theorem dX9_setting_259 : DB cX9_setting 259 (.goto (-198)) 3 (-198) 262 61 := ⟨by decide +kernel, rfl, by decide⟩
theorem dX9_setting_262 : DR cX9_setting 262 (.iload_n 1) 1 263 := ⟨by decide +kernel, rfl⟩
theorem dX9_setting_263 : DB cX9_setting 263 (.ifCond .ge 7) 3 (7) 266 270 := ⟨by decide +kernel, rfl, by decide⟩
theorem dX9_setting_266 : DR cX9_setting 266 (.iload_n 3) 1 267 := ⟨by decide +kernel, rfl⟩
theorem dX9_setting_267 : DB cX9_setting 267 (.goto 5) 3 (5) 270 272 := ⟨by decide +kernel, rfl, by decide⟩
theorem dX9_setting_270 : DR cX9_setting 270 (.iload 4) 2 272 := ⟨by decide +kernel, rfl⟩
theorem dX9_setting_272 : DR cX9_setting 272 (.ireturn) 1 273 := ⟨by decide +kernel, rfl⟩
theorem dX9_shading_0 : DR cX9_shading 0 (.iload_n 1) 1 1 := ⟨by decide +kernel, rfl⟩
theorem dX9_shading_1 : DR cX9_shading 1 (.iconst 0) 1 2 := ⟨by decide +kernel, rfl⟩
theorem dX9_shading_2 : DR cX9_shading 2 (.iconst 1) 1 3 := ⟨by decide +kernel, rfl⟩
theorem dX9_shading_3 : DR cX9_shading 3 (.invokestatic 54) 3 6 := ⟨by decide +kernel, rfl⟩
theorem dX9_shading_6 : DB cX9_shading 6 (.ifCond .ne 5) 3 (5) 9 11 := ⟨by decide +kernel, rfl, by decide⟩
theorem dX9_shading_9 : DR cX9_shading 9 (.iconst (-1)) 1 10 := ⟨by decide +kernel, rfl⟩
theorem dX9_shading_10 : DR cX9_shading 10 (.ireturn) 1 11 := ⟨by decide +kernel, rfl⟩
theorem dX9_shading_11 : DR cX9_shading 11 (.aload_n 0) 1 12 := ⟨by decide +kernel, rfl⟩
theorem dX9_shading_12 : DR cX9_shading 12 (.invokevirtual 137) 3 15 := ⟨by decide +kernel, rfl⟩
theorem dX9_shading_15 : DR cX9_shading 15 (.iconst (-1)) 1 16 := ⟨by decide +kernel, rfl⟩
theorem dX9_shading_16 : DR cX9_shading 16 (.istore_n 2) 1 17 := ⟨by decide +kernel, rfl⟩
theorem dX9_shading_17 : DR cX9_shading 17 (.iconst 0) 1 18 := ⟨by decide +kernel, rfl⟩
theorem dX9_shading_18 : DR cX9_shading 18 (.istore_n 3) 1 19 := ⟨by decide +kernel, rfl⟩
theorem dX9_shading_19 : DR cX9_shading 19 (.iconst 0) 1 20 := ⟨by decide +kernel, rfl⟩
theorem dX9_shading_20 : DR cX9_shading 20 (.istore 4) 2 22 := ⟨by decide +kernel, rfl⟩
theorem dX9_shading_22 : DR cX9_shading 22 (.iload 4) 2 24 := ⟨by decide +kernel, rfl⟩
theorem dX9_shading_24 : DR cX9_shading 24 (.iconst 1) 1 25 := ⟨by decide +kernel, rfl⟩
theorem dX9_shading_25 : DR cX9_shading 25 (.aload_n 0) 1 26 := ⟨by decide +kernel, rfl⟩
theorem dX9_shading_26 : DR cX9_shading 26 (.getfield 13) 3 29 := ⟨by decide +kernel, rfl⟩
theorem dX9_shading_29 : DR cX9_shading 29 (.iconst 0) 1 30 := ⟨by decide +kernel, rfl⟩
theorem dX9_shading_30 : DR cX9_shading 30 (.iaload) 1 31 := ⟨by decide +kernel, rfl⟩
theorem dX9_shading_31 : DR cX9_shading 31 (.ishl) 1 32 := ⟨by decide +kernel, rfl⟩
theorem dX9_shading_32 : DB cX9_shading 32 (.if_icmp .ge 148) 3 (148) 35 180 := ⟨by decide +kernel, rfl, by decide⟩
theorem dX9_shading_35 : DR cX9_shading 35 (.iconst 1) 1 36 := ⟨by decide +kernel, rfl⟩
theorem dX9_shading_36 : DR cX9_shading 36 (.istore 5) 2 38 := ⟨by decide +kernel, rfl⟩
theorem dX9_shading_38 : DR cX9_shading 38 (.iconst 0) 1 39 := ⟨by decide +kernel, rfl⟩
theorem dX9_shading_39 : DR cX9_shading 39 (.istore 6) 2 41 := ⟨by decide +kernel, rfl⟩
theorem dX9_shading_41 : DR cX9_shading 41 (.iload 6) 2 43 := ⟨by decide +kernel, rfl⟩
theorem dX9_shading_43 : DR cX9_shading 43 (.aload_n 0) 1 44 := ⟨by decide +kernel, rfl⟩
theorem dX9_shading_44 : DR cX9_shading 44 (.getfield 13) 3 47 := ⟨by decide +kernel, rfl⟩
theorem dX9_shading_47 : DR cX9_shading 47 (.iconst 0) 1 48 := ⟨by decide +kernel, rfl⟩
theorem dX9_shading_48 : DR cX9_shading 48 (.iaload) 1 49 := ⟨by decide +kernel, rfl⟩
theorem dX9_shading_49 : DB cX9_shading 49 (.if_icmp .ge 64) 3 (64) 52 113 := ⟨by decide +kernel, rfl, by decide⟩
theorem dX9_shading_52 : DR cX9_shading 52 (.iload 5) 2 54 := ⟨by decide +kernel, rfl⟩
theorem dX9_shading_54 : DB cX9_shading 54 (.ifCond .eq 30) 3 (30) 57 84 := ⟨by decide +kernel, rfl, by decide⟩
theorem dX9_shading_57 : DR cX9_shading 57 (.iload 4) 2 59 := ⟨by decide +kernel, rfl⟩
theorem dX9_shading_59 : DR cX9_shading 59 (.iload 6) 2 61 := ⟨by decide +kernel, rfl⟩
theorem dX9_shading_61 : DR cX9_shading 61 (.ishr) 1 62 := ⟨by decide +kernel, rfl⟩
theorem dX9_shading_62 : DR cX9_shading 62 (.iconst 1) 1 63 := ⟨by decide +kernel, rfl⟩
theorem dX9_shading_63 : DR cX9_shading 63 (.iand) 1 64 := ⟨by decide +kernel, rfl⟩
theorem dX9_shading_64 : DB cX9_shading 64 (.ifCond .eq 16) 3 (16) 67 80 := ⟨by decide +kernel, rfl, by decide⟩
theorem dX9_shading_67 : DR cX9_shading 67 (.aload_n 0) 1 68 := ⟨by decide +kernel, rfl⟩
theorem dX9_shading_68 : DR cX9_shading 68 (.getfield 22) 3 71 := ⟨by decide +kernel, rfl⟩
theorem dX9_shading_71 : DR cX9_shading 71 (.bipush 18) 2 73 := ⟨by decide +kernel, rfl⟩
theorem dX9_shading_73 : DR cX9_shading 73 (.iload 6) 2 75 := ⟨by decide +kernel, rfl⟩
theorem dX9_shading_75 : DR cX9_shading 75 (.iadd) 1 76 := ⟨by decide +kernel, rfl⟩
theorem dX9_shading_76 : DR cX9_shading 76 (.iaload) 1 77 := ⟨by decide +kernel, rfl⟩
theorem dX9_shading_77 : DB cX9_shading 77 (.ifCond .ne 7) 3 (7) 80 84 := ⟨by decide +kernel, rfl, by decide⟩
theorem dX9_shading_80 : DR cX9_shading 80 (.iconst 1) 1 81 := ⟨by decide +kernel, rfl⟩
theorem dX9_shading_81 : DB cX9_shading 81 (.goto 4) 3 (4) 84 85 := ⟨by decide +kernel, rfl, by decide⟩
theorem dX9_shading_84 : DR cX9_shading 84 (.iconst 0) 1 85 := ⟨by decide +kernel, rfl⟩
theorem dX9_shading_85 : DR cX9_shading 85 (.istore 5) 2 87 := ⟨by decide +kernel, rfl⟩
theorem dX9_shading_87 : DR cX9_shading 87 (.aload_n 0) 1 88 := ⟨by decide +kernel, rfl⟩
theorem dX9_shading_88 : DR cX9_shading 88 (.getfield 22) 3 91 := ⟨by decide +kernel, rfl⟩
theorem dX9_shading_91 : DR cX9_shading 91 (.bipush 18) 2 93 := ⟨by decide +kernel, rfl⟩
theorem dX9_shading_93 : DR cX9_shading 93 (.iload 6) 2 95 := ⟨by decide +kernel, rfl⟩
theorem dX9_shading_95 : DR cX9_shading 95 (.iadd) 1 96 := ⟨by decide +kernel, rfl⟩
theorem dX9_shading_96 : DR cX9_shading 96 (.dup2) 1 97 := ⟨by decide +kernel, rfl⟩
theorem dX9_shading_97 : DR cX9_shading 97 (.iaload) 1 98 := ⟨by decide +kernel, rfl⟩
theorem dX9_shading_98 : DR cX9_shading 98 (.iload 4) 2 100 := ⟨by decide +kernel, rfl⟩
theorem dX9_shading_100 : DR cX9_shading 100 (.iload 6) 2 102 := ⟨by decide +kernel, rfl⟩
theorem dX9_shading_102 : DR cX9_shading 102 (.ishr) 1 103 := ⟨by decide +kernel, rfl⟩
theorem dX9_shading_103 : DR cX9_shading 103 (.iconst 1) 1 104 := ⟨by decide +kernel, rfl⟩
theorem dX9_shading_104 : DR cX9_shading 104 (.iand) 1 105 := ⟨by decide +kernel, rfl⟩
theorem dX9_shading_105 : DR cX9_shading 105 (.ior) 1 106 := ⟨by decide +kernel, rfl⟩
theorem dX9_shading_106 : DR cX9_shading 106 (.iastore) 1 107 := ⟨by decide +kernel, rfl⟩
theorem dX9_shading_107 : DR cX9_shading 107 (.iinc 6 1) 3 110 := ⟨by decide +kernel, rfl⟩
theorem dX9_shading_110 : DB cX9_shading 110 (.goto (-69)) 3 (-69) 113 41 := ⟨by decide +kernel, rfl, by decide⟩
theorem dX9_shading_113 : DR cX9_shading 113 (.aload_n 0) 1 114 := ⟨by decide +kernel, rfl⟩
theorem dX9_shading_114 : DR cX9_shading 114 (.invokevirtual 143) 3 117 := ⟨by decide +kernel, rfl⟩
theorem dX9_shading_117 : DR cX9_shading 117 (.iload 5) 2 119 := ⟨by decide +kernel, rfl⟩
theorem dX9_shading_119 : DB cX9_shading 119 (.ifCond .eq 13) 3 (13) 122 132 := ⟨by decide +kernel, rfl, by decide⟩
theorem dX9_shading_122 : DR cX9_shading 122 (.aload_n 0) 1 123 := ⟨by decide +kernel, rfl⟩
theorem dX9_shading_123 : DR cX9_shading 123 (.invokevirtual 146) 3 126 := ⟨by decide +kernel, rfl⟩
theorem dX9_shading_126 : DR cX9_shading 126 (.invokestatic 152) 3 129 := ⟨by decide +kernel, rfl⟩
theorem dX9_shading_129 : DB cX9_shading 129 (.goto 4) 3 (4) 132 133 := ⟨by decide +kernel, rfl, by decide⟩
theorem dX9_shading_132 : DR cX9_shading 132 (.iconst (-1)) 1 133 := ⟨by decide +kernel, rfl⟩
theorem dX9_shading_133 : DR cX9_shading 133 (.istore 6) 2 135 := ⟨by decide +kernel, rfl⟩
theorem dX9_shading_135 : DR cX9_shading 135 (.aload_n 0) 1 136 := ⟨by decide +kernel, rfl⟩
theorem dX9_shading_136 : DR cX9_shading 136 (.invokevirtual 140) 3 139 := ⟨by decide +kernel, rfl⟩
theorem dX9_shading_139 : DR cX9_shading 139 (.iload 6) 2 141 := ⟨by decide +kernel, rfl⟩
theorem dX9_shading_141 : DR cX9_shading 141 (.iload_n 2) 1 142 := ⟨by decide +kernel, rfl⟩
theorem dX9_shading_142 : DB cX9_shading 142 (.if_icmp .gt 26) 3 (26) 145 168 := ⟨by decide +kernel, rfl, by decide⟩
theorem dX9_shading_145 : DR cX9_shading 145 (.iload 6) 2 147 := ⟨by decide +kernel, rfl⟩
theorem dX9_shading_147 : DR cX9_shading 147 (.iload_n 2) 1 148 := ⟨by decide +kernel, rfl⟩
theorem dX9_shading_148 : DB cX9_shading 148 (.if_icmp .ne 26) 3 (26) 151 174 := ⟨by decide +kernel, rfl, by decide⟩
theorem dX9_shading_151 : DR cX9_shading 151 (.iload 5) 2 153 := ⟨by decide +kernel, rfl⟩
theorem dX9_shading_153 : DB cX9_shading 153 (.ifCond .eq 21) 3 (21) 156 174 := ⟨by decide +kernel, rfl, by decide⟩
theorem dX9_shading_156 : DR cX9_shading 156 (.iload 4) 2 158 := ⟨by decide +kernel, rfl⟩
theorem dX9_shading_158 : DR cX9_shading 158 (.invokestatic 152) 3 161 := ⟨by decide +kernel, rfl⟩
theorem dX9_shading_161 : DR cX9_shading 161 (.iload_n 3) 1 162 := ⟨by decide +kernel, rfl⟩
theorem dX9_shading_162 : DR cX9_shading 162 (.invokestatic 152) 3 165 := ⟨by decide +kernel, rfl⟩
theorem dX9_shading_165 : DB cX9_shading 165 (.if_icmp .ge 9) 3 (9) 168 174 := ⟨by decide +kernel, rfl, by decide⟩
theorem dX9_shading_168 : DR cX9_shading 168 (.iload 6) 2 170 := ⟨by decide +kernel, rfl⟩
theorem dX9_shading_170 : DR cX9_shading 170 (.istore_n 2) 1 171 := ⟨by decide +kernel, rfl⟩
theorem dX9_shading_171 : DR cX9_shading 171 (.iload 4) 2 173 := ⟨by decide +kernel, rfl⟩
theorem dX9_shading_173 : DR cX9_shading 173 (.istore_n 3) 1 174 := ⟨by decide +kernel, rfl⟩
theorem dX9_shading_174 : DR cX9_shading 174 (.iinc 4 1) 3 177 := ⟨by decide +kernel, rfl⟩
theorem dX9_shading_177 : DB cX9_shading 177 (.goto (-155)) 3 (-155) 180 22 := ⟨by decide +kernel, rfl, by decide⟩
theorem dX9_shading_180 : DR cX9_shading 180 (.iload_n 1) 1 181 := ⟨by decide +kernel, rfl⟩
theorem dX9_shading_181 : DB cX9_shading 181 (.ifCond .ne 7) 3 (7) 184 188 := ⟨by decide +kernel, rfl, by decide⟩
theorem dX9_shading_184 : DR cX9_shading 184 (.iload_n 2) 1 185 := ⟨by decide +kernel, rfl⟩
theorem dX9_shading_185 : DB cX9_shading 185 (.goto 4) 3 (4) 188 189 := ⟨by decide +kernel, rfl, by decide⟩
theorem dX9_shading_188 : DR cX9_shading 188 (.iload_n 3) 1 189 := ⟨by decide +kernel, rfl⟩
theorem dX9_shading_189 : DR cX9_shading 189 (.ireturn) 1 190 := ⟨by decide +kernel, rfl⟩
theorem dX9_wants_0 : DR cX9_wants 0 (.aload_n 0) 1 1 := ⟨by decide +kernel, rfl⟩
theorem dX9_wants_1 : DR cX9_wants 1 (.iload_n 1) 1 2 := ⟨by decide +kernel, rfl⟩
theorem dX9_wants_2 : DR cX9_wants 2 (.invokevirtual 100) 3 5 := ⟨by decide +kernel, rfl⟩
theorem dX9_wants_5 : DB cX9_wants 5 (.ifCond .ne 5) 3 (5) 8 10 := ⟨by decide +kernel, rfl, by decide⟩
theorem dX9_wants_8 : DR cX9_wants 8 (.iconst (-1)) 1 9 := ⟨by decide +kernel, rfl⟩
theorem dX9_wants_9 : DR cX9_wants 9 (.ireturn) 1 10 := ⟨by decide +kernel, rfl⟩
theorem dX9_wants_10 : DR cX9_wants 10 (.aload_n 0) 1 11 := ⟨by decide +kernel, rfl⟩
theorem dX9_wants_11 : DR cX9_wants 11 (.invokevirtual 137) 3 14 := ⟨by decide +kernel, rfl⟩
theorem dX9_wants_14 : DR cX9_wants 14 (.aload_n 0) 1 15 := ⟨by decide +kernel, rfl⟩
theorem dX9_wants_15 : DR cX9_wants 15 (.getfield 13) 3 18 := ⟨by decide +kernel, rfl⟩
theorem dX9_wants_18 : DR cX9_wants 18 (.bipush 11) 2 20 := ⟨by decide +kernel, rfl⟩
theorem dX9_wants_20 : DR cX9_wants 20 (.iload_n 1) 1 21 := ⟨by decide +kernel, rfl⟩
theorem dX9_wants_21 : DR cX9_wants 21 (.iadd) 1 22 := ⟨by decide +kernel, rfl⟩
theorem dX9_wants_22 : DR cX9_wants 22 (.iaload) 1 23 := ⟨by decide +kernel, rfl⟩
theorem dX9_wants_23 : DR cX9_wants 23 (.istore_n 2) 1 24 := ⟨by decide +kernel, rfl⟩
theorem dX9_wants_24 : DR cX9_wants 24 (.bipush (-4)) 2 26 := ⟨by decide +kernel, rfl⟩
theorem dX9_wants_26 : DR cX9_wants 26 (.istore_n 3) 1 27 := ⟨by decide +kernel, rfl⟩
theorem dX9_wants_27 : DR cX9_wants 27 (.iconst 0) 1 28 := ⟨by decide +kernel, rfl⟩
theorem dX9_wants_28 : DR cX9_wants 28 (.istore 4) 2 30 := ⟨by decide +kernel, rfl⟩
theorem dX9_wants_30 : DR cX9_wants 30 (.iload 4) 2 32 := ⟨by decide +kernel, rfl⟩
theorem dX9_wants_32 : DR cX9_wants 32 (.bipush 10) 2 34 := ⟨by decide +kernel, rfl⟩
theorem dX9_wants_34 : DB cX9_wants 34 (.if_icmp .ge 62) 3 (62) 37 96 := ⟨by decide +kernel, rfl, by decide⟩
theorem dX9_wants_37 : DR cX9_wants 37 (.iload_n 3) 1 38 := ⟨by decide +kernel, rfl⟩
theorem dX9_wants_38 : DR cX9_wants 38 (.bipush (-4)) 2 40 := ⟨by decide +kernel, rfl⟩
theorem dX9_wants_40 : DB cX9_wants 40 (.if_icmp .ne 56) 3 (56) 43 96 := ⟨by decide +kernel, rfl, by decide⟩
theorem dX9_wants_43 : DR cX9_wants 43 (.aload_n 0) 1 44 := ⟨by decide +kernel, rfl⟩
theorem dX9_wants_44 : DR cX9_wants 44 (.getfield 13) 3 47 := ⟨by decide +kernel, rfl⟩
theorem dX9_wants_47 : DR cX9_wants 47 (.bipush 11) 2 49 := ⟨by decide +kernel, rfl⟩
theorem dX9_wants_49 : DR cX9_wants 49 (.iload_n 1) 1 50 := ⟨by decide +kernel, rfl⟩
theorem dX9_wants_50 : DR cX9_wants 50 (.iadd) 1 51 := ⟨by decide +kernel, rfl⟩
theorem dX9_wants_51 : DR cX9_wants 51 (.iload_n 2) 1 52 := ⟨by decide +kernel, rfl⟩
theorem dX9_wants_52 : DR cX9_wants 52 (.iload 4) 2 54 := ⟨by decide +kernel, rfl⟩
theorem dX9_wants_54 : DR cX9_wants 54 (.iadd) 1 55 := ⟨by decide +kernel, rfl⟩
theorem dX9_wants_55 : DR cX9_wants 55 (.iastore) 1 56 := ⟨by decide +kernel, rfl⟩
theorem dX9_wants_56 : DR cX9_wants 56 (.aload_n 0) 1 57 := ⟨by decide +kernel, rfl⟩
theorem dX9_wants_57 : DR cX9_wants 57 (.invokevirtual 143) 3 60 := ⟨by decide +kernel, rfl⟩
theorem dX9_wants_60 : DR cX9_wants 60 (.aload_n 0) 1 61 := ⟨by decide +kernel, rfl⟩
theorem dX9_wants_61 : DR cX9_wants 61 (.getfield 22) 3 64 := ⟨by decide +kernel, rfl⟩
theorem dX9_wants_64 : DR cX9_wants 64 (.bipush 6) 2 66 := ⟨by decide +kernel, rfl⟩
theorem dX9_wants_66 : DR cX9_wants 66 (.iload_n 1) 1 67 := ⟨by decide +kernel, rfl⟩
theorem dX9_wants_67 : DR cX9_wants 67 (.iadd) 1 68 := ⟨by decide +kernel, rfl⟩
theorem dX9_wants_68 : DR cX9_wants 68 (.iaload) 1 69 := ⟨by decide +kernel, rfl⟩
theorem dX9_wants_69 : DR cX9_wants 69 (.aload_n 0) 1 70 := ⟨by decide +kernel, rfl⟩
theorem dX9_wants_70 : DR cX9_wants 70 (.getfield 13) 3 73 := ⟨by decide +kernel, rfl⟩
theorem dX9_wants_73 : DR cX9_wants 73 (.iconst 4) 1 74 := ⟨by decide +kernel, rfl⟩
theorem dX9_wants_74 : DR cX9_wants 74 (.iaload) 1 75 := ⟨by decide +kernel, rfl⟩
theorem dX9_wants_75 : DB cX9_wants 75 (.if_icmp .lt 8) 3 (8) 78 83 := ⟨by decide +kernel, rfl, by decide⟩
theorem dX9_wants_78 : DR cX9_wants 78 (.iload 4) 2 80 := ⟨by decide +kernel, rfl⟩
theorem dX9_wants_80 : DB cX9_wants 80 (.goto 5) 3 (5) 83 85 := ⟨by decide +kernel, rfl, by decide⟩
theorem dX9_wants_83 : DR cX9_wants 83 (.bipush (-4)) 2 85 := ⟨by decide +kernel, rfl⟩
theorem dX9_wants_85 : DR cX9_wants 85 (.istore_n 3) 1 86 := ⟨by decide +kernel, rfl⟩
theorem dX9_wants_86 : DR cX9_wants 86 (.aload_n 0) 1 87 := ⟨by decide +kernel, rfl⟩
theorem dX9_wants_87 : DR cX9_wants 87 (.invokevirtual 140) 3 90 := ⟨by decide +kernel, rfl⟩
theorem dX9_wants_90 : DR cX9_wants 90 (.iinc 4 1) 3 93 := ⟨by decide +kernel, rfl⟩
theorem dX9_wants_93 : DB cX9_wants 93 (.goto (-63)) 3 (-63) 96 30 := ⟨by decide +kernel, rfl, by decide⟩
theorem dX9_wants_96 : DR cX9_wants 96 (.aload_n 0) 1 97 := ⟨by decide +kernel, rfl⟩
theorem dX9_wants_97 : DR cX9_wants 97 (.getfield 13) 3 100 := ⟨by decide +kernel, rfl⟩
theorem dX9_wants_100 : DR cX9_wants 100 (.bipush 11) 2 102 := ⟨by decide +kernel, rfl⟩
theorem dX9_wants_102 : DR cX9_wants 102 (.iload_n 1) 1 103 := ⟨by decide +kernel, rfl⟩
theorem dX9_wants_103 : DR cX9_wants 103 (.iadd) 1 104 := ⟨by decide +kernel, rfl⟩
theorem dX9_wants_104 : DR cX9_wants 104 (.iload_n 2) 1 105 := ⟨by decide +kernel, rfl⟩
theorem dX9_wants_105 : DR cX9_wants 105 (.iastore) 1 106 := ⟨by decide +kernel, rfl⟩
theorem dX9_wants_106 : DR cX9_wants 106 (.iload_n 3) 1 107 := ⟨by decide +kernel, rfl⟩
theorem dX9_wants_107 : DR cX9_wants 107 (.ireturn) 1 108 := ⟨by decide +kernel, rfl⟩
theorem dX9_drips_0 : DR cX9_drips 0 (.aload_n 0) 1 1 := ⟨by decide +kernel, rfl⟩
theorem dX9_drips_1 : DR cX9_drips 1 (.iload_n 1) 1 2 := ⟨by decide +kernel, rfl⟩
theorem dX9_drips_2 : DR cX9_drips 2 (.invokevirtual 100) 3 5 := ⟨by decide +kernel, rfl⟩
theorem dX9_drips_5 : DB cX9_drips 5 (.ifCond .ne 5) 3 (5) 8 10 := ⟨by decide +kernel, rfl, by decide⟩
theorem dX9_drips_8 : DR cX9_drips 8 (.iconst (-1)) 1 9 := ⟨by decide +kernel, rfl⟩
theorem dX9_drips_9 : DR cX9_drips 9 (.ireturn) 1 10 := ⟨by decide +kernel, rfl⟩
theorem dX9_drips_10 : DR cX9_drips 10 (.aload_n 0) 1 11 := ⟨by decide +kernel, rfl⟩
theorem dX9_drips_11 : DR cX9_drips 11 (.invokevirtual 137) 3 14 := ⟨by decide +kernel, rfl⟩
theorem dX9_drips_14 : DR cX9_drips 14 (.aload_n 0) 1 15 := ⟨by decide +kernel, rfl⟩
theorem dX9_drips_15 : DR cX9_drips 15 (.iconst 1) 1 16 := ⟨by decide +kernel, rfl⟩
theorem dX9_drips_16 : DR cX9_drips 16 (.invokevirtual 127) 3 19 := ⟨by decide +kernel, rfl⟩
theorem dX9_drips_19 : DR cX9_drips 19 (.aload_n 0) 1 20 := ⟨by decide +kernel, rfl⟩
theorem dX9_drips_20 : DR cX9_drips 20 (.invokevirtual 140) 3 23 := ⟨by decide +kernel, rfl⟩
theorem dX9_drips_23 : DR cX9_drips 23 (.aload_n 0) 1 24 := ⟨by decide +kernel, rfl⟩
theorem dX9_drips_24 : DR cX9_drips 24 (.getfield 34) 3 27 := ⟨by decide +kernel, rfl⟩
theorem dX9_drips_27 : DR cX9_drips 27 (.iload_n 1) 1 28 := ⟨by decide +kernel, rfl⟩
theorem dX9_drips_28 : DR cX9_drips 28 (.iaload) 1 29 := ⟨by decide +kernel, rfl⟩
theorem dX9_drips_29 : DR cX9_drips 29 (.ireturn) 1 30 := ⟨by decide +kernel, rfl⟩
theorem dX9_seen_0 : DR cX9_seen 0 (.aload_n 0) 1 1 := ⟨by decide +kernel, rfl⟩
theorem dX9_seen_1 : DR cX9_seen 1 (.iload_n 1) 1 2 := ⟨by decide +kernel, rfl⟩
theorem dX9_seen_2 : DR cX9_seen 2 (.invokevirtual 100) 3 5 := ⟨by decide +kernel, rfl⟩
theorem dX9_seen_5 : DB cX9_seen 5 (.ifCond .eq 23) 3 (23) 8 28 := ⟨by decide +kernel, rfl, by decide⟩
theorem dX9_seen_8 : DR cX9_seen 8 (.iload_n 2) 1 9 := ⟨by decide +kernel, rfl⟩
theorem dX9_seen_9 : DR cX9_seen 9 (.iconst 0) 1 10 := ⟨by decide +kernel, rfl⟩
theorem dX9_seen_10 : DR cX9_seen 10 (.bipush 27) 2 12 := ⟨by decide +kernel, rfl⟩
theorem dX9_seen_12 : DR cX9_seen 12 (.invokestatic 54) 3 15 := ⟨by decide +kernel, rfl⟩
theorem dX9_seen_15 : DB cX9_seen 15 (.ifCond .eq 13) 3 (13) 18 28 := ⟨by decide +kernel, rfl, by decide⟩
theorem dX9_seen_18 : DR cX9_seen 18 (.iload_n 3) 1 19 := ⟨by decide +kernel, rfl⟩
theorem dX9_seen_19 : DR cX9_seen 19 (.iconst 0) 1 20 := ⟨by decide +kernel, rfl⟩
theorem dX9_seen_20 : DR cX9_seen 20 (.bipush 12) 2 22 := ⟨by decide +kernel, rfl⟩
theorem dX9_seen_22 : DR cX9_seen 22 (.invokestatic 54) 3 25 := ⟨by decide +kernel, rfl⟩
theorem dX9_seen_25 : DB cX9_seen 25 (.ifCond .ne 5) 3 (5) 28 30 := ⟨by decide +kernel, rfl, by decide⟩
theorem dX9_seen_28 : DR cX9_seen 28 (.iconst (-1)) 1 29 := ⟨by decide +kernel, rfl⟩
theorem dX9_seen_29 : DR cX9_seen 29 (.ireturn) 1 30 := ⟨by decide +kernel, rfl⟩
theorem dX9_seen_30 : DR cX9_seen 30 (.aload_n 0) 1 31 := ⟨by decide +kernel, rfl⟩
theorem dX9_seen_31 : DR cX9_seen 31 (.getfield 97) 3 34 := ⟨by decide +kernel, rfl⟩
theorem dX9_seen_34 : DR cX9_seen 34 (.bipush 6) 2 36 := ⟨by decide +kernel, rfl⟩
theorem dX9_seen_36 : DB cX9_seen 36 (.if_icmp .ne 6) 3 (6) 39 42 := ⟨by decide +kernel, rfl, by decide⟩
theorem dX9_seen_39 : DR cX9_seen 39 (.bipush (-3)) 2 41 := ⟨by decide +kernel, rfl⟩
theorem dX9_seen_41 : DR cX9_seen 41 (.ireturn) 1 42 := ⟨by decide +kernel, rfl⟩
theorem dX9_seen_42 : DR cX9_seen 42 (.aload_n 0) 1 43 := ⟨by decide +kernel, rfl⟩
theorem dX9_seen_43 : DR cX9_seen 43 (.getfield 31) 3 46 := ⟨by decide +kernel, rfl⟩
theorem dX9_seen_46 : DR cX9_seen 46 (.aload_n 0) 1 47 := ⟨by decide +kernel, rfl⟩
theorem dX9_seen_47 : DR cX9_seen 47 (.getfield 97) 3 50 := ⟨by decide +kernel, rfl⟩
theorem dX9_seen_50 : DR cX9_seen 50 (.sipush 1000) 3 53 := ⟨by decide +kernel, rfl⟩
theorem dX9_seen_53 : DR cX9_seen 53 (.iload_n 1) 1 54 := ⟨by decide +kernel, rfl⟩
theorem dX9_seen_54 : DR cX9_seen 54 (.imul) 1 55 := ⟨by decide +kernel, rfl⟩
theorem dX9_seen_55 : DR cX9_seen 55 (.bipush 20) 2 57 := ⟨by decide +kernel, rfl⟩
theorem dX9_seen_57 : DR cX9_seen 57 (.iload_n 2) 1 58 := ⟨by decide +kernel, rfl⟩
theorem dX9_seen_58 : DR cX9_seen 58 (.imul) 1 59 := ⟨by decide +kernel, rfl⟩
theorem dX9_seen_59 : DR cX9_seen 59 (.iadd) 1 60 := ⟨by decide +kernel, rfl⟩
theorem dX9_seen_60 : DR cX9_seen 60 (.iload_n 3) 1 61 := ⟨by decide +kernel, rfl⟩
theorem dX9_seen_61 : DR cX9_seen 61 (.iadd) 1 62 := ⟨by decide +kernel, rfl⟩
theorem dX9_seen_62 : DR cX9_seen 62 (.iastore) 1 63 := ⟨by decide +kernel, rfl⟩
theorem dX9_seen_63 : DR cX9_seen 63 (.aload_n 0) 1 64 := ⟨by decide +kernel, rfl⟩
theorem dX9_seen_64 : DR cX9_seen 64 (.dup) 1 65 := ⟨by decide +kernel, rfl⟩
theorem dX9_seen_65 : DR cX9_seen 65 (.getfield 97) 3 68 := ⟨by decide +kernel, rfl⟩
theorem dX9_seen_68 : DR cX9_seen 68 (.iconst 1) 1 69 := ⟨by decide +kernel, rfl⟩
theorem dX9_seen_69 : DR cX9_seen 69 (.iadd) 1 70 := ⟨by decide +kernel, rfl⟩
theorem dX9_seen_70 : DR cX9_seen 70 (.putfield 97) 3 73 := ⟨by decide +kernel, rfl⟩
theorem dX9_seen_73 : DR cX9_seen 73 (.aload_n 0) 1 74 := ⟨by decide +kernel, rfl⟩
theorem dX9_seen_74 : DR cX9_seen 74 (.getfield 97) 3 77 := ⟨by decide +kernel, rfl⟩
theorem dX9_seen_77 : DR cX9_seen 77 (.ireturn) 1 78 := ⟨by decide +kernel, rfl⟩
theorem dX9_forget_0 : DR cX9_forget 0 (.aload_n 0) 1 1 := ⟨by decide +kernel, rfl⟩
theorem dX9_forget_1 : DR cX9_forget 1 (.getfield 97) 3 4 := ⟨by decide +kernel, rfl⟩
theorem dX9_forget_4 : DR cX9_forget 4 (.istore_n 1) 1 5 := ⟨by decide +kernel, rfl⟩
theorem dX9_forget_5 : DR cX9_forget 5 (.aload_n 0) 1 6 := ⟨by decide +kernel, rfl⟩
theorem dX9_forget_6 : DR cX9_forget 6 (.iconst 0) 1 7 := ⟨by decide +kernel, rfl⟩
theorem dX9_forget_7 : DR cX9_forget 7 (.putfield 97) 3 10 := ⟨by decide +kernel, rfl⟩
theorem dX9_forget_10 : DR cX9_forget 10 (.iload_n 1) 1 11 := ⟨by decide +kernel, rfl⟩
theorem dX9_forget_11 : DR cX9_forget 11 (.ireturn) 1 12 := ⟨by decide +kernel, rfl⟩
theorem dX9_isSo_0 : DR cX9_isSo 0 (.iconst 1) 1 1 := ⟨by decide +kernel, rfl⟩
theorem dX9_isSo_1 : DR cX9_isSo 1 (.istore_n 2) 1 2 := ⟨by decide +kernel, rfl⟩
theorem dX9_isSo_2 : DR cX9_isSo 2 (.iconst 0) 1 3 := ⟨by decide +kernel, rfl⟩
theorem dX9_isSo_3 : DR cX9_isSo 3 (.istore_n 3) 1 4 := ⟨by decide +kernel, rfl⟩
theorem dX9_isSo_4 : DR cX9_isSo 4 (.iload_n 3) 1 5 := ⟨by decide +kernel, rfl⟩
theorem dX9_isSo_5 : DR cX9_isSo 5 (.bipush 13) 2 7 := ⟨by decide +kernel, rfl⟩
theorem dX9_isSo_7 : DB cX9_isSo 7 (.if_icmp .ge 133) 3 (133) 10 140 := ⟨by decide +kernel, rfl, by decide⟩
theorem dX9_isSo_10 : DR cX9_isSo 10 (.iconst 0) 1 11 := ⟨by decide +kernel, rfl⟩
theorem dX9_isSo_11 : DR cX9_isSo 11 (.istore 4) 2 13 := ⟨by decide +kernel, rfl⟩
theorem dX9_isSo_13 : DR cX9_isSo 13 (.iload 4) 2 15 := ⟨by decide +kernel, rfl⟩
theorem dX9_isSo_15 : DR cX9_isSo 15 (.aload_n 0) 1 16 := ⟨by decide +kernel, rfl⟩
theorem dX9_isSo_16 : DR cX9_isSo 16 (.getfield 97) 3 19 := ⟨by decide +kernel, rfl⟩
theorem dX9_isSo_19 : DB cX9_isSo 19 (.if_icmp .ge 81) 3 (81) 22 100 := ⟨by decide +kernel, rfl, by decide⟩
theorem dX9_isSo_22 : DR cX9_isSo 22 (.aload_n 0) 1 23 := ⟨by decide +kernel, rfl⟩
theorem dX9_isSo_23 : DR cX9_isSo 23 (.getfield 31) 3 26 := ⟨by decide +kernel, rfl⟩
theorem dX9_isSo_26 : DR cX9_isSo 26 (.iload 4) 2 28 := ⟨by decide +kernel, rfl⟩
theorem dX9_isSo_28 : DR cX9_isSo 28 (.iaload) 1 29 := ⟨by decide +kernel, rfl⟩
theorem dX9_isSo_29 : DR cX9_isSo 29 (.bipush 20) 2 31 := ⟨by decide +kernel, rfl⟩
theorem dX9_isSo_31 : DR cX9_isSo 31 (.irem) 1 32 := ⟨by decide +kernel, rfl⟩
theorem dX9_isSo_32 : DR cX9_isSo 32 (.iload_n 3) 1 33 := ⟨by decide +kernel, rfl⟩
theorem dX9_isSo_33 : DB cX9_isSo 33 (.if_icmp .ne 7) 3 (7) 36 40 := ⟨by decide +kernel, rfl, by decide⟩
theorem dX9_isSo_36 : DR cX9_isSo 36 (.iconst 1) 1 37 := ⟨by decide +kernel, rfl⟩
theorem dX9_isSo_37 : DB cX9_isSo 37 (.goto 4) 3 (4) 40 41 := ⟨by decide +kernel, rfl, by decide⟩
theorem dX9_isSo_40 : DR cX9_isSo 40 (.iconst 0) 1 41 := ⟨by decide +kernel, rfl⟩
theorem dX9_isSo_41 : DR cX9_isSo 41 (.istore 5) 2 43 := ⟨by decide +kernel, rfl⟩
theorem dX9_isSo_43 : DR cX9_isSo 43 (.iload_n 2) 1 44 := ⟨by decide +kernel, rfl⟩
theorem dX9_isSo_44 : DB cX9_isSo 44 (.ifCond .eq 48) 3 (48) 47 92 := ⟨by decide +kernel, rfl, by decide⟩
theorem dX9_isSo_47 : DR cX9_isSo 47 (.iload 5) 2 49 := ⟨by decide +kernel, rfl⟩
theorem dX9_isSo_49 : DB cX9_isSo 49 (.ifCond .eq 39) 3 (39) 52 88 := ⟨by decide +kernel, rfl, by decide⟩
theorem dX9_isSo_52 : DR cX9_isSo 52 (.aload_n 0) 1 53 := ⟨by decide +kernel, rfl⟩
theorem dX9_isSo_53 : DR cX9_isSo 53 (.getfield 22) 3 56 := ⟨by decide +kernel, rfl⟩
theorem dX9_isSo_56 : DR cX9_isSo 56 (.bipush 6) 2 58 := ⟨by decide +kernel, rfl⟩
theorem dX9_isSo_58 : DR cX9_isSo 58 (.aload_n 0) 1 59 := ⟨by decide +kernel, rfl⟩
theorem dX9_isSo_59 : DR cX9_isSo 59 (.getfield 31) 3 62 := ⟨by decide +kernel, rfl⟩
theorem dX9_isSo_62 : DR cX9_isSo 62 (.iload 4) 2 64 := ⟨by decide +kernel, rfl⟩
theorem dX9_isSo_64 : DR cX9_isSo 64 (.iaload) 1 65 := ⟨by decide +kernel, rfl⟩
theorem dX9_isSo_65 : DR cX9_isSo 65 (.sipush 1000) 3 68 := ⟨by decide +kernel, rfl⟩
theorem dX9_isSo_68 : DR cX9_isSo 68 (.idiv) 1 69 := ⟨by decide +kernel, rfl⟩
theorem dX9_isSo_69 : DR cX9_isSo 69 (.iadd) 1 70 := ⟨by decide +kernel, rfl⟩
theorem dX9_isSo_70 : DR cX9_isSo 70 (.iaload) 1 71 := ⟨by decide +kernel, rfl⟩
theorem dX9_isSo_71 : DR cX9_isSo 71 (.aload_n 0) 1 72 := ⟨by decide +kernel, rfl⟩
theorem dX9_isSo_72 : DR cX9_isSo 72 (.getfield 31) 3 75 := ⟨by decide +kernel, rfl⟩
theorem dX9_isSo_75 : DR cX9_isSo 75 (.iload 4) 2 77 := ⟨by decide +kernel, rfl⟩
theorem dX9_isSo_77 : DR cX9_isSo 77 (.iaload) 1 78 := ⟨by decide +kernel, rfl⟩
theorem dX9_isSo_78 : DR cX9_isSo 78 (.sipush 1000) 3 81 := ⟨by decide +kernel, rfl⟩
theorem dX9_isSo_81 : DR cX9_isSo 81 (.irem) 1 82 := ⟨by decide +kernel, rfl⟩
theorem dX9_isSo_82 : DR cX9_isSo 82 (.bipush 20) 2 84 := ⟨by decide +kernel, rfl⟩
theorem dX9_isSo_84 : DR cX9_isSo 84 (.idiv) 1 85 := ⟨by decide +kernel, rfl⟩
theorem dX9_isSo_85 : DB cX9_isSo 85 (.if_icmp .ne 7) 3 (7) 88 92 := ⟨by decide +kernel, rfl, by decide⟩
theorem dX9_isSo_88 : DR cX9_isSo 88 (.iconst 1) 1 89 := ⟨by decide +kernel, rfl⟩
theorem dX9_isSo_89 : DB cX9_isSo 89 (.goto 4) 3 (4) 92 93 := ⟨by decide +kernel, rfl, by decide⟩
theorem dX9_isSo_92 : DR cX9_isSo 92 (.iconst 0) 1 93 := ⟨by decide +kernel, rfl⟩
theorem dX9_isSo_93 : DR cX9_isSo 93 (.istore_n 2) 1 94 := ⟨by decide +kernel, rfl⟩
theorem dX9_isSo_94 : DR cX9_isSo 94 (.iinc 4 1) 3 97 := ⟨by decide +kernel, rfl⟩
theorem dX9_isSo_97 : DB cX9_isSo 97 (.goto (-84)) 3 (-84) 100 13 := ⟨by decide +kernel, rfl, by decide⟩
theorem dX9_isSo_100 : DR cX9_isSo 100 (.aload_n 0) 1 101 := ⟨by decide +kernel, rfl⟩
theorem dX9_isSo_101 : DR cX9_isSo 101 (.iload_n 3) 1 102 := ⟨by decide +kernel, rfl⟩
theorem dX9_isSo_102 : DB cX9_isSo 102 (.ifCond .ne 7) 3 (7) 105 109 := ⟨by decide +kernel, rfl, by decide⟩
theorem dX9_isSo_105 : DR cX9_isSo 105 (.iload_n 1) 1 106 := ⟨by decide +kernel, rfl⟩
theorem dX9_isSo_106 : DB cX9_isSo 106 (.goto 14) 3 (14) 109 120 := ⟨by decide +kernel, rfl, by decide⟩
theorem dX9_isSo_109 : DR cX9_isSo 109 (.aload_n 0) 1 110 := ⟨by decide +kernel, rfl⟩
theorem dX9_isSo_110 : DR cX9_isSo 110 (.aload_n 0) 1 111 := ⟨by decide +kernel, rfl⟩
theorem dX9_isSo_111 : DR cX9_isSo 111 (.getfield 22) 3 114 := ⟨by decide +kernel, rfl⟩
theorem dX9_isSo_114 : DR cX9_isSo 114 (.bipush 25) 2 116 := ⟨by decide +kernel, rfl⟩
theorem dX9_isSo_116 : DR cX9_isSo 116 (.iaload) 1 117 := ⟨by decide +kernel, rfl⟩
theorem dX9_isSo_117 : DR cX9_isSo 117 (.invokevirtual 106) 3 120 := ⟨by decide +kernel, rfl⟩
theorem dX9_isSo_120 : DR cX9_isSo 120 (.aload_n 0) 1 121 := ⟨by decide +kernel, rfl⟩
theorem dX9_isSo_121 : DR cX9_isSo 121 (.aload_n 0) 1 122 := ⟨by decide +kernel, rfl⟩
theorem dX9_isSo_122 : DR cX9_isSo 122 (.getfield 22) 3 125 := ⟨by decide +kernel, rfl⟩
theorem dX9_isSo_125 : DR cX9_isSo 125 (.bipush 25) 2 127 := ⟨by decide +kernel, rfl⟩
theorem dX9_isSo_127 : DR cX9_isSo 127 (.iaload) 1 128 := ⟨by decide +kernel, rfl⟩
theorem dX9_isSo_128 : DR cX9_isSo 128 (.invokevirtual 109) 3 131 := ⟨by decide +kernel, rfl⟩
theorem dX9_isSo_131 : DR cX9_isSo 131 (.invokevirtual 121) 3 134 := ⟨by decide +kernel, rfl⟩
theorem dX9_isSo_134 : DR cX9_isSo 134 (.iinc 3 1) 3 137 := ⟨by decide +kernel, rfl⟩
theorem dX9_isSo_137 : DB cX9_isSo 137 (.goto (-133)) 3 (-133) 140 4 := ⟨by decide +kernel, rfl, by decide⟩
theorem dX9_isSo_140 : DR cX9_isSo 140 (.aload_n 0) 1 141 := ⟨by decide +kernel, rfl⟩
theorem dX9_isSo_141 : DR cX9_isSo 141 (.invokevirtual 140) 3 144 := ⟨by decide +kernel, rfl⟩
theorem dX9_isSo_144 : DR cX9_isSo 144 (.iload_n 2) 1 145 := ⟨by decide +kernel, rfl⟩
theorem dX9_isSo_145 : DR cX9_isSo 145 (.ireturn) 1 146 := ⟨by decide +kernel, rfl⟩
theorem dX9_cows_0 : DR cX9_cows 0 (.aload_n 0) 1 1 := ⟨by decide +kernel, rfl⟩
theorem dX9_cows_1 : DR cX9_cows 1 (.invokevirtual 137) 3 4 := ⟨by decide +kernel, rfl⟩
theorem dX9_cows_4 : DR cX9_cows 4 (.aload_n 0) 1 5 := ⟨by decide +kernel, rfl⟩
theorem dX9_cows_5 : DR cX9_cows 5 (.aload_n 0) 1 6 := ⟨by decide +kernel, rfl⟩
theorem dX9_cows_6 : DR cX9_cows 6 (.aload_n 0) 1 7 := ⟨by decide +kernel, rfl⟩
theorem dX9_cows_7 : DR cX9_cows 7 (.getfield 22) 3 10 := ⟨by decide +kernel, rfl⟩
theorem dX9_cows_10 : DR cX9_cows 10 (.bipush 25) 2 12 := ⟨by decide +kernel, rfl⟩
theorem dX9_cows_12 : DR cX9_cows 12 (.iaload) 1 13 := ⟨by decide +kernel, rfl⟩
theorem dX9_cows_13 : DR cX9_cows 13 (.invokevirtual 106) 3 16 := ⟨by decide +kernel, rfl⟩
theorem dX9_cows_16 : DR cX9_cows 16 (.invokevirtual 155) 3 19 := ⟨by decide +kernel, rfl⟩
theorem dX9_cows_19 : DB cX9_cows 19 (.ifCond .eq 8) 3 (8) 22 27 := ⟨by decide +kernel, rfl, by decide⟩
theorem dX9_cows_22 : DR cX9_cows 22 (.bipush 64) 2 24 := ⟨by decide +kernel, rfl⟩
theorem dX9_cows_24 : DB cX9_cows 24 (.goto 4) 3 (4) 27 28 := ⟨by decide +kernel, rfl, by decide⟩
theorem dX9_cows_27 : DR cX9_cows 27 (.iconst 0) 1 28 := ⟨by decide +kernel, rfl⟩
theorem dX9_cows_28 : DR cX9_cows 28 (.istore_n 1) 1 29 := ⟨by decide +kernel, rfl⟩
theorem dX9_cows_29 : DR cX9_cows 29 (.iconst 0) 1 30 := ⟨by decide +kernel, rfl⟩
theorem dX9_cows_30 : DR cX9_cows 30 (.istore_n 2) 1 31 := ⟨by decide +kernel, rfl⟩
theorem dX9_cows_31 : DR cX9_cows 31 (.iload_n 2) 1 32 := ⟨by decide +kernel, rfl⟩
theorem dX9_cows_32 : DR cX9_cows 32 (.aload_n 0) 1 33 := ⟨by decide +kernel, rfl⟩
theorem dX9_cows_33 : DR cX9_cows 33 (.getfield 13) 3 36 := ⟨by decide +kernel, rfl⟩
theorem dX9_cows_36 : DR cX9_cows 36 (.iconst 0) 1 37 := ⟨by decide +kernel, rfl⟩
theorem dX9_cows_37 : DR cX9_cows 37 (.iaload) 1 38 := ⟨by decide +kernel, rfl⟩
theorem dX9_cows_38 : DB cX9_cows 38 (.if_icmp .ge 50) 3 (50) 41 88 := ⟨by decide +kernel, rfl, by decide⟩
theorem dX9_cows_41 : DR cX9_cows 41 (.aload_n 0) 1 42 := ⟨by decide +kernel, rfl⟩
theorem dX9_cows_42 : DR cX9_cows 42 (.getfield 22) 3 45 := ⟨by decide +kernel, rfl⟩
theorem dX9_cows_45 : DR cX9_cows 45 (.bipush 6) 2 47 := ⟨by decide +kernel, rfl⟩
theorem dX9_cows_47 : DR cX9_cows 47 (.iload_n 2) 1 48 := ⟨by decide +kernel, rfl⟩
theorem dX9_cows_48 : DR cX9_cows 48 (.iadd) 1 49 := ⟨by decide +kernel, rfl⟩
theorem dX9_cows_49 : DR cX9_cows 49 (.dup2) 1 50 := ⟨by decide +kernel, rfl⟩
theorem dX9_cows_50 : DR cX9_cows 50 (.iaload) 1 51 := ⟨by decide +kernel, rfl⟩
theorem dX9_cows_51 : DR cX9_cows 51 (.iconst 2) 1 52 := ⟨by decide +kernel, rfl⟩
theorem dX9_cows_52 : DR cX9_cows 52 (.idiv) 1 53 := ⟨by decide +kernel, rfl⟩
theorem dX9_cows_53 : DR cX9_cows 53 (.iastore) 1 54 := ⟨by decide +kernel, rfl⟩
theorem dX9_cows_54 : DR cX9_cows 54 (.iload_n 1) 1 55 := ⟨by decide +kernel, rfl⟩
theorem dX9_cows_55 : DR cX9_cows 55 (.aload_n 0) 1 56 := ⟨by decide +kernel, rfl⟩
theorem dX9_cows_56 : DR cX9_cows 56 (.aload_n 0) 1 57 := ⟨by decide +kernel, rfl⟩
theorem dX9_cows_57 : DR cX9_cows 57 (.aload_n 0) 1 58 := ⟨by decide +kernel, rfl⟩
theorem dX9_cows_58 : DR cX9_cows 58 (.getfield 22) 3 61 := ⟨by decide +kernel, rfl⟩
theorem dX9_cows_61 : DR cX9_cows 61 (.bipush 25) 2 63 := ⟨by decide +kernel, rfl⟩
theorem dX9_cows_63 : DR cX9_cows 63 (.iaload) 1 64 := ⟨by decide +kernel, rfl⟩
theorem dX9_cows_64 : DR cX9_cows 64 (.invokevirtual 106) 3 67 := ⟨by decide +kernel, rfl⟩
theorem dX9_cows_67 : DR cX9_cows 67 (.invokevirtual 155) 3 70 := ⟨by decide +kernel, rfl⟩
theorem dX9_cows_70 : DB cX9_cows 70 (.ifCond .eq 9) 3 (9) 73 79 := ⟨by decide +kernel, rfl, by decide⟩
theorem dX9_cows_73 : DR cX9_cows 73 (.iconst 1) 1 74 := ⟨by decide +kernel, rfl⟩
theorem dX9_cows_74 : DR cX9_cows 74 (.iload_n 2) 1 75 := ⟨by decide +kernel, rfl⟩
theorem dX9_cows_75 : DR cX9_cows 75 (.ishl) 1 76 := ⟨by decide +kernel, rfl⟩
theorem dX9_cows_76 : DB cX9_cows 76 (.goto 4) 3 (4) 79 80 := ⟨by decide +kernel, rfl, by decide⟩
theorem dX9_cows_79 : DR cX9_cows 79 (.iconst 0) 1 80 := ⟨by decide +kernel, rfl⟩
theorem dX9_cows_80 : DR cX9_cows 80 (.ior) 1 81 := ⟨by decide +kernel, rfl⟩
theorem dX9_cows_81 : DR cX9_cows 81 (.istore_n 1) 1 82 := ⟨by decide +kernel, rfl⟩
theorem dX9_cows_82 : DR cX9_cows 82 (.iinc 2 1) 3 85 := ⟨by decide +kernel, rfl⟩
theorem dX9_cows_85 : DB cX9_cows 85 (.goto (-54)) 3 (-54) 88 31 := ⟨by decide +kernel, rfl, by decide⟩
theorem dX9_cows_88 : DR cX9_cows 88 (.iload_n 1) 1 89 := ⟨by decide +kernel, rfl⟩
theorem dX9_cows_89 : DR cX9_cows 89 (.ireturn) 1 90 := ⟨by decide +kernel, rfl⟩
theorem dX9_colds_0 : DR cX9_colds 0 (.aload_n 0) 1 1 := ⟨by decide +kernel, rfl⟩
theorem dX9_colds_1 : DR cX9_colds 1 (.invokevirtual 137) 3 4 := ⟨by decide +kernel, rfl⟩
theorem dX9_colds_4 : DR cX9_colds 4 (.iconst 0) 1 5 := ⟨by decide +kernel, rfl⟩
theorem dX9_colds_5 : DR cX9_colds 5 (.istore_n 1) 1 6 := ⟨by decide +kernel, rfl⟩
theorem dX9_colds_6 : DR cX9_colds 6 (.iconst 0) 1 7 := ⟨by decide +kernel, rfl⟩
theorem dX9_colds_7 : DR cX9_colds 7 (.istore_n 2) 1 8 := ⟨by decide +kernel, rfl⟩
theorem dX9_colds_8 : DR cX9_colds 8 (.iload_n 2) 1 9 := ⟨by decide +kernel, rfl⟩
theorem dX9_colds_9 : DR cX9_colds 9 (.bipush 10) 2 11 := ⟨by decide +kernel, rfl⟩
theorem dX9_colds_11 : DB cX9_colds 11 (.if_icmp .ge 27) 3 (27) 14 38 := ⟨by decide +kernel, rfl, by decide⟩
theorem dX9_colds_14 : DR cX9_colds 14 (.iload_n 1) 1 15 := ⟨by decide +kernel, rfl⟩
theorem dX9_colds_15 : DR cX9_colds 15 (.aload_n 0) 1 16 := ⟨by decide +kernel, rfl⟩
theorem dX9_colds_16 : DR cX9_colds 16 (.iload_n 2) 1 17 := ⟨by decide +kernel, rfl⟩
theorem dX9_colds_17 : DR cX9_colds 17 (.invokevirtual 155) 3 20 := ⟨by decide +kernel, rfl⟩
theorem dX9_colds_20 : DB cX9_colds 20 (.ifCond .eq 9) 3 (9) 23 29 := ⟨by decide +kernel, rfl, by decide⟩
theorem dX9_colds_23 : DR cX9_colds 23 (.iconst 1) 1 24 := ⟨by decide +kernel, rfl⟩
theorem dX9_colds_24 : DR cX9_colds 24 (.iload_n 2) 1 25 := ⟨by decide +kernel, rfl⟩
theorem dX9_colds_25 : DR cX9_colds 25 (.ishl) 1 26 := ⟨by decide +kernel, rfl⟩
theorem dX9_colds_26 : DB cX9_colds 26 (.goto 4) 3 (4) 29 30 := ⟨by decide +kernel, rfl, by decide⟩
theorem dX9_colds_29 : DR cX9_colds 29 (.iconst 0) 1 30 := ⟨by decide +kernel, rfl⟩
theorem dX9_colds_30 : DR cX9_colds 30 (.ior) 1 31 := ⟨by decide +kernel, rfl⟩
theorem dX9_colds_31 : DR cX9_colds 31 (.istore_n 1) 1 32 := ⟨by decide +kernel, rfl⟩
theorem dX9_colds_32 : DR cX9_colds 32 (.iinc 2 1) 3 35 := ⟨by decide +kernel, rfl⟩
theorem dX9_colds_35 : DB cX9_colds 35 (.goto (-27)) 3 (-27) 38 8 := ⟨by decide +kernel, rfl, by decide⟩
theorem dX9_colds_38 : DR cX9_colds 38 (.iload_n 1) 1 39 := ⟨by decide +kernel, rfl⟩
theorem dX9_colds_39 : DR cX9_colds 39 (.ireturn) 1 40 := ⟨by decide +kernel, rfl⟩
theorem dX9_likely_0 : DR cX9_likely 0 (.aload_n 0) 1 1 := ⟨by decide +kernel, rfl⟩
theorem dX9_likely_1 : DR cX9_likely 1 (.iload_n 1) 1 2 := ⟨by decide +kernel, rfl⟩
theorem dX9_likely_2 : DR cX9_likely 2 (.invokevirtual 100) 3 5 := ⟨by decide +kernel, rfl⟩
theorem dX9_likely_5 : DB cX9_likely 5 (.ifCond .eq 33) 3 (33) 8 38 := ⟨by decide +kernel, rfl, by decide⟩
theorem dX9_likely_8 : DR cX9_likely 8 (.iload_n 2) 1 9 := ⟨by decide +kernel, rfl⟩
theorem dX9_likely_9 : DR cX9_likely 9 (.iconst 0) 1 10 := ⟨by decide +kernel, rfl⟩
theorem dX9_likely_10 : DR cX9_likely 10 (.bipush 6) 2 12 := ⟨by decide +kernel, rfl⟩
theorem dX9_likely_12 : DR cX9_likely 12 (.invokestatic 54) 3 15 := ⟨by decide +kernel, rfl⟩
theorem dX9_likely_15 : DB cX9_likely 15 (.ifCond .eq 23) 3 (23) 18 38 := ⟨by decide +kernel, rfl, by decide⟩
theorem dX9_likely_18 : DR cX9_likely 18 (.iload_n 3) 1 19 := ⟨by decide +kernel, rfl⟩
theorem dX9_likely_19 : DR cX9_likely 19 (.iconst 0) 1 20 := ⟨by decide +kernel, rfl⟩
theorem dX9_likely_20 : DR cX9_likely 20 (.bipush 10) 2 22 := ⟨by decide +kernel, rfl⟩
theorem dX9_likely_22 : DR cX9_likely 22 (.invokestatic 54) 3 25 := ⟨by decide +kernel, rfl⟩
theorem dX9_likely_25 : DB cX9_likely 25 (.ifCond .eq 13) 3 (13) 28 38 := ⟨by decide +kernel, rfl, by decide⟩
theorem dX9_likely_28 : DR cX9_likely 28 (.iload 4) 2 30 := ⟨by decide +kernel, rfl⟩
theorem dX9_likely_30 : DR cX9_likely 30 (.iconst 0) 1 31 := ⟨by decide +kernel, rfl⟩
theorem dX9_likely_31 : DR cX9_likely 31 (.iconst 1) 1 32 := ⟨by decide +kernel, rfl⟩
theorem dX9_likely_32 : DR cX9_likely 32 (.invokestatic 54) 3 35 := ⟨by decide +kernel, rfl⟩
theorem dX9_likely_35 : DB cX9_likely 35 (.ifCond .ne 5) 3 (5) 38 40 := ⟨by decide +kernel, rfl, by decide⟩
theorem dX9_likely_38 : DR cX9_likely 38 (.iconst (-1)) 1 39 := ⟨by decide +kernel, rfl⟩
theorem dX9_likely_39 : DR cX9_likely 39 (.ireturn) 1 40 := ⟨by decide +kernel, rfl⟩
theorem dX9_likely_40 : DR cX9_likely 40 (.aload_n 0) 1 41 := ⟨by decide +kernel, rfl⟩
theorem dX9_likely_41 : DR cX9_likely 41 (.invokevirtual 137) 3 44 := ⟨by decide +kernel, rfl⟩
theorem dX9_likely_44 : DR cX9_likely 44 (.iconst 0) 1 45 := ⟨by decide +kernel, rfl⟩
theorem dX9_likely_45 : DR cX9_likely 45 (.istore 5) 2 47 := ⟨by decide +kernel, rfl⟩
theorem dX9_likely_47 : DR cX9_likely 47 (.iconst 1) 1 48 := ⟨by decide +kernel, rfl⟩
theorem dX9_likely_48 : DR cX9_likely 48 (.istore 6) 2 50 := ⟨by decide +kernel, rfl⟩
theorem dX9_likely_50 : DR cX9_likely 50 (.iconst 0) 1 51 := ⟨by decide +kernel, rfl⟩
theorem dX9_likely_51 : DR cX9_likely 51 (.istore 7) 2 53 := ⟨by decide +kernel, rfl⟩
theorem dX9_likely_53 : DR cX9_likely 53 (.iload 7) 2 55 := ⟨by decide +kernel, rfl⟩
theorem dX9_likely_55 : DR cX9_likely 55 (.iload_n 2) 1 56 := ⟨by decide +kernel, rfl⟩
theorem dX9_likely_56 : DB cX9_likely 56 (.if_icmp .ge 16) 3 (16) 59 72 := ⟨by decide +kernel, rfl, by decide⟩
theorem dX9_likely_59 : DR cX9_likely 59 (.iload 6) 2 61 := ⟨by decide +kernel, rfl⟩
theorem dX9_likely_61 : DR cX9_likely 61 (.bipush 10) 2 63 := ⟨by decide +kernel, rfl⟩
theorem dX9_likely_63 : DR cX9_likely 63 (.imul) 1 64 := ⟨by decide +kernel, rfl⟩
theorem dX9_likely_64 : DR cX9_likely 64 (.istore 6) 2 66 := ⟨by decide +kernel, rfl⟩
theorem dX9_likely_66 : DR cX9_likely 66 (.iinc 7 1) 3 69 := ⟨by decide +kernel, rfl⟩
theorem dX9_likely_69 : DB cX9_likely 69 (.goto (-16)) 3 (-16) 72 53 := ⟨by decide +kernel, rfl, by decide⟩
theorem dX9_likely_72 : DR cX9_likely 72 (.iconst 0) 1 73 := ⟨by decide +kernel, rfl⟩
theorem dX9_likely_73 : DR cX9_likely 73 (.istore 7) 2 75 := ⟨by decide +kernel, rfl⟩
theorem dX9_likely_75 : DR cX9_likely 75 (.iload 7) 2 77 := ⟨by decide +kernel, rfl⟩
theorem dX9_likely_77 : DR cX9_likely 77 (.iconst 1) 1 78 := ⟨by decide +kernel, rfl⟩
theorem dX9_likely_78 : DR cX9_likely 78 (.iload_n 2) 1 79 := ⟨by decide +kernel, rfl⟩
theorem dX9_likely_79 : DR cX9_likely 79 (.ishl) 1 80 := ⟨by decide +kernel, rfl⟩
theorem dX9_likely_80 : DB cX9_likely 80 (.if_icmp .ge 105) 3 (105) 83 185 := ⟨by decide +kernel, rfl, by decide⟩
theorem dX9_likely_83 : DR cX9_likely 83 (.iconst 1) 1 84 := ⟨by decide +kernel, rfl⟩
theorem dX9_likely_84 : DR cX9_likely 84 (.istore 8) 2 86 := ⟨by decide +kernel, rfl⟩
theorem dX9_likely_86 : DR cX9_likely 86 (.iconst 0) 1 87 := ⟨by decide +kernel, rfl⟩
theorem dX9_likely_87 : DR cX9_likely 87 (.istore 9) 2 89 := ⟨by decide +kernel, rfl⟩
theorem dX9_likely_89 : DR cX9_likely 89 (.iload 9) 2 91 := ⟨by decide +kernel, rfl⟩
theorem dX9_likely_91 : DR cX9_likely 91 (.iload_n 2) 1 92 := ⟨by decide +kernel, rfl⟩
theorem dX9_likely_92 : DB cX9_likely 92 (.if_icmp .ge 54) 3 (54) 95 146 := ⟨by decide +kernel, rfl, by decide⟩
theorem dX9_likely_95 : DR cX9_likely 95 (.iload 7) 2 97 := ⟨by decide +kernel, rfl⟩
theorem dX9_likely_97 : DR cX9_likely 97 (.iload 9) 2 99 := ⟨by decide +kernel, rfl⟩
theorem dX9_likely_99 : DR cX9_likely 99 (.ishr) 1 100 := ⟨by decide +kernel, rfl⟩
theorem dX9_likely_100 : DR cX9_likely 100 (.iconst 1) 1 101 := ⟨by decide +kernel, rfl⟩
theorem dX9_likely_101 : DR cX9_likely 101 (.iand) 1 102 := ⟨by decide +kernel, rfl⟩
theorem dX9_likely_102 : DR cX9_likely 102 (.istore 10) 2 104 := ⟨by decide +kernel, rfl⟩
theorem dX9_likely_104 : DR cX9_likely 104 (.iload 8) 2 106 := ⟨by decide +kernel, rfl⟩
theorem dX9_likely_106 : DR cX9_likely 106 (.iload 10) 2 108 := ⟨by decide +kernel, rfl⟩
theorem dX9_likely_108 : DR cX9_likely 108 (.iconst 1) 1 109 := ⟨by decide +kernel, rfl⟩
theorem dX9_likely_109 : DB cX9_likely 109 (.if_icmp .ne 7) 3 (7) 112 116 := ⟨by decide +kernel, rfl, by decide⟩
theorem dX9_likely_112 : DR cX9_likely 112 (.iload_n 3) 1 113 := ⟨by decide +kernel, rfl⟩
theorem dX9_likely_113 : DB cX9_likely 113 (.goto 7) 3 (7) 116 120 := ⟨by decide +kernel, rfl, by decide⟩
theorem dX9_likely_116 : DR cX9_likely 116 (.bipush 10) 2 118 := ⟨by decide +kernel, rfl⟩
theorem dX9_likely_118 : DR cX9_likely 118 (.iload_n 3) 1 119 := ⟨by decide +kernel, rfl⟩
theorem dX9_likely_119 : DR cX9_likely 119 (.isub) 1 120 := ⟨by decide +kernel, rfl⟩
theorem dX9_likely_120 : DR cX9_likely 120 (.imul) 1 121 := ⟨by decide +kernel, rfl⟩
theorem dX9_likely_121 : DR cX9_likely 121 (.istore 8) 2 123 := ⟨by decide +kernel, rfl⟩
theorem dX9_likely_123 : DR cX9_likely 123 (.aload_n 0) 1 124 := ⟨by decide +kernel, rfl⟩
theorem dX9_likely_124 : DR cX9_likely 124 (.aload_n 0) 1 125 := ⟨by decide +kernel, rfl⟩
theorem dX9_likely_125 : DR cX9_likely 125 (.aload_n 0) 1 126 := ⟨by decide +kernel, rfl⟩
theorem dX9_likely_126 : DR cX9_likely 126 (.getfield 22) 3 129 := ⟨by decide +kernel, rfl⟩
theorem dX9_likely_129 : DR cX9_likely 129 (.bipush 25) 2 131 := ⟨by decide +kernel, rfl⟩
theorem dX9_likely_131 : DR cX9_likely 131 (.iaload) 1 132 := ⟨by decide +kernel, rfl⟩
theorem dX9_likely_132 : DR cX9_likely 132 (.invokevirtual 106) 3 135 := ⟨by decide +kernel, rfl⟩
theorem dX9_likely_135 : DR cX9_likely 135 (.iload 10) 2 137 := ⟨by decide +kernel, rfl⟩
theorem dX9_likely_137 : DR cX9_likely 137 (.invokevirtual 121) 3 140 := ⟨by decide +kernel, rfl⟩
theorem dX9_likely_140 : DR cX9_likely 140 (.iinc 9 1) 3 143 := ⟨by decide +kernel, rfl⟩
theorem dX9_likely_143 : DB cX9_likely 143 (.goto (-54)) 3 (-54) 146 89 := ⟨by decide +kernel, rfl, by decide⟩
theorem dX9_likely_146 : DR cX9_likely 146 (.iload 5) 2 148 := ⟨by decide +kernel, rfl⟩
theorem dX9_likely_148 : DR cX9_likely 148 (.aload_n 0) 1 149 := ⟨by decide +kernel, rfl⟩
theorem dX9_likely_149 : DR cX9_likely 149 (.getfield 22) 3 152 := ⟨by decide +kernel, rfl⟩
theorem dX9_likely_152 : DR cX9_likely 152 (.bipush 6) 2 154 := ⟨by decide +kernel, rfl⟩
theorem dX9_likely_154 : DR cX9_likely 154 (.iload_n 1) 1 155 := ⟨by decide +kernel, rfl⟩
theorem dX9_likely_155 : DR cX9_likely 155 (.iadd) 1 156 := ⟨by decide +kernel, rfl⟩
theorem dX9_likely_156 : DR cX9_likely 156 (.iaload) 1 157 := ⟨by decide +kernel, rfl⟩
theorem dX9_likely_157 : DR cX9_likely 157 (.aload_n 0) 1 158 := ⟨by decide +kernel, rfl⟩
theorem dX9_likely_158 : DR cX9_likely 158 (.getfield 13) 3 161 := ⟨by decide +kernel, rfl⟩
theorem dX9_likely_161 : DR cX9_likely 161 (.iconst 4) 1 162 := ⟨by decide +kernel, rfl⟩
theorem dX9_likely_162 : DR cX9_likely 162 (.iaload) 1 163 := ⟨by decide +kernel, rfl⟩
theorem dX9_likely_163 : DB cX9_likely 163 (.if_icmp .lt 8) 3 (8) 166 171 := ⟨by decide +kernel, rfl, by decide⟩
theorem dX9_likely_166 : DR cX9_likely 166 (.iload 8) 2 168 := ⟨by decide +kernel, rfl⟩
theorem dX9_likely_168 : DB cX9_likely 168 (.goto 4) 3 (4) 171 172 := ⟨by decide +kernel, rfl, by decide⟩
theorem dX9_likely_171 : DR cX9_likely 171 (.iconst 0) 1 172 := ⟨by decide +kernel, rfl⟩
theorem dX9_likely_172 : DR cX9_likely 172 (.iadd) 1 173 := ⟨by decide +kernel, rfl⟩
theorem dX9_likely_173 : DR cX9_likely 173 (.istore 5) 2 175 := ⟨by decide +kernel, rfl⟩
theorem dX9_likely_175 : DR cX9_likely 175 (.aload_n 0) 1 176 := ⟨by decide +kernel, rfl⟩
theorem dX9_likely_176 : DR cX9_likely 176 (.invokevirtual 140) 3 179 := ⟨by decide +kernel, rfl⟩
theorem dX9_likely_179 : DR cX9_likely 179 (.iinc 7 1) 3 182 := ⟨by decide +kernel, rfl⟩
theorem dX9_likely_182 : DB cX9_likely 182 (.goto (-107)) 3 (-107) 185 75 := ⟨by decide +kernel, rfl, by decide⟩
theorem dX9_likely_185 : DR cX9_likely 185 (.iload 5) 2 187 := ⟨by decide +kernel, rfl⟩
theorem dX9_likely_187 : DR cX9_likely 187 (.istore 7) 2 189 := ⟨by decide +kernel, rfl⟩
theorem dX9_likely_189 : DR cX9_likely 189 (.iload 6) 2 191 := ⟨by decide +kernel, rfl⟩
theorem dX9_likely_191 : DR cX9_likely 191 (.istore 8) 2 193 := ⟨by decide +kernel, rfl⟩
theorem dX9_likely_193 : DR cX9_likely 193 (.iload 8) 2 195 := ⟨by decide +kernel, rfl⟩
theorem dX9_likely_195 : DB cX9_likely 195 (.ifCond .le 21) 3 (21) 198 216 := ⟨by decide +kernel, rfl, by decide⟩
theorem dX9_likely_198 : DR cX9_likely 198 (.iload 7) 2 200 := ⟨by decide +kernel, rfl⟩
theorem dX9_likely_200 : DR cX9_likely 200 (.iload 8) 2 202 := ⟨by decide +kernel, rfl⟩
theorem dX9_likely_202 : DR cX9_likely 202 (.irem) 1 203 := ⟨by decide +kernel, rfl⟩
theorem dX9_likely_203 : DR cX9_likely 203 (.istore 9) 2 205 := ⟨by decide +kernel, rfl⟩
theorem dX9_likely_205 : DR cX9_likely 205 (.iload 8) 2 207 := ⟨by decide +kernel, rfl⟩
theorem dX9_likely_207 : DR cX9_likely 207 (.istore 7) 2 209 := ⟨by decide +kernel, rfl⟩
theorem dX9_likely_209 : DR cX9_likely 209 (.iload 9) 2 211 := ⟨by decide +kernel, rfl⟩
theorem dX9_likely_211 : DR cX9_likely 211 (.istore 8) 2 213 := ⟨by decide +kernel, rfl⟩
theorem dX9_likely_213 : DB cX9_likely 213 (.goto (-20)) 3 (-20) 216 193 := ⟨by decide +kernel, rfl, by decide⟩
theorem dX9_likely_216 : DR cX9_likely 216 (.iload 4) 2 218 := ⟨by decide +kernel, rfl⟩
theorem dX9_likely_218 : DB cX9_likely 218 (.ifCond .ne 11) 3 (11) 221 229 := ⟨by decide +kernel, rfl, by decide⟩
theorem dX9_likely_221 : DR cX9_likely 221 (.iload 5) 2 223 := ⟨by decide +kernel, rfl⟩
theorem dX9_likely_223 : DR cX9_likely 223 (.iload 7) 2 225 := ⟨by decide +kernel, rfl⟩
theorem dX9_likely_225 : DR cX9_likely 225 (.idiv) 1 226 := ⟨by decide +kernel, rfl⟩
theorem dX9_likely_226 : DB cX9_likely 226 (.goto 8) 3 (8) 229 234 := ⟨by decide +kernel, rfl, by decide⟩
theorem dX9_likely_229 : DR cX9_likely 229 (.iload 6) 2 231 := ⟨by decide +kernel, rfl⟩
theorem dX9_likely_231 : DR cX9_likely 231 (.iload 7) 2 233 := ⟨by decide +kernel, rfl⟩
theorem dX9_likely_233 : DR cX9_likely 233 (.idiv) 1 234 := ⟨by decide +kernel, rfl⟩
theorem dX9_likely_234 : DR cX9_likely 234 (.ireturn) 1 235 := ⟨by decide +kernel, rfl⟩
theorem dX9_turn_0 : DR cX9_turn 0 (.iload_n 1) 1 1 := ⟨by decide +kernel, rfl⟩
theorem dX9_turn_1 : DR cX9_turn 1 (.aload_n 0) 1 2 := ⟨by decide +kernel, rfl⟩
theorem dX9_turn_2 : DR cX9_turn 2 (.getfield 13) 3 5 := ⟨by decide +kernel, rfl⟩
theorem dX9_turn_5 : DR cX9_turn 5 (.iconst 0) 1 6 := ⟨by decide +kernel, rfl⟩
theorem dX9_turn_6 : DR cX9_turn 6 (.iaload) 1 7 := ⟨by decide +kernel, rfl⟩
theorem dX9_turn_7 : DR cX9_turn 7 (.irem) 1 8 := ⟨by decide +kernel, rfl⟩
theorem dX9_turn_8 : DR cX9_turn 8 (.istore_n 2) 1 9 := ⟨by decide +kernel, rfl⟩
theorem dX9_turn_9 : DR cX9_turn 9 (.iload_n 1) 1 10 := ⟨by decide +kernel, rfl⟩
theorem dX9_turn_10 : DR cX9_turn 10 (.bipush 8) 2 12 := ⟨by decide +kernel, rfl⟩
theorem dX9_turn_12 : DR cX9_turn 12 (.idiv) 1 13 := ⟨by decide +kernel, rfl⟩
theorem dX9_turn_13 : DR cX9_turn 13 (.iconst 5) 1 14 := ⟨by decide +kernel, rfl⟩
theorem dX9_turn_14 : DR cX9_turn 14 (.irem) 1 15 := ⟨by decide +kernel, rfl⟩
theorem dX9_turn_15 : DR cX9_turn 15 (.istore_n 3) 1 16 := ⟨by decide +kernel, rfl⟩
theorem dX9_turn_16 : DR cX9_turn 16 (.iload_n 3) 1 17 := ⟨by decide +kernel, rfl⟩
theorem dX9_turn_17 : DB cX9_turn 17 (.ifCond .ne 19) 3 (19) 20 36 := ⟨by decide +kernel, rfl, by decide⟩
theorem dX9_turn_20 : DR cX9_turn 20 (.aload_n 0) 1 21 := ⟨by decide +kernel, rfl⟩
theorem dX9_turn_21 : DR cX9_turn 21 (.getfield 22) 3 24 := ⟨by decide +kernel, rfl⟩
theorem dX9_turn_24 : DR cX9_turn 24 (.bipush 6) 2 26 := ⟨by decide +kernel, rfl⟩
theorem dX9_turn_26 : DR cX9_turn 26 (.iload_n 2) 1 27 := ⟨by decide +kernel, rfl⟩
theorem dX9_turn_27 : DR cX9_turn 27 (.iadd) 1 28 := ⟨by decide +kernel, rfl⟩
theorem dX9_turn_28 : DR cX9_turn 28 (.dup2) 1 29 := ⟨by decide +kernel, rfl⟩
theorem dX9_turn_29 : DR cX9_turn 29 (.iaload) 1 30 := ⟨by decide +kernel, rfl⟩
theorem dX9_turn_30 : DR cX9_turn 30 (.iconst 2) 1 31 := ⟨by decide +kernel, rfl⟩
theorem dX9_turn_31 : DR cX9_turn 31 (.idiv) 1 32 := ⟨by decide +kernel, rfl⟩
theorem dX9_turn_32 : DR cX9_turn 32 (.iastore) 1 33 := ⟨by decide +kernel, rfl⟩
theorem dX9_turn_33 : DB cX9_turn 33 (.goto 41) 3 (41) 36 74 := ⟨by decide +kernel, rfl, by decide⟩
theorem dX9_turn_36 : DR cX9_turn 36 (.iload_n 3) 1 37 := ⟨by decide +kernel, rfl⟩
theorem dX9_turn_37 : DR cX9_turn 37 (.iconst 1) 1 38 := ⟨by decide +kernel, rfl⟩
theorem dX9_turn_38 : DB cX9_turn 38 (.if_icmp .ne 11) 3 (11) 41 49 := ⟨by decide +kernel, rfl, by decide⟩
theorem dX9_turn_41 : DR cX9_turn 41 (.aload_n 0) 1 42 := ⟨by decide +kernel, rfl⟩
theorem dX9_turn_42 : DR cX9_turn 42 (.iload_n 2) 1 43 := ⟨by decide +kernel, rfl⟩
theorem dX9_turn_43 : DR cX9_turn 43 (.invokevirtual 134) 3 46 := ⟨by decide +kernel, rfl⟩
theorem dX9_turn_46 : DB cX9_turn 46 (.goto 28) 3 (28) 49 74 := ⟨by decide +kernel, rfl, by decide⟩
theorem dX9_turn_49 : DR cX9_turn 49 (.iload_n 3) 1 50 := ⟨by decide +kernel, rfl⟩
theorem dX9_turn_50 : DR cX9_turn 50 (.iconst 2) 1 51 := ⟨by decide +kernel, rfl⟩
theorem dX9_turn_51 : DB cX9_turn 51 (.if_icmp .ne 23) 3 (23) 54 74 := ⟨by decide +kernel, rfl, by decide⟩
theorem dX9_turn_54 : DR cX9_turn 54 (.aload_n 0) 1 55 := ⟨by decide +kernel, rfl⟩
theorem dX9_turn_55 : DR cX9_turn 55 (.getfield 22) 3 58 := ⟨by decide +kernel, rfl⟩
theorem dX9_turn_58 : DR cX9_turn 58 (.bipush 18) 2 60 := ⟨by decide +kernel, rfl⟩
theorem dX9_turn_60 : DR cX9_turn 60 (.iload_n 2) 1 61 := ⟨by decide +kernel, rfl⟩
theorem dX9_turn_61 : DR cX9_turn 61 (.iadd) 1 62 := ⟨by decide +kernel, rfl⟩
theorem dX9_turn_62 : DR cX9_turn 62 (.iconst 1) 1 63 := ⟨by decide +kernel, rfl⟩
theorem dX9_turn_63 : DR cX9_turn 63 (.aload_n 0) 1 64 := ⟨by decide +kernel, rfl⟩
theorem dX9_turn_64 : DR cX9_turn 64 (.getfield 22) 3 67 := ⟨by decide +kernel, rfl⟩
theorem dX9_turn_67 : DR cX9_turn 67 (.bipush 18) 2 69 := ⟨by decide +kernel, rfl⟩
theorem dX9_turn_69 : DR cX9_turn 69 (.iload_n 2) 1 70 := ⟨by decide +kernel, rfl⟩
theorem dX9_turn_70 : DR cX9_turn 70 (.iadd) 1 71 := ⟨by decide +kernel, rfl⟩
theorem dX9_turn_71 : DR cX9_turn 71 (.iaload) 1 72 := ⟨by decide +kernel, rfl⟩
theorem dX9_turn_72 : DR cX9_turn 72 (.isub) 1 73 := ⟨by decide +kernel, rfl⟩
theorem dX9_turn_73 : DR cX9_turn 73 (.iastore) 1 74 := ⟨by decide +kernel, rfl⟩
theorem dX9_turn_74 : DR cX9_turn 74 (.aload_n 0) 1 75 := ⟨by decide +kernel, rfl⟩
theorem dX9_turn_75 : DR cX9_turn 75 (.iconst 1) 1 76 := ⟨by decide +kernel, rfl⟩
theorem dX9_turn_76 : DR cX9_turn 76 (.invokevirtual 127) 3 79 := ⟨by decide +kernel, rfl⟩
theorem dX9_turn_79 : DR cX9_turn 79 (.return_) 1 80 := ⟨by decide +kernel, rfl⟩
theorem dX9_year_0 : DR cX9_year 0 (.iload_n 1) 1 1 := ⟨by decide +kernel, rfl⟩
theorem dX9_year_1 : DR cX9_year 1 (.iconst 0) 1 2 := ⟨by decide +kernel, rfl⟩
theorem dX9_year_2 : DR cX9_year 2 (.sipush 9999) 3 5 := ⟨by decide +kernel, rfl⟩
theorem dX9_year_5 : DR cX9_year 5 (.invokestatic 54) 3 8 := ⟨by decide +kernel, rfl⟩
theorem dX9_year_8 : DB cX9_year 8 (.ifCond .eq 22) 3 (22) 11 30 := ⟨by decide +kernel, rfl, by decide⟩
theorem dX9_year_11 : DR cX9_year 11 (.iload_n 2) 1 12 := ⟨by decide +kernel, rfl⟩
theorem dX9_year_12 : DR cX9_year 12 (.iconst 1) 1 13 := ⟨by decide +kernel, rfl⟩
theorem dX9_year_13 : DR cX9_year 13 (.bipush 40) 2 15 := ⟨by decide +kernel, rfl⟩
theorem dX9_year_15 : DR cX9_year 15 (.invokestatic 54) 3 18 := ⟨by decide +kernel, rfl⟩
theorem dX9_year_18 : DB cX9_year 18 (.ifCond .eq 12) 3 (12) 21 30 := ⟨by decide +kernel, rfl, by decide⟩
theorem dX9_year_21 : DR cX9_year 21 (.iload_n 3) 1 22 := ⟨by decide +kernel, rfl⟩
theorem dX9_year_22 : DR cX9_year 22 (.iconst 0) 1 23 := ⟨by decide +kernel, rfl⟩
theorem dX9_year_23 : DR cX9_year 23 (.iconst 2) 1 24 := ⟨by decide +kernel, rfl⟩
theorem dX9_year_24 : DR cX9_year 24 (.invokestatic 54) 3 27 := ⟨by decide +kernel, rfl⟩
theorem dX9_year_27 : DB cX9_year 27 (.ifCond .ne 5) 3 (5) 30 32 := ⟨by decide +kernel, rfl, by decide⟩
theorem dX9_year_30 : DR cX9_year 30 (.iconst (-1)) 1 31 := ⟨by decide +kernel, rfl⟩
theorem dX9_year_31 : DR cX9_year 31 (.ireturn) 1 32 := ⟨by decide +kernel, rfl⟩
theorem dX9_year_32 : DR cX9_year 32 (.aload_n 0) 1 33 := ⟨by decide +kernel, rfl⟩
theorem dX9_year_33 : DR cX9_year 33 (.invokevirtual 137) 3 36 := ⟨by decide +kernel, rfl⟩
theorem dX9_year_36 : DR cX9_year 36 (.iconst 0) 1 37 := ⟨by decide +kernel, rfl⟩
theorem dX9_year_37 : DR cX9_year 37 (.istore 4) 2 39 := ⟨by decide +kernel, rfl⟩
theorem dX9_year_39 : DR cX9_year 39 (.iload 4) 2 41 := ⟨by decide +kernel, rfl⟩
theorem dX9_year_41 : DR cX9_year 41 (.iload_n 2) 1 42 := ⟨by decide +kernel, rfl⟩
theorem dX9_year_42 : DB cX9_year 42 (.if_icmp .ge 43) 3 (43) 45 85 := ⟨by decide +kernel, rfl, by decide⟩
theorem dX9_year_45 : DR cX9_year 45 (.ldc2_w 158) 3 48 := ⟨by decide +kernel, rfl⟩
theorem dX9_year_48 : DR cX9_year 48 (.iload_n 1) 1 49 := ⟨by decide +kernel, rfl⟩
theorem dX9_year_49 : DR cX9_year 49 (.i2l) 1 50 := ⟨by decide +kernel, rfl⟩
theorem dX9_year_50 : DR cX9_year 50 (.lmul) 1 51 := ⟨by decide +kernel, rfl⟩
theorem dX9_year_51 : DR cX9_year 51 (.ldc2_w 160) 3 54 := ⟨by decide +kernel, rfl⟩
theorem dX9_year_54 : DR cX9_year 54 (.iload 4) 2 56 := ⟨by decide +kernel, rfl⟩
theorem dX9_year_56 : DR cX9_year 56 (.i2l) 1 57 := ⟨by decide +kernel, rfl⟩
theorem dX9_year_57 : DR cX9_year 57 (.lmul) 1 58 := ⟨by decide +kernel, rfl⟩
theorem dX9_year_58 : DR cX9_year 58 (.ladd) 1 59 := ⟨by decide +kernel, rfl⟩
theorem dX9_year_59 : DR cX9_year 59 (.lconst 1) 1 60 := ⟨by decide +kernel, rfl⟩
theorem dX9_year_60 : DR cX9_year 60 (.ladd) 1 61 := ⟨by decide +kernel, rfl⟩
theorem dX9_year_61 : DR cX9_year 61 (.lstore 5) 2 63 := ⟨by decide +kernel, rfl⟩
theorem dX9_year_63 : DR cX9_year 63 (.aload_n 0) 1 64 := ⟨by decide +kernel, rfl⟩
theorem dX9_year_64 : DR cX9_year 64 (.lload 5) 2 66 := ⟨by decide +kernel, rfl⟩
theorem dX9_year_66 : DR cX9_year 66 (.lload 5) 2 68 := ⟨by decide +kernel, rfl⟩
theorem dX9_year_68 : DR cX9_year 68 (.lmul) 1 69 := ⟨by decide +kernel, rfl⟩
theorem dX9_year_69 : DR cX9_year 69 (.ldc2_w 162) 3 72 := ⟨by decide +kernel, rfl⟩
theorem dX9_year_72 : DR cX9_year 72 (.lrem) 1 73 := ⟨by decide +kernel, rfl⟩
theorem dX9_year_73 : DR cX9_year 73 (.l2i) 1 74 := ⟨by decide +kernel, rfl⟩
theorem dX9_year_74 : DR cX9_year 74 (.iconst 2) 1 75 := ⟨by decide +kernel, rfl⟩
theorem dX9_year_75 : DR cX9_year 75 (.idiv) 1 76 := ⟨by decide +kernel, rfl⟩
theorem dX9_year_76 : DR cX9_year 76 (.invokevirtual 164) 3 79 := ⟨by decide +kernel, rfl⟩
theorem dX9_year_79 : DR cX9_year 79 (.iinc 4 1) 3 82 := ⟨by decide +kernel, rfl⟩
theorem dX9_year_82 : DB cX9_year 82 (.goto (-43)) 3 (-43) 85 39 := ⟨by decide +kernel, rfl, by decide⟩
theorem dX9_year_85 : DR cX9_year 85 (.iload_n 3) 1 86 := ⟨by decide +kernel, rfl⟩
theorem dX9_year_86 : DB cX9_year 86 (.ifCond .ne 13) 3 (13) 89 99 := ⟨by decide +kernel, rfl, by decide⟩
theorem dX9_year_89 : DR cX9_year 89 (.aload_n 0) 1 90 := ⟨by decide +kernel, rfl⟩
theorem dX9_year_90 : DR cX9_year 90 (.invokevirtual 146) 3 93 := ⟨by decide +kernel, rfl⟩
theorem dX9_year_93 : DR cX9_year 93 (.invokestatic 152) 3 96 := ⟨by decide +kernel, rfl⟩
theorem dX9_year_96 : DB cX9_year 96 (.goto 24) 3 (24) 99 120 := ⟨by decide +kernel, rfl, by decide⟩
theorem dX9_year_99 : DR cX9_year 99 (.iload_n 3) 1 100 := ⟨by decide +kernel, rfl⟩
theorem dX9_year_100 : DR cX9_year 100 (.iconst 1) 1 101 := ⟨by decide +kernel, rfl⟩
theorem dX9_year_101 : DB cX9_year 101 (.if_icmp .ne 13) 3 (13) 104 114 := ⟨by decide +kernel, rfl, by decide⟩
theorem dX9_year_104 : DR cX9_year 104 (.aload_n 0) 1 105 := ⟨by decide +kernel, rfl⟩
theorem dX9_year_105 : DR cX9_year 105 (.getfield 22) 3 108 := ⟨by decide +kernel, rfl⟩
theorem dX9_year_108 : DR cX9_year 108 (.bipush 24) 2 110 := ⟨by decide +kernel, rfl⟩
theorem dX9_year_110 : DR cX9_year 110 (.iaload) 1 111 := ⟨by decide +kernel, rfl⟩
theorem dX9_year_111 : DB cX9_year 111 (.goto 9) 3 (9) 114 120 := ⟨by decide +kernel, rfl, by decide⟩
theorem dX9_year_114 : DR cX9_year 114 (.aload_n 0) 1 115 := ⟨by decide +kernel, rfl⟩
theorem dX9_year_115 : DR cX9_year 115 (.bipush 12) 2 117 := ⟨by decide +kernel, rfl⟩
theorem dX9_year_117 : DR cX9_year 117 (.invokevirtual 131) 3 120 := ⟨by decide +kernel, rfl⟩
theorem dX9_year_120 : DR cX9_year 120 (.istore 4) 2 122 := ⟨by decide +kernel, rfl⟩
theorem dX9_year_122 : DR cX9_year 122 (.aload_n 0) 1 123 := ⟨by decide +kernel, rfl⟩
theorem dX9_year_123 : DR cX9_year 123 (.invokevirtual 140) 3 126 := ⟨by decide +kernel, rfl⟩
theorem dX9_year_126 : DR cX9_year 126 (.iload 4) 2 128 := ⟨by decide +kernel, rfl⟩
theorem dX9_year_128 : DR cX9_year 128 (.ireturn) 1 129 := ⟨by decide +kernel, rfl⟩
theorem dX9_keep_0 : DR cX9_keep 0 (.aload_n 0) 1 1 := ⟨by decide +kernel, rfl⟩
theorem dX9_keep_1 : DR cX9_keep 1 (.getfield 94) 3 4 := ⟨by decide +kernel, rfl⟩
theorem dX9_keep_4 : DR cX9_keep 4 (.iconst 2) 1 5 := ⟨by decide +kernel, rfl⟩
theorem dX9_keep_5 : DB cX9_keep 5 (.if_icmp .ne 6) 3 (6) 8 11 := ⟨by decide +kernel, rfl, by decide⟩
theorem dX9_keep_8 : DR cX9_keep 8 (.bipush (-3)) 2 10 := ⟨by decide +kernel, rfl⟩
theorem dX9_keep_10 : DR cX9_keep 10 (.ireturn) 1 11 := ⟨by decide +kernel, rfl⟩
theorem dX9_keep_11 : DR cX9_keep 11 (.iconst 0) 1 12 := ⟨by decide +kernel, rfl⟩
theorem dX9_keep_12 : DR cX9_keep 12 (.istore_n 1) 1 13 := ⟨by decide +kernel, rfl⟩
theorem dX9_keep_13 : DR cX9_keep 13 (.iload_n 1) 1 14 := ⟨by decide +kernel, rfl⟩
theorem dX9_keep_14 : DR cX9_keep 14 (.bipush 26) 2 16 := ⟨by decide +kernel, rfl⟩
theorem dX9_keep_16 : DB cX9_keep 16 (.if_icmp .ge 29) 3 (29) 19 45 := ⟨by decide +kernel, rfl, by decide⟩
theorem dX9_keep_19 : DR cX9_keep 19 (.aload_n 0) 1 20 := ⟨by decide +kernel, rfl⟩
theorem dX9_keep_20 : DR cX9_keep 20 (.getfield 28) 3 23 := ⟨by decide +kernel, rfl⟩
theorem dX9_keep_23 : DR cX9_keep 23 (.bipush 26) 2 25 := ⟨by decide +kernel, rfl⟩
theorem dX9_keep_25 : DR cX9_keep 25 (.aload_n 0) 1 26 := ⟨by decide +kernel, rfl⟩
theorem dX9_keep_26 : DR cX9_keep 26 (.getfield 94) 3 29 := ⟨by decide +kernel, rfl⟩
theorem dX9_keep_29 : DR cX9_keep 29 (.imul) 1 30 := ⟨by decide +kernel, rfl⟩
theorem dX9_keep_30 : DR cX9_keep 30 (.iload_n 1) 1 31 := ⟨by decide +kernel, rfl⟩
theorem dX9_keep_31 : DR cX9_keep 31 (.iadd) 1 32 := ⟨by decide +kernel, rfl⟩
theorem dX9_keep_32 : DR cX9_keep 32 (.aload_n 0) 1 33 := ⟨by decide +kernel, rfl⟩
theorem dX9_keep_33 : DR cX9_keep 33 (.getfield 22) 3 36 := ⟨by decide +kernel, rfl⟩
theorem dX9_keep_36 : DR cX9_keep 36 (.iload_n 1) 1 37 := ⟨by decide +kernel, rfl⟩
theorem dX9_keep_37 : DR cX9_keep 37 (.iaload) 1 38 := ⟨by decide +kernel, rfl⟩
theorem dX9_keep_38 : DR cX9_keep 38 (.iastore) 1 39 := ⟨by decide +kernel, rfl⟩
theorem dX9_keep_39 : DR cX9_keep 39 (.iinc 1 1) 3 42 := ⟨by decide +kernel, rfl⟩
theorem dX9_keep_42 : DB cX9_keep 42 (.goto (-29)) 3 (-29) 45 13 := ⟨by decide +kernel, rfl, by decide⟩
theorem dX9_keep_45 : DR cX9_keep 45 (.aload_n 0) 1 46 := ⟨by decide +kernel, rfl⟩
theorem dX9_keep_46 : DR cX9_keep 46 (.dup) 1 47 := ⟨by decide +kernel, rfl⟩
theorem dX9_keep_47 : DR cX9_keep 47 (.getfield 94) 3 50 := ⟨by decide +kernel, rfl⟩
theorem dX9_keep_50 : DR cX9_keep 50 (.iconst 1) 1 51 := ⟨by decide +kernel, rfl⟩
theorem dX9_keep_51 : DR cX9_keep 51 (.iadd) 1 52 := ⟨by decide +kernel, rfl⟩
theorem dX9_keep_52 : DR cX9_keep 52 (.putfield 94) 3 55 := ⟨by decide +kernel, rfl⟩
theorem dX9_keep_55 : DR cX9_keep 55 (.aload_n 0) 1 56 := ⟨by decide +kernel, rfl⟩
theorem dX9_keep_56 : DR cX9_keep 56 (.getfield 94) 3 59 := ⟨by decide +kernel, rfl⟩
theorem dX9_keep_59 : DR cX9_keep 59 (.ireturn) 1 60 := ⟨by decide +kernel, rfl⟩
theorem dX9_back_0 : DR cX9_back 0 (.aload_n 0) 1 1 := ⟨by decide +kernel, rfl⟩
theorem dX9_back_1 : DR cX9_back 1 (.getfield 94) 3 4 := ⟨by decide +kernel, rfl⟩
theorem dX9_back_4 : DB cX9_back 4 (.ifCond .ne 6) 3 (6) 7 10 := ⟨by decide +kernel, rfl, by decide⟩
theorem dX9_back_7 : DR cX9_back 7 (.bipush (-2)) 2 9 := ⟨by decide +kernel, rfl⟩
theorem dX9_back_9 : DR cX9_back 9 (.ireturn) 1 10 := ⟨by decide +kernel, rfl⟩
theorem dX9_back_10 : DR cX9_back 10 (.aload_n 0) 1 11 := ⟨by decide +kernel, rfl⟩
theorem dX9_back_11 : DR cX9_back 11 (.dup) 1 12 := ⟨by decide +kernel, rfl⟩
theorem dX9_back_12 : DR cX9_back 12 (.getfield 94) 3 15 := ⟨by decide +kernel, rfl⟩
theorem dX9_back_15 : DR cX9_back 15 (.iconst 1) 1 16 := ⟨by decide +kernel, rfl⟩
theorem dX9_back_16 : DR cX9_back 16 (.isub) 1 17 := ⟨by decide +kernel, rfl⟩
theorem dX9_back_17 : DR cX9_back 17 (.putfield 94) 3 20 := ⟨by decide +kernel, rfl⟩
theorem dX9_back_20 : DR cX9_back 20 (.iconst 0) 1 21 := ⟨by decide +kernel, rfl⟩
theorem dX9_back_21 : DR cX9_back 21 (.istore_n 1) 1 22 := ⟨by decide +kernel, rfl⟩
theorem dX9_back_22 : DR cX9_back 22 (.iload_n 1) 1 23 := ⟨by decide +kernel, rfl⟩
theorem dX9_back_23 : DR cX9_back 23 (.bipush 26) 2 25 := ⟨by decide +kernel, rfl⟩
theorem dX9_back_25 : DB cX9_back 25 (.if_icmp .ge 29) 3 (29) 28 54 := ⟨by decide +kernel, rfl, by decide⟩
theorem dX9_back_28 : DR cX9_back 28 (.aload_n 0) 1 29 := ⟨by decide +kernel, rfl⟩
theorem dX9_back_29 : DR cX9_back 29 (.getfield 22) 3 32 := ⟨by decide +kernel, rfl⟩
theorem dX9_back_32 : DR cX9_back 32 (.iload_n 1) 1 33 := ⟨by decide +kernel, rfl⟩
theorem dX9_back_33 : DR cX9_back 33 (.aload_n 0) 1 34 := ⟨by decide +kernel, rfl⟩
theorem dX9_back_34 : DR cX9_back 34 (.getfield 28) 3 37 := ⟨by decide +kernel, rfl⟩
theorem dX9_back_37 : DR cX9_back 37 (.bipush 26) 2 39 := ⟨by decide +kernel, rfl⟩
theorem dX9_back_39 : DR cX9_back 39 (.aload_n 0) 1 40 := ⟨by decide +kernel, rfl⟩
theorem dX9_back_40 : DR cX9_back 40 (.getfield 94) 3 43 := ⟨by decide +kernel, rfl⟩
theorem dX9_back_43 : DR cX9_back 43 (.imul) 1 44 := ⟨by decide +kernel, rfl⟩
theorem dX9_back_44 : DR cX9_back 44 (.iload_n 1) 1 45 := ⟨by decide +kernel, rfl⟩
theorem dX9_back_45 : DR cX9_back 45 (.iadd) 1 46 := ⟨by decide +kernel, rfl⟩
theorem dX9_back_46 : DR cX9_back 46 (.iaload) 1 47 := ⟨by decide +kernel, rfl⟩
theorem dX9_back_47 : DR cX9_back 47 (.iastore) 1 48 := ⟨by decide +kernel, rfl⟩
theorem dX9_back_48 : DR cX9_back 48 (.iinc 1 1) 3 51 := ⟨by decide +kernel, rfl⟩
theorem dX9_back_51 : DB cX9_back 51 (.goto (-29)) 3 (-29) 54 22 := ⟨by decide +kernel, rfl, by decide⟩
theorem dX9_back_54 : DR cX9_back 54 (.aload_n 0) 1 55 := ⟨by decide +kernel, rfl⟩
theorem dX9_back_55 : DR cX9_back 55 (.iconst 0) 1 56 := ⟨by decide +kernel, rfl⟩
theorem dX9_back_56 : DR cX9_back 56 (.putfield 91) 3 59 := ⟨by decide +kernel, rfl⟩
theorem dX9_back_59 : DR cX9_back 59 (.aload_n 0) 1 60 := ⟨by decide +kernel, rfl⟩
theorem dX9_back_60 : DR cX9_back 60 (.getfield 94) 3 63 := ⟨by decide +kernel, rfl⟩
theorem dX9_back_63 : DR cX9_back 63 (.ireturn) 1 64 := ⟨by decide +kernel, rfl⟩
theorem dX9_count_0 : DR cX9_count 0 (.iload_n 1) 1 1 := ⟨by decide +kernel, rfl⟩
theorem dX9_count_1 : DR cX9_count 1 (.tableswitch 131 0 10 #[59, 66, 74, 81, 89, 96, 103, 111, 116, 121, 126]) 59 60 := ⟨by decide +kernel, rfl⟩
theorem dX9_count_60 : DR cX9_count 60 (.aload_n 0) 1 61 := ⟨by decide +kernel, rfl⟩
theorem dX9_count_61 : DR cX9_count 61 (.getfield 13) 3 64 := ⟨by decide +kernel, rfl⟩
theorem dX9_count_64 : DR cX9_count 64 (.iconst 0) 1 65 := ⟨by decide +kernel, rfl⟩
theorem dX9_count_65 : DR cX9_count 65 (.iaload) 1 66 := ⟨by decide +kernel, rfl⟩
theorem dX9_count_66 : DR cX9_count 66 (.ireturn) 1 67 := ⟨by decide +kernel, rfl⟩
theorem dX9_count_67 : DR cX9_count 67 (.aload_n 0) 1 68 := ⟨by decide +kernel, rfl⟩
theorem dX9_count_68 : DR cX9_count 68 (.getfield 22) 3 71 := ⟨by decide +kernel, rfl⟩
theorem dX9_count_71 : DR cX9_count 71 (.bipush 25) 2 73 := ⟨by decide +kernel, rfl⟩
theorem dX9_count_73 : DR cX9_count 73 (.iaload) 1 74 := ⟨by decide +kernel, rfl⟩
theorem dX9_count_74 : DR cX9_count 74 (.ireturn) 1 75 := ⟨by decide +kernel, rfl⟩
theorem dX9_count_75 : DR cX9_count 75 (.aload_n 0) 1 76 := ⟨by decide +kernel, rfl⟩
theorem dX9_count_76 : DR cX9_count 76 (.bipush 6) 2 78 := ⟨by decide +kernel, rfl⟩
theorem dX9_count_78 : DR cX9_count 78 (.invokevirtual 131) 3 81 := ⟨by decide +kernel, rfl⟩
theorem dX9_count_81 : DR cX9_count 81 (.ireturn) 1 82 := ⟨by decide +kernel, rfl⟩
theorem dX9_count_82 : DR cX9_count 82 (.aload_n 0) 1 83 := ⟨by decide +kernel, rfl⟩
theorem dX9_count_83 : DR cX9_count 83 (.getfield 22) 3 86 := ⟨by decide +kernel, rfl⟩
theorem dX9_count_86 : DR cX9_count 86 (.bipush 24) 2 88 := ⟨by decide +kernel, rfl⟩
theorem dX9_count_88 : DR cX9_count 88 (.iaload) 1 89 := ⟨by decide +kernel, rfl⟩
theorem dX9_count_89 : DR cX9_count 89 (.ireturn) 1 90 := ⟨by decide +kernel, rfl⟩
theorem dX9_count_90 : DR cX9_count 90 (.aload_n 0) 1 91 := ⟨by decide +kernel, rfl⟩
theorem dX9_count_91 : DR cX9_count 91 (.bipush 12) 2 93 := ⟨by decide +kernel, rfl⟩
theorem dX9_count_93 : DR cX9_count 93 (.invokevirtual 131) 3 96 := ⟨by decide +kernel, rfl⟩
theorem dX9_count_96 : DR cX9_count 96 (.ireturn) 1 97 := ⟨by decide +kernel, rfl⟩
theorem dX9_count_97 : DR cX9_count 97 (.aload_n 0) 1 98 := ⟨by decide +kernel, rfl⟩
theorem dX9_count_98 : DR cX9_count 98 (.bipush 18) 2 100 := ⟨by decide +kernel, rfl⟩
theorem dX9_count_100 : DR cX9_count 100 (.invokevirtual 131) 3 103 := ⟨by decide +kernel, rfl⟩
theorem dX9_count_103 : DR cX9_count 103 (.ireturn) 1 104 := ⟨by decide +kernel, rfl⟩
theorem dX9_count_104 : DR cX9_count 104 (.aload_n 0) 1 105 := ⟨by decide +kernel, rfl⟩
theorem dX9_count_105 : DR cX9_count 105 (.invokevirtual 146) 3 108 := ⟨by decide +kernel, rfl⟩
theorem dX9_count_108 : DR cX9_count 108 (.invokestatic 152) 3 111 := ⟨by decide +kernel, rfl⟩
theorem dX9_count_111 : DR cX9_count 111 (.ireturn) 1 112 := ⟨by decide +kernel, rfl⟩
theorem dX9_count_112 : DR cX9_count 112 (.aload_n 0) 1 113 := ⟨by decide +kernel, rfl⟩
theorem dX9_count_113 : DR cX9_count 113 (.getfield 97) 3 116 := ⟨by decide +kernel, rfl⟩
theorem dX9_count_116 : DR cX9_count 116 (.ireturn) 1 117 := ⟨by decide +kernel, rfl⟩
theorem dX9_count_117 : DR cX9_count 117 (.aload_n 0) 1 118 := ⟨by decide +kernel, rfl⟩
theorem dX9_count_118 : DR cX9_count 118 (.getfield 91) 3 121 := ⟨by decide +kernel, rfl⟩
theorem dX9_count_121 : DR cX9_count 121 (.ireturn) 1 122 := ⟨by decide +kernel, rfl⟩
theorem dX9_count_122 : DR cX9_count 122 (.aload_n 0) 1 123 := ⟨by decide +kernel, rfl⟩
theorem dX9_count_123 : DR cX9_count 123 (.getfield 94) 3 126 := ⟨by decide +kernel, rfl⟩
theorem dX9_count_126 : DR cX9_count 126 (.ireturn) 1 127 := ⟨by decide +kernel, rfl⟩
theorem dX9_count_127 : DR cX9_count 127 (.aload_n 0) 1 128 := ⟨by decide +kernel, rfl⟩
theorem dX9_count_128 : DR cX9_count 128 (.getfield 58) 3 131 := ⟨by decide +kernel, rfl⟩
theorem dX9_count_131 : DR cX9_count 131 (.ireturn) 1 132 := ⟨by decide +kernel, rfl⟩
theorem dX9_count_132 : DR cX9_count 132 (.iconst (-1)) 1 133 := ⟨by decide +kernel, rfl⟩
theorem dX9_count_133 : DR cX9_count 133 (.ireturn) 1 134 := ⟨by decide +kernel, rfl⟩
theorem dJ6_bitCount_0f7a4_0 : DR cJ6_bitCount_0f7a4 0 (.iload_n 0) 1 1 := ⟨by decide +kernel, rfl⟩
theorem dJ6_bitCount_0f7a4_1 : DR cJ6_bitCount_0f7a4 1 (.iload_n 0) 1 2 := ⟨by decide +kernel, rfl⟩
theorem dJ6_bitCount_0f7a4_2 : DR cJ6_bitCount_0f7a4 2 (.iconst 1) 1 3 := ⟨by decide +kernel, rfl⟩
theorem dJ6_bitCount_0f7a4_3 : DR cJ6_bitCount_0f7a4 3 (.iushr) 1 4 := ⟨by decide +kernel, rfl⟩
theorem dJ6_bitCount_0f7a4_4 : DR cJ6_bitCount_0f7a4 4 (.ldc_w 265) 3 7 := ⟨by decide +kernel, rfl⟩
theorem dJ6_bitCount_0f7a4_7 : DR cJ6_bitCount_0f7a4 7 (.iand) 1 8 := ⟨by decide +kernel, rfl⟩
theorem dJ6_bitCount_0f7a4_8 : DR cJ6_bitCount_0f7a4 8 (.isub) 1 9 := ⟨by decide +kernel, rfl⟩
theorem dJ6_bitCount_0f7a4_9 : DR cJ6_bitCount_0f7a4 9 (.istore_n 0) 1 10 := ⟨by decide +kernel, rfl⟩
theorem dJ6_bitCount_0f7a4_10 : DR cJ6_bitCount_0f7a4 10 (.iload_n 0) 1 11 := ⟨by decide +kernel, rfl⟩
theorem dJ6_bitCount_0f7a4_11 : DR cJ6_bitCount_0f7a4 11 (.ldc_w 266) 3 14 := ⟨by decide +kernel, rfl⟩
theorem dJ6_bitCount_0f7a4_14 : DR cJ6_bitCount_0f7a4 14 (.iand) 1 15 := ⟨by decide +kernel, rfl⟩
theorem dJ6_bitCount_0f7a4_15 : DR cJ6_bitCount_0f7a4 15 (.iload_n 0) 1 16 := ⟨by decide +kernel, rfl⟩
theorem dJ6_bitCount_0f7a4_16 : DR cJ6_bitCount_0f7a4 16 (.iconst 2) 1 17 := ⟨by decide +kernel, rfl⟩
theorem dJ6_bitCount_0f7a4_17 : DR cJ6_bitCount_0f7a4 17 (.iushr) 1 18 := ⟨by decide +kernel, rfl⟩
theorem dJ6_bitCount_0f7a4_18 : DR cJ6_bitCount_0f7a4 18 (.ldc_w 266) 3 21 := ⟨by decide +kernel, rfl⟩
theorem dJ6_bitCount_0f7a4_21 : DR cJ6_bitCount_0f7a4 21 (.iand) 1 22 := ⟨by decide +kernel, rfl⟩
theorem dJ6_bitCount_0f7a4_22 : DR cJ6_bitCount_0f7a4 22 (.iadd) 1 23 := ⟨by decide +kernel, rfl⟩
theorem dJ6_bitCount_0f7a4_23 : DR cJ6_bitCount_0f7a4 23 (.istore_n 0) 1 24 := ⟨by decide +kernel, rfl⟩
theorem dJ6_bitCount_0f7a4_24 : DR cJ6_bitCount_0f7a4 24 (.iload_n 0) 1 25 := ⟨by decide +kernel, rfl⟩
theorem dJ6_bitCount_0f7a4_25 : DR cJ6_bitCount_0f7a4 25 (.iload_n 0) 1 26 := ⟨by decide +kernel, rfl⟩
theorem dJ6_bitCount_0f7a4_26 : DR cJ6_bitCount_0f7a4 26 (.iconst 4) 1 27 := ⟨by decide +kernel, rfl⟩
theorem dJ6_bitCount_0f7a4_27 : DR cJ6_bitCount_0f7a4 27 (.iushr) 1 28 := ⟨by decide +kernel, rfl⟩
theorem dJ6_bitCount_0f7a4_28 : DR cJ6_bitCount_0f7a4 28 (.iadd) 1 29 := ⟨by decide +kernel, rfl⟩
theorem dJ6_bitCount_0f7a4_29 : DR cJ6_bitCount_0f7a4 29 (.ldc_w 267) 3 32 := ⟨by decide +kernel, rfl⟩
theorem dJ6_bitCount_0f7a4_32 : DR cJ6_bitCount_0f7a4 32 (.iand) 1 33 := ⟨by decide +kernel, rfl⟩
theorem dJ6_bitCount_0f7a4_33 : DR cJ6_bitCount_0f7a4 33 (.istore_n 0) 1 34 := ⟨by decide +kernel, rfl⟩
theorem dJ6_bitCount_0f7a4_34 : DR cJ6_bitCount_0f7a4 34 (.iload_n 0) 1 35 := ⟨by decide +kernel, rfl⟩
theorem dJ6_bitCount_0f7a4_35 : DR cJ6_bitCount_0f7a4 35 (.iload_n 0) 1 36 := ⟨by decide +kernel, rfl⟩
theorem dJ6_bitCount_0f7a4_36 : DR cJ6_bitCount_0f7a4 36 (.bipush 8) 2 38 := ⟨by decide +kernel, rfl⟩
theorem dJ6_bitCount_0f7a4_38 : DR cJ6_bitCount_0f7a4 38 (.iushr) 1 39 := ⟨by decide +kernel, rfl⟩
theorem dJ6_bitCount_0f7a4_39 : DR cJ6_bitCount_0f7a4 39 (.iadd) 1 40 := ⟨by decide +kernel, rfl⟩
theorem dJ6_bitCount_0f7a4_40 : DR cJ6_bitCount_0f7a4 40 (.istore_n 0) 1 41 := ⟨by decide +kernel, rfl⟩
theorem dJ6_bitCount_0f7a4_41 : DR cJ6_bitCount_0f7a4 41 (.iload_n 0) 1 42 := ⟨by decide +kernel, rfl⟩
theorem dJ6_bitCount_0f7a4_42 : DR cJ6_bitCount_0f7a4 42 (.iload_n 0) 1 43 := ⟨by decide +kernel, rfl⟩
theorem dJ6_bitCount_0f7a4_43 : DR cJ6_bitCount_0f7a4 43 (.bipush 16) 2 45 := ⟨by decide +kernel, rfl⟩
theorem dJ6_bitCount_0f7a4_45 : DR cJ6_bitCount_0f7a4 45 (.iushr) 1 46 := ⟨by decide +kernel, rfl⟩
theorem dJ6_bitCount_0f7a4_46 : DR cJ6_bitCount_0f7a4 46 (.iadd) 1 47 := ⟨by decide +kernel, rfl⟩
theorem dJ6_bitCount_0f7a4_47 : DR cJ6_bitCount_0f7a4 47 (.istore_n 0) 1 48 := ⟨by decide +kernel, rfl⟩
theorem dJ6_bitCount_0f7a4_48 : DR cJ6_bitCount_0f7a4 48 (.iload_n 0) 1 49 := ⟨by decide +kernel, rfl⟩
theorem dJ6_bitCount_0f7a4_49 : DR cJ6_bitCount_0f7a4 49 (.bipush 63) 2 51 := ⟨by decide +kernel, rfl⟩
theorem dJ6_bitCount_0f7a4_51 : DR cJ6_bitCount_0f7a4 51 (.iand) 1 52 := ⟨by decide +kernel, rfl⟩
theorem dJ6_bitCount_0f7a4_52 : DR cJ6_bitCount_0f7a4 52 (.ireturn) 1 53 := ⟨by decide +kernel, rfl⟩
theorem dJ9_max_7cf53_0 : DR cJ9_max_7cf53 0 (.iload_n 0) 1 1 := ⟨by decide +kernel, rfl⟩
theorem dJ9_max_7cf53_1 : DR cJ9_max_7cf53 1 (.iload_n 1) 1 2 := ⟨by decide +kernel, rfl⟩
theorem dJ9_max_7cf53_2 : DB cJ9_max_7cf53 2 (.if_icmp .lt 7) 3 (7) 5 9 := ⟨by decide +kernel, rfl, by decide⟩
theorem dJ9_max_7cf53_5 : DR cJ9_max_7cf53 5 (.iload_n 0) 1 6 := ⟨by decide +kernel, rfl⟩
theorem dJ9_max_7cf53_6 : DB cJ9_max_7cf53 6 (.goto 4) 3 (4) 9 10 := ⟨by decide +kernel, rfl, by decide⟩
theorem dJ9_max_7cf53_9 : DR cJ9_max_7cf53 9 (.iload_n 1) 1 10 := ⟨by decide +kernel, rfl⟩
theorem dJ9_max_7cf53_10 : DR cJ9_max_7cf53 10 (.ireturn) 1 11 := ⟨by decide +kernel, rfl⟩
theorem dJ9_min_7cf53_0 : DR cJ9_min_7cf53 0 (.iload_n 0) 1 1 := ⟨by decide +kernel, rfl⟩
theorem dJ9_min_7cf53_1 : DR cJ9_min_7cf53 1 (.iload_n 1) 1 2 := ⟨by decide +kernel, rfl⟩
theorem dJ9_min_7cf53_2 : DB cJ9_min_7cf53 2 (.if_icmp .gt 7) 3 (7) 5 9 := ⟨by decide +kernel, rfl, by decide⟩
theorem dJ9_min_7cf53_5 : DR cJ9_min_7cf53 5 (.iload_n 0) 1 6 := ⟨by decide +kernel, rfl⟩
theorem dJ9_min_7cf53_6 : DB cJ9_min_7cf53 6 (.goto 4) 3 (4) 9 10 := ⟨by decide +kernel, rfl, by decide⟩
theorem dJ9_min_7cf53_9 : DR cJ9_min_7cf53 9 (.iload_n 1) 1 10 := ⟨by decide +kernel, rfl⟩
theorem dJ9_min_7cf53_10 : DR cJ9_min_7cf53 10 (.ireturn) 1 11 := ⟨by decide +kernel, rfl⟩
theorem dJ0_length_8abf5_0 : DR cJ0_length_8abf5 0 (.aload_n 0) 1 1 := ⟨by decide +kernel, rfl⟩
theorem dJ0_length_8abf5_1 : DR cJ0_length_8abf5 1 (.getfield 9) 3 4 := ⟨by decide +kernel, rfl⟩
theorem dJ0_length_8abf5_4 : DR cJ0_length_8abf5 4 (.arraylength) 1 5 := ⟨by decide +kernel, rfl⟩
theorem dJ0_length_8abf5_5 : DR cJ0_length_8abf5 5 (.aload_n 0) 1 6 := ⟨by decide +kernel, rfl⟩
theorem dJ0_length_8abf5_6 : DR cJ0_length_8abf5 6 (.invokevirtual 335) 3 9 := ⟨by decide +kernel, rfl⟩
theorem dJ0_length_8abf5_9 : DR cJ0_length_8abf5 9 (.ishr) 1 10 := ⟨by decide +kernel, rfl⟩
theorem dJ0_length_8abf5_10 : DR cJ0_length_8abf5 10 (.ireturn) 1 11 := ⟨by decide +kernel, rfl⟩
theorem dJ0_charAt_5068e_0 : DR cJ0_charAt_5068e 0 (.aload_n 0) 1 1 := ⟨by decide +kernel, rfl⟩
theorem dJ0_charAt_5068e_1 : DR cJ0_charAt_5068e 1 (.invokevirtual 492) 3 4 := ⟨by decide +kernel, rfl⟩
theorem dJ0_charAt_5068e_4 : DB cJ0_charAt_5068e 4 (.ifCond .eq 12) 3 (12) 7 16 := ⟨by decide +kernel, rfl, by decide⟩
theorem dJ0_charAt_5068e_7 : DR cJ0_charAt_5068e 7 (.aload_n 0) 1 8 := ⟨by decide +kernel, rfl⟩
theorem dJ0_charAt_5068e_8 : DR cJ0_charAt_5068e 8 (.getfield 9) 3 11 := ⟨by decide +kernel, rfl⟩
theorem dJ0_charAt_5068e_11 : DR cJ0_charAt_5068e 11 (.iload_n 1) 1 12 := ⟨by decide +kernel, rfl⟩
theorem dJ0_charAt_5068e_12 : DR cJ0_charAt_5068e 12 (.invokestatic 495) 3 15 := ⟨by decide +kernel, rfl⟩
theorem dJ0_charAt_5068e_15 : DR cJ0_charAt_5068e 15 (.ireturn) 1 16 := ⟨by decide +kernel, rfl⟩
theorem dJ0_charAt_5068e_16 : DR cJ0_charAt_5068e 16 (.aload_n 0) 1 17 := ⟨by decide +kernel, rfl⟩
theorem dJ0_charAt_5068e_17 : DR cJ0_charAt_5068e 17 (.getfield 9) 3 20 := ⟨by decide +kernel, rfl⟩
theorem dJ0_charAt_5068e_20 : DR cJ0_charAt_5068e 20 (.iload_n 1) 1 21 := ⟨by decide +kernel, rfl⟩
theorem dJ0_charAt_5068e_21 : DR cJ0_charAt_5068e 21 (.invokestatic 498) 3 24 := ⟨by decide +kernel, rfl⟩
theorem dJ0_charAt_5068e_24 : DR cJ0_charAt_5068e 24 (.ireturn) 1 25 := ⟨by decide +kernel, rfl⟩
theorem dJ0_coder_7d493_0 : DR cJ0_coder_7d493 0 (.getstatic 38) 3 3 := ⟨by decide +kernel, rfl⟩
theorem dJ0_coder_7d493_3 : DB cJ0_coder_7d493 3 (.ifCond .eq 10) 3 (10) 6 13 := ⟨by decide +kernel, rfl, by decide⟩
theorem dJ0_coder_7d493_6 : DR cJ0_coder_7d493 6 (.aload_n 0) 1 7 := ⟨by decide +kernel, rfl⟩
theorem dJ0_coder_7d493_7 : DR cJ0_coder_7d493 7 (.getfield 15) 3 10 := ⟨by decide +kernel, rfl⟩
theorem dJ0_coder_7d493_10 : DB cJ0_coder_7d493 10 (.goto 4) 3 (4) 13 14 := ⟨by decide +kernel, rfl, by decide⟩
theorem dJ0_coder_7d493_13 : DR cJ0_coder_7d493 13 (.iconst 1) 1 14 := ⟨by decide +kernel, rfl⟩
theorem dJ0_coder_7d493_14 : DR cJ0_coder_7d493 14 (.ireturn) 1 15 := ⟨by decide +kernel, rfl⟩
theorem dJ0_isLatin1_aae02_0 : DR cJ0_isLatin1_aae02 0 (.getstatic 38) 3 3 := ⟨by decide +kernel, rfl⟩
theorem dJ0_isLatin1_aae02_3 : DB cJ0_isLatin1_aae02 3 (.ifCond .eq 14) 3 (14) 6 17 := ⟨by decide +kernel, rfl, by decide⟩
theorem dJ0_isLatin1_aae02_6 : DR cJ0_isLatin1_aae02 6 (.aload_n 0) 1 7 := ⟨by decide +kernel, rfl⟩
theorem dJ0_isLatin1_aae02_7 : DR cJ0_isLatin1_aae02 7 (.getfield 15) 3 10 := ⟨by decide +kernel, rfl⟩
theorem dJ0_isLatin1_aae02_10 : DB cJ0_isLatin1_aae02 10 (.ifCond .ne 7) 3 (7) 13 17 := ⟨by decide +kernel, rfl, by decide⟩
theorem dJ0_isLatin1_aae02_13 : DR cJ0_isLatin1_aae02 13 (.iconst 1) 1 14 := ⟨by decide +kernel, rfl⟩
theorem dJ0_isLatin1_aae02_14 : DB cJ0_isLatin1_aae02 14 (.goto 4) 3 (4) 17 18 := ⟨by decide +kernel, rfl, by decide⟩
theorem dJ0_isLatin1_aae02_17 : DR cJ0_isLatin1_aae02 17 (.iconst 0) 1 18 := ⟨by decide +kernel, rfl⟩
theorem dJ0_isLatin1_aae02_18 : DR cJ0_isLatin1_aae02 18 (.ireturn) 1 19 := ⟨by decide +kernel, rfl⟩
theorem dJ0_checkIndex_df160_0 : DR cJ0_checkIndex_df160 0 (.iload_n 0) 1 1 := ⟨by decide +kernel, rfl⟩
theorem dJ0_checkIndex_df160_1 : DR cJ0_checkIndex_df160 1 (.iload_n 1) 1 2 := ⟨by decide +kernel, rfl⟩
theorem dJ0_checkIndex_df160_2 : DR cJ0_checkIndex_df160 2 (.getstatic 1053) 3 5 := ⟨by decide +kernel, rfl⟩
theorem dJ0_checkIndex_df160_5 : DR cJ0_checkIndex_df160 5 (.invokestatic 1059) 3 8 := ⟨by decide +kernel, rfl⟩
theorem dJ0_checkIndex_df160_8 : DR cJ0_checkIndex_df160 8 (.pop) 1 9 := ⟨by decide +kernel, rfl⟩
theorem dJ0_checkIndex_df160_9 : DR cJ0_checkIndex_df160 9 (.return_) 1 10 := ⟨by decide +kernel, rfl⟩
theorem dJ1_charAt_3b067_0 : DR cJ1_charAt_3b067 0 (.iload_n 1) 1 1 := ⟨by decide +kernel, rfl⟩
theorem dJ1_charAt_3b067_1 : DR cJ1_charAt_3b067 1 (.aload_n 0) 1 2 := ⟨by decide +kernel, rfl⟩
theorem dJ1_charAt_3b067_2 : DR cJ1_charAt_3b067 2 (.arraylength) 1 3 := ⟨by decide +kernel, rfl⟩
theorem dJ1_charAt_3b067_3 : DR cJ1_charAt_3b067 3 (.invokestatic 9) 3 6 := ⟨by decide +kernel, rfl⟩
theorem dJ1_charAt_3b067_6 : DR cJ1_charAt_3b067 6 (.aload_n 0) 1 7 := ⟨by decide +kernel, rfl⟩
theorem dJ1_charAt_3b067_7 : DR cJ1_charAt_3b067 7 (.iload_n 1) 1 8 := ⟨by decide +kernel, rfl⟩
theorem dJ1_charAt_3b067_8 : DR cJ1_charAt_3b067 8 (.baload) 1 9 := ⟨by decide +kernel, rfl⟩
theorem dJ1_charAt_3b067_9 : DR cJ1_charAt_3b067 9 (.sipush 255) 3 12 := ⟨by decide +kernel, rfl⟩
theorem dJ1_charAt_3b067_12 : DR cJ1_charAt_3b067 12 (.iand) 1 13 := ⟨by decide +kernel, rfl⟩
theorem dJ1_charAt_3b067_13 : DR cJ1_charAt_3b067 13 (.i2c) 1 14 := ⟨by decide +kernel, rfl⟩
theorem dJ1_charAt_3b067_14 : DR cJ1_charAt_3b067 14 (.ireturn) 1 15 := ⟨by decide +kernel, rfl⟩
theorem dJ2_getChar_3b067_0 : DR cJ2_getChar_3b067 0 (.getstatic 44) 3 3 := ⟨by decide +kernel, rfl⟩
theorem dJ2_getChar_3b067_3 : DB cJ2_getChar_3b067 3 (.ifCond .ne 25) 3 (25) 6 28 := ⟨by decide +kernel, rfl, by decide⟩
theorem dJ2_getChar_3b067_6 : DR cJ2_getChar_3b067 6 (.iload_n 1) 1 7 := ⟨by decide +kernel, rfl⟩
theorem dJ2_getChar_3b067_7 : DB cJ2_getChar_3b067 7 (.ifCond .lt 11) 3 (11) 10 18 := ⟨by decide +kernel, rfl, by decide⟩
theorem dJ2_getChar_3b067_10 : DR cJ2_getChar_3b067 10 (.iload_n 1) 1 11 := ⟨by decide +kernel, rfl⟩
theorem dJ2_getChar_3b067_11 : DR cJ2_getChar_3b067 11 (.aload_n 0) 1 12 := ⟨by decide +kernel, rfl⟩
theorem dJ2_getChar_3b067_12 : DR cJ2_getChar_3b067 12 (.invokestatic 48) 3 15 := ⟨by decide +kernel, rfl⟩
theorem dJ2_getChar_3b067_15 : DB cJ2_getChar_3b067 15 (.if_icmp .lt 13) 3 (13) 18 28 := ⟨by decide +kernel, rfl, by decide⟩
theorem dJ2_getChar_3b067_18 : DR cJ2_getChar_3b067 18 (.new 52) 3 21 := ⟨by decide +kernel, rfl⟩
theorem dJ2_getChar_3b067_21 : DR cJ2_getChar_3b067 21 (.dup) 1 22 := ⟨by decide +kernel, rfl⟩
theorem dJ2_getChar_3b067_22 : DR cJ2_getChar_3b067 22 (.ldc 54) 2 24 := ⟨by decide +kernel, rfl⟩
theorem dJ2_getChar_3b067_24 : DR cJ2_getChar_3b067 24 (.invokespecial 56) 3 27 := ⟨by decide +kernel, rfl⟩
theorem dJ2_getChar_3b067_27 : DR cJ2_getChar_3b067 27 (.athrow) 1 28 := ⟨by decide +kernel, rfl⟩
theorem dJ2_getChar_3b067_28 : DR cJ2_getChar_3b067 28 (.iload_n 1) 1 29 := ⟨by decide +kernel, rfl⟩
theorem dJ2_getChar_3b067_29 : DR cJ2_getChar_3b067 29 (.iconst 1) 1 30 := ⟨by decide +kernel, rfl⟩
theorem dJ2_getChar_3b067_30 : DR cJ2_getChar_3b067 30 (.ishl) 1 31 := ⟨by decide +kernel, rfl⟩
theorem dJ2_getChar_3b067_31 : DR cJ2_getChar_3b067 31 (.istore_n 1) 1 32 := ⟨by decide +kernel, rfl⟩
theorem dJ2_getChar_3b067_32 : DR cJ2_getChar_3b067 32 (.aload_n 0) 1 33 := ⟨by decide +kernel, rfl⟩
theorem dJ2_getChar_3b067_33 : DR cJ2_getChar_3b067 33 (.iload_n 1) 1 34 := ⟨by decide +kernel, rfl⟩
theorem dJ2_getChar_3b067_34 : DR cJ2_getChar_3b067 34 (.iinc 1 1) 3 37 := ⟨by decide +kernel, rfl⟩
theorem dJ2_getChar_3b067_37 : DR cJ2_getChar_3b067 37 (.baload) 1 38 := ⟨by decide +kernel, rfl⟩
theorem dJ2_getChar_3b067_38 : DR cJ2_getChar_3b067 38 (.sipush 255) 3 41 := ⟨by decide +kernel, rfl⟩
theorem dJ2_getChar_3b067_41 : DR cJ2_getChar_3b067 41 (.iand) 1 42 := ⟨by decide +kernel, rfl⟩
theorem dJ2_getChar_3b067_42 : DR cJ2_getChar_3b067 42 (.getstatic 59) 3 45 := ⟨by decide +kernel, rfl⟩
theorem dJ2_getChar_3b067_45 : DR cJ2_getChar_3b067 45 (.ishl) 1 46 := ⟨by decide +kernel, rfl⟩
theorem dJ2_getChar_3b067_46 : DR cJ2_getChar_3b067 46 (.aload_n 0) 1 47 := ⟨by decide +kernel, rfl⟩
theorem dJ2_getChar_3b067_47 : DR cJ2_getChar_3b067 47 (.iload_n 1) 1 48 := ⟨by decide +kernel, rfl⟩
theorem dJ2_getChar_3b067_48 : DR cJ2_getChar_3b067 48 (.baload) 1 49 := ⟨by decide +kernel, rfl⟩
theorem dJ2_getChar_3b067_49 : DR cJ2_getChar_3b067 49 (.sipush 255) 3 52 := ⟨by decide +kernel, rfl⟩
theorem dJ2_getChar_3b067_52 : DR cJ2_getChar_3b067 52 (.iand) 1 53 := ⟨by decide +kernel, rfl⟩
theorem dJ2_getChar_3b067_53 : DR cJ2_getChar_3b067 53 (.getstatic 63) 3 56 := ⟨by decide +kernel, rfl⟩
theorem dJ2_getChar_3b067_56 : DR cJ2_getChar_3b067 56 (.ishl) 1 57 := ⟨by decide +kernel, rfl⟩
theorem dJ2_getChar_3b067_57 : DR cJ2_getChar_3b067 57 (.ior) 1 58 := ⟨by decide +kernel, rfl⟩
theorem dJ2_getChar_3b067_58 : DR cJ2_getChar_3b067 58 (.i2c) 1 59 := ⟨by decide +kernel, rfl⟩
theorem dJ2_getChar_3b067_59 : DR cJ2_getChar_3b067 59 (.ireturn) 1 60 := ⟨by decide +kernel, rfl⟩
theorem dJ2_length_9d52b_0 : DR cJ2_length_9d52b 0 (.aload_n 0) 1 1 := ⟨by decide +kernel, rfl⟩
theorem dJ2_length_9d52b_1 : DR cJ2_length_9d52b 1 (.arraylength) 1 2 := ⟨by decide +kernel, rfl⟩
theorem dJ2_length_9d52b_2 : DR cJ2_length_9d52b 2 (.iconst 1) 1 3 := ⟨by decide +kernel, rfl⟩
theorem dJ2_length_9d52b_3 : DR cJ2_length_9d52b 3 (.ishr) 1 4 := ⟨by decide +kernel, rfl⟩
theorem dJ2_length_9d52b_4 : DR cJ2_length_9d52b 4 (.ireturn) 1 5 := ⟨by decide +kernel, rfl⟩
theorem dJ2_charAt_3b067_0 : DR cJ2_charAt_3b067 0 (.iload_n 1) 1 1 := ⟨by decide +kernel, rfl⟩
theorem dJ2_charAt_3b067_1 : DR cJ2_charAt_3b067 1 (.aload_n 0) 1 2 := ⟨by decide +kernel, rfl⟩
theorem dJ2_charAt_3b067_2 : DR cJ2_charAt_3b067 2 (.invokestatic 67) 3 5 := ⟨by decide +kernel, rfl⟩
theorem dJ2_charAt_3b067_5 : DR cJ2_charAt_3b067 5 (.aload_n 0) 1 6 := ⟨by decide +kernel, rfl⟩
theorem dJ2_charAt_3b067_6 : DR cJ2_charAt_3b067 6 (.iload_n 1) 1 7 := ⟨by decide +kernel, rfl⟩
theorem dJ2_charAt_3b067_7 : DR cJ2_charAt_3b067 7 (.invokestatic 71) 3 10 := ⟨by decide +kernel, rfl⟩
theorem dJ2_charAt_3b067_10 : DR cJ2_charAt_3b067 10 (.ireturn) 1 11 := ⟨by decide +kernel, rfl⟩
theorem dJ2_checkIndex_2214a_0 : DR cJ2_checkIndex_2214a 0 (.iload_n 0) 1 1 := ⟨by decide +kernel, rfl⟩
theorem dJ2_checkIndex_2214a_1 : DR cJ2_checkIndex_2214a 1 (.aload_n 1) 1 2 := ⟨by decide +kernel, rfl⟩
theorem dJ2_checkIndex_2214a_2 : DR cJ2_checkIndex_2214a 2 (.invokestatic 48) 3 5 := ⟨by decide +kernel, rfl⟩
theorem dJ2_checkIndex_2214a_5 : DR cJ2_checkIndex_2214a 5 (.invokestatic 414) 3 8 := ⟨by decide +kernel, rfl⟩
theorem dJ2_checkIndex_2214a_8 : DR cJ2_checkIndex_2214a 8 (.return_) 1 9 := ⟨by decide +kernel, rfl⟩
theorem dJ3_checkIndex_8e157_0 : DR cJ3_checkIndex_8e157 0 (.iload_n 0) 1 1 := ⟨by decide +kernel, rfl⟩
theorem dJ3_checkIndex_8e157_1 : DB cJ3_checkIndex_8e157 1 (.ifCond .lt 8) 3 (8) 4 9 := ⟨by decide +kernel, rfl, by decide⟩
theorem dJ3_checkIndex_8e157_4 : DR cJ3_checkIndex_8e157 4 (.iload_n 0) 1 5 := ⟨by decide +kernel, rfl⟩
theorem dJ3_checkIndex_8e157_5 : DR cJ3_checkIndex_8e157 5 (.iload_n 1) 1 6 := ⟨by decide +kernel, rfl⟩
theorem dJ3_checkIndex_8e157_6 : DB cJ3_checkIndex_8e157 6 (.if_icmp .lt 10) 3 (10) 9 16 := ⟨by decide +kernel, rfl, by decide⟩
theorem dJ3_checkIndex_8e157_9 : DR cJ3_checkIndex_8e157 9 (.aload_n 2) 1 10 := ⟨by decide +kernel, rfl⟩
theorem dJ3_checkIndex_8e157_10 : DR cJ3_checkIndex_8e157 10 (.iload_n 0) 1 11 := ⟨by decide +kernel, rfl⟩
theorem dJ3_checkIndex_8e157_11 : DR cJ3_checkIndex_8e157 11 (.iload_n 1) 1 12 := ⟨by decide +kernel, rfl⟩
theorem dJ3_checkIndex_8e157_12 : DR cJ3_checkIndex_8e157 12 (.invokestatic 95) 3 15 := ⟨by decide +kernel, rfl⟩
theorem dJ3_checkIndex_8e157_15 : DR cJ3_checkIndex_8e157 15 (.athrow) 1 16 := ⟨by decide +kernel, rfl⟩
theorem dJ3_checkIndex_8e157_16 : DR cJ3_checkIndex_8e157 16 (.iload_n 0) 1 17 := ⟨by decide +kernel, rfl⟩
theorem dJ3_checkIndex_8e157_17 : DR cJ3_checkIndex_8e157 17 (.ireturn) 1 18 := ⟨by decide +kernel, rfl⟩
theorem dL_law_0 : DR cL_law 0 (.new 7) 3 3 := ⟨by decide +kernel, rfl⟩
theorem dL_law_3 : DR cL_law 3 (.dup) 1 4 := ⟨by decide +kernel, rfl⟩
theorem dL_law_4 : DR cL_law 4 (.invokespecial 9) 3 7 := ⟨by decide +kernel, rfl⟩
theorem dL_law_7 : DR cL_law 7 (.astore_n 1) 1 8 := ⟨by decide +kernel, rfl⟩
theorem dL_law_8 : DR cL_law 8 (.new 10) 3 11 := ⟨by decide +kernel, rfl⟩
theorem dL_law_11 : DR cL_law 11 (.dup) 1 12 := ⟨by decide +kernel, rfl⟩
theorem dL_law_12 : DR cL_law 12 (.invokespecial 12) 3 15 := ⟨by decide +kernel, rfl⟩
theorem dL_law_15 : DR cL_law 15 (.astore_n 2) 1 16 := ⟨by decide +kernel, rfl⟩
theorem dL_law_16 : DR cL_law 16 (.iconst 0) 1 17 := ⟨by decide +kernel, rfl⟩
theorem dL_law_17 : DR cL_law 17 (.istore_n 3) 1 18 := ⟨by decide +kernel, rfl⟩
theorem dL_law_18 : DR cL_law 18 (.iload_n 3) 1 19 := ⟨by decide +kernel, rfl⟩
theorem dL_law_19 : DR cL_law 19 (.aload_n 0) 1 20 := ⟨by decide +kernel, rfl⟩
theorem dL_law_20 : DR cL_law 20 (.arraylength) 1 21 := ⟨by decide +kernel, rfl⟩
theorem dL_law_21 : DR cL_law 21 (.iconst 5) 1 22 := ⟨by decide +kernel, rfl⟩
theorem dL_law_22 : DR cL_law 22 (.isub) 1 23 := ⟨by decide +kernel, rfl⟩
theorem dL_law_23 : DB cL_law 23 (.if_icmp .gt 807) 3 (807) 26 830 := ⟨by decide +kernel, rfl, by decide⟩
theorem dL_law_26 : DR cL_law 26 (.aload_n 0) 1 27 := ⟨by decide +kernel, rfl⟩
theorem dL_law_27 : DR cL_law 27 (.iload_n 3) 1 28 := ⟨by decide +kernel, rfl⟩
theorem dL_law_28 : DR cL_law 28 (.iaload) 1 29 := ⟨by decide +kernel, rfl⟩
theorem dL_law_29 : DR cL_law 29 (.bipush 31) 2 31 := ⟨by decide +kernel, rfl⟩
theorem dL_law_31 : DR cL_law 31 (.iand) 1 32 := ⟨by decide +kernel, rfl⟩
theorem dL_law_32 : DR cL_law 32 (.tableswitch 792 0 27 #[128, 151, 164, 177, 190, 223, 256, 279, 302, 325, 348, 371, 404, 417, 460, 473, 496, 519, 542, 565, 608, 621, 634, 647, 700, 743, 756, 769]) 128 160 := ⟨by decide +kernel, rfl⟩
theorem dL_law_160 : DR cL_law 160 (.aload_n 1) 1 161 := ⟨by decide +kernel, rfl⟩
theorem dL_law_161 : DR cL_law 161 (.aload_n 0) 1 162 := ⟨by decide +kernel, rfl⟩
theorem dL_law_162 : DR cL_law 162 (.iload_n 3) 1 163 := ⟨by decide +kernel, rfl⟩
theorem dL_law_163 : DR cL_law 163 (.iconst 1) 1 164 := ⟨by decide +kernel, rfl⟩
theorem dL_law_164 : DR cL_law 164 (.iadd) 1 165 := ⟨by decide +kernel, rfl⟩
theorem dL_law_165 : DR cL_law 165 (.iaload) 1 166 := ⟨by decide +kernel, rfl⟩
theorem dL_law_166 : DR cL_law 166 (.invokevirtual 13) 3 169 := ⟨by decide +kernel, rfl⟩
theorem dL_law_169 : DR cL_law 169 (.aload_n 2) 1 170 := ⟨by decide +kernel, rfl⟩
theorem dL_law_170 : DR cL_law 170 (.aload_n 0) 1 171 := ⟨by decide +kernel, rfl⟩
theorem dL_law_171 : DR cL_law 171 (.iload_n 3) 1 172 := ⟨by decide +kernel, rfl⟩
theorem dL_law_172 : DR cL_law 172 (.iconst 1) 1 173 := ⟨by decide +kernel, rfl⟩
theorem dL_law_173 : DR cL_law 173 (.iadd) 1 174 := ⟨by decide +kernel, rfl⟩
theorem dL_law_174 : DR cL_law 174 (.iaload) 1 175 := ⟨by decide +kernel, rfl⟩
theorem dL_law_175 : DR cL_law 175 (.invokevirtual 17) 3 178 := ⟨by decide +kernel, rfl⟩
theorem dL_law_178 : DB cL_law 178 (.if_icmp .eq 646) 3 (646) 181 824 := ⟨by decide +kernel, rfl, by decide⟩
theorem dL_law_181 : DR cL_law 181 (.iconst 0) 1 182 := ⟨by decide +kernel, rfl⟩
theorem dL_law_182 : DR cL_law 182 (.ireturn) 1 183 := ⟨by decide +kernel, rfl⟩
theorem dL_law_183 : DR cL_law 183 (.aload_n 1) 1 184 := ⟨by decide +kernel, rfl⟩
theorem dL_law_184 : DR cL_law 184 (.invokevirtual 18) 3 187 := ⟨by decide +kernel, rfl⟩
theorem dL_law_187 : DR cL_law 187 (.aload_n 2) 1 188 := ⟨by decide +kernel, rfl⟩
theorem dL_law_188 : DR cL_law 188 (.invokevirtual 22) 3 191 := ⟨by decide +kernel, rfl⟩
theorem dL_law_191 : DB cL_law 191 (.if_icmp .eq 633) 3 (633) 194 824 := ⟨by decide +kernel, rfl, by decide⟩
theorem dL_law_194 : DR cL_law 194 (.iconst 0) 1 195 := ⟨by decide +kernel, rfl⟩
theorem dL_law_195 : DR cL_law 195 (.ireturn) 1 196 := ⟨by decide +kernel, rfl⟩
theorem dL_law_196 : DR cL_law 196 (.aload_n 1) 1 197 := ⟨by decide +kernel, rfl⟩
theorem dL_law_197 : DR cL_law 197 (.invokevirtual 23) 3 200 := ⟨by decide +kernel, rfl⟩
theorem dL_law_200 : DR cL_law 200 (.aload_n 2) 1 201 := ⟨by decide +kernel, rfl⟩
theorem dL_law_201 : DR cL_law 201 (.invokevirtual 26) 3 204 := ⟨by decide +kernel, rfl⟩
theorem dL_law_204 : DB cL_law 204 (.if_icmp .eq 620) 3 (620) 207 824 := ⟨by decide +kernel, rfl, by decide⟩
theorem dL_law_207 : DR cL_law 207 (.iconst 0) 1 208 := ⟨by decide +kernel, rfl⟩
theorem dL_law_208 : DR cL_law 208 (.ireturn) 1 209 := ⟨by decide +kernel, rfl⟩
theorem dL_law_209 : DR cL_law 209 (.aload_n 1) 1 210 := ⟨by decide +kernel, rfl⟩
theorem dL_law_210 : DR cL_law 210 (.invokevirtual 27) 3 213 := ⟨by decide +kernel, rfl⟩
theorem dL_law_213 : DR cL_law 213 (.aload_n 2) 1 214 := ⟨by decide +kernel, rfl⟩
theorem dL_law_214 : DR cL_law 214 (.invokevirtual 30) 3 217 := ⟨by decide +kernel, rfl⟩
theorem dL_law_217 : DB cL_law 217 (.if_icmp .eq 607) 3 (607) 220 824 := ⟨by decide +kernel, rfl, by decide⟩
theorem dL_law_220 : DR cL_law 220 (.iconst 0) 1 221 := ⟨by decide +kernel, rfl⟩
theorem dL_law_221 : DR cL_law 221 (.ireturn) 1 222 := ⟨by decide +kernel, rfl⟩
theorem dL_law_222 : DR cL_law 222 (.aload_n 1) 1 223 := ⟨by decide +kernel, rfl⟩
theorem dL_law_223 : DR cL_law 223 (.aload_n 0) 1 224 := ⟨by decide +kernel, rfl⟩
theorem dL_law_224 : DR cL_law 224 (.iload_n 3) 1 225 := ⟨by decide +kernel, rfl⟩
theorem dL_law_225 : DR cL_law 225 (.iconst 1) 1 226 := ⟨by decide +kernel, rfl⟩
theorem dL_law_226 : DR cL_law 226 (.iadd) 1 227 := ⟨by decide +kernel, rfl⟩
theorem dL_law_227 : DR cL_law 227 (.iaload) 1 228 := ⟨by decide +kernel, rfl⟩
theorem dL_law_228 : DR cL_law 228 (.aload_n 0) 1 229 := ⟨by decide +kernel, rfl⟩
theorem dL_law_229 : DR cL_law 229 (.iload_n 3) 1 230 := ⟨by decide +kernel, rfl⟩
theorem dL_law_230 : DR cL_law 230 (.iconst 2) 1 231 := ⟨by decide +kernel, rfl⟩
theorem dL_law_231 : DR cL_law 231 (.iadd) 1 232 := ⟨by decide +kernel, rfl⟩
theorem dL_law_232 : DR cL_law 232 (.iaload) 1 233 := ⟨by decide +kernel, rfl⟩
theorem dL_law_233 : DR cL_law 233 (.invokevirtual 31) 3 236 := ⟨by decide +kernel, rfl⟩
theorem dL_law_236 : DR cL_law 236 (.aload_n 2) 1 237 := ⟨by decide +kernel, rfl⟩
theorem dL_law_237 : DR cL_law 237 (.aload_n 0) 1 238 := ⟨by decide +kernel, rfl⟩
theorem dL_law_238 : DR cL_law 238 (.iload_n 3) 1 239 := ⟨by decide +kernel, rfl⟩
theorem dL_law_239 : DR cL_law 239 (.iconst 1) 1 240 := ⟨by decide +kernel, rfl⟩
theorem dL_law_240 : DR cL_law 240 (.iadd) 1 241 := ⟨by decide +kernel, rfl⟩
theorem dL_law_241 : DR cL_law 241 (.iaload) 1 242 := ⟨by decide +kernel, rfl⟩
theorem dL_law_242 : DR cL_law 242 (.aload_n 0) 1 243 := ⟨by decide +kernel, rfl⟩
theorem dL_law_243 : DR cL_law 243 (.iload_n 3) 1 244 := ⟨by decide +kernel, rfl⟩
theorem dL_law_244 : DR cL_law 244 (.iconst 2) 1 245 := ⟨by decide +kernel, rfl⟩
theorem dL_law_245 : DR cL_law 245 (.iadd) 1 246 := ⟨by decide +kernel, rfl⟩
theorem dL_law_246 : DR cL_law 246 (.iaload) 1 247 := ⟨by decide +kernel, rfl⟩
theorem dL_law_247 : DR cL_law 247 (.invokevirtual 35) 3 250 := ⟨by decide +kernel, rfl⟩
theorem dL_law_250 : DB cL_law 250 (.if_icmp .eq 574) 3 (574) 253 824 := ⟨by decide +kernel, rfl, by decide⟩
theorem dL_law_253 : DR cL_law 253 (.iconst 0) 1 254 := ⟨by decide +kernel, rfl⟩
theorem dL_law_254 : DR cL_law 254 (.ireturn) 1 255 := ⟨by decide +kernel, rfl⟩
theorem dL_law_255 : DR cL_law 255 (.aload_n 1) 1 256 := ⟨by decide +kernel, rfl⟩
theorem dL_law_256 : DR cL_law 256 (.aload_n 0) 1 257 := ⟨by decide +kernel, rfl⟩
theorem dL_law_257 : DR cL_law 257 (.iload_n 3) 1 258 := ⟨by decide +kernel, rfl⟩
theorem dL_law_258 : DR cL_law 258 (.iconst 1) 1 259 := ⟨by decide +kernel, rfl⟩
theorem dL_law_259 : DR cL_law 259 (.iadd) 1 260 := ⟨by decide +kernel, rfl⟩
theorem dL_law_260 : DR cL_law 260 (.iaload) 1 261 := ⟨by decide +kernel, rfl⟩
theorem dL_law_261 : DR cL_law 261 (.aload_n 0) 1 262 := ⟨by decide +kernel, rfl⟩
theorem dL_law_262 : DR cL_law 262 (.iload_n 3) 1 263 := ⟨by decide +kernel, rfl⟩
theorem dL_law_263 : DR cL_law 263 (.iconst 2) 1 264 := ⟨by decide +kernel, rfl⟩
theorem dL_law_264 : DR cL_law 264 (.iadd) 1 265 := ⟨by decide +kernel, rfl⟩
theorem dL_law_265 : DR cL_law 265 (.iaload) 1 266 := ⟨by decide +kernel, rfl⟩
theorem dL_law_266 : DR cL_law 266 (.invokevirtual 36) 3 269 := ⟨by decide +kernel, rfl⟩
theorem dL_law_269 : DR cL_law 269 (.aload_n 2) 1 270 := ⟨by decide +kernel, rfl⟩
theorem dL_law_270 : DR cL_law 270 (.aload_n 0) 1 271 := ⟨by decide +kernel, rfl⟩
theorem dL_law_271 : DR cL_law 271 (.iload_n 3) 1 272 := ⟨by decide +kernel, rfl⟩
theorem dL_law_272 : DR cL_law 272 (.iconst 1) 1 273 := ⟨by decide +kernel, rfl⟩
theorem dL_law_273 : DR cL_law 273 (.iadd) 1 274 := ⟨by decide +kernel, rfl⟩
theorem dL_law_274 : DR cL_law 274 (.iaload) 1 275 := ⟨by decide +kernel, rfl⟩
theorem dL_law_275 : DR cL_law 275 (.aload_n 0) 1 276 := ⟨by decide +kernel, rfl⟩
theorem dL_law_276 : DR cL_law 276 (.iload_n 3) 1 277 := ⟨by decide +kernel, rfl⟩
theorem dL_law_277 : DR cL_law 277 (.iconst 2) 1 278 := ⟨by decide +kernel, rfl⟩
theorem dL_law_278 : DR cL_law 278 (.iadd) 1 279 := ⟨by decide +kernel, rfl⟩
theorem dL_law_279 : DR cL_law 279 (.iaload) 1 280 := ⟨by decide +kernel, rfl⟩
theorem dL_law_280 : DR cL_law 280 (.invokevirtual 39) 3 283 := ⟨by decide +kernel, rfl⟩
theorem dL_law_283 : DB cL_law 283 (.if_icmp .eq 541) 3 (541) 286 824 := ⟨by decide +kernel, rfl, by decide⟩
theorem dL_law_286 : DR cL_law 286 (.iconst 0) 1 287 := ⟨by decide +kernel, rfl⟩
theorem dL_law_287 : DR cL_law 287 (.ireturn) 1 288 := ⟨by decide +kernel, rfl⟩
theorem dL_law_288 : DR cL_law 288 (.aload_n 1) 1 289 := ⟨by decide +kernel, rfl⟩
theorem dL_law_289 : DR cL_law 289 (.aload_n 0) 1 290 := ⟨by decide +kernel, rfl⟩
theorem dL_law_290 : DR cL_law 290 (.iload_n 3) 1 291 := ⟨by decide +kernel, rfl⟩
theorem dL_law_291 : DR cL_law 291 (.iconst 1) 1 292 := ⟨by decide +kernel, rfl⟩
theorem dL_law_292 : DR cL_law 292 (.iadd) 1 293 := ⟨by decide +kernel, rfl⟩
theorem dL_law_293 : DR cL_law 293 (.iaload) 1 294 := ⟨by decide +kernel, rfl⟩
theorem dL_law_294 : DR cL_law 294 (.invokevirtual 40) 3 297 := ⟨by decide +kernel, rfl⟩
theorem dL_law_297 : DR cL_law 297 (.aload_n 2) 1 298 := ⟨by decide +kernel, rfl⟩
theorem dL_law_298 : DR cL_law 298 (.aload_n 0) 1 299 := ⟨by decide +kernel, rfl⟩
theorem dL_law_299 : DR cL_law 299 (.iload_n 3) 1 300 := ⟨by decide +kernel, rfl⟩
theorem dL_law_300 : DR cL_law 300 (.iconst 1) 1 301 := ⟨by decide +kernel, rfl⟩
theorem dL_law_301 : DR cL_law 301 (.iadd) 1 302 := ⟨by decide +kernel, rfl⟩
theorem dL_law_302 : DR cL_law 302 (.iaload) 1 303 := ⟨by decide +kernel, rfl⟩
theorem dL_law_303 : DR cL_law 303 (.invokevirtual 43) 3 306 := ⟨by decide +kernel, rfl⟩
theorem dL_law_306 : DB cL_law 306 (.if_icmp .eq 518) 3 (518) 309 824 := ⟨by decide +kernel, rfl, by decide⟩
theorem dL_law_309 : DR cL_law 309 (.iconst 0) 1 310 := ⟨by decide +kernel, rfl⟩
theorem dL_law_310 : DR cL_law 310 (.ireturn) 1 311 := ⟨by decide +kernel, rfl⟩
theorem dL_law_311 : DR cL_law 311 (.aload_n 1) 1 312 := ⟨by decide +kernel, rfl⟩
theorem dL_law_312 : DR cL_law 312 (.aload_n 0) 1 313 := ⟨by decide +kernel, rfl⟩
theorem dL_law_313 : DR cL_law 313 (.iload_n 3) 1 314 := ⟨by decide +kernel, rfl⟩
theorem dL_law_314 : DR cL_law 314 (.iconst 1) 1 315 := ⟨by decide +kernel, rfl⟩
theorem dL_law_315 : DR cL_law 315 (.iadd) 1 316 := ⟨by decide +kernel, rfl⟩
theorem dL_law_316 : DR cL_law 316 (.iaload) 1 317 := ⟨by decide +kernel, rfl⟩
theorem dL_law_317 : DR cL_law 317 (.invokevirtual 44) 3 320 := ⟨by decide +kernel, rfl⟩
theorem dL_law_320 : DR cL_law 320 (.aload_n 2) 1 321 := ⟨by decide +kernel, rfl⟩
theorem dL_law_321 : DR cL_law 321 (.aload_n 0) 1 322 := ⟨by decide +kernel, rfl⟩
theorem dL_law_322 : DR cL_law 322 (.iload_n 3) 1 323 := ⟨by decide +kernel, rfl⟩
theorem dL_law_323 : DR cL_law 323 (.iconst 1) 1 324 := ⟨by decide +kernel, rfl⟩
theorem dL_law_324 : DR cL_law 324 (.iadd) 1 325 := ⟨by decide +kernel, rfl⟩
theorem dL_law_325 : DR cL_law 325 (.iaload) 1 326 := ⟨by decide +kernel, rfl⟩
theorem dL_law_326 : DR cL_law 326 (.invokevirtual 47) 3 329 := ⟨by decide +kernel, rfl⟩
theorem dL_law_329 : DB cL_law 329 (.if_icmp .eq 495) 3 (495) 332 824 := ⟨by decide +kernel, rfl, by decide⟩
theorem dL_law_332 : DR cL_law 332 (.iconst 0) 1 333 := ⟨by decide +kernel, rfl⟩
theorem dL_law_333 : DR cL_law 333 (.ireturn) 1 334 := ⟨by decide +kernel, rfl⟩
theorem dL_law_334 : DR cL_law 334 (.aload_n 1) 1 335 := ⟨by decide +kernel, rfl⟩
theorem dL_law_335 : DR cL_law 335 (.aload_n 0) 1 336 := ⟨by decide +kernel, rfl⟩
theorem dL_law_336 : DR cL_law 336 (.iload_n 3) 1 337 := ⟨by decide +kernel, rfl⟩
theorem dL_law_337 : DR cL_law 337 (.iconst 1) 1 338 := ⟨by decide +kernel, rfl⟩
theorem dL_law_338 : DR cL_law 338 (.iadd) 1 339 := ⟨by decide +kernel, rfl⟩
theorem dL_law_339 : DR cL_law 339 (.iaload) 1 340 := ⟨by decide +kernel, rfl⟩
theorem dL_law_340 : DR cL_law 340 (.invokevirtual 48) 3 343 := ⟨by decide +kernel, rfl⟩
theorem dL_law_343 : DR cL_law 343 (.aload_n 2) 1 344 := ⟨by decide +kernel, rfl⟩
theorem dL_law_344 : DR cL_law 344 (.aload_n 0) 1 345 := ⟨by decide +kernel, rfl⟩
theorem dL_law_345 : DR cL_law 345 (.iload_n 3) 1 346 := ⟨by decide +kernel, rfl⟩
theorem dL_law_346 : DR cL_law 346 (.iconst 1) 1 347 := ⟨by decide +kernel, rfl⟩
theorem dL_law_347 : DR cL_law 347 (.iadd) 1 348 := ⟨by decide +kernel, rfl⟩
theorem dL_law_348 : DR cL_law 348 (.iaload) 1 349 := ⟨by decide +kernel, rfl⟩
theorem dL_law_349 : DR cL_law 349 (.invokevirtual 51) 3 352 := ⟨by decide +kernel, rfl⟩
theorem dL_law_352 : DB cL_law 352 (.if_icmp .eq 472) 3 (472) 355 824 := ⟨by decide +kernel, rfl, by decide⟩
theorem dL_law_355 : DR cL_law 355 (.iconst 0) 1 356 := ⟨by decide +kernel, rfl⟩
theorem dL_law_356 : DR cL_law 356 (.ireturn) 1 357 := ⟨by decide +kernel, rfl⟩
theorem dL_law_357 : DR cL_law 357 (.aload_n 1) 1 358 := ⟨by decide +kernel, rfl⟩
theorem dL_law_358 : DR cL_law 358 (.aload_n 0) 1 359 := ⟨by decide +kernel, rfl⟩
theorem dL_law_359 : DR cL_law 359 (.iload_n 3) 1 360 := ⟨by decide +kernel, rfl⟩
theorem dL_law_360 : DR cL_law 360 (.iconst 1) 1 361 := ⟨by decide +kernel, rfl⟩
theorem dL_law_361 : DR cL_law 361 (.iadd) 1 362 := ⟨by decide +kernel, rfl⟩
theorem dL_law_362 : DR cL_law 362 (.iaload) 1 363 := ⟨by decide +kernel, rfl⟩
theorem dL_law_363 : DR cL_law 363 (.invokevirtual 52) 3 366 := ⟨by decide +kernel, rfl⟩
theorem dL_law_366 : DR cL_law 366 (.aload_n 2) 1 367 := ⟨by decide +kernel, rfl⟩
theorem dL_law_367 : DR cL_law 367 (.aload_n 0) 1 368 := ⟨by decide +kernel, rfl⟩
theorem dL_law_368 : DR cL_law 368 (.iload_n 3) 1 369 := ⟨by decide +kernel, rfl⟩
theorem dL_law_369 : DR cL_law 369 (.iconst 1) 1 370 := ⟨by decide +kernel, rfl⟩
theorem dL_law_370 : DR cL_law 370 (.iadd) 1 371 := ⟨by decide +kernel, rfl⟩
theorem dL_law_371 : DR cL_law 371 (.iaload) 1 372 := ⟨by decide +kernel, rfl⟩
theorem dL_law_372 : DR cL_law 372 (.invokevirtual 55) 3 375 := ⟨by decide +kernel, rfl⟩
theorem dL_law_375 : DB cL_law 375 (.if_icmp .eq 449) 3 (449) 378 824 := ⟨by decide +kernel, rfl, by decide⟩
theorem dL_law_378 : DR cL_law 378 (.iconst 0) 1 379 := ⟨by decide +kernel, rfl⟩
theorem dL_law_379 : DR cL_law 379 (.ireturn) 1 380 := ⟨by decide +kernel, rfl⟩
theorem dL_law_380 : DR cL_law 380 (.aload_n 1) 1 381 := ⟨by decide +kernel, rfl⟩
theorem dL_law_381 : DR cL_law 381 (.aload_n 0) 1 382 := ⟨by decide +kernel, rfl⟩
theorem dL_law_382 : DR cL_law 382 (.iload_n 3) 1 383 := ⟨by decide +kernel, rfl⟩
theorem dL_law_383 : DR cL_law 383 (.iconst 1) 1 384 := ⟨by decide +kernel, rfl⟩
theorem dL_law_384 : DR cL_law 384 (.iadd) 1 385 := ⟨by decide +kernel, rfl⟩
theorem dL_law_385 : DR cL_law 385 (.iaload) 1 386 := ⟨by decide +kernel, rfl⟩
theorem dL_law_386 : DR cL_law 386 (.invokevirtual 56) 3 389 := ⟨by decide +kernel, rfl⟩
theorem dL_law_389 : DR cL_law 389 (.aload_n 2) 1 390 := ⟨by decide +kernel, rfl⟩
theorem dL_law_390 : DR cL_law 390 (.aload_n 0) 1 391 := ⟨by decide +kernel, rfl⟩
theorem dL_law_391 : DR cL_law 391 (.iload_n 3) 1 392 := ⟨by decide +kernel, rfl⟩
theorem dL_law_392 : DR cL_law 392 (.iconst 1) 1 393 := ⟨by decide +kernel, rfl⟩
theorem dL_law_393 : DR cL_law 393 (.iadd) 1 394 := ⟨by decide +kernel, rfl⟩
theorem dL_law_394 : DR cL_law 394 (.iaload) 1 395 := ⟨by decide +kernel, rfl⟩
theorem dL_law_395 : DR cL_law 395 (.invokevirtual 59) 3 398 := ⟨by decide +kernel, rfl⟩
theorem dL_law_398 : DB cL_law 398 (.if_icmp .eq 426) 3 (426) 401 824 := ⟨by decide +kernel, rfl, by decide⟩
theorem dL_law_401 : DR cL_law 401 (.iconst 0) 1 402 := ⟨by decide +kernel, rfl⟩
theorem dL_law_402 : DR cL_law 402 (.ireturn) 1 403 := ⟨by decide +kernel, rfl⟩
theorem dL_law_403 : DR cL_law 403 (.aload_n 1) 1 404 := ⟨by decide +kernel, rfl⟩
theorem dL_law_404 : DR cL_law 404 (.aload_n 0) 1 405 := ⟨by decide +kernel, rfl⟩
theorem dL_law_405 : DR cL_law 405 (.iload_n 3) 1 406 := ⟨by decide +kernel, rfl⟩
theorem dL_law_406 : DR cL_law 406 (.iconst 1) 1 407 := ⟨by decide +kernel, rfl⟩
theorem dL_law_407 : DR cL_law 407 (.iadd) 1 408 := ⟨by decide +kernel, rfl⟩
theorem dL_law_408 : DR cL_law 408 (.iaload) 1 409 := ⟨by decide +kernel, rfl⟩
theorem dL_law_409 : DR cL_law 409 (.aload_n 0) 1 410 := ⟨by decide +kernel, rfl⟩
theorem dL_law_410 : DR cL_law 410 (.iload_n 3) 1 411 := ⟨by decide +kernel, rfl⟩
theorem dL_law_411 : DR cL_law 411 (.iconst 2) 1 412 := ⟨by decide +kernel, rfl⟩
theorem dL_law_412 : DR cL_law 412 (.iadd) 1 413 := ⟨by decide +kernel, rfl⟩
theorem dL_law_413 : DR cL_law 413 (.iaload) 1 414 := ⟨by decide +kernel, rfl⟩
theorem dL_law_414 : DR cL_law 414 (.invokevirtual 60) 3 417 := ⟨by decide +kernel, rfl⟩
theorem dL_law_417 : DR cL_law 417 (.aload_n 2) 1 418 := ⟨by decide +kernel, rfl⟩
theorem dL_law_418 : DR cL_law 418 (.aload_n 0) 1 419 := ⟨by decide +kernel, rfl⟩
theorem dL_law_419 : DR cL_law 419 (.iload_n 3) 1 420 := ⟨by decide +kernel, rfl⟩
theorem dL_law_420 : DR cL_law 420 (.iconst 1) 1 421 := ⟨by decide +kernel, rfl⟩
theorem dL_law_421 : DR cL_law 421 (.iadd) 1 422 := ⟨by decide +kernel, rfl⟩
theorem dL_law_422 : DR cL_law 422 (.iaload) 1 423 := ⟨by decide +kernel, rfl⟩
theorem dL_law_423 : DR cL_law 423 (.aload_n 0) 1 424 := ⟨by decide +kernel, rfl⟩
theorem dL_law_424 : DR cL_law 424 (.iload_n 3) 1 425 := ⟨by decide +kernel, rfl⟩
theorem dL_law_425 : DR cL_law 425 (.iconst 2) 1 426 := ⟨by decide +kernel, rfl⟩
theorem dL_law_426 : DR cL_law 426 (.iadd) 1 427 := ⟨by decide +kernel, rfl⟩
theorem dL_law_427 : DR cL_law 427 (.iaload) 1 428 := ⟨by decide +kernel, rfl⟩
theorem dL_law_428 : DR cL_law 428 (.invokevirtual 63) 3 431 := ⟨by decide +kernel, rfl⟩
theorem dL_law_431 : DB cL_law 431 (.if_icmp .eq 393) 3 (393) 434 824 := ⟨by decide +kernel, rfl, by decide⟩
theorem dL_law_434 : DR cL_law 434 (.iconst 0) 1 435 := ⟨by decide +kernel, rfl⟩
theorem dL_law_435 : DR cL_law 435 (.ireturn) 1 436 := ⟨by decide +kernel, rfl⟩
theorem dL_law_436 : DR cL_law 436 (.aload_n 1) 1 437 := ⟨by decide +kernel, rfl⟩
theorem dL_law_437 : DR cL_law 437 (.invokevirtual 64) 3 440 := ⟨by decide +kernel, rfl⟩
theorem dL_law_440 : DR cL_law 440 (.aload_n 2) 1 441 := ⟨by decide +kernel, rfl⟩
theorem dL_law_441 : DR cL_law 441 (.invokevirtual 67) 3 444 := ⟨by decide +kernel, rfl⟩
theorem dL_law_444 : DB cL_law 444 (.if_icmp .eq 380) 3 (380) 447 824 := ⟨by decide +kernel, rfl, by decide⟩
theorem dL_law_447 : DR cL_law 447 (.iconst 0) 1 448 := ⟨by decide +kernel, rfl⟩
theorem dL_law_448 : DR cL_law 448 (.ireturn) 1 449 := ⟨by decide +kernel, rfl⟩
theorem dL_law_449 : DR cL_law 449 (.aload_n 1) 1 450 := ⟨by decide +kernel, rfl⟩
theorem dL_law_450 : DR cL_law 450 (.aload_n 0) 1 451 := ⟨by decide +kernel, rfl⟩
theorem dL_law_451 : DR cL_law 451 (.iload_n 3) 1 452 := ⟨by decide +kernel, rfl⟩
theorem dL_law_452 : DR cL_law 452 (.iconst 1) 1 453 := ⟨by decide +kernel, rfl⟩
theorem dL_law_453 : DR cL_law 453 (.iadd) 1 454 := ⟨by decide +kernel, rfl⟩
theorem dL_law_454 : DR cL_law 454 (.iaload) 1 455 := ⟨by decide +kernel, rfl⟩
theorem dL_law_455 : DR cL_law 455 (.aload_n 0) 1 456 := ⟨by decide +kernel, rfl⟩
theorem dL_law_456 : DR cL_law 456 (.iload_n 3) 1 457 := ⟨by decide +kernel, rfl⟩
theorem dL_law_457 : DR cL_law 457 (.iconst 2) 1 458 := ⟨by decide +kernel, rfl⟩
theorem dL_law_458 : DR cL_law 458 (.iadd) 1 459 := ⟨by decide +kernel, rfl⟩
theorem dL_law_459 : DR cL_law 459 (.iaload) 1 460 := ⟨by decide +kernel, rfl⟩
theorem dL_law_460 : DR cL_law 460 (.aload_n 0) 1 461 := ⟨by decide +kernel, rfl⟩
theorem dL_law_461 : DR cL_law 461 (.iload_n 3) 1 462 := ⟨by decide +kernel, rfl⟩
theorem dL_law_462 : DR cL_law 462 (.iconst 3) 1 463 := ⟨by decide +kernel, rfl⟩
theorem dL_law_463 : DR cL_law 463 (.iadd) 1 464 := ⟨by decide +kernel, rfl⟩
theorem dL_law_464 : DR cL_law 464 (.iaload) 1 465 := ⟨by decide +kernel, rfl⟩
theorem dL_law_465 : DR cL_law 465 (.invokevirtual 68) 3 468 := ⟨by decide +kernel, rfl⟩
theorem dL_law_468 : DR cL_law 468 (.aload_n 2) 1 469 := ⟨by decide +kernel, rfl⟩
theorem dL_law_469 : DR cL_law 469 (.aload_n 0) 1 470 := ⟨by decide +kernel, rfl⟩
theorem dL_law_470 : DR cL_law 470 (.iload_n 3) 1 471 := ⟨by decide +kernel, rfl⟩
theorem dL_law_471 : DR cL_law 471 (.iconst 1) 1 472 := ⟨by decide +kernel, rfl⟩
theorem dL_law_472 : DR cL_law 472 (.iadd) 1 473 := ⟨by decide +kernel, rfl⟩
theorem dL_law_473 : DR cL_law 473 (.iaload) 1 474 := ⟨by decide +kernel, rfl⟩
theorem dL_law_474 : DR cL_law 474 (.aload_n 0) 1 475 := ⟨by decide +kernel, rfl⟩
theorem dL_law_475 : DR cL_law 475 (.iload_n 3) 1 476 := ⟨by decide +kernel, rfl⟩
theorem dL_law_476 : DR cL_law 476 (.iconst 2) 1 477 := ⟨by decide +kernel, rfl⟩
theorem dL_law_477 : DR cL_law 477 (.iadd) 1 478 := ⟨by decide +kernel, rfl⟩
theorem dL_law_478 : DR cL_law 478 (.iaload) 1 479 := ⟨by decide +kernel, rfl⟩
theorem dL_law_479 : DR cL_law 479 (.aload_n 0) 1 480 := ⟨by decide +kernel, rfl⟩
theorem dL_law_480 : DR cL_law 480 (.iload_n 3) 1 481 := ⟨by decide +kernel, rfl⟩
theorem dL_law_481 : DR cL_law 481 (.iconst 3) 1 482 := ⟨by decide +kernel, rfl⟩
theorem dL_law_482 : DR cL_law 482 (.iadd) 1 483 := ⟨by decide +kernel, rfl⟩
theorem dL_law_483 : DR cL_law 483 (.iaload) 1 484 := ⟨by decide +kernel, rfl⟩
theorem dL_law_484 : DR cL_law 484 (.invokevirtual 72) 3 487 := ⟨by decide +kernel, rfl⟩
theorem dL_law_487 : DB cL_law 487 (.if_icmp .eq 337) 3 (337) 490 824 := ⟨by decide +kernel, rfl, by decide⟩
theorem dL_law_490 : DR cL_law 490 (.iconst 0) 1 491 := ⟨by decide +kernel, rfl⟩
theorem dL_law_491 : DR cL_law 491 (.ireturn) 1 492 := ⟨by decide +kernel, rfl⟩
theorem dL_law_492 : DR cL_law 492 (.aload_n 1) 1 493 := ⟨by decide +kernel, rfl⟩
theorem dL_law_493 : DR cL_law 493 (.invokevirtual 73) 3 496 := ⟨by decide +kernel, rfl⟩
theorem dL_law_496 : DR cL_law 496 (.aload_n 2) 1 497 := ⟨by decide +kernel, rfl⟩
theorem dL_law_497 : DR cL_law 497 (.invokevirtual 76) 3 500 := ⟨by decide +kernel, rfl⟩
theorem dL_law_500 : DB cL_law 500 (.if_icmp .eq 324) 3 (324) 503 824 := ⟨by decide +kernel, rfl, by decide⟩
theorem dL_law_503 : DR cL_law 503 (.iconst 0) 1 504 := ⟨by decide +kernel, rfl⟩
theorem dL_law_504 : DR cL_law 504 (.ireturn) 1 505 := ⟨by decide +kernel, rfl⟩
theorem dL_law_505 : DR cL_law 505 (.aload_n 1) 1 506 := ⟨by decide +kernel, rfl⟩
theorem dL_law_506 : DR cL_law 506 (.aload_n 0) 1 507 := ⟨by decide +kernel, rfl⟩
theorem dL_law_507 : DR cL_law 507 (.iload_n 3) 1 508 := ⟨by decide +kernel, rfl⟩
theorem dL_law_508 : DR cL_law 508 (.iconst 1) 1 509 := ⟨by decide +kernel, rfl⟩
theorem dL_law_509 : DR cL_law 509 (.iadd) 1 510 := ⟨by decide +kernel, rfl⟩
theorem dL_law_510 : DR cL_law 510 (.iaload) 1 511 := ⟨by decide +kernel, rfl⟩
theorem dL_law_511 : DR cL_law 511 (.invokevirtual 77) 3 514 := ⟨by decide +kernel, rfl⟩
theorem dL_law_514 : DR cL_law 514 (.aload_n 2) 1 515 := ⟨by decide +kernel, rfl⟩
theorem dL_law_515 : DR cL_law 515 (.aload_n 0) 1 516 := ⟨by decide +kernel, rfl⟩
theorem dL_law_516 : DR cL_law 516 (.iload_n 3) 1 517 := ⟨by decide +kernel, rfl⟩
theorem dL_law_517 : DR cL_law 517 (.iconst 1) 1 518 := ⟨by decide +kernel, rfl⟩
theorem dL_law_518 : DR cL_law 518 (.iadd) 1 519 := ⟨by decide +kernel, rfl⟩
theorem dL_law_519 : DR cL_law 519 (.iaload) 1 520 := ⟨by decide +kernel, rfl⟩
theorem dL_law_520 : DR cL_law 520 (.invokevirtual 80) 3 523 := ⟨by decide +kernel, rfl⟩
theorem dL_law_523 : DB cL_law 523 (.if_icmp .eq 301) 3 (301) 526 824 := ⟨by decide +kernel, rfl, by decide⟩
theorem dL_law_526 : DR cL_law 526 (.iconst 0) 1 527 := ⟨by decide +kernel, rfl⟩
theorem dL_law_527 : DR cL_law 527 (.ireturn) 1 528 := ⟨by decide +kernel, rfl⟩
theorem dL_law_528 : DR cL_law 528 (.aload_n 1) 1 529 := ⟨by decide +kernel, rfl⟩
theorem dL_law_529 : DR cL_law 529 (.aload_n 0) 1 530 := ⟨by decide +kernel, rfl⟩
theorem dL_law_530 : DR cL_law 530 (.iload_n 3) 1 531 := ⟨by decide +kernel, rfl⟩
theorem dL_law_531 : DR cL_law 531 (.iconst 1) 1 532 := ⟨by decide +kernel, rfl⟩
theorem dL_law_532 : DR cL_law 532 (.iadd) 1 533 := ⟨by decide +kernel, rfl⟩
theorem dL_law_533 : DR cL_law 533 (.iaload) 1 534 := ⟨by decide +kernel, rfl⟩
theorem dL_law_534 : DR cL_law 534 (.invokevirtual 81) 3 537 := ⟨by decide +kernel, rfl⟩
theorem dL_law_537 : DR cL_law 537 (.aload_n 2) 1 538 := ⟨by decide +kernel, rfl⟩
theorem dL_law_538 : DR cL_law 538 (.aload_n 0) 1 539 := ⟨by decide +kernel, rfl⟩
theorem dL_law_539 : DR cL_law 539 (.iload_n 3) 1 540 := ⟨by decide +kernel, rfl⟩
theorem dL_law_540 : DR cL_law 540 (.iconst 1) 1 541 := ⟨by decide +kernel, rfl⟩
theorem dL_law_541 : DR cL_law 541 (.iadd) 1 542 := ⟨by decide +kernel, rfl⟩
theorem dL_law_542 : DR cL_law 542 (.iaload) 1 543 := ⟨by decide +kernel, rfl⟩
theorem dL_law_543 : DR cL_law 543 (.invokevirtual 84) 3 546 := ⟨by decide +kernel, rfl⟩
theorem dL_law_546 : DB cL_law 546 (.if_icmp .eq 278) 3 (278) 549 824 := ⟨by decide +kernel, rfl, by decide⟩
theorem dL_law_549 : DR cL_law 549 (.iconst 0) 1 550 := ⟨by decide +kernel, rfl⟩
theorem dL_law_550 : DR cL_law 550 (.ireturn) 1 551 := ⟨by decide +kernel, rfl⟩
theorem dL_law_551 : DR cL_law 551 (.aload_n 1) 1 552 := ⟨by decide +kernel, rfl⟩
theorem dL_law_552 : DR cL_law 552 (.aload_n 0) 1 553 := ⟨by decide +kernel, rfl⟩
theorem dL_law_553 : DR cL_law 553 (.iload_n 3) 1 554 := ⟨by decide +kernel, rfl⟩
theorem dL_law_554 : DR cL_law 554 (.iconst 1) 1 555 := ⟨by decide +kernel, rfl⟩
theorem dL_law_555 : DR cL_law 555 (.iadd) 1 556 := ⟨by decide +kernel, rfl⟩
theorem dL_law_556 : DR cL_law 556 (.iaload) 1 557 := ⟨by decide +kernel, rfl⟩
theorem dL_law_557 : DR cL_law 557 (.invokevirtual 85) 3 560 := ⟨by decide +kernel, rfl⟩
theorem dL_law_560 : DR cL_law 560 (.aload_n 2) 1 561 := ⟨by decide +kernel, rfl⟩
theorem dL_law_561 : DR cL_law 561 (.aload_n 0) 1 562 := ⟨by decide +kernel, rfl⟩
theorem dL_law_562 : DR cL_law 562 (.iload_n 3) 1 563 := ⟨by decide +kernel, rfl⟩
theorem dL_law_563 : DR cL_law 563 (.iconst 1) 1 564 := ⟨by decide +kernel, rfl⟩
theorem dL_law_564 : DR cL_law 564 (.iadd) 1 565 := ⟨by decide +kernel, rfl⟩
theorem dL_law_565 : DR cL_law 565 (.iaload) 1 566 := ⟨by decide +kernel, rfl⟩
theorem dL_law_566 : DR cL_law 566 (.invokevirtual 88) 3 569 := ⟨by decide +kernel, rfl⟩
theorem dL_law_569 : DB cL_law 569 (.if_icmp .eq 255) 3 (255) 572 824 := ⟨by decide +kernel, rfl, by decide⟩
theorem dL_law_572 : DR cL_law 572 (.iconst 0) 1 573 := ⟨by decide +kernel, rfl⟩
theorem dL_law_573 : DR cL_law 573 (.ireturn) 1 574 := ⟨by decide +kernel, rfl⟩
theorem dL_law_574 : DR cL_law 574 (.aload_n 1) 1 575 := ⟨by decide +kernel, rfl⟩
theorem dL_law_575 : DR cL_law 575 (.aload_n 0) 1 576 := ⟨by decide +kernel, rfl⟩
theorem dL_law_576 : DR cL_law 576 (.iload_n 3) 1 577 := ⟨by decide +kernel, rfl⟩
theorem dL_law_577 : DR cL_law 577 (.iconst 1) 1 578 := ⟨by decide +kernel, rfl⟩
theorem dL_law_578 : DR cL_law 578 (.iadd) 1 579 := ⟨by decide +kernel, rfl⟩
theorem dL_law_579 : DR cL_law 579 (.iaload) 1 580 := ⟨by decide +kernel, rfl⟩
theorem dL_law_580 : DR cL_law 580 (.invokevirtual 89) 3 583 := ⟨by decide +kernel, rfl⟩
theorem dL_law_583 : DR cL_law 583 (.aload_n 2) 1 584 := ⟨by decide +kernel, rfl⟩
theorem dL_law_584 : DR cL_law 584 (.aload_n 0) 1 585 := ⟨by decide +kernel, rfl⟩
theorem dL_law_585 : DR cL_law 585 (.iload_n 3) 1 586 := ⟨by decide +kernel, rfl⟩
theorem dL_law_586 : DR cL_law 586 (.iconst 1) 1 587 := ⟨by decide +kernel, rfl⟩
theorem dL_law_587 : DR cL_law 587 (.iadd) 1 588 := ⟨by decide +kernel, rfl⟩
theorem dL_law_588 : DR cL_law 588 (.iaload) 1 589 := ⟨by decide +kernel, rfl⟩
theorem dL_law_589 : DR cL_law 589 (.invokevirtual 92) 3 592 := ⟨by decide +kernel, rfl⟩
theorem dL_law_592 : DB cL_law 592 (.if_icmp .eq 232) 3 (232) 595 824 := ⟨by decide +kernel, rfl, by decide⟩
theorem dL_law_595 : DR cL_law 595 (.iconst 0) 1 596 := ⟨by decide +kernel, rfl⟩
theorem dL_law_596 : DR cL_law 596 (.ireturn) 1 597 := ⟨by decide +kernel, rfl⟩
theorem dL_law_597 : DR cL_law 597 (.aload_n 1) 1 598 := ⟨by decide +kernel, rfl⟩
theorem dL_law_598 : DR cL_law 598 (.aload_n 0) 1 599 := ⟨by decide +kernel, rfl⟩
theorem dL_law_599 : DR cL_law 599 (.iload_n 3) 1 600 := ⟨by decide +kernel, rfl⟩
theorem dL_law_600 : DR cL_law 600 (.iconst 1) 1 601 := ⟨by decide +kernel, rfl⟩
theorem dL_law_601 : DR cL_law 601 (.iadd) 1 602 := ⟨by decide +kernel, rfl⟩
theorem dL_law_602 : DR cL_law 602 (.iaload) 1 603 := ⟨by decide +kernel, rfl⟩
theorem dL_law_603 : DR cL_law 603 (.aload_n 0) 1 604 := ⟨by decide +kernel, rfl⟩
theorem dL_law_604 : DR cL_law 604 (.iload_n 3) 1 605 := ⟨by decide +kernel, rfl⟩
theorem dL_law_605 : DR cL_law 605 (.iconst 2) 1 606 := ⟨by decide +kernel, rfl⟩
theorem dL_law_606 : DR cL_law 606 (.iadd) 1 607 := ⟨by decide +kernel, rfl⟩
theorem dL_law_607 : DR cL_law 607 (.iaload) 1 608 := ⟨by decide +kernel, rfl⟩
theorem dL_law_608 : DR cL_law 608 (.aload_n 0) 1 609 := ⟨by decide +kernel, rfl⟩
theorem dL_law_609 : DR cL_law 609 (.iload_n 3) 1 610 := ⟨by decide +kernel, rfl⟩
theorem dL_law_610 : DR cL_law 610 (.iconst 3) 1 611 := ⟨by decide +kernel, rfl⟩
theorem dL_law_611 : DR cL_law 611 (.iadd) 1 612 := ⟨by decide +kernel, rfl⟩
theorem dL_law_612 : DR cL_law 612 (.iaload) 1 613 := ⟨by decide +kernel, rfl⟩
theorem dL_law_613 : DR cL_law 613 (.invokevirtual 93) 3 616 := ⟨by decide +kernel, rfl⟩
theorem dL_law_616 : DR cL_law 616 (.aload_n 2) 1 617 := ⟨by decide +kernel, rfl⟩
theorem dL_law_617 : DR cL_law 617 (.aload_n 0) 1 618 := ⟨by decide +kernel, rfl⟩
theorem dL_law_618 : DR cL_law 618 (.iload_n 3) 1 619 := ⟨by decide +kernel, rfl⟩
theorem dL_law_619 : DR cL_law 619 (.iconst 1) 1 620 := ⟨by decide +kernel, rfl⟩
theorem dL_law_620 : DR cL_law 620 (.iadd) 1 621 := ⟨by decide +kernel, rfl⟩
theorem dL_law_621 : DR cL_law 621 (.iaload) 1 622 := ⟨by decide +kernel, rfl⟩
theorem dL_law_622 : DR cL_law 622 (.aload_n 0) 1 623 := ⟨by decide +kernel, rfl⟩
theorem dL_law_623 : DR cL_law 623 (.iload_n 3) 1 624 := ⟨by decide +kernel, rfl⟩
theorem dL_law_624 : DR cL_law 624 (.iconst 2) 1 625 := ⟨by decide +kernel, rfl⟩
theorem dL_law_625 : DR cL_law 625 (.iadd) 1 626 := ⟨by decide +kernel, rfl⟩
theorem dL_law_626 : DR cL_law 626 (.iaload) 1 627 := ⟨by decide +kernel, rfl⟩
theorem dL_law_627 : DR cL_law 627 (.aload_n 0) 1 628 := ⟨by decide +kernel, rfl⟩
theorem dL_law_628 : DR cL_law 628 (.iload_n 3) 1 629 := ⟨by decide +kernel, rfl⟩
theorem dL_law_629 : DR cL_law 629 (.iconst 3) 1 630 := ⟨by decide +kernel, rfl⟩
theorem dL_law_630 : DR cL_law 630 (.iadd) 1 631 := ⟨by decide +kernel, rfl⟩
theorem dL_law_631 : DR cL_law 631 (.iaload) 1 632 := ⟨by decide +kernel, rfl⟩
theorem dL_law_632 : DR cL_law 632 (.invokevirtual 96) 3 635 := ⟨by decide +kernel, rfl⟩
theorem dL_law_635 : DB cL_law 635 (.if_icmp .eq 189) 3 (189) 638 824 := ⟨by decide +kernel, rfl, by decide⟩
theorem dL_law_638 : DR cL_law 638 (.iconst 0) 1 639 := ⟨by decide +kernel, rfl⟩
theorem dL_law_639 : DR cL_law 639 (.ireturn) 1 640 := ⟨by decide +kernel, rfl⟩
theorem dL_law_640 : DR cL_law 640 (.aload_n 1) 1 641 := ⟨by decide +kernel, rfl⟩
theorem dL_law_641 : DR cL_law 641 (.invokevirtual 97) 3 644 := ⟨by decide +kernel, rfl⟩
theorem dL_law_644 : DR cL_law 644 (.aload_n 2) 1 645 := ⟨by decide +kernel, rfl⟩
theorem dL_law_645 : DR cL_law 645 (.invokevirtual 100) 3 648 := ⟨by decide +kernel, rfl⟩
theorem dL_law_648 : DB cL_law 648 (.if_icmp .eq 176) 3 (176) 651 824 := ⟨by decide +kernel, rfl, by decide⟩
theorem dL_law_651 : DR cL_law 651 (.iconst 0) 1 652 := ⟨by decide +kernel, rfl⟩
theorem dL_law_652 : DR cL_law 652 (.ireturn) 1 653 := ⟨by decide +kernel, rfl⟩
theorem dL_law_653 : DR cL_law 653 (.aload_n 1) 1 654 := ⟨by decide +kernel, rfl⟩
theorem dL_law_654 : DR cL_law 654 (.invokevirtual 101) 3 657 := ⟨by decide +kernel, rfl⟩
theorem dL_law_657 : DR cL_law 657 (.aload_n 2) 1 658 := ⟨by decide +kernel, rfl⟩
theorem dL_law_658 : DR cL_law 658 (.invokevirtual 104) 3 661 := ⟨by decide +kernel, rfl⟩
theorem dL_law_661 : DB cL_law 661 (.if_icmp .eq 163) 3 (163) 664 824 := ⟨by decide +kernel, rfl, by decide⟩
theorem dL_law_664 : DR cL_law 664 (.iconst 0) 1 665 := ⟨by decide +kernel, rfl⟩
theorem dL_law_665 : DR cL_law 665 (.ireturn) 1 666 := ⟨by decide +kernel, rfl⟩
theorem dL_law_666 : DR cL_law 666 (.aload_n 1) 1 667 := ⟨by decide +kernel, rfl⟩
theorem dL_law_667 : DR cL_law 667 (.invokevirtual 105) 3 670 := ⟨by decide +kernel, rfl⟩
theorem dL_law_670 : DR cL_law 670 (.aload_n 2) 1 671 := ⟨by decide +kernel, rfl⟩
theorem dL_law_671 : DR cL_law 671 (.invokevirtual 108) 3 674 := ⟨by decide +kernel, rfl⟩
theorem dL_law_674 : DB cL_law 674 (.if_icmp .eq 150) 3 (150) 677 824 := ⟨by decide +kernel, rfl, by decide⟩
theorem dL_law_677 : DR cL_law 677 (.iconst 0) 1 678 := ⟨by decide +kernel, rfl⟩
theorem dL_law_678 : DR cL_law 678 (.ireturn) 1 679 := ⟨by decide +kernel, rfl⟩
theorem dL_law_679 : DR cL_law 679 (.aload_n 1) 1 680 := ⟨by decide +kernel, rfl⟩
theorem dL_law_680 : DR cL_law 680 (.aload_n 0) 1 681 := ⟨by decide +kernel, rfl⟩
theorem dL_law_681 : DR cL_law 681 (.iload_n 3) 1 682 := ⟨by decide +kernel, rfl⟩
theorem dL_law_682 : DR cL_law 682 (.iconst 1) 1 683 := ⟨by decide +kernel, rfl⟩
theorem dL_law_683 : DR cL_law 683 (.iadd) 1 684 := ⟨by decide +kernel, rfl⟩
theorem dL_law_684 : DR cL_law 684 (.iaload) 1 685 := ⟨by decide +kernel, rfl⟩
theorem dL_law_685 : DR cL_law 685 (.aload_n 0) 1 686 := ⟨by decide +kernel, rfl⟩
theorem dL_law_686 : DR cL_law 686 (.iload_n 3) 1 687 := ⟨by decide +kernel, rfl⟩
theorem dL_law_687 : DR cL_law 687 (.iconst 2) 1 688 := ⟨by decide +kernel, rfl⟩
theorem dL_law_688 : DR cL_law 688 (.iadd) 1 689 := ⟨by decide +kernel, rfl⟩
theorem dL_law_689 : DR cL_law 689 (.iaload) 1 690 := ⟨by decide +kernel, rfl⟩
theorem dL_law_690 : DR cL_law 690 (.aload_n 0) 1 691 := ⟨by decide +kernel, rfl⟩
theorem dL_law_691 : DR cL_law 691 (.iload_n 3) 1 692 := ⟨by decide +kernel, rfl⟩
theorem dL_law_692 : DR cL_law 692 (.iconst 3) 1 693 := ⟨by decide +kernel, rfl⟩
theorem dL_law_693 : DR cL_law 693 (.iadd) 1 694 := ⟨by decide +kernel, rfl⟩
theorem dL_law_694 : DR cL_law 694 (.iaload) 1 695 := ⟨by decide +kernel, rfl⟩
theorem dL_law_695 : DR cL_law 695 (.aload_n 0) 1 696 := ⟨by decide +kernel, rfl⟩
theorem dL_law_696 : DR cL_law 696 (.iload_n 3) 1 697 := ⟨by decide +kernel, rfl⟩
theorem dL_law_697 : DR cL_law 697 (.iconst 4) 1 698 := ⟨by decide +kernel, rfl⟩
theorem dL_law_698 : DR cL_law 698 (.iadd) 1 699 := ⟨by decide +kernel, rfl⟩
theorem dL_law_699 : DR cL_law 699 (.iaload) 1 700 := ⟨by decide +kernel, rfl⟩
theorem dL_law_700 : DR cL_law 700 (.invokevirtual 109) 3 703 := ⟨by decide +kernel, rfl⟩
theorem dL_law_703 : DR cL_law 703 (.aload_n 2) 1 704 := ⟨by decide +kernel, rfl⟩
theorem dL_law_704 : DR cL_law 704 (.aload_n 0) 1 705 := ⟨by decide +kernel, rfl⟩
theorem dL_law_705 : DR cL_law 705 (.iload_n 3) 1 706 := ⟨by decide +kernel, rfl⟩
theorem dL_law_706 : DR cL_law 706 (.iconst 1) 1 707 := ⟨by decide +kernel, rfl⟩
theorem dL_law_707 : DR cL_law 707 (.iadd) 1 708 := ⟨by decide +kernel, rfl⟩
theorem dL_law_708 : DR cL_law 708 (.iaload) 1 709 := ⟨by decide +kernel, rfl⟩
theorem dL_law_709 : DR cL_law 709 (.aload_n 0) 1 710 := ⟨by decide +kernel, rfl⟩
theorem dL_law_710 : DR cL_law 710 (.iload_n 3) 1 711 := ⟨by decide +kernel, rfl⟩
theorem dL_law_711 : DR cL_law 711 (.iconst 2) 1 712 := ⟨by decide +kernel, rfl⟩
theorem dL_law_712 : DR cL_law 712 (.iadd) 1 713 := ⟨by decide +kernel, rfl⟩
theorem dL_law_713 : DR cL_law 713 (.iaload) 1 714 := ⟨by decide +kernel, rfl⟩
theorem dL_law_714 : DR cL_law 714 (.aload_n 0) 1 715 := ⟨by decide +kernel, rfl⟩
theorem dL_law_715 : DR cL_law 715 (.iload_n 3) 1 716 := ⟨by decide +kernel, rfl⟩
theorem dL_law_716 : DR cL_law 716 (.iconst 3) 1 717 := ⟨by decide +kernel, rfl⟩
theorem dL_law_717 : DR cL_law 717 (.iadd) 1 718 := ⟨by decide +kernel, rfl⟩
theorem dL_law_718 : DR cL_law 718 (.iaload) 1 719 := ⟨by decide +kernel, rfl⟩
theorem dL_law_719 : DR cL_law 719 (.aload_n 0) 1 720 := ⟨by decide +kernel, rfl⟩
theorem dL_law_720 : DR cL_law 720 (.iload_n 3) 1 721 := ⟨by decide +kernel, rfl⟩
theorem dL_law_721 : DR cL_law 721 (.iconst 4) 1 722 := ⟨by decide +kernel, rfl⟩
theorem dL_law_722 : DR cL_law 722 (.iadd) 1 723 := ⟨by decide +kernel, rfl⟩
theorem dL_law_723 : DR cL_law 723 (.iaload) 1 724 := ⟨by decide +kernel, rfl⟩
theorem dL_law_724 : DR cL_law 724 (.invokevirtual 113) 3 727 := ⟨by decide +kernel, rfl⟩
theorem dL_law_727 : DB cL_law 727 (.if_icmp .eq 97) 3 (97) 730 824 := ⟨by decide +kernel, rfl, by decide⟩
theorem dL_law_730 : DR cL_law 730 (.iconst 0) 1 731 := ⟨by decide +kernel, rfl⟩
theorem dL_law_731 : DR cL_law 731 (.ireturn) 1 732 := ⟨by decide +kernel, rfl⟩
theorem dL_law_732 : DR cL_law 732 (.aload_n 1) 1 733 := ⟨by decide +kernel, rfl⟩
theorem dL_law_733 : DR cL_law 733 (.aload_n 0) 1 734 := ⟨by decide +kernel, rfl⟩
theorem dL_law_734 : DR cL_law 734 (.iload_n 3) 1 735 := ⟨by decide +kernel, rfl⟩
theorem dL_law_735 : DR cL_law 735 (.iconst 1) 1 736 := ⟨by decide +kernel, rfl⟩
theorem dL_law_736 : DR cL_law 736 (.iadd) 1 737 := ⟨by decide +kernel, rfl⟩
theorem dL_law_737 : DR cL_law 737 (.iaload) 1 738 := ⟨by decide +kernel, rfl⟩
theorem dL_law_738 : DR cL_law 738 (.aload_n 0) 1 739 := ⟨by decide +kernel, rfl⟩
theorem dL_law_739 : DR cL_law 739 (.iload_n 3) 1 740 := ⟨by decide +kernel, rfl⟩
theorem dL_law_740 : DR cL_law 740 (.iconst 2) 1 741 := ⟨by decide +kernel, rfl⟩
theorem dL_law_741 : DR cL_law 741 (.iadd) 1 742 := ⟨by decide +kernel, rfl⟩
theorem dL_law_742 : DR cL_law 742 (.iaload) 1 743 := ⟨by decide +kernel, rfl⟩
theorem dL_law_743 : DR cL_law 743 (.aload_n 0) 1 744 := ⟨by decide +kernel, rfl⟩
theorem dL_law_744 : DR cL_law 744 (.iload_n 3) 1 745 := ⟨by decide +kernel, rfl⟩
theorem dL_law_745 : DR cL_law 745 (.iconst 3) 1 746 := ⟨by decide +kernel, rfl⟩
theorem dL_law_746 : DR cL_law 746 (.iadd) 1 747 := ⟨by decide +kernel, rfl⟩
theorem dL_law_747 : DR cL_law 747 (.iaload) 1 748 := ⟨by decide +kernel, rfl⟩
theorem dL_law_748 : DR cL_law 748 (.invokevirtual 114) 3 751 := ⟨by decide +kernel, rfl⟩
theorem dL_law_751 : DR cL_law 751 (.aload_n 2) 1 752 := ⟨by decide +kernel, rfl⟩
theorem dL_law_752 : DR cL_law 752 (.aload_n 0) 1 753 := ⟨by decide +kernel, rfl⟩
theorem dL_law_753 : DR cL_law 753 (.iload_n 3) 1 754 := ⟨by decide +kernel, rfl⟩
theorem dL_law_754 : DR cL_law 754 (.iconst 1) 1 755 := ⟨by decide +kernel, rfl⟩
theorem dL_law_755 : DR cL_law 755 (.iadd) 1 756 := ⟨by decide +kernel, rfl⟩
theorem dL_law_756 : DR cL_law 756 (.iaload) 1 757 := ⟨by decide +kernel, rfl⟩
theorem dL_law_757 : DR cL_law 757 (.aload_n 0) 1 758 := ⟨by decide +kernel, rfl⟩
theorem dL_law_758 : DR cL_law 758 (.iload_n 3) 1 759 := ⟨by decide +kernel, rfl⟩
theorem dL_law_759 : DR cL_law 759 (.iconst 2) 1 760 := ⟨by decide +kernel, rfl⟩
theorem dL_law_760 : DR cL_law 760 (.iadd) 1 761 := ⟨by decide +kernel, rfl⟩
theorem dL_law_761 : DR cL_law 761 (.iaload) 1 762 := ⟨by decide +kernel, rfl⟩
theorem dL_law_762 : DR cL_law 762 (.aload_n 0) 1 763 := ⟨by decide +kernel, rfl⟩
theorem dL_law_763 : DR cL_law 763 (.iload_n 3) 1 764 := ⟨by decide +kernel, rfl⟩
theorem dL_law_764 : DR cL_law 764 (.iconst 3) 1 765 := ⟨by decide +kernel, rfl⟩
theorem dL_law_765 : DR cL_law 765 (.iadd) 1 766 := ⟨by decide +kernel, rfl⟩
theorem dL_law_766 : DR cL_law 766 (.iaload) 1 767 := ⟨by decide +kernel, rfl⟩
theorem dL_law_767 : DR cL_law 767 (.invokevirtual 117) 3 770 := ⟨by decide +kernel, rfl⟩
theorem dL_law_770 : DB cL_law 770 (.if_icmp .eq 54) 3 (54) 773 824 := ⟨by decide +kernel, rfl, by decide⟩
theorem dL_law_773 : DR cL_law 773 (.iconst 0) 1 774 := ⟨by decide +kernel, rfl⟩
theorem dL_law_774 : DR cL_law 774 (.ireturn) 1 775 := ⟨by decide +kernel, rfl⟩
theorem dL_law_775 : DR cL_law 775 (.aload_n 1) 1 776 := ⟨by decide +kernel, rfl⟩
theorem dL_law_776 : DR cL_law 776 (.invokevirtual 118) 3 779 := ⟨by decide +kernel, rfl⟩
theorem dL_law_779 : DR cL_law 779 (.aload_n 2) 1 780 := ⟨by decide +kernel, rfl⟩
theorem dL_law_780 : DR cL_law 780 (.invokevirtual 121) 3 783 := ⟨by decide +kernel, rfl⟩
theorem dL_law_783 : DB cL_law 783 (.if_icmp .eq 41) 3 (41) 786 824 := ⟨by decide +kernel, rfl, by decide⟩
theorem dL_law_786 : DR cL_law 786 (.iconst 0) 1 787 := ⟨by decide +kernel, rfl⟩
theorem dL_law_787 : DR cL_law 787 (.ireturn) 1 788 := ⟨by decide +kernel, rfl⟩
theorem dL_law_788 : DR cL_law 788 (.aload_n 1) 1 789 := ⟨by decide +kernel, rfl⟩
theorem dL_law_789 : DR cL_law 789 (.invokevirtual 122) 3 792 := ⟨by decide +kernel, rfl⟩
theorem dL_law_792 : DR cL_law 792 (.aload_n 2) 1 793 := ⟨by decide +kernel, rfl⟩
theorem dL_law_793 : DR cL_law 793 (.invokevirtual 125) 3 796 := ⟨by decide +kernel, rfl⟩
theorem dL_law_796 : DB cL_law 796 (.if_icmp .eq 28) 3 (28) 799 824 := ⟨by decide +kernel, rfl, by decide⟩
theorem dL_law_799 : DR cL_law 799 (.iconst 0) 1 800 := ⟨by decide +kernel, rfl⟩
theorem dL_law_800 : DR cL_law 800 (.ireturn) 1 801 := ⟨by decide +kernel, rfl⟩
theorem dL_law_801 : DR cL_law 801 (.aload_n 1) 1 802 := ⟨by decide +kernel, rfl⟩
theorem dL_law_802 : DR cL_law 802 (.aload_n 0) 1 803 := ⟨by decide +kernel, rfl⟩
theorem dL_law_803 : DR cL_law 803 (.iload_n 3) 1 804 := ⟨by decide +kernel, rfl⟩
theorem dL_law_804 : DR cL_law 804 (.iconst 1) 1 805 := ⟨by decide +kernel, rfl⟩
theorem dL_law_805 : DR cL_law 805 (.iadd) 1 806 := ⟨by decide +kernel, rfl⟩
theorem dL_law_806 : DR cL_law 806 (.iaload) 1 807 := ⟨by decide +kernel, rfl⟩
theorem dL_law_807 : DR cL_law 807 (.invokevirtual 126) 3 810 := ⟨by decide +kernel, rfl⟩
theorem dL_law_810 : DR cL_law 810 (.aload_n 2) 1 811 := ⟨by decide +kernel, rfl⟩
theorem dL_law_811 : DR cL_law 811 (.aload_n 0) 1 812 := ⟨by decide +kernel, rfl⟩
theorem dL_law_812 : DR cL_law 812 (.iload_n 3) 1 813 := ⟨by decide +kernel, rfl⟩
theorem dL_law_813 : DR cL_law 813 (.iconst 1) 1 814 := ⟨by decide +kernel, rfl⟩
theorem dL_law_814 : DR cL_law 814 (.iadd) 1 815 := ⟨by decide +kernel, rfl⟩
theorem dL_law_815 : DR cL_law 815 (.iaload) 1 816 := ⟨by decide +kernel, rfl⟩
theorem dL_law_816 : DR cL_law 816 (.invokevirtual 129) 3 819 := ⟨by decide +kernel, rfl⟩
theorem dL_law_819 : DB cL_law 819 (.if_icmp .eq 5) 3 (5) 822 824 := ⟨by decide +kernel, rfl, by decide⟩
theorem dL_law_822 : DR cL_law 822 (.iconst 0) 1 823 := ⟨by decide +kernel, rfl⟩
theorem dL_law_823 : DR cL_law 823 (.ireturn) 1 824 := ⟨by decide +kernel, rfl⟩
theorem dL_law_824 : DR cL_law 824 (.iinc 3 5) 3 827 := ⟨by decide +kernel, rfl⟩
theorem dL_law_827 : DB cL_law 827 (.goto (-809)) 3 (-809) 830 18 := ⟨by decide +kernel, rfl, by decide⟩
theorem dL_law_830 : DR cL_law 830 (.iconst 1) 1 831 := ⟨by decide +kernel, rfl⟩
theorem dL_law_831 : DR cL_law 831 (.ireturn) 1 832 := ⟨by decide +kernel, rfl⟩
end
section
/-! numbers as naturals -/
theorem iinc1 (a : Nat) : nI a + Int32.ofInt 1 = nI (a + 1) := nI_1 a
theorem iinc5 (a : Nat) : nI a + Int32.ofInt 5 = nI (a + 5) := nI_add a 5
theorem iincm (a : Nat) : nI (a + 1) + Int32.ofInt (-1) = nI a := pk_m1 a
theorem i31 {a : Nat} (h : a < 1000000) : a < 2 ^ 31 := Nat.lt_trans h (Nat.le_of_ble_eq_true rfl)
theorem x_const {r : Ev} {d : Nat} {y : MethodName} {cc : ByteArray} {mr : Nat × Option FieldType} {b : Nat × Nat} {pc q : Nat} {lv : List (Option Value)} {st : List Value} {n : Nat} {I : MI} {Q : MQ2} {F : Post} {z : Int} {c : Nat} (hd : DR cc pc (.iconst z) 1 q) (hv : Int32.ofInt z = nI c) (k : X r d y cc mr b q lv (.int (nI c) :: st) n I Q F) : X r d y cc mr b pc lv st n I Q F := x_iconst hd hv k
theorem x_bip {r : Ev} {d : Nat} {y : MethodName} {cc : ByteArray} {mr : Nat × Option FieldType} {b : Nat × Nat} {pc q : Nat} {lv : List (Option Value)} {st : List Value} {n : Nat} {I : MI} {Q : MQ2} {F : Post} {z : Int} {c : Nat} (hd : DR cc pc (.bipush z) 2 q) (hv : (Int8.ofInt z).toInt32 = nI c) (k : X r d y cc mr b q lv (.int (nI c) :: st) n I Q F) : X r d y cc mr b pc lv st n I Q F := x_bipush hd hv k
theorem x_sip {r : Ev} {d : Nat} {y : MethodName} {cc : ByteArray} {mr : Nat × Option FieldType} {b : Nat × Nat} {pc q : Nat} {lv : List (Option Value)} {st : List Value} {n : Nat} {I : MI} {Q : MQ2} {F : Post} {z : Int} {c : Nat} (hd : DR cc pc (.sipush z) 3 q) (hv : (Int16.ofInt z).toInt32 = nI c) (k : X r d y cc mr b q lv (.int (nI c) :: st) n I Q F) : X r d y cc mr b pc lv st n I Q F := x_sipush hd hv k
theorem x_iaddN {r : Ev} {d : Nat} {y : MethodName} {cc : ByteArray} {mr : Nat × Option FieldType} {b : Nat × Nat} {pc q : Nat} {lv : List (Option Value)} {st : List Value} {n : Nat} {I : MI} {Q : MQ2} {F : Post} {x x2 : Nat} (hd : DR cc pc .iadd 1 q) (k : X r d y cc mr b q lv (.int (nI (x + x2)) :: st) n I Q F) : X r d y cc mr b pc lv (.int (nI x2) :: .int (nI x) :: st) n I Q F := x_iadd hd (by rw [nI_add]; exact k)
theorem x_imulN {r : Ev} {d : Nat} {y : MethodName} {cc : ByteArray} {mr : Nat × Option FieldType} {b : Nat × Nat} {pc q : Nat} {lv : List (Option Value)} {st : List Value} {n : Nat} {I : MI} {Q : MQ2} {F : Post} {x x2 : Nat} (hd : DR cc pc .imul 1 q) (k : X r d y cc mr b q lv (.int (nI (x * x2)) :: st) n I Q F) : X r d y cc mr b pc lv (.int (nI x2) :: .int (nI x) :: st) n I Q F := x_imul hd (by rw [pk_mul]; exact k)
theorem x_isubN {r : Ev} {d : Nat} {y : MethodName} {cc : ByteArray} {mr : Nat × Option FieldType} {b : Nat × Nat} {pc q : Nat} {lv : List (Option Value)} {st : List Value} {n : Nat} {I : MI} {Q : MQ2} {F : Post} {x x2 : Nat} (hd : DR cc pc .isub 1 q) (h : x2 ≤ x) (k : X r d y cc mr b q lv (.int (nI (x - x2)) :: st) n I Q F) : X r d y cc mr b pc lv (.int (nI x2) :: .int (nI x) :: st) n I Q F := x_isub hd (by rw [pk_sub h]; exact k)
theorem x_idivN {r : Ev} {d : Nat} {y : MethodName} {cc : ByteArray} {mr : Nat × Option FieldType} {b : Nat × Nat} {pc q : Nat} {lv : List (Option Value)} {st : List Value} {n : Nat} {I : MI} {Q : MQ2} {F : Post} {x x2 : Nat} (hd : DR cc pc .idiv 1 q) (h : x < 100000000) (h0 : 0 < x2) (h2 : x2 < 100000000) (k : X r d y cc mr b q lv (.int (nI (x / x2)) :: st) n I Q F) : X r d y cc mr b pc lv (.int (nI x2) :: .int (nI x) :: st) n I Q F := x_idiv hd (nI_ne0 h0 (by omega)) (by rw [pk_div (by omega) h0 (by omega)]; exact k)
theorem x_iremN {r : Ev} {d : Nat} {y : MethodName} {cc : ByteArray} {mr : Nat × Option FieldType} {b : Nat × Nat} {pc q : Nat} {lv : List (Option Value)} {st : List Value} {n : Nat} {I : MI} {Q : MQ2} {F : Post} {x x2 : Nat} (hd : DR cc pc .irem 1 q) (h : x < 100000000) (h0 : 0 < x2) (h2 : x2 < 100000000) (k : X r d y cc mr b q lv (.int (nI (x % x2)) :: st) n I Q F) : X r d y cc mr b pc lv (.int (nI x2) :: .int (nI x) :: st) n I Q F := x_irem hd (nI_ne0 h0 (by omega)) (by rw [pk_rem (by omega) h0 (by omega)]; exact k)
theorem x_icmp_eqN {r : Ev} {d : Nat} {y : MethodName} {cc : ByteArray} {mr : Nat × Option FieldType} {b : Nat × Nat} {pc q : Nat} {lv : List (Option Value)} {st : List Value} {n : Nat} {I : MI} {Q : MQ2} {F : Post} {x x2 : Nat} {off : Int} {t : Nat} (hd : DB cc pc (.if_icmp .eq off) 3 off q t) (h : x < 100000000) (h2 : x2 < 100000000) (kt : x = x2 → X r d y cc mr b t lv st n I Q F) (kf : ¬ x = x2 → X r d y cc mr b q lv st n I Q F) : X r d y cc mr b pc lv (.int (nI x2) :: .int (nI x) :: st) n I Q F := by
  have e1 := nI_eq (show x < 2 ^ 31 by omega) (show x2 < 2 ^ 31 by omega)
  have e2 := nI_ltI (show x < 2 ^ 31 by omega) (show x2 < 2 ^ 31 by omega)
  have e3 := nI_leI (show x < 2 ^ 31 by omega) (show x2 < 2 ^ 31 by omega)
  have e4 := nI_ltI (show x2 < 2 ^ 31 by omega) (show x < 2 ^ 31 by omega)
  have e5 := nI_leI (show x2 < 2 ^ 31 by omega) (show x < 2 ^ 31 by omega)
  exact x_icmp_eq hd (fun z => kt (by simp only [ne_eq, e1, e2, e3, e4, e5, gt_iff_lt, ge_iff_le] at z ⊢; omega)) (fun z => kf (by simp only [ne_eq, e1, e2, e3, e4, e5, gt_iff_lt, ge_iff_le] at z ⊢; omega))
theorem x_if_eqN {r : Ev} {d : Nat} {y : MethodName} {cc : ByteArray} {mr : Nat × Option FieldType} {b : Nat × Nat} {pc q : Nat} {lv : List (Option Value)} {st : List Value} {n : Nat} {I : MI} {Q : MQ2} {F : Post} {x : Nat} {off : Int} {t : Nat} (hd : DB cc pc (.ifCond .eq off) 3 off q t) (h : x < 100000000) (kt : x = 0 → X r d y cc mr b t lv st n I Q F) (kf : ¬ x = 0 → X r d y cc mr b q lv st n I Q F) : X r d y cc mr b pc lv (.int (nI x) :: st) n I Q F := by
  have e1 : nI x = 0 ↔ x = 0 := nI_eq (b := 0) (show x < 2 ^ 31 by omega) (by omega)
  have e2 : nI x < 0 ↔ x < 0 := nI_ltI (b := 0) (show x < 2 ^ 31 by omega) (by omega)
  have e3 : nI x ≤ 0 ↔ x ≤ 0 := nI_leI (b := 0) (show x < 2 ^ 31 by omega) (by omega)
  have e4 : 0 < nI x ↔ 0 < x := nI_ltI (a := 0) (by omega) (show x < 2 ^ 31 by omega)
  have e5 : 0 ≤ nI x ↔ 0 ≤ x := nI_leI (a := 0) (by omega) (show x < 2 ^ 31 by omega)
  exact x_if_eq hd (fun z => kt (by simp only [ne_eq, e1, e2, e3, e4, e5, gt_iff_lt, ge_iff_le] at z ⊢; omega)) (fun z => kf (by simp only [ne_eq, e1, e2, e3, e4, e5, gt_iff_lt, ge_iff_le] at z ⊢; omega))
theorem x_icmp_neN {r : Ev} {d : Nat} {y : MethodName} {cc : ByteArray} {mr : Nat × Option FieldType} {b : Nat × Nat} {pc q : Nat} {lv : List (Option Value)} {st : List Value} {n : Nat} {I : MI} {Q : MQ2} {F : Post} {x x2 : Nat} {off : Int} {t : Nat} (hd : DB cc pc (.if_icmp .ne off) 3 off q t) (h : x < 100000000) (h2 : x2 < 100000000) (kt : x ≠ x2 → X r d y cc mr b t lv st n I Q F) (kf : x = x2 → X r d y cc mr b q lv st n I Q F) : X r d y cc mr b pc lv (.int (nI x2) :: .int (nI x) :: st) n I Q F := by
  have e1 := nI_eq (show x < 2 ^ 31 by omega) (show x2 < 2 ^ 31 by omega)
  have e2 := nI_ltI (show x < 2 ^ 31 by omega) (show x2 < 2 ^ 31 by omega)
  have e3 := nI_leI (show x < 2 ^ 31 by omega) (show x2 < 2 ^ 31 by omega)
  have e4 := nI_ltI (show x2 < 2 ^ 31 by omega) (show x < 2 ^ 31 by omega)
  have e5 := nI_leI (show x2 < 2 ^ 31 by omega) (show x < 2 ^ 31 by omega)
  exact x_icmp_ne hd (fun z => kt (by simp only [ne_eq, e1, e2, e3, e4, e5, gt_iff_lt, ge_iff_le] at z ⊢; omega)) (fun z => kf (by simp only [ne_eq, e1, e2, e3, e4, e5, gt_iff_lt, ge_iff_le] at z ⊢; omega))
theorem x_if_neN {r : Ev} {d : Nat} {y : MethodName} {cc : ByteArray} {mr : Nat × Option FieldType} {b : Nat × Nat} {pc q : Nat} {lv : List (Option Value)} {st : List Value} {n : Nat} {I : MI} {Q : MQ2} {F : Post} {x : Nat} {off : Int} {t : Nat} (hd : DB cc pc (.ifCond .ne off) 3 off q t) (h : x < 100000000) (kt : x ≠ 0 → X r d y cc mr b t lv st n I Q F) (kf : x = 0 → X r d y cc mr b q lv st n I Q F) : X r d y cc mr b pc lv (.int (nI x) :: st) n I Q F := by
  have e1 : nI x = 0 ↔ x = 0 := nI_eq (b := 0) (show x < 2 ^ 31 by omega) (by omega)
  have e2 : nI x < 0 ↔ x < 0 := nI_ltI (b := 0) (show x < 2 ^ 31 by omega) (by omega)
  have e3 : nI x ≤ 0 ↔ x ≤ 0 := nI_leI (b := 0) (show x < 2 ^ 31 by omega) (by omega)
  have e4 : 0 < nI x ↔ 0 < x := nI_ltI (a := 0) (by omega) (show x < 2 ^ 31 by omega)
  have e5 : 0 ≤ nI x ↔ 0 ≤ x := nI_leI (a := 0) (by omega) (show x < 2 ^ 31 by omega)
  exact x_if_ne hd (fun z => kt (by simp only [ne_eq, e1, e2, e3, e4, e5, gt_iff_lt, ge_iff_le] at z ⊢; omega)) (fun z => kf (by simp only [ne_eq, e1, e2, e3, e4, e5, gt_iff_lt, ge_iff_le] at z ⊢; omega))
theorem x_icmp_ltN {r : Ev} {d : Nat} {y : MethodName} {cc : ByteArray} {mr : Nat × Option FieldType} {b : Nat × Nat} {pc q : Nat} {lv : List (Option Value)} {st : List Value} {n : Nat} {I : MI} {Q : MQ2} {F : Post} {x x2 : Nat} {off : Int} {t : Nat} (hd : DB cc pc (.if_icmp .lt off) 3 off q t) (h : x < 100000000) (h2 : x2 < 100000000) (kt : x < x2 → X r d y cc mr b t lv st n I Q F) (kf : ¬ x < x2 → X r d y cc mr b q lv st n I Q F) : X r d y cc mr b pc lv (.int (nI x2) :: .int (nI x) :: st) n I Q F := by
  have e1 := nI_eq (show x < 2 ^ 31 by omega) (show x2 < 2 ^ 31 by omega)
  have e2 := nI_ltI (show x < 2 ^ 31 by omega) (show x2 < 2 ^ 31 by omega)
  have e3 := nI_leI (show x < 2 ^ 31 by omega) (show x2 < 2 ^ 31 by omega)
  have e4 := nI_ltI (show x2 < 2 ^ 31 by omega) (show x < 2 ^ 31 by omega)
  have e5 := nI_leI (show x2 < 2 ^ 31 by omega) (show x < 2 ^ 31 by omega)
  exact x_icmp_lt hd (fun z => kt (by simp only [ne_eq, e1, e2, e3, e4, e5, gt_iff_lt, ge_iff_le] at z ⊢; omega)) (fun z => kf (by simp only [ne_eq, e1, e2, e3, e4, e5, gt_iff_lt, ge_iff_le] at z ⊢; omega))
theorem x_if_ltN {r : Ev} {d : Nat} {y : MethodName} {cc : ByteArray} {mr : Nat × Option FieldType} {b : Nat × Nat} {pc q : Nat} {lv : List (Option Value)} {st : List Value} {n : Nat} {I : MI} {Q : MQ2} {F : Post} {x : Nat} {off : Int} {t : Nat} (hd : DB cc pc (.ifCond .lt off) 3 off q t) (h : x < 100000000) (kt : x < 0 → X r d y cc mr b t lv st n I Q F) (kf : ¬ x < 0 → X r d y cc mr b q lv st n I Q F) : X r d y cc mr b pc lv (.int (nI x) :: st) n I Q F := by
  have e1 : nI x = 0 ↔ x = 0 := nI_eq (b := 0) (show x < 2 ^ 31 by omega) (by omega)
  have e2 : nI x < 0 ↔ x < 0 := nI_ltI (b := 0) (show x < 2 ^ 31 by omega) (by omega)
  have e3 : nI x ≤ 0 ↔ x ≤ 0 := nI_leI (b := 0) (show x < 2 ^ 31 by omega) (by omega)
  have e4 : 0 < nI x ↔ 0 < x := nI_ltI (a := 0) (by omega) (show x < 2 ^ 31 by omega)
  have e5 : 0 ≤ nI x ↔ 0 ≤ x := nI_leI (a := 0) (by omega) (show x < 2 ^ 31 by omega)
  exact x_if_lt hd (fun z => kt (by simp only [ne_eq, e1, e2, e3, e4, e5, gt_iff_lt, ge_iff_le] at z ⊢; omega)) (fun z => kf (by simp only [ne_eq, e1, e2, e3, e4, e5, gt_iff_lt, ge_iff_le] at z ⊢; omega))
theorem x_icmp_geN {r : Ev} {d : Nat} {y : MethodName} {cc : ByteArray} {mr : Nat × Option FieldType} {b : Nat × Nat} {pc q : Nat} {lv : List (Option Value)} {st : List Value} {n : Nat} {I : MI} {Q : MQ2} {F : Post} {x x2 : Nat} {off : Int} {t : Nat} (hd : DB cc pc (.if_icmp .ge off) 3 off q t) (h : x < 100000000) (h2 : x2 < 100000000) (kt : x2 ≤ x → X r d y cc mr b t lv st n I Q F) (kf : ¬ x2 ≤ x → X r d y cc mr b q lv st n I Q F) : X r d y cc mr b pc lv (.int (nI x2) :: .int (nI x) :: st) n I Q F := by
  have e1 := nI_eq (show x < 2 ^ 31 by omega) (show x2 < 2 ^ 31 by omega)
  have e2 := nI_ltI (show x < 2 ^ 31 by omega) (show x2 < 2 ^ 31 by omega)
  have e3 := nI_leI (show x < 2 ^ 31 by omega) (show x2 < 2 ^ 31 by omega)
  have e4 := nI_ltI (show x2 < 2 ^ 31 by omega) (show x < 2 ^ 31 by omega)
  have e5 := nI_leI (show x2 < 2 ^ 31 by omega) (show x < 2 ^ 31 by omega)
  exact x_icmp_ge hd (fun z => kt (by simp only [ne_eq, e1, e2, e3, e4, e5, gt_iff_lt, ge_iff_le] at z ⊢; omega)) (fun z => kf (by simp only [ne_eq, e1, e2, e3, e4, e5, gt_iff_lt, ge_iff_le] at z ⊢; omega))
theorem x_if_geN {r : Ev} {d : Nat} {y : MethodName} {cc : ByteArray} {mr : Nat × Option FieldType} {b : Nat × Nat} {pc q : Nat} {lv : List (Option Value)} {st : List Value} {n : Nat} {I : MI} {Q : MQ2} {F : Post} {x : Nat} {off : Int} {t : Nat} (hd : DB cc pc (.ifCond .ge off) 3 off q t) (h : x < 100000000) (kt : 0 ≤ x → X r d y cc mr b t lv st n I Q F) (kf : ¬ 0 ≤ x → X r d y cc mr b q lv st n I Q F) : X r d y cc mr b pc lv (.int (nI x) :: st) n I Q F := by
  have e1 : nI x = 0 ↔ x = 0 := nI_eq (b := 0) (show x < 2 ^ 31 by omega) (by omega)
  have e2 : nI x < 0 ↔ x < 0 := nI_ltI (b := 0) (show x < 2 ^ 31 by omega) (by omega)
  have e3 : nI x ≤ 0 ↔ x ≤ 0 := nI_leI (b := 0) (show x < 2 ^ 31 by omega) (by omega)
  have e4 : 0 < nI x ↔ 0 < x := nI_ltI (a := 0) (by omega) (show x < 2 ^ 31 by omega)
  have e5 : 0 ≤ nI x ↔ 0 ≤ x := nI_leI (a := 0) (by omega) (show x < 2 ^ 31 by omega)
  exact x_if_ge hd (fun z => kt (by simp only [ne_eq, e1, e2, e3, e4, e5, gt_iff_lt, ge_iff_le] at z ⊢; omega)) (fun z => kf (by simp only [ne_eq, e1, e2, e3, e4, e5, gt_iff_lt, ge_iff_le] at z ⊢; omega))
theorem x_icmp_gtN {r : Ev} {d : Nat} {y : MethodName} {cc : ByteArray} {mr : Nat × Option FieldType} {b : Nat × Nat} {pc q : Nat} {lv : List (Option Value)} {st : List Value} {n : Nat} {I : MI} {Q : MQ2} {F : Post} {x x2 : Nat} {off : Int} {t : Nat} (hd : DB cc pc (.if_icmp .gt off) 3 off q t) (h : x < 100000000) (h2 : x2 < 100000000) (kt : x2 < x → X r d y cc mr b t lv st n I Q F) (kf : ¬ x2 < x → X r d y cc mr b q lv st n I Q F) : X r d y cc mr b pc lv (.int (nI x2) :: .int (nI x) :: st) n I Q F := by
  have e1 := nI_eq (show x < 2 ^ 31 by omega) (show x2 < 2 ^ 31 by omega)
  have e2 := nI_ltI (show x < 2 ^ 31 by omega) (show x2 < 2 ^ 31 by omega)
  have e3 := nI_leI (show x < 2 ^ 31 by omega) (show x2 < 2 ^ 31 by omega)
  have e4 := nI_ltI (show x2 < 2 ^ 31 by omega) (show x < 2 ^ 31 by omega)
  have e5 := nI_leI (show x2 < 2 ^ 31 by omega) (show x < 2 ^ 31 by omega)
  exact x_icmp_gt hd (fun z => kt (by simp only [ne_eq, e1, e2, e3, e4, e5, gt_iff_lt, ge_iff_le] at z ⊢; omega)) (fun z => kf (by simp only [ne_eq, e1, e2, e3, e4, e5, gt_iff_lt, ge_iff_le] at z ⊢; omega))
theorem x_if_gtN {r : Ev} {d : Nat} {y : MethodName} {cc : ByteArray} {mr : Nat × Option FieldType} {b : Nat × Nat} {pc q : Nat} {lv : List (Option Value)} {st : List Value} {n : Nat} {I : MI} {Q : MQ2} {F : Post} {x : Nat} {off : Int} {t : Nat} (hd : DB cc pc (.ifCond .gt off) 3 off q t) (h : x < 100000000) (kt : 0 < x → X r d y cc mr b t lv st n I Q F) (kf : ¬ 0 < x → X r d y cc mr b q lv st n I Q F) : X r d y cc mr b pc lv (.int (nI x) :: st) n I Q F := by
  have e1 : nI x = 0 ↔ x = 0 := nI_eq (b := 0) (show x < 2 ^ 31 by omega) (by omega)
  have e2 : nI x < 0 ↔ x < 0 := nI_ltI (b := 0) (show x < 2 ^ 31 by omega) (by omega)
  have e3 : nI x ≤ 0 ↔ x ≤ 0 := nI_leI (b := 0) (show x < 2 ^ 31 by omega) (by omega)
  have e4 : 0 < nI x ↔ 0 < x := nI_ltI (a := 0) (by omega) (show x < 2 ^ 31 by omega)
  have e5 : 0 ≤ nI x ↔ 0 ≤ x := nI_leI (a := 0) (by omega) (show x < 2 ^ 31 by omega)
  exact x_if_gt hd (fun z => kt (by simp only [ne_eq, e1, e2, e3, e4, e5, gt_iff_lt, ge_iff_le] at z ⊢; omega)) (fun z => kf (by simp only [ne_eq, e1, e2, e3, e4, e5, gt_iff_lt, ge_iff_le] at z ⊢; omega))
theorem x_icmp_leN {r : Ev} {d : Nat} {y : MethodName} {cc : ByteArray} {mr : Nat × Option FieldType} {b : Nat × Nat} {pc q : Nat} {lv : List (Option Value)} {st : List Value} {n : Nat} {I : MI} {Q : MQ2} {F : Post} {x x2 : Nat} {off : Int} {t : Nat} (hd : DB cc pc (.if_icmp .le off) 3 off q t) (h : x < 100000000) (h2 : x2 < 100000000) (kt : x ≤ x2 → X r d y cc mr b t lv st n I Q F) (kf : ¬ x ≤ x2 → X r d y cc mr b q lv st n I Q F) : X r d y cc mr b pc lv (.int (nI x2) :: .int (nI x) :: st) n I Q F := by
  have e1 := nI_eq (show x < 2 ^ 31 by omega) (show x2 < 2 ^ 31 by omega)
  have e2 := nI_ltI (show x < 2 ^ 31 by omega) (show x2 < 2 ^ 31 by omega)
  have e3 := nI_leI (show x < 2 ^ 31 by omega) (show x2 < 2 ^ 31 by omega)
  have e4 := nI_ltI (show x2 < 2 ^ 31 by omega) (show x < 2 ^ 31 by omega)
  have e5 := nI_leI (show x2 < 2 ^ 31 by omega) (show x < 2 ^ 31 by omega)
  exact x_icmp_le hd (fun z => kt (by simp only [ne_eq, e1, e2, e3, e4, e5, gt_iff_lt, ge_iff_le] at z ⊢; omega)) (fun z => kf (by simp only [ne_eq, e1, e2, e3, e4, e5, gt_iff_lt, ge_iff_le] at z ⊢; omega))
theorem x_if_leN {r : Ev} {d : Nat} {y : MethodName} {cc : ByteArray} {mr : Nat × Option FieldType} {b : Nat × Nat} {pc q : Nat} {lv : List (Option Value)} {st : List Value} {n : Nat} {I : MI} {Q : MQ2} {F : Post} {x : Nat} {off : Int} {t : Nat} (hd : DB cc pc (.ifCond .le off) 3 off q t) (h : x < 100000000) (kt : x ≤ 0 → X r d y cc mr b t lv st n I Q F) (kf : ¬ x ≤ 0 → X r d y cc mr b q lv st n I Q F) : X r d y cc mr b pc lv (.int (nI x) :: st) n I Q F := by
  have e1 : nI x = 0 ↔ x = 0 := nI_eq (b := 0) (show x < 2 ^ 31 by omega) (by omega)
  have e2 : nI x < 0 ↔ x < 0 := nI_ltI (b := 0) (show x < 2 ^ 31 by omega) (by omega)
  have e3 : nI x ≤ 0 ↔ x ≤ 0 := nI_leI (b := 0) (show x < 2 ^ 31 by omega) (by omega)
  have e4 : 0 < nI x ↔ 0 < x := nI_ltI (a := 0) (by omega) (show x < 2 ^ 31 by omega)
  have e5 : 0 ≤ nI x ↔ 0 ≤ x := nI_leI (a := 0) (by omega) (show x < 2 ^ 31 by omega)
  exact x_if_le hd (fun z => kt (by simp only [ne_eq, e1, e2, e3, e4, e5, gt_iff_lt, ge_iff_le] at z ⊢; omega)) (fun z => kf (by simp only [ne_eq, e1, e2, e3, e4, e5, gt_iff_lt, ge_iff_le] at z ⊢; omega))
theorem x_getV {r : Ev} {d : Nat} {y : MethodName} {cc : ByteArray} {mr : Nat × Option FieldType} {b : Nat × Nat} {pc q : Nat} {lv : List (Option Value)} {st : List Value} {n : Nat} {I : MI} {Q : MQ2} {F : Post} {idx ci k id : Nat} {x : Int32} (hd : DR cc pc (.getfield idx) 3 q) (f : FI y.cls idx ci k) (ho : Ob n ci id) (hv : I id k = x) (kk : X r d y cc mr b q lv (.int x :: st) n I Q F) : X r d y cc mr b pc lv (.ref (evz r + id) :: st) n I Q F := x_geti hd f ho (by rw [hv]; exact kk)
theorem x_ialdV {r : Ev} {d : Nat} {y : MethodName} {cc : ByteArray} {mr : Nat × Option FieldType} {b : Nat × Nat} {pc q : Nat} {lv : List (Option Value)} {st : List Value} {n : Nat} {I : MI} {Q : MQ2} {F : Post} {id N i : Nat} {x v : Int32} (hd : DR cc pc .iaload 1 q) (ha : Ar n 11 id N) (hx : x = nI i) (hi : i < N) (hv : I id i = v) (kk : X r d y cc mr b q lv (.int v :: st) n I Q F) : X r d y cc mr b pc lv (.int x :: .ref (evz r + id) :: st) n I Q F := x_iald hd ha hx hi (by rw [hv]; exact kk)
theorem x_caldV {r : Ev} {d : Nat} {y : MethodName} {cc : ByteArray} {mr : Nat × Option FieldType} {b : Nat × Nat} {pc q : Nat} {lv : List (Option Value)} {st : List Value} {n : Nat} {I : MI} {Q : MQ2} {F : Post} {id N i : Nat} {x v : Int32} (hd : DR cc pc .caload 1 q) (ha : Ar n 10 id N) (hx : x = nI i) (hi : i < N) (hv : I id i = v) (kk : X r d y cc mr b q lv (.int v :: st) n I Q F) : X r d y cc mr b pc lv (.int x :: .ref (evz r + id) :: st) n I Q F := x_cald hd ha hx hi (by rw [hv]; exact kk)
/-- what else is the same -/
def Fr1 (I I' : MI) (a j : Nat) : Prop := ∀ b k, ¬ (b = a ∧ k = j) → I' b k = I b k
theorem x_putA {r : Ev} {d : Nat} {y : MethodName} {cc : ByteArray} {mr : Nat × Option FieldType} {b : Nat × Nat} {pc q : Nat} {lv : List (Option Value)} {st : List Value} {n : Nat} {I : MI} {Q : MQ2} {F : Post} {idx ci k id : Nat} {x : Int32} (hd : DR cc pc (.putfield idx) 3 q) (f : FI y.cls idx ci k) (ho : Ob n ci id) (kk : ∀ J : MI, Fr1 I J id k → J id k = x → X r d y cc mr b q lv st n J Q F) (hfn : NF ci k := by rfl) (hty : tyOf ci k = .int := by rfl) : X r d y cc mr b pc lv (.int x :: .ref (evz r + id) :: st) n I Q F := x_puti hd f hfn (by rw [hty]; rfl) (by rw [hty]; rfl) ho (kk _ (fun b k2 h => up2_ne h) (up2_same _ _ _ _)) (ty := .int)
theorem x_putB {r : Ev} {d : Nat} {y : MethodName} {cc : ByteArray} {mr : Nat × Option FieldType} {b : Nat × Nat} {pc q : Nat} {lv : List (Option Value)} {st : List Value} {n : Nat} {I : MI} {Q : MQ2} {F : Post} {idx ci k id : Nat} {x : Int32} (hd : DR cc pc (.putfield idx) 3 q) (f : FI y.cls idx ci k) (ho : Ob n ci id) (h01 : x = nI 0 ∨ x = nI 1) (kk : ∀ J : MI, Fr1 I J id k → J id k = x → X r d y cc mr b q lv st n J Q F) (hfn : NF ci k := by rfl) (hty : tyOf ci k = .boolean := by rfl) : X r d y cc mr b pc lv (.int x :: .ref (evz r + id) :: st) n I Q F := x_puti hd f hfn (by rw [hty]; rcases h01 with rfl | rfl <;> rfl) (by rw [hty]; rcases h01 with rfl | rfl <;> rfl) ho (kk _ (fun b k2 h => up2_ne h) (up2_same _ _ _ _)) (ty := .int)
theorem x_iastA {r : Ev} {d : Nat} {y : MethodName} {cc : ByteArray} {mr : Nat × Option FieldType} {b : Nat × Nat} {pc q : Nat} {lv : List (Option Value)} {st : List Value} {n : Nat} {I : MI} {Q : MQ2} {F : Post} {id N i : Nat} {x v : Int32} (hd : DR cc pc .iastore 1 q) (ha : Ar n 11 id N) (hx : x = nI i) (hi : i < N) (kk : ∀ J : MI, Fr1 I J id i → J id i = v → X r d y cc mr b q lv st n J Q F) : X r d y cc mr b pc lv (.int v :: .int x :: .ref (evz r + id) :: st) n I Q F := x_iast hd ha hx hi (kk _ (fun b k2 h => up2_ne h) (up2_same _ _ _ _))
theorem x_castA {r : Ev} {d : Nat} {y : MethodName} {cc : ByteArray} {mr : Nat × Option FieldType} {b : Nat × Nat} {pc q : Nat} {lv : List (Option Value)} {st : List Value} {n : Nat} {I : MI} {Q : MQ2} {F : Post} {id N i : Nat} {x v : Int32} (hd : DR cc pc .castore 1 q) (ha : Ar n 10 id N) (hx : x = nI i) (hi : i < N) (hv : vp_nar .char v = v) (kk : ∀ J : MI, Fr1 I J id i → J id i = v → X r d y cc mr b q lv st n J Q F) : X r d y cc mr b pc lv (.int v :: .int x :: .ref (evz r + id) :: st) n I Q F := x_cast hd ha hx hi hv (kk _ (fun b k2 h => up2_ne h) (up2_same _ _ _ _))
end
section
/-! the looms: DewLooms$Loom -/
theorem nI_one : ((1 : Int32)) = nI 1 := rfl
def FrS (I I' : MI) (S : Nat → Nat → Prop) : Prop := ∀ b j, ¬ S b j → I' b j = I b j
theorem nmin {a b : Nat} (ha : a < 100000000) (hb : b < 100000000) : (if nI b < nI a then nI b else nI a) = nI (min a b) := by
  have e := nI_ltI (a := b) (b := a) (by omega) (by omega)
  by_cases h : b < a
  · rw [if_pos (e.mpr h), Nat.min_eq_right (by omega)]
  · rw [if_neg (fun z => h (e.mp z)), Nat.min_eq_left (by omega)]
theorem nmax {a b : Nat} (ha : a < 100000000) (hb : b < 100000000) : (if nI a < nI b then nI b else nI a) = nI (max a b) := by
  have e := nI_ltI (a := a) (b := b) (by omega) (by omega)
  by_cases h : a < b
  · rw [if_pos (e.mpr h), Nat.max_eq_right (by omega)]
  · rw [if_neg (fun z => h (e.mp z)), Nat.max_eq_left (by omega)]
/-- how many drops settle on a loom of kind k by cold c, mist m -/
def setl (k c m : Nat) : Nat := if k = 3 then (if m = 1 then c + 2 else c) else if k = 1 then 2 * (if m = 1 then c / 2 else c) else (if m = 1 then c / 2 else c)
theorem setl_le {k c m : Nat} (hc : c ≤ 9) : setl k c m ≤ 18 := by
  unfold setl
  split <;> split <;> (try split) <;> omega
set_option maxHeartbeats 4000000 in
theorem c_X0_holds {r : Ev} {n : Nat} {I : MI} {Q : MQ2} (a t : Nat) (ho : Ob n 0 a) (h2 : I a 2 = nI t) : CT r 0 yX0_holds cX0_holds (1, (some .int)) (0, 0) [.ref (evz r + a)] n I Q (ri Q (fun x J => J = I ∧ x = nI (3 * t))) := by
  refine ct_of (lv := [some (.ref (evz r + a))]) (by decide +kernel) rfl rfl rfl ?_
  refine x_const (c := 3) dX0_holds_0 rfl ?_
  refine x_aload_0 dX0_holds_1 ?_
  refine x_getV dX0_holds_2 f_X0_18 (by assumption) (by assumption) ?_
  refine x_imulN dX0_holds_5 ?_
  exact x_iret (st := []) dX0_holds_6 rfl rfl (⟨_, rfl, rfl, rfl, rfl⟩)
set_option maxHeartbeats 4000000 in
theorem c_X0_settling {r : Ev} {n : Nat} {I : MI} {Q : MQ2} (a k c m : Nat) (ho : Ob n 0 a) (h0 : I a 0 = nI k) (hk : k ≤ 3) (hc : c ≤ 9) (hm : m ≤ 1) : CT r 0 yX0_settling cX0_settling (4, (some .int)) (0, 0) [.ref (evz r + a), .int (nI c), .int (nI m)] n I Q (ri Q (fun x J => J = I ∧ x = nI (setl k c m))) := by
  refine ct_of (lv := [some (.ref (evz r + a)), some (.int (nI c)), some (.int (nI m)), none]) (by decide +kernel) rfl rfl rfl ?_
  refine x_aload_0 dX0_settling_0 ?_
  refine x_getV dX0_settling_1 f_X0_9 (by assumption) (by assumption) ?_
  refine x_const (c := 3) dX0_settling_4 rfl ?_
  refine x_icmp_neN dX0_settling_5 (by omega) (by omega) (fun c5 => ?_) (fun c5 => ?_)
  · refine x_iload_2 dX0_settling_21 ?_
    refine x_const (c := 1) dX0_settling_22 rfl ?_
    refine x_icmp_neN dX0_settling_23 (by omega) (by omega) (fun c23 => ?_) (fun c23 => ?_)
    · refine x_iload_1 dX0_settling_32 ?_
      refine x_istore_3 dX0_settling_33 rfl rfl ?_
      refine x_aload_0 dX0_settling_34 ?_
      refine x_getV dX0_settling_35 f_X0_9 (by assumption) (by assumption) ?_
      refine x_const (c := 1) dX0_settling_38 rfl ?_
      refine x_icmp_neN dX0_settling_39 (by omega) (by omega) (fun c39 => ?_) (fun c39 => ?_)
      · refine x_iload_3 dX0_settling_48 ?_
        exact x_iret (st := []) dX0_settling_49 rfl rfl (⟨_, rfl, rfl, rfl, by congr 1; unfold setl; repeat (first | rw [if_pos (by omega)] | rw [if_neg (by omega)])⟩)
      · refine x_const (c := 2) dX0_settling_42 rfl ?_
        refine x_iload_3 dX0_settling_43 ?_
        refine x_imulN dX0_settling_44 ?_
        refine x_goto dX0_settling_45 ?_
        exact x_iret (st := []) dX0_settling_49 rfl rfl (⟨_, rfl, rfl, rfl, by congr 1; unfold setl; repeat (first | rw [if_pos (by omega)] | rw [if_neg (by omega)])⟩)
    · refine x_iload_1 dX0_settling_26 ?_
      refine x_const (c := 2) dX0_settling_27 rfl ?_
      refine x_idivN dX0_settling_28 (by omega) (by omega) (by omega) ?_
      refine x_goto dX0_settling_29 ?_
      refine x_istore_3 dX0_settling_33 rfl rfl ?_
      refine x_aload_0 dX0_settling_34 ?_
      refine x_getV dX0_settling_35 f_X0_9 (by assumption) (by assumption) ?_
      refine x_const (c := 1) dX0_settling_38 rfl ?_
      refine x_icmp_neN dX0_settling_39 (by omega) (by omega) (fun c39 => ?_) (fun c39 => ?_)
      · refine x_iload_3 dX0_settling_48 ?_
        exact x_iret (st := []) dX0_settling_49 rfl rfl (⟨_, rfl, rfl, rfl, by congr 1; unfold setl; repeat (first | rw [if_pos (by omega)] | rw [if_neg (by omega)])⟩)
      · refine x_const (c := 2) dX0_settling_42 rfl ?_
        refine x_iload_3 dX0_settling_43 ?_
        refine x_imulN dX0_settling_44 ?_
        refine x_goto dX0_settling_45 ?_
        exact x_iret (st := []) dX0_settling_49 rfl rfl (⟨_, rfl, rfl, rfl, by congr 1; unfold setl; repeat (first | rw [if_pos (by omega)] | rw [if_neg (by omega)])⟩)
  · refine x_iload_2 dX0_settling_8 ?_
    refine x_const (c := 1) dX0_settling_9 rfl ?_
    refine x_icmp_neN dX0_settling_10 (by omega) (by omega) (fun c10 => ?_) (fun c10 => ?_)
    · refine x_iload_1 dX0_settling_19 ?_
      exact x_iret (st := []) dX0_settling_20 rfl rfl (⟨_, rfl, rfl, rfl, by congr 1; unfold setl; repeat (first | rw [if_pos (by omega)] | rw [if_neg (by omega)])⟩)
    · refine x_iload_1 dX0_settling_13 ?_
      refine x_const (c := 2) dX0_settling_14 rfl ?_
      refine x_iaddN dX0_settling_15 ?_
      refine x_goto dX0_settling_16 ?_
      exact x_iret (st := []) dX0_settling_20 rfl rfl (⟨_, rfl, rfl, rfl, by congr 1; unfold setl; repeat (first | rw [if_pos (by omega)] | rw [if_neg (by omega)])⟩)
set_option maxHeartbeats 4000000 in
theorem c_X0_turnShade {r : Ev} {n : Nat} {I : MI} {Q : MQ2} (a s : Nat) (ho : Ob n 0 a) (h6 : I a 6 = nI s) (hs : s ≤ 1) : CT r 0 yX0_turnShade cX0_turnShade (1, none) (0, 0) [.ref (evz r + a)] n I Q (rv Q (fun J => Fr1 I J a 6 ∧ J a 6 = nI (1 - s))) := by
  refine ct_of (lv := [some (.ref (evz r + a))]) (by decide +kernel) rfl rfl rfl ?_
  refine x_aload_0 dX0_turnShade_0 ?_
  refine x_aload_0 dX0_turnShade_1 ?_
  refine x_getV dX0_turnShade_2 f_X0_30 (by assumption) (by assumption) ?_
  refine x_if_neN dX0_turnShade_5 (by omega) (fun c5 => ?_) (fun c5 => ?_)
  · refine x_const (c := 0) dX0_turnShade_12 rfl ?_
    refine x_putB dX0_turnShade_13 f_X0_30 (by assumption) (by first | exact Or.inl rfl | exact Or.inr rfl | assumption) (fun J13 fr13 e13 => ?_)
    exact x_vret (st := []) dX0_turnShade_16 rfl (⟨rfl, rfl, fr13, by rw [e13]; congr 1; omega⟩)
  · refine x_const (c := 1) dX0_turnShade_8 rfl ?_
    refine x_goto dX0_turnShade_9 ?_
    refine x_putB dX0_turnShade_13 f_X0_30 (by assumption) (by first | exact Or.inl rfl | exact Or.inr rfl | assumption) (fun J13 fr13 e13 => ?_)
    exact x_vret (st := []) dX0_turnShade_16 rfl (⟨rfl, rfl, fr13, by rw [e13]; congr 1; omega⟩)
set_option maxHeartbeats 4000000 in
theorem c_X0_feelCow {r : Ev} {n : Nat} {I : MI} {Q : MQ2} (a dr : Nat) (ho : Ob n 0 a) (h3 : I a 3 = nI dr) (hd : dr ≤ 1000) : CT r 0 yX0_feelCow cX0_feelCow (1, none) (0, 0) [.ref (evz r + a)] n I Q (rv Q (fun J => Fr1 I J a 3 ∧ J a 3 = nI (dr / 2))) := by
  refine ct_of (lv := [some (.ref (evz r + a))]) (by decide +kernel) rfl rfl rfl ?_
  refine x_aload_0 dX0_feelCow_0 ?_
  first | refine x_dup_ref dX0_feelCow_1 ?_ | refine x_dup_int dX0_feelCow_1 ?_
  refine x_getV dX0_feelCow_2 f_X0_21 (by assumption) (by assumption) ?_
  refine x_const (c := 2) dX0_feelCow_5 rfl ?_
  refine x_idivN dX0_feelCow_6 (by omega) (by omega) (by omega) ?_
  refine x_putA dX0_feelCow_7 f_X0_21 (by assumption) (fun J7 fr7 e7 => ?_)
  exact x_vret (st := []) dX0_feelCow_10 rfl (⟨rfl, rfl, fr7, e7⟩)
set_option maxHeartbeats 4000000 in
theorem c_X0_takeTears {r : Ev} {n : Nat} {I : MI} {Q : MQ2} (a t dr : Nat) (ho : Ob n 0 a) (h2 : I a 2 = nI t) (h3 : I a 3 = nI dr) (ht : t ≤ 1000) (hd : dr ≤ 1000) : CT r 1 yX0_takeTears cX0_takeTears (1, none) (0, 0) [.ref (evz r + a)] n I Q (rv Q (fun J => Fr1 I J a 3 ∧ J a 3 = nI (min (dr + t) (3 * t)))) := by
  refine ct_of (lv := [some (.ref (evz r + a))]) (by decide +kernel) rfl rfl rfl ?_
  refine x_aload_0 dX0_takeTears_0 ?_
  refine x_aload_0 dX0_takeTears_1 ?_
  refine x_getV dX0_takeTears_2 f_X0_21 (by assumption) (by assumption) ?_
  refine x_aload_0 dX0_takeTears_5 ?_
  refine x_getV dX0_takeTears_6 f_X0_18 (by assumption) (by assumption) ?_
  refine x_iaddN dX0_takeTears_9 ?_
  refine x_aload_0 dX0_takeTears_10 ?_
  refine x_V0i dX0_takeTears_11 m_X0_34 (c_X0_holds a t (by assumption) (by assumption)) (by assumption) (fun x11 I11 h11 => ?_)
  obtain ⟨rfl, rfl⟩ := h11
  refine x_min dX0_takeTears_14 m_X0_38 ?_
  rw [nmin (by omega) (by omega)]
  refine x_putA dX0_takeTears_17 f_X0_21 (by assumption) (fun J17 fr17 e17 => ?_)
  exact x_vret (st := []) dX0_takeTears_20 rfl (⟨rfl, rfl, fr17, e17⟩)
set_option maxHeartbeats 4000000 in
theorem c_X0_gather {r : Ev} {n : Nat} {I : MI} {Q : MQ2} (a k t dr sp f c m : Nat) (ho : Ob n 0 a) (h0 : I a 0 = nI k) (h2 : I a 2 = nI t) (h3 : I a 3 = nI dr) (h4 : I a 4 = nI sp) (hk : k ≤ 3) (ht : t ≤ 1000) (hd : dr ≤ 1000) (hf : f ≤ 10000) (hc : c ≤ 9) (hm : m ≤ 1) : CT r 1 yX0_gather cX0_gather (5, none) (0, 0) [.ref (evz r + a), .int (nI f), .int (nI c), .int (nI m)] n I Q (rv Q (fun J => FrS I J (fun b j => b = a ∧ (j = 3 ∨ j = 4 ∨ j = 5)) ∧ J a 3 = nI (min (dr + setl k c m + (if k = 2 then 0 else f)) (3 * t)) ∧ J a 4 = nI (if k = 2 then sp + f else sp) ∧ J a 5 = nI (dr + setl k c m + (if k = 2 then 0 else f) - min (dr + setl k c m + (if k = 2 then 0 else f)) (3 * t)))) := by
  refine ct_of (lv := [some (.ref (evz r + a)), some (.int (nI f)), some (.int (nI c)), some (.int (nI m)), none]) (by decide +kernel) rfl rfl rfl ?_
  have hsl := setl_le (k := k) (m := m) hc
  refine x_aload_0 dX0_gather_0 ?_
  refine x_getV dX0_gather_1 f_X0_21 (by assumption) (by assumption) ?_
  refine x_aload_0 dX0_gather_4 ?_
  refine x_iload_2 dX0_gather_5 ?_
  refine x_iload_3 dX0_gather_6 ?_
  refine x_V2i dX0_gather_7 m_X0_44 (c_X0_settling a k c m (by assumption) (by assumption) hk hc hm) (by assumption) (fun x7 I7 h7 => ?_)
  obtain ⟨rfl, rfl⟩ := h7
  refine x_iaddN dX0_gather_10 ?_
  refine x_istore_4 dX0_gather_11 rfl rfl ?_
  refine x_aload_0 dX0_gather_13 ?_
  refine x_getV dX0_gather_14 f_X0_9 (by assumption) (by assumption) ?_
  refine x_const (c := 2) dX0_gather_17 rfl ?_
  refine x_icmp_neN dX0_gather_18 (by omega) (by omega) (fun c18 => ?_) (fun c18 => ?_)
  · simp only [if_neg c18]
    refine x_iload_4 dX0_gather_34 ?_
    refine x_iload_1 dX0_gather_36 ?_
    refine x_iaddN dX0_gather_37 ?_
    refine x_istore_4 dX0_gather_38 rfl rfl ?_
    refine x_aload_0 dX0_gather_40 ?_
    refine x_iload_4 dX0_gather_41 ?_
    refine x_aload_0 dX0_gather_43 ?_
    refine x_V0i dX0_gather_44 m_X0_34 (c_X0_holds a t (by assumption) (by assumption)) (by assumption) (fun x44 I44 h44 => ?_)
    obtain ⟨rfl, rfl⟩ := h44
    refine x_min dX0_gather_47 m_X0_38 ?_
    rw [nmin (by omega) (by omega)]
    refine x_putA dX0_gather_50 f_X0_21 (by assumption) (fun J50 fr50 e50 => ?_)
    have h0_p50 := (fr50 (a) (0) (by omega)).trans h0
    have h2_p50 := (fr50 (a) (2) (by omega)).trans h2
    have h4_p50 := (fr50 (a) (4) (by omega)).trans h4
    refine x_aload_0 dX0_gather_53 ?_
    refine x_iload_4 dX0_gather_54 ?_
    refine x_aload_0 dX0_gather_56 ?_
    refine x_getV dX0_gather_57 f_X0_21 (by assumption) (by assumption) ?_
    refine x_isubN dX0_gather_60 (by omega) ?_
    refine x_putA dX0_gather_61 f_X0_27 (by assumption) (fun J61 fr61 e61 => ?_)
    have h0_p61 := (fr61 (a) (0) (by omega)).trans h0_p50
    have h2_p61 := (fr61 (a) (2) (by omega)).trans h2_p50
    have h4_p61 := (fr61 (a) (4) (by omega)).trans h4_p50
    have e50_p61 := (fr61 (a) (3) (by omega)).trans e50
    exact x_vret (st := []) dX0_gather_64 rfl (⟨rfl, rfl, fun b j hb => (fr61 b j (by omega)).trans (fr50 b j (by omega)), e50_p61, h4_p61, e61⟩)
  · have c18 : k = 2 := by omega
    simp only [if_pos c18]
    refine x_aload_0 dX0_gather_21 ?_
    first | refine x_dup_ref dX0_gather_22 ?_ | refine x_dup_int dX0_gather_22 ?_
    refine x_getV dX0_gather_23 f_X0_24 (by assumption) (by assumption) ?_
    refine x_iload_1 dX0_gather_26 ?_
    refine x_iaddN dX0_gather_27 ?_
    refine x_putA dX0_gather_28 f_X0_24 (by assumption) (fun J28 fr28 e28 => ?_)
    have h0_p28 := (fr28 (a) (0) (by omega)).trans h0
    have h2_p28 := (fr28 (a) (2) (by omega)).trans h2
    have h3_p28 := (fr28 (a) (3) (by omega)).trans h3
    refine x_goto dX0_gather_31 ?_
    refine x_aload_0 dX0_gather_40 ?_
    refine x_iload_4 dX0_gather_41 ?_
    refine x_aload_0 dX0_gather_43 ?_
    refine x_V0i dX0_gather_44 m_X0_34 (c_X0_holds a t (by assumption) (by assumption)) (by assumption) (fun x44 I44 h44 => ?_)
    obtain ⟨rfl, rfl⟩ := h44
    refine x_min dX0_gather_47 m_X0_38 ?_
    rw [nmin (by omega) (by omega)]
    refine x_putA dX0_gather_50 f_X0_21 (by assumption) (fun J50 fr50 e50 => ?_)
    have h0_p50 := (fr50 (a) (0) (by omega)).trans h0_p28
    have h2_p50 := (fr50 (a) (2) (by omega)).trans h2_p28
    have e28_p50 := (fr50 (a) (4) (by omega)).trans e28
    refine x_aload_0 dX0_gather_53 ?_
    refine x_iload_4 dX0_gather_54 ?_
    refine x_aload_0 dX0_gather_56 ?_
    refine x_getV dX0_gather_57 f_X0_21 (by assumption) (by assumption) ?_
    refine x_isubN dX0_gather_60 (by omega) ?_
    refine x_putA dX0_gather_61 f_X0_27 (by assumption) (fun J61 fr61 e61 => ?_)
    have h0_p61 := (fr61 (a) (0) (by omega)).trans h0_p50
    have h2_p61 := (fr61 (a) (2) (by omega)).trans h2_p50
    have e28_p61 := (fr61 (a) (4) (by omega)).trans e28_p50
    have e50_p61 := (fr61 (a) (3) (by omega)).trans e50
    exact x_vret (st := []) dX0_gather_64 rfl (⟨rfl, rfl, fun b j hb => (fr61 b j (by omega)).trans ((fr50 b j (by omega)).trans (fr28 b j (by omega))), e50_p61, e28_p61, e61⟩)
theorem nmaxsub {a b : Nat} (ha : a < 100000000) (hb : b < 100000000) : (if nI 0 < nI a - nI b then nI a - nI b else nI 0) = nI (a - b) := by
  by_cases h : b ≤ a
  · rw [pk_sub h]
    have e := nI_ltI (a := 0) (b := a - b) (by omega) (by omega)
    by_cases h2 : 0 < a - b
    · rw [if_pos (e.mpr h2)]
    · rw [if_neg (fun z => h2 (e.mp z)), show a - b = 0 by omega]
  · have h1 : nI a - nI b < 0 := pk_sneg (by omega) (by omega)
    rw [if_neg, show a - b = 0 by omega]
    intro z
    have z : (0 : Int32) < nI a - nI b := z
    have z1 := Int32.lt_iff_toInt_lt.mp z
    have z2 := Int32.lt_iff_toInt_lt.mp h1
    omega
set_option maxHeartbeats 4000000 in
theorem c_X0_dry {r : Ev} {n : Nat} {I : MI} {Q : MQ2} (a k dr s : Nat) (ho : Ob n 0 a) (h0 : I a 0 = nI k) (h3 : I a 3 = nI dr) (h6 : I a 6 = nI s) (hk : k ≤ 3) (hd : dr ≤ 1000) (hs : s ≤ 1) : CT r 1 yX0_dry cX0_dry (1, none) (0, 0) [.ref (evz r + a)] n I Q (rv Q (fun J => FrS I J (fun b j => b = a ∧ (j = 3 ∨ j = 5)) ∧ J a 3 = nI (if s = 0 then dr - (if k = 3 then 1 else 2) else dr) ∧ J a 5 = nI 0)) := by
  refine ct_of (lv := [some (.ref (evz r + a))]) (by decide +kernel) rfl rfl rfl ?_
  refine x_aload_0 dX0_dry_0 ?_
  refine x_const (c := 0) dX0_dry_1 rfl ?_
  refine x_putA dX0_dry_2 f_X0_27 (by assumption) (fun J2 fr2 e2 => ?_)
  have h0_p2 := (fr2 (a) (0) (by omega)).trans h0
  have h3_p2 := (fr2 (a) (3) (by omega)).trans h3
  have h6_p2 := (fr2 (a) (6) (by omega)).trans h6
  refine x_aload_0 dX0_dry_5 ?_
  refine x_getV dX0_dry_6 f_X0_30 (by assumption) (by assumption) ?_
  refine x_if_neN dX0_dry_9 (by omega) (fun c9 => ?_) (fun c9 => ?_)
  · simp only [if_neg c9]
    exact x_vret (st := []) dX0_dry_38 rfl (⟨rfl, rfl, fun b j hb => fr2 b j (by omega), h3_p2, e2⟩)
  · have c9 : s = 0 := by omega
    simp only [if_pos c9]
    refine x_aload_0 dX0_dry_12 ?_
    refine x_const (c := 0) dX0_dry_13 rfl ?_
    refine x_aload_0 dX0_dry_14 ?_
    refine x_getV dX0_dry_15 f_X0_21 (by assumption) (by assumption) ?_
    refine x_aload_0 dX0_dry_18 ?_
    refine x_getV dX0_dry_19 f_X0_9 (by assumption) (by assumption) ?_
    refine x_const (c := 3) dX0_dry_22 rfl ?_
    refine x_icmp_neN dX0_dry_23 (by omega) (by omega) (fun c23 => ?_) (fun c23 => ?_)
    · simp only [if_neg c23]
      refine x_const (c := 2) dX0_dry_30 rfl ?_
      refine x_isub dX0_dry_31 ?_
      refine x_max dX0_dry_32 m_X0_47 ?_
      rw [nmaxsub (by omega) (by omega)]
      refine x_putA dX0_dry_35 f_X0_21 (by assumption) (fun J35 fr35 e35 => ?_)
      have h0_p35 := (fr35 (a) (0) (by omega)).trans h0_p2
      have h6_p35 := (fr35 (a) (6) (by omega)).trans h6_p2
      have e2_p35 := (fr35 (a) (5) (by omega)).trans e2
      exact x_vret (st := []) dX0_dry_38 rfl (⟨rfl, rfl, fun b j hb => (fr35 b j (by omega)).trans (fr2 b j (by omega)), e35, e2_p35⟩)
    · have c23 : k = 3 := by omega
      simp only [if_pos c23]
      refine x_const (c := 1) dX0_dry_26 rfl ?_
      refine x_goto dX0_dry_27 ?_
      refine x_isub dX0_dry_31 ?_
      refine x_max dX0_dry_32 m_X0_47 ?_
      rw [nmaxsub (by omega) (by omega)]
      refine x_putA dX0_dry_35 f_X0_21 (by assumption) (fun J35 fr35 e35 => ?_)
      have h0_p35 := (fr35 (a) (0) (by omega)).trans h0_p2
      have h6_p35 := (fr35 (a) (6) (by omega)).trans h6_p2
      have e2_p35 := (fr35 (a) (5) (by omega)).trans e2
      exact x_vret (st := []) dX0_dry_38 rfl (⟨rfl, rfl, fun b j hb => (fr35 b j (by omega)).trans (fr2 b j (by omega)), e35, e2_p35⟩)
set_option maxHeartbeats 4000000 in
theorem c_X0_clear {r : Ev} {n : Nat} {I : MI} {Q : MQ2} (a : Nat) (x1 x2 x3 : Int32) (ho : Ob n 0 a) : CT r 0 yX0_clear cX0_clear (4, none) (0, 0) [.ref (evz r + a), .int x1, .int x2, .int x3] n I Q (rv Q (fun J => FrS I J (fun b j => b = a ∧ j < 7) ∧ J a 0 = x1 ∧ J a 1 = x2 ∧ J a 2 = x3 ∧ J a 3 = nI 0 ∧ J a 4 = nI 0 ∧ J a 5 = nI 0 ∧ J a 6 = nI 0)) := by
  refine ct_of (lv := [some (.ref (evz r + a)), some (.int x1), some (.int x2), some (.int x3)]) (by decide +kernel) rfl rfl rfl ?_
  refine x_aload_0 dX0_clear_0 ?_
  refine x_iload_1 dX0_clear_1 ?_
  refine x_putA dX0_clear_2 f_X0_9 (by assumption) (fun J2 fr2 e2 => ?_)
  refine x_aload_0 dX0_clear_5 ?_
  refine x_iload_2 dX0_clear_6 ?_
  refine x_putA dX0_clear_7 f_X0_15 (by assumption) (fun J7 fr7 e7 => ?_)
  have e2_p7 := (fr7 (a) (0) (by omega)).trans e2
  refine x_aload_0 dX0_clear_10 ?_
  refine x_iload_3 dX0_clear_11 ?_
  refine x_putA dX0_clear_12 f_X0_18 (by assumption) (fun J12 fr12 e12 => ?_)
  have e2_p12 := (fr12 (a) (0) (by omega)).trans e2_p7
  have e7_p12 := (fr12 (a) (1) (by omega)).trans e7
  refine x_aload_0 dX0_clear_15 ?_
  refine x_const (c := 0) dX0_clear_16 rfl ?_
  refine x_putA dX0_clear_17 f_X0_21 (by assumption) (fun J17 fr17 e17 => ?_)
  have e2_p17 := (fr17 (a) (0) (by omega)).trans e2_p12
  have e7_p17 := (fr17 (a) (1) (by omega)).trans e7_p12
  have e12_p17 := (fr17 (a) (2) (by omega)).trans e12
  refine x_aload_0 dX0_clear_20 ?_
  refine x_const (c := 0) dX0_clear_21 rfl ?_
  refine x_putA dX0_clear_22 f_X0_24 (by assumption) (fun J22 fr22 e22 => ?_)
  have e2_p22 := (fr22 (a) (0) (by omega)).trans e2_p17
  have e7_p22 := (fr22 (a) (1) (by omega)).trans e7_p17
  have e12_p22 := (fr22 (a) (2) (by omega)).trans e12_p17
  have e17_p22 := (fr22 (a) (3) (by omega)).trans e17
  refine x_aload_0 dX0_clear_25 ?_
  refine x_const (c := 0) dX0_clear_26 rfl ?_
  refine x_putA dX0_clear_27 f_X0_27 (by assumption) (fun J27 fr27 e27 => ?_)
  have e2_p27 := (fr27 (a) (0) (by omega)).trans e2_p22
  have e7_p27 := (fr27 (a) (1) (by omega)).trans e7_p22
  have e12_p27 := (fr27 (a) (2) (by omega)).trans e12_p22
  have e17_p27 := (fr27 (a) (3) (by omega)).trans e17_p22
  have e22_p27 := (fr27 (a) (4) (by omega)).trans e22
  refine x_aload_0 dX0_clear_30 ?_
  refine x_const (c := 0) dX0_clear_31 rfl ?_
  refine x_putB dX0_clear_32 f_X0_30 (by assumption) (by first | exact Or.inl rfl | exact Or.inr rfl | assumption) (fun J32 fr32 e32 => ?_)
  have e2_p32 := (fr32 (a) (0) (by omega)).trans e2_p27
  have e7_p32 := (fr32 (a) (1) (by omega)).trans e7_p27
  have e12_p32 := (fr32 (a) (2) (by omega)).trans e12_p27
  have e17_p32 := (fr32 (a) (3) (by omega)).trans e17_p27
  have e22_p32 := (fr32 (a) (4) (by omega)).trans e22_p27
  have e27_p32 := (fr32 (a) (5) (by omega)).trans e27
  exact x_vret (st := []) dX0_clear_35 rfl (⟨rfl, rfl, fun b j hb => (fr32 b j (by omega)).trans ((fr27 b j (by omega)).trans ((fr22 b j (by omega)).trans ((fr17 b j (by omega)).trans ((fr12 b j (by omega)).trans ((fr7 b j (by omega)).trans (fr2 b j (by omega))))))), by assumption, by assumption, by assumption, by assumption, by assumption, by assumption, by assumption⟩)
set_option maxHeartbeats 4000000 in
theorem c_X0_copy {r : Ev} {n : Nat} {I : MI} {Q : MQ2} (a b0 : Nat) (hne : a ≠ b0) (ho : Ob n 0 a) (ho2 : Ob n 0 b0) (v0 v1 v2 v3 v4 v5 v6 : Int32) (g0 : I b0 0 = v0) (g1 : I b0 1 = v1) (g2 : I b0 2 = v2) (g3 : I b0 3 = v3) (g4 : I b0 4 = v4) (g5 : I b0 5 = v5) (g6 : I b0 6 = v6) (h01 : v6 = nI 0 ∨ v6 = nI 1) : CT r 0 yX0_copy cX0_copy (2, none) (0, 0) [.ref (evz r + a), .ref (evz r + b0)] n I Q (rv Q (fun J => FrS I J (fun b j => b = a ∧ j < 7) ∧ J a 0 = v0 ∧ J a 1 = v1 ∧ J a 2 = v2 ∧ J a 3 = v3 ∧ J a 4 = v4 ∧ J a 5 = v5 ∧ J a 6 = v6)) := by
  refine ct_of (lv := [some (.ref (evz r + a)), some (.ref (evz r + b0))]) (by decide +kernel) rfl rfl rfl ?_
  refine x_aload_0 dX0_copy_0 ?_
  refine x_aload_1 dX0_copy_1 ?_
  refine x_getV dX0_copy_2 f_X0_9 (by assumption) (by assumption) ?_
  refine x_putA dX0_copy_5 f_X0_9 (by assumption) (fun J5 fr5 e5 => ?_)
  have g0_p5 := (fr5 (b0) (0) (by omega)).trans g0
  have g1_p5 := (fr5 (b0) (1) (by omega)).trans g1
  have g2_p5 := (fr5 (b0) (2) (by omega)).trans g2
  have g3_p5 := (fr5 (b0) (3) (by omega)).trans g3
  have g4_p5 := (fr5 (b0) (4) (by omega)).trans g4
  have g5_p5 := (fr5 (b0) (5) (by omega)).trans g5
  have g6_p5 := (fr5 (b0) (6) (by omega)).trans g6
  refine x_aload_0 dX0_copy_8 ?_
  refine x_aload_1 dX0_copy_9 ?_
  refine x_getV dX0_copy_10 f_X0_15 (by assumption) (by assumption) ?_
  refine x_putA dX0_copy_13 f_X0_15 (by assumption) (fun J13 fr13 e13 => ?_)
  have g0_p13 := (fr13 (b0) (0) (by omega)).trans g0_p5
  have g1_p13 := (fr13 (b0) (1) (by omega)).trans g1_p5
  have g2_p13 := (fr13 (b0) (2) (by omega)).trans g2_p5
  have g3_p13 := (fr13 (b0) (3) (by omega)).trans g3_p5
  have g4_p13 := (fr13 (b0) (4) (by omega)).trans g4_p5
  have g5_p13 := (fr13 (b0) (5) (by omega)).trans g5_p5
  have g6_p13 := (fr13 (b0) (6) (by omega)).trans g6_p5
  have e5_p13 := (fr13 (a) (0) (by omega)).trans e5
  refine x_aload_0 dX0_copy_16 ?_
  refine x_aload_1 dX0_copy_17 ?_
  refine x_getV dX0_copy_18 f_X0_18 (by assumption) (by assumption) ?_
  refine x_putA dX0_copy_21 f_X0_18 (by assumption) (fun J21 fr21 e21 => ?_)
  have g0_p21 := (fr21 (b0) (0) (by omega)).trans g0_p13
  have g1_p21 := (fr21 (b0) (1) (by omega)).trans g1_p13
  have g2_p21 := (fr21 (b0) (2) (by omega)).trans g2_p13
  have g3_p21 := (fr21 (b0) (3) (by omega)).trans g3_p13
  have g4_p21 := (fr21 (b0) (4) (by omega)).trans g4_p13
  have g5_p21 := (fr21 (b0) (5) (by omega)).trans g5_p13
  have g6_p21 := (fr21 (b0) (6) (by omega)).trans g6_p13
  have e5_p21 := (fr21 (a) (0) (by omega)).trans e5_p13
  have e13_p21 := (fr21 (a) (1) (by omega)).trans e13
  refine x_aload_0 dX0_copy_24 ?_
  refine x_aload_1 dX0_copy_25 ?_
  refine x_getV dX0_copy_26 f_X0_21 (by assumption) (by assumption) ?_
  refine x_putA dX0_copy_29 f_X0_21 (by assumption) (fun J29 fr29 e29 => ?_)
  have g0_p29 := (fr29 (b0) (0) (by omega)).trans g0_p21
  have g1_p29 := (fr29 (b0) (1) (by omega)).trans g1_p21
  have g2_p29 := (fr29 (b0) (2) (by omega)).trans g2_p21
  have g3_p29 := (fr29 (b0) (3) (by omega)).trans g3_p21
  have g4_p29 := (fr29 (b0) (4) (by omega)).trans g4_p21
  have g5_p29 := (fr29 (b0) (5) (by omega)).trans g5_p21
  have g6_p29 := (fr29 (b0) (6) (by omega)).trans g6_p21
  have e5_p29 := (fr29 (a) (0) (by omega)).trans e5_p21
  have e13_p29 := (fr29 (a) (1) (by omega)).trans e13_p21
  have e21_p29 := (fr29 (a) (2) (by omega)).trans e21
  refine x_aload_0 dX0_copy_32 ?_
  refine x_aload_1 dX0_copy_33 ?_
  refine x_getV dX0_copy_34 f_X0_24 (by assumption) (by assumption) ?_
  refine x_putA dX0_copy_37 f_X0_24 (by assumption) (fun J37 fr37 e37 => ?_)
  have g0_p37 := (fr37 (b0) (0) (by omega)).trans g0_p29
  have g1_p37 := (fr37 (b0) (1) (by omega)).trans g1_p29
  have g2_p37 := (fr37 (b0) (2) (by omega)).trans g2_p29
  have g3_p37 := (fr37 (b0) (3) (by omega)).trans g3_p29
  have g4_p37 := (fr37 (b0) (4) (by omega)).trans g4_p29
  have g5_p37 := (fr37 (b0) (5) (by omega)).trans g5_p29
  have g6_p37 := (fr37 (b0) (6) (by omega)).trans g6_p29
  have e5_p37 := (fr37 (a) (0) (by omega)).trans e5_p29
  have e13_p37 := (fr37 (a) (1) (by omega)).trans e13_p29
  have e21_p37 := (fr37 (a) (2) (by omega)).trans e21_p29
  have e29_p37 := (fr37 (a) (3) (by omega)).trans e29
  refine x_aload_0 dX0_copy_40 ?_
  refine x_aload_1 dX0_copy_41 ?_
  refine x_getV dX0_copy_42 f_X0_27 (by assumption) (by assumption) ?_
  refine x_putA dX0_copy_45 f_X0_27 (by assumption) (fun J45 fr45 e45 => ?_)
  have g0_p45 := (fr45 (b0) (0) (by omega)).trans g0_p37
  have g1_p45 := (fr45 (b0) (1) (by omega)).trans g1_p37
  have g2_p45 := (fr45 (b0) (2) (by omega)).trans g2_p37
  have g3_p45 := (fr45 (b0) (3) (by omega)).trans g3_p37
  have g4_p45 := (fr45 (b0) (4) (by omega)).trans g4_p37
  have g5_p45 := (fr45 (b0) (5) (by omega)).trans g5_p37
  have g6_p45 := (fr45 (b0) (6) (by omega)).trans g6_p37
  have e5_p45 := (fr45 (a) (0) (by omega)).trans e5_p37
  have e13_p45 := (fr45 (a) (1) (by omega)).trans e13_p37
  have e21_p45 := (fr45 (a) (2) (by omega)).trans e21_p37
  have e29_p45 := (fr45 (a) (3) (by omega)).trans e29_p37
  have e37_p45 := (fr45 (a) (4) (by omega)).trans e37
  refine x_aload_0 dX0_copy_48 ?_
  refine x_aload_1 dX0_copy_49 ?_
  refine x_getV dX0_copy_50 f_X0_30 (by assumption) (by assumption) ?_
  refine x_putB dX0_copy_53 f_X0_30 (by assumption) (h01) (fun J53 fr53 e53 => ?_)
  have g0_p53 := (fr53 (b0) (0) (by omega)).trans g0_p45
  have g1_p53 := (fr53 (b0) (1) (by omega)).trans g1_p45
  have g2_p53 := (fr53 (b0) (2) (by omega)).trans g2_p45
  have g3_p53 := (fr53 (b0) (3) (by omega)).trans g3_p45
  have g4_p53 := (fr53 (b0) (4) (by omega)).trans g4_p45
  have g5_p53 := (fr53 (b0) (5) (by omega)).trans g5_p45
  have g6_p53 := (fr53 (b0) (6) (by omega)).trans g6_p45
  have e5_p53 := (fr53 (a) (0) (by omega)).trans e5_p45
  have e13_p53 := (fr53 (a) (1) (by omega)).trans e13_p45
  have e21_p53 := (fr53 (a) (2) (by omega)).trans e21_p45
  have e29_p53 := (fr53 (a) (3) (by omega)).trans e29_p45
  have e37_p53 := (fr53 (a) (4) (by omega)).trans e37_p45
  have e45_p53 := (fr53 (a) (5) (by omega)).trans e45
  exact x_vret (st := []) dX0_copy_56 rfl (⟨rfl, rfl, fun b j hb => (fr53 b j (by omega)).trans ((fr45 b j (by omega)).trans ((fr37 b j (by omega)).trans ((fr29 b j (by omega)).trans ((fr21 b j (by omega)).trans ((fr13 b j (by omega)).trans (fr5 b j (by omega))))))), by assumption, by assumption, by assumption, by assumption, by assumption, by assumption, by assumption⟩)
set_option maxHeartbeats 4000000 in
theorem c_X0_tell {r : Ev} {n : Nat} {I : MI} {Q : MQ2} (a what s : Nat) (ho : Ob n 0 a) (hw : what ≤ 5) (h6 : I a 6 = nI s) (hs : s ≤ 1) : CT r 0 yX0_tell cX0_tell (2, (some .int)) (0, 0) [.ref (evz r + a), .int (nI what)] n I Q (ri Q (fun x J => J = I ∧ x = I a (if what = 5 then 6 else what))) := by
  refine ct_of (lv := [some (.ref (evz r + a)), some (.int (nI what))]) (by decide +kernel) rfl rfl rfl ?_
  refine x_iload_1 dX0_tell_0 ?_
  by_cases q0 : what = 0
  · subst q0
    refine x_tsIn (off := 35) (t := 36) dX0_tell_1 (by decide) (by decide) (by decide) (by decide) ?_
    refine x_aload_0 dX0_tell_36 ?_
    refine x_geti dX0_tell_37 f_X0_9 (by assumption) ?_
    exact x_iret (st := []) dX0_tell_40 rfl rfl (⟨_, rfl, rfl, rfl, rfl⟩)
  by_cases q1 : what = 1
  · subst q1
    refine x_tsIn (off := 40) (t := 41) dX0_tell_1 (by decide) (by decide) (by decide) (by decide) ?_
    refine x_aload_0 dX0_tell_41 ?_
    refine x_geti dX0_tell_42 f_X0_15 (by assumption) ?_
    exact x_iret (st := []) dX0_tell_45 rfl rfl (⟨_, rfl, rfl, rfl, rfl⟩)
  by_cases q2 : what = 2
  · subst q2
    refine x_tsIn (off := 45) (t := 46) dX0_tell_1 (by decide) (by decide) (by decide) (by decide) ?_
    refine x_aload_0 dX0_tell_46 ?_
    refine x_geti dX0_tell_47 f_X0_18 (by assumption) ?_
    exact x_iret (st := []) dX0_tell_50 rfl rfl (⟨_, rfl, rfl, rfl, rfl⟩)
  by_cases q3 : what = 3
  · subst q3
    refine x_tsIn (off := 50) (t := 51) dX0_tell_1 (by decide) (by decide) (by decide) (by decide) ?_
    refine x_aload_0 dX0_tell_51 ?_
    refine x_geti dX0_tell_52 f_X0_21 (by assumption) ?_
    exact x_iret (st := []) dX0_tell_55 rfl rfl (⟨_, rfl, rfl, rfl, rfl⟩)
  by_cases q4 : what = 4
  · subst q4
    refine x_tsIn (off := 55) (t := 56) dX0_tell_1 (by decide) (by decide) (by decide) (by decide) ?_
    refine x_aload_0 dX0_tell_56 ?_
    refine x_geti dX0_tell_57 f_X0_24 (by assumption) ?_
    exact x_iret (st := []) dX0_tell_60 rfl rfl (⟨_, rfl, rfl, rfl, rfl⟩)
  have q5 : what = 5 := by omega
  subst q5
  refine x_tsOut (t := 61) dX0_tell_1 (by decide) (by decide) ?_
  refine x_aload_0 dX0_tell_61 ?_
  refine x_getV dX0_tell_62 f_X0_30 (by assumption) (by assumption) ?_
  refine x_if_eqN dX0_tell_65 (by omega) (fun c65 => ?_) (fun c65 => ?_)
  · refine x_const (c := 0) dX0_tell_72 rfl ?_
    exact x_iret (st := []) dX0_tell_73 rfl rfl (⟨_, rfl, rfl, rfl, by rw [if_pos rfl, h6]; congr 1; omega⟩)
  · refine x_const (c := 1) dX0_tell_68 rfl ?_
    refine x_goto dX0_tell_69 ?_
    exact x_iret (st := []) dX0_tell_73 rfl rfl (⟨_, rfl, rfl, rfl, by rw [if_pos rfl, h6]; congr 1; omega⟩)
set_option maxHeartbeats 4000000 in
theorem c_X0_init {r : Ev} {n : Nat} {I : MI} {Q : MQ2} (a : Nat) : CT r 1 yX0_init cX0_init (1, none) (0, 0) [.ref (evz r + a)] n I Q (RV (fun I' Q' => I' = I ∧ Q' = Q)) := by
  refine ct_of (lv := [some (.ref (evz r + a))]) (by decide +kernel) rfl rfl rfl ?_
  refine x_aload_0 dX0_init_0 ?_
  refine x_objinit dX0_init_1 m_X0_3 ?_
  exact x_vret (st := []) dX0_init_4 rfl (⟨rfl, rfl, rfl⟩)
end
section
/-! two families of laws/COUNTS.to-paste, then the pure picture -/
/-! ===== drawers: more things than places ===== -/
theorem fb_holes : ∀ (m n : Nat) (f : Nat → Nat), (∀ i, i < n → f i < m) → (∀ i j, i < j → j < n → f i ≠ f j) → n ≤ m := by
  intro m
  induction m with
  | zero =>
    intro n f h1 _
    rcases Nat.eq_zero_or_pos n with h | h
    · omega
    · exact absurd (h1 0 h) (Nat.not_lt_zero _)
  | succ m ih =>
    intro n f h1 h2
    by_cases hx : ∃ i, i < n ∧ f i = m
    · obtain ⟨a, ha, hfa⟩ := hx
      have hg := ih (n - 1) (fun i => if i < a then f i else f (i + 1)) (by
        intro i hi
        by_cases q : i < a
        · simp only [if_pos q]
          have b1 := h1 i (by omega)
          have b2 := h2 i a q ha
          omega
        · simp only [if_neg q]
          have b1 := h1 (i + 1) (by omega)
          have b2 := h2 a (i + 1) (by omega) (by omega)
          omega) (by
        intro i j hij hj
        by_cases q : i < a
        · by_cases r : j < a
          · simp only [if_pos q, if_pos r]
            exact h2 i j hij (by omega)
          · simp only [if_pos q, if_neg r]
            exact h2 i (j + 1) (by omega) (by omega)
        · have r : ¬ j < a := by omega
          simp only [if_neg q, if_neg r]
          exact h2 (i + 1) (j + 1) (by omega) (by omega))
      omega
    · have hg := ih n f (fun i hi => by
        have b1 := h1 i hi
        have b2 : f i ≠ m := fun e => hx ⟨i, hi, e⟩
        omega) h2
      omega
/-- two of them in one place -/
theorem fb_twice {m n : Nat} {f : Nat → Nat} (h : ∀ i, i < n → f i < m) (hm : m < n) : ∃ i j, i < j ∧ j < n ∧ f i = f j := by
  refine Classical.byContradiction fun hx => ?_
  have := fb_holes m n f h (fun i j hij hj e => hx ⟨i, j, hij, hj, e⟩)
  omega
/-- as many as places, none twice: each place is taken -/
theorem fb_onto {n : Nat} {f : Nat → Nat} (h : ∀ i, i < n → f i < n) (h2 : ∀ i j, i < j → j < n → f i ≠ f j) {y : Nat} (hy : y < n) : ∃ i, i < n ∧ f i = y := by
  refine Classical.byContradiction fun hx => ?_
  have hne : ∀ i, i < n → f i ≠ y := fun i hi e => hx ⟨i, hi, e⟩
  have := fb_holes (n - 1) n (fun i => if f i < y then f i else f i - 1) (by
    intro i hi
    have b1 := h i hi
    have b2 := hne i hi
    by_cases q : f i < y
    · simp only [if_pos q]; omega
    · simp only [if_neg q]; omega) (by
    intro i j hij hj
    have b1 := hne i (by omega)
    have b2 := hne j hj
    have b3 := h2 i j hij hj
    by_cases q : f i < y
    · by_cases r : f j < y
      · simp only [if_pos q, if_pos r]; exact b3
      · simp only [if_pos q, if_neg r]; omega
    · by_cases r : f j < y
      · simp only [if_neg q, if_pos r]; omega
      · simp only [if_neg q, if_neg r]; omega)
  omega
/-! ===== how many places have a property ===== -/
def fb_ct (p : Nat → Bool) : Nat → Nat
  | 0 => 0
  | n + 1 => fb_ct p n + (if p n then 1 else 0)
theorem fb_ct_succ (p : Nat → Bool) (n : Nat) : fb_ct p (n + 1) = fb_ct p n + (if p n then 1 else 0) := rfl
theorem fb_ct_le (p : Nat → Bool) : ∀ n, fb_ct p n ≤ n
  | 0 => Nat.le_refl _
  | n + 1 => by
    have h := fb_ct_le p n
    rw [fb_ct_succ]
    split <;> omega
theorem fb_ct_step (p : Nat → Bool) (m : Nat) : ∀ n, fb_ct p m ≤ fb_ct p (m + n)
  | 0 => Nat.le_refl _
  | n + 1 => by
    have h := fb_ct_step p m n
    show fb_ct p m ≤ fb_ct p (m + n + 1)
    rw [fb_ct_succ]
    omega
theorem fb_ct_mono (p : Nat → Bool) {m n : Nat} (h : m ≤ n) : fb_ct p m ≤ fb_ct p n := by
  have := fb_ct_step p m (n - m)
  rwa [Nat.add_sub_cancel' h] at this
theorem fb_ct_cong {p q : Nat → Bool} : ∀ {n : Nat}, (∀ k, k < n → p k = q k) → fb_ct p n = fb_ct q n
  | 0, _ => rfl
  | n + 1, h => by
    rw [fb_ct_succ, fb_ct_succ, fb_ct_cong (fun k hk => h k (by omega)), h n (by omega)]
/-- one place changed -/
theorem fb_ct_out (p : Nat → Bool) (b : Bool) {i n : Nat} (h : n ≤ i) : fb_ct (fun k => if k = i then b else p k) n = fb_ct p n :=
  fb_ct_cong fun k hk => if_neg (by omega)
theorem fb_ct_upd (p : Nat → Bool) (b : Bool) {i : Nat} : ∀ {n : Nat}, i < n → fb_ct (fun k => if k = i then b else p k) n + (if p i then 1 else 0) = fb_ct p n + (if b then 1 else 0)
  | 0, h => absurd h (Nat.not_lt_zero i)
  | n + 1, h => by
    rw [fb_ct_succ, fb_ct_succ]
    rcases Nat.lt_or_ge i n with q | q
    · have := fb_ct_upd p b q
      have e : (if n = i then b else p n) = p n := if_neg (by omega)
      rw [e]
      omega
    · have e : i = n := by omega
      subst e
      rw [fb_ct_out p b (Nat.le_refl _)]
      simp only [if_true]
      omega
theorem fb_ct_sub {p q : Nat → Bool} : ∀ {n : Nat}, (∀ k, k < n → p k = true → q k = true) → fb_ct p n ≤ fb_ct q n
  | 0, _ => Nat.le_refl _
  | n + 1, h => by
    have h1 := fb_ct_sub (n := n) (p := p) (q := q) (fun k hk => h k (by omega))
    have h2 := h n (by omega)
    rw [fb_ct_succ, fb_ct_succ]
    cases hp : p n <;> cases hq : q n <;> simp_all <;> omega
theorem fb_ct_or {p q : Nat → Bool} : ∀ {n : Nat}, (∀ k, k < n → ¬ (p k = true ∧ q k = true)) → fb_ct (fun k => p k || q k) n = fb_ct p n + fb_ct q n
  | 0, _ => rfl
  | n + 1, h => by
    have h1 := fb_ct_or (n := n) (p := p) (q := q) (fun k hk => h k (by omega))
    have h2 := h n (by omega)
    rw [fb_ct_succ, fb_ct_succ, fb_ct_succ, h1]
    cases hp : p n <;> cases hq : q n <;> simp_all <;> omega
theorem fb_ct_not (p : Nat → Bool) : ∀ n, fb_ct p n + fb_ct (fun k => !p k) n = n
  | 0 => rfl
  | n + 1 => by
    have h := fb_ct_not p n
    rw [fb_ct_succ, fb_ct_succ]
    cases p n <;> simp <;> omega
theorem fb_ct_split (p : Nat → Bool) (m : Nat) : ∀ n, fb_ct p (m + n) = fb_ct p m + fb_ct (fun k => p (m + k)) n
  | 0 => rfl
  | n + 1 => by
    have h := fb_ct_split p m n
    show fb_ct p (m + n + 1) = _
    rw [fb_ct_succ, fb_ct_succ, h, Nat.add_assoc]
theorem fb_ct_zero {p : Nat → Bool} : ∀ {n : Nat}, fb_ct p n = 0 ↔ ∀ k, k < n → p k = false
  | 0 => ⟨fun _ k hk => absurd hk (Nat.not_lt_zero k), fun _ => rfl⟩
  | n + 1 => by
    have h := fb_ct_zero (p := p) (n := n)
    rw [fb_ct_succ]
    constructor
    · intro e k hk
      have e1 : fb_ct p n = 0 := by omega
      rcases Nat.lt_or_ge k n with q | q
      · exact h.mp e1 k q
      · have ek : k = n := by omega
        subst ek
        cases hp : p k
        · rfl
        · simp [hp] at e
    · intro a
      rw [h.mpr (fun k hk => a k (by omega)), a n (by omega)]
      rfl
theorem fb_ct_pos {p : Nat → Bool} {n : Nat} : 0 < fb_ct p n ↔ ∃ k, k < n ∧ p k = true := by
  constructor
  · intro h
    refine Classical.byContradiction fun hx => ?_
    have := fb_ct_zero.mpr (fun k hk => by
      cases hp : p k
      · rfl
      · exact absurd ⟨k, hk, hp⟩ hx : ∀ k, k < n → p k = false)
    omega
  · rintro ⟨k, hk, hp⟩
    rcases Nat.eq_zero_or_pos (fb_ct p n) with e | e
    · have := fb_ct_zero.mp e k hk
      rw [this] at hp
      cases hp
    · exact e
theorem fb_ct_all {p : Nat → Bool} {n : Nat} : fb_ct p n = n ↔ ∀ k, k < n → p k = true := by
  have h := fb_ct_not p n
  constructor
  · intro e k hk
    have z : fb_ct (fun k => !p k) n = 0 := by omega
    have := fb_ct_zero.mp z k hk
    cases hp : p k
    · simp [hp] at this
    · rfl
  · intro a
    have z : fb_ct (fun k => !p k) n = 0 := fb_ct_zero.mpr (fun k hk => by simp [a k hk])
    omega
/-- the k-th place with the property -/
theorem fb_ct_kth {p : Nat → Bool} {k : Nat} : ∀ {n : Nat}, k < fb_ct p n → ∃ i, i < n ∧ p i = true ∧ fb_ct p i = k
  | 0, h => absurd h (Nat.not_lt_zero k)
  | n + 1, h => by
    rcases Nat.lt_or_ge k (fb_ct p n) with q | q
    · obtain ⟨i, h1, h2⟩ := fb_ct_kth q
      exact ⟨i, by omega, h2⟩
    · rw [fb_ct_succ] at h
      cases hp : p n
      · simp [hp] at h; omega
      · simp [hp] at h
        exact ⟨n, by omega, hp, by omega⟩
theorem fb_ct_kth_one {p : Nat → Bool} {i j : Nat} (hi : p i = true) (hj : p j = true) (e : fb_ct p i = fb_ct p j) : i = j := by
  have key : ∀ a b : Nat, a < b → p a = true → fb_ct p a < fb_ct p b := by
    intro a b hab ha
    have h := fb_ct_mono p (show a + 1 ≤ b from hab)
    rw [fb_ct_succ, ha] at h
    simp at h
    omega
  rcases Nat.lt_trichotomy i j with q | q | q
  · have := key i j q hi; omega
  · exact q
  · have := key j i q hj; omega

/-! ===== one place of a function changed ===== -/
def nup {α : Type} (f : Nat → α) (k : Nat) (v : α) : Nat → α := fun j => if j = k then v else f j
theorem nup_s {α : Type} (f : Nat → α) (k : Nat) (v : α) : nup f k v k = v := by simp [nup]
theorem nup_n {α : Type} {f : Nat → α} {k j : Nat} {v : α} (h : j ≠ k) : nup f k v j = f j := by simp only [nup, if_neg h]
theorem nup_self {α : Type} (f : Nat → α) (k : Nat) : nup f k (f k) = f := by
  funext j
  by_cases h : j = k
  · subst h; exact nup_s _ _ _
  · exact nup_n h
/-- what of the looms doesn't change: how many, kinds, threads -/
abbrev Tp : Type := Nat × (Nat → Nat) × (Nat → Nat)
def tN (t : Tp) : Nat := t.1
def tK (t : Tp) : Nat → Nat := t.2.1
def tT (t : Tp) : Nat → Nat := t.2.2
/-- the night: hours told, cold, mist, sun, merchants, a yard -/
abbrev Nt : Type := Nat × (Nat → Nat) × (Nat → Nat) × Nat × Nat × Nat
def nH (g : Nt) : Nat := g.1
def nC (g : Nt) : Nat → Nat := g.2.1
def nM (g : Nt) : Nat → Nat := g.2.2.1
def nS (g : Nt) : Nat := g.2.2.2.1
def nB (g : Nt) : Nat := g.2.2.2.2.1
def nY (g : Nt) : Nat := g.2.2.2.2.2
/-- how it stands: places, drops, spoiled, shade, ran off, the hour -/
abbrev St : Type := (Nat → Nat) × (Nat → Nat) × (Nat → Nat) × (Nat → Nat) × Nat × Nat
def sP (s : St) : Nat → Nat := s.1
def sD (s : St) : Nat → Nat := s.2.1
def sX (s : St) : Nat → Nat := s.2.2.1
def sH (s : St) : Nat → Nat := s.2.2.2.1
def sO (s : St) : Nat := s.2.2.2.2.1
def sR (s : St) : Nat := s.2.2.2.2.2
def mkS (p d x h : Nat → Nat) (o r : Nat) : St := (p, d, x, h, o, r)
/-- one loom set anew -/
def setL (s : St) (l p d x h : Nat) : St := (nup (sP s) l p, nup (sD s) l d, nup (sX s) l x, nup (sH s) l h, sO s, sR s)
theorem setL_P (s : St) (l p d x h : Nat) : sP (setL s l p d x h) = nup (sP s) l p := rfl
theorem setL_D (s : St) (l p d x h : Nat) : sD (setL s l p d x h) = nup (sD s) l d := rfl
theorem setL_X (s : St) (l p d x h : Nat) : sX (setL s l p d x h) = nup (sX s) l x := rfl
theorem setL_H (s : St) (l p d x h : Nat) : sH (setL s l p d x h) = nup (sH s) l h := rfl
theorem setL_O (s : St) (l p d x h : Nat) : sO (setL s l p d x h) = sO s := rfl
theorem setL_R (s : St) (l p d x h : Nat) : sR (setL s l p d x h) = sR s := rfl
/-- the same as far as N looms go -/
def eqS (N : Nat) (s t : St) : Prop := (∀ l, l < N → sP s l = sP t l ∧ sD s l = sD t l ∧ sX s l = sX t l ∧ sH s l = sH t l) ∧ sO s = sO t ∧ sR s = sR t
theorem eqS.rf {N : Nat} {s : St} : eqS N s s := ⟨fun _ _ => ⟨rfl, rfl, rfl, rfl⟩, rfl, rfl⟩
theorem eqS.sy {N : Nat} {s t : St} (h : eqS N s t) : eqS N t s := ⟨fun l hl => ⟨(h.1 l hl).1.symm, (h.1 l hl).2.1.symm, (h.1 l hl).2.2.1.symm, (h.1 l hl).2.2.2.symm⟩, h.2.1.symm, h.2.2.symm⟩
theorem eqS.tr {N : Nat} {s t u : St} (h : eqS N s t) (k : eqS N t u) : eqS N s u := ⟨fun l hl => ⟨(h.1 l hl).1.trans (k.1 l hl).1, (h.1 l hl).2.1.trans (k.1 l hl).2.1, (h.1 l hl).2.2.1.trans (k.1 l hl).2.2.1, (h.1 l hl).2.2.2.trans (k.1 l hl).2.2.2⟩, h.2.1.trans k.2.1, h.2.2.trans k.2.2⟩
/-! ===== the looms from above ===== -/
def rankO (N : Nat) (p : Nat → Nat) (l : Nat) : Nat := fb_ct (fun k => decide (p k < p l)) N
def findB (q : Nat → Bool) : Nat → Nat
  | 0 => 0
  | n + 1 => if q n then n else findB q n
theorem findB_yes {q : Nat → Bool} : ∀ {n k : Nat}, k < n → q k = true → findB q n < n ∧ q (findB q n) = true
  | 0, k, h, _ => absurd h (Nat.not_lt_zero k)
  | n + 1, k, h, hk => by
    unfold findB
    by_cases hn : q n = true
    · rw [if_pos hn]; exact ⟨Nat.lt_succ_self n, hn⟩
    · rw [if_neg hn]
      have hk2 : k < n := by
        rcases Nat.lt_or_ge k n with z | z
        · exact z
        · have e : k = n := by omega
          subst e; exact absurd hk hn
      obtain ⟨h1, h2⟩ := findB_yes hk2 hk
      exact ⟨Nat.lt_succ_of_lt h1, h2⟩
def ordO (N : Nat) (p : Nat → Nat) (i : Nat) : Nat := findB (fun l => decide (rankO N p l = i)) N
def dst (N : Nat) (p : Nat → Nat) : Prop := ∀ l, l < N → ∀ k, k < N → p l = p k → l = k
theorem rankO_lt {N : Nat} {p : Nat → Nat} {l : Nat} (h : l < N) : rankO N p l < N := by
  have h1 := fb_ct_le (fun k => decide (p k < p l)) N
  rcases Nat.lt_or_ge (rankO N p l) N with z | z
  · exact z
  · have e : fb_ct (fun k => decide (p k < p l)) N = N := Nat.le_antisymm h1 z
    have := fb_ct_all.mp e l h
    simp at this
theorem rankO_mono {N : Nat} {p : Nat → Nat} {l k : Nat} (hl : l < N) (h : p l < p k) : rankO N p l < rankO N p k := by
  have h1 : fb_ct (fun j => decide (p j < p k)) N = fb_ct (fun j => decide (p j < p l)) N + fb_ct (fun j => decide (p l ≤ p j ∧ p j < p k)) N := by
    rw [← fb_ct_or]
    · apply fb_ct_cong
      intro j _
      by_cases a : p j < p l <;> by_cases b : p j < p k <;> simp [a, b] <;> omega
    · intro j _ q
      simp at q
      omega
  have h2 : 0 < fb_ct (fun j => decide (p l ≤ p j ∧ p j < p k)) N := fb_ct_pos.mpr ⟨l, hl, by simp [h]⟩
  unfold rankO
  omega
theorem rankO_inj {N : Nat} {p : Nat → Nat} (hd : dst N p) {l k : Nat} (hl : l < N) (hk : k < N) (h : rankO N p l = rankO N p k) : l = k := by
  rcases Nat.lt_trichotomy (p l) (p k) with z | z | z
  · have := rankO_mono (N := N) hl z; omega
  · exact hd l hl k hk z
  · have := rankO_mono (N := N) hk z; omega
theorem ordO_ok {N : Nat} {p : Nat → Nat} (hd : dst N p) {i : Nat} (hi : i < N) : ordO N p i < N ∧ rankO N p (ordO N p i) = i := by
  obtain ⟨l, hl, he⟩ := fb_onto (n := N) (f := rankO N p) (fun l hl => rankO_lt hl) (fun a b hab hb e => by have := rankO_inj hd (by omega) hb e; omega) hi
  have h := findB_yes (q := fun l => decide (rankO N p l = i)) hl (by simp [he])
  exact ⟨h.1, of_decide_eq_true h.2⟩
theorem ordO_rank {N : Nat} {p : Nat → Nat} (hd : dst N p) {l : Nat} (hl : l < N) : ordO N p (rankO N p l) = l := by
  have h := ordO_ok hd (rankO_lt (p := p) hl)
  exact rankO_inj hd h.1 hl h.2
theorem rankO_cong {N : Nat} {p q : Nat → Nat} (h : ∀ l, l < N → p l = q l) {l : Nat} (hl : l < N) : rankO N p l = rankO N q l := by
  unfold rankO
  apply fb_ct_cong
  intro k hk
  rw [h k hk, h l hl]
theorem findB_cong {q q' : Nat → Bool} : ∀ {n : Nat}, (∀ k, k < n → q k = q' k) → findB q n = findB q' n
  | 0, _ => rfl
  | n + 1, h => by
    unfold findB
    rw [h n (Nat.lt_succ_self n), findB_cong (fun k hk => h k (Nat.lt_succ_of_lt hk))]
theorem ordO_cong {N : Nat} {p q : Nat → Nat} (h : ∀ l, l < N → p l = q l) (i : Nat) : ordO N p i = ordO N q i := by
  unfold ordO
  apply findB_cong
  intro k hk
  rw [rankO_cong h hk]
theorem dst_cong {N : Nat} {p q : Nat → Nat} (h : ∀ l, l < N → p l = q l) (hd : dst N p) : dst N q := fun l hl k hk e => hd l hl k hk (by rw [h l hl, h k hk]; exact e)
/-! ===== an hour ===== -/
def allG (t : Tp) (c m : Nat) (runs : Nat) (s : St) (l : Nat) : Nat := sD s l + setl (tK t l) c m + (if tK t l = 2 then 0 else runs)
def gstep (t : Tp) (c m : Nat) (g : Nat × St × (Nat → Nat)) (l : Nat) : Nat × St × (Nat → Nat) :=
  (allG t c m g.1 g.2.1 l - min (allG t c m g.1 g.2.1 l) (3 * tT t l), setL g.2.1 l (sP g.2.1 l) (min (allG t c m g.1 g.2.1 l) (3 * tT t l)) (if tK t l = 2 then sX g.2.1 l + g.1 else sX g.2.1 l) (sH g.2.1 l), nup g.2.2 l (allG t c m g.1 g.2.1 l - min (allG t c m g.1 g.2.1 l) (3 * tT t l)))
def gth (t : Tp) (c m : Nat) (ord : Nat → Nat) (s : St) : Nat → Nat × St × (Nat → Nat)
  | 0 => (0, s, fun _ => 0)
  | i + 1 => gstep t c m (gth t c m ord s i) (ord i)
def dryv (t : Tp) (s : St) (l : Nat) : Nat := if sH s l = 0 then sD s l - (if tK t l = 3 then 1 else 2) else sD s l
def dryS (t : Tp) (s : St) : St := mkS (sP s) (dryv t s) (sX s) (sH s) (sO s) (sR s)
def offS (s : St) (k : Nat) : St := mkS (sP s) (sD s) (sX s) (sH s) (sO s + k) (sR s)
def tick (s : St) : St := mkS (sP s) (sD s) (sX s) (sH s) (sO s) (sR s + 1)
def gatS (t : Tp) (c m : Nat) (s : St) : St := offS (gth t c m (ordO (tN t) (sP s)) s (tN t)).2.1 (gth t c m (ordO (tN t) (sP s)) s (tN t)).1
def ranS (t : Tp) (c m : Nat) (s : St) : Nat → Nat := (gth t c m (ordO (tN t) (sP s)) s (tN t)).2.2
def hourS (t : Tp) (sun c m : Nat) (s : St) : St := tick (if sR s < sun then gatS t c m s else dryS t s)
def okT (t : Tp) : Prop := tN t ≤ 6 ∧ ∀ l, l < tN t → tK t l ≤ 3 ∧ tT t l ≤ 18
def okS (t : Tp) (s : St) : Prop := (∀ l, l < tN t → sP s l ≤ 9 ∧ sD s l ≤ 3 * tT t l ∧ sH s l ≤ 1) ∧ dst (tN t) (sP s)
theorem gth_P (t : Tp) (c m : Nat) (ord : Nat → Nat) (s : St) : ∀ i, sP (gth t c m ord s i).2.1 = sP s
  | 0 => rfl
  | i + 1 => by
    show nup (sP (gth t c m ord s i).2.1) (ord i) (sP (gth t c m ord s i).2.1 (ord i)) = sP s
    rw [nup_self, gth_P]
theorem gth_H (t : Tp) (c m : Nat) (ord : Nat → Nat) (s : St) : ∀ i, sH (gth t c m ord s i).2.1 = sH s
  | 0 => rfl
  | i + 1 => by
    show nup (sH (gth t c m ord s i).2.1) (ord i) (sH (gth t c m ord s i).2.1 (ord i)) = sH s
    rw [nup_self, gth_H]
theorem gth_O (t : Tp) (c m : Nat) (ord : Nat → Nat) (s : St) : ∀ i, sO (gth t c m ord s i).2.1 = sO s
  | 0 => rfl
  | i + 1 => gth_O t c m ord s i
theorem gth_R (t : Tp) (c m : Nat) (ord : Nat → Nat) (s : St) : ∀ i, sR (gth t c m ord s i).2.1 = sR s
  | 0 => rfl
  | i + 1 => gth_R t c m ord s i
theorem gth_D {t : Tp} {c m : Nat} {ord : Nat → Nat} {s : St} {N : Nat} (hd : ∀ l, l < N → sD s l ≤ 3 * tT t l) : ∀ i, ∀ l, l < N → sD (gth t c m ord s i).2.1 l ≤ 3 * tT t l
  | 0, l, hl => hd l hl
  | i + 1, l, hl => by
    show nup (sD (gth t c m ord s i).2.1) (ord i) _ l ≤ _
    by_cases e : l = ord i
    · rw [e, nup_s]; exact Nat.min_le_right _ _
    · rw [nup_n e]; exact gth_D hd i l hl
theorem gth_runs {t : Tp} {c m : Nat} {ord : Nat → Nat} {s : St} (ht : okT t) (hc : c ≤ 9) (hd : ∀ l, l < tN t → sD s l ≤ 3 * tT t l) : ∀ i, i ≤ tN t → (∀ k, k < i → ord k < tN t) → (gth t c m ord s i).1 ≤ 100 * i
  | 0, _, _ => Nat.zero_le _
  | i + 1, hi, ho => by
    have h1 := gth_runs (c := c) (m := m) (ord := ord) ht hc hd i (by omega) (fun k hk => ho k (by omega))
    have h2 := gth_D (c := c) (m := m) (ord := ord) hd i (ord i) (ho i (Nat.lt_succ_self i))
    have h3 := setl_le (k := tK t (ord i)) (m := m) hc
    have h4 := (ht.2 (ord i) (ho i (Nat.lt_succ_self i))).2
    show allG t c m (gth t c m ord s i).1 (gth t c m ord s i).2.1 (ord i) - _ ≤ _
    unfold allG
    split <;> omega
theorem okS_gat {t : Tp} {c m : Nat} {s : St} (h : okS t s) : okS t (gatS t c m s) := by
  refine ⟨fun l hl => ⟨?_, ?_, ?_⟩, ?_⟩
  · show sP (gth _ _ _ _ _ _).2.1 l ≤ 9
    rw [gth_P]; exact (h.1 l hl).1
  · exact gth_D (fun k hk => (h.1 k hk).2.1) _ l hl
  · show sH (gth _ _ _ _ _ _).2.1 l ≤ 1
    rw [gth_H]; exact (h.1 l hl).2.2
  · show dst _ (sP (gth _ _ _ _ _ _).2.1)
    rw [gth_P]; exact h.2
theorem okS_dry {t : Tp} {s : St} (h : okS t s) : okS t (dryS t s) := by
  refine ⟨fun l hl => ⟨(h.1 l hl).1, ?_, (h.1 l hl).2.2⟩, h.2⟩
  show dryv t s l ≤ _
  have := (h.1 l hl).2.1
  unfold dryv
  split <;> omega
theorem okS_hour {t : Tp} {sun c m : Nat} {s : St} (h : okS t s) : okS t (hourS t sun c m s) := by
  unfold hourS
  split
  · exact okS_gat (c := c) (m := m) h
  · exact okS_dry h
theorem sR_hour (t : Tp) (sun c m : Nat) (s : St) : sR (hourS t sun c m s) = sR s + 1 := by
  unfold hourS
  split
  · show sR (gth _ _ _ _ _ _).2.1 + 1 = _
    rw [gth_R]
  · rfl
theorem sP_hour (t : Tp) (sun c m : Nat) (s : St) : sP (hourS t sun c m s) = sP s := by
  unfold hourS
  split
  · show sP (gth _ _ _ _ _ _).2.1 = _
    rw [gth_P]
  · rfl
/-! the night's hours -/
def ofH (g : Nt) (row : Nat → Nat) (h u : Nat) : Nat := if nH g = 0 then u else row (if h < nH g then h else nH g - 1)
def coldF (g : Nt) (h : Nat) : Nat := ofH g (nC g) h 4
def mistF (g : Nt) (h : Nat) : Nat := ofH g (nM g) h 0
def okN (g : Nt) : Prop := nH g ≤ 12 ∧ (∀ h, h < nH g → nC g h ≤ 9 ∧ nM g h ≤ 1) ∧ nS g ≤ 20 ∧ 1 ≤ nB g ∧ nB g ≤ 24 ∧ 1 ≤ nY g ∧ nY g ≤ 27
theorem cold_le {g : Nt} (h : okN g) (k : Nat) : coldF g k ≤ 9 := by
  unfold coldF ofH
  split
  · omega
  · refine (h.2.1 _ ?_).1
    split <;> omega
theorem mist_le {g : Nt} (h : okN g) (k : Nat) : mistF g k ≤ 1 := by
  unfold mistF ofH
  split
  · omega
  · refine (h.2.1 _ ?_).2
    split <;> omega
def oneS (t : Tp) (g : Nt) (s : St) : St := hourS t (nS g) (coldF g (sR s)) (mistF g (sR s)) s
def hrsS (t : Tp) (g : Nt) : Nat → St → St
  | 0, s => s
  | n + 1, s => hrsS t g n (oneS t g s)
theorem okS_hrs {t : Tp} {g : Nt} : ∀ {n : Nat} {s : St}, okS t s → okS t (hrsS t g n s)
  | 0, _, h => h
  | n + 1, s, h => okS_hrs (n := n) (s := oneS t g s) (okS_hour h)
theorem sR_hrs {t : Tp} {g : Nt} : ∀ (n : Nat) (s : St), sR (hrsS t g n s) = sR s + n
  | 0, _ => rfl
  | n + 1, s => by
    show sR (hrsS t g n (oneS t g s)) = _
    rw [sR_hrs n, oneS, sR_hour]; omega
end
section
/-! ranges -/
theorem inR {x : Int32} {lo hi : Nat} (hlo : lo < 1000) (hhi : hi < 100000000) (h1 : ¬ x < nI lo) (h2 : ¬ nI hi < x) : ∃ j : Nat, lo ≤ j ∧ j ≤ hi ∧ x = nI j := by
  have a1 : (nI lo).toInt = lo := nI_toInt (by omega)
  have a2 : (nI hi).toInt = hi := nI_toInt (by omega)
  have b1 : ¬ x.toInt < (lo : Int) := by rw [← a1]; exact fun z => h1 (Int32.lt_iff_toInt_lt.mpr z)
  have b2 : ¬ (hi : Int) < x.toInt := by rw [← a2]; exact fun z => h2 (Int32.lt_iff_toInt_lt.mpr z)
  obtain ⟨j, hj, he⟩ := nI_of (x := x) (fun z => by have := Int32.lt_iff_toInt_lt.mp z; have e0 : (0 : Int32).toInt = 0 := rfl; omega)
  have a3 : (nI j).toInt = j := nI_toInt hj
  subst he
  exact ⟨j, by omega, by omega, rfl⟩
theorem outR {j lo hi : Nat} (hj : j < 100000000) (hlo : lo < 100000000) (hhi : hi < 100000000) : (nI j < nI lo ∨ nI hi < nI j) ↔ (j < lo ∨ hi < j) := by
  have e1 := nI_ltI (a := j) (b := lo) (by omega) (by omega)
  have e2 := nI_ltI (a := hi) (b := j) (by omega) (by omega)
  rw [e1, e2]
def outp (x lo hi y : Int32) : Prop := (y = nI 1 ∧ (x < lo ∨ hi < x)) ∨ (y = nI 0 ∧ ¬ x < lo ∧ ¬ hi < x)
set_option maxHeartbeats 4000000 in
theorem c_X8_isOutside {r : Ev} {n : Nat} {I : MI} {Q : MQ2} (x lo hi : Int32) : CT r 0 yX8_isOutside cX8_isOutside (3, (some .boolean)) (0, 0) [.int x, .int lo, .int hi] n I Q (ri Q (fun v J => J = I ∧ outp x lo hi v)) := by
  refine ct_of (lv := [some (.int x), some (.int lo), some (.int hi)]) (by decide +kernel) rfl rfl rfl ?_
  refine x_iload_0 dX8_isOutside_0 ?_
  refine x_iload_1 dX8_isOutside_1 ?_
  refine x_icmp_lt dX8_isOutside_2 (fun c2 => ?_) (fun c2 => ?_)
  · refine x_const (c := 1) dX8_isOutside_10 rfl ?_
    refine x_goto dX8_isOutside_11 ?_
    exact x_iret (st := []) dX8_isOutside_15 rfl rfl (⟨_, rfl, rfl, rfl, by unfold outp; first | exact Or.inl ⟨rfl, Or.inl (by assumption)⟩ | exact Or.inl ⟨rfl, Or.inr (by first | assumption | exact Int32.not_le.mp (by assumption))⟩ | exact Or.inr ⟨rfl, by assumption, by first | assumption | exact fun z => absurd z (Int32.not_lt.mpr (by assumption))⟩⟩)
  · refine x_iload_0 dX8_isOutside_5 ?_
    refine x_iload_2 dX8_isOutside_6 ?_
    refine x_icmp_le dX8_isOutside_7 (fun c7 => ?_) (fun c7 => ?_)
    · refine x_const (c := 0) dX8_isOutside_14 rfl ?_
      exact x_iret (st := []) dX8_isOutside_15 rfl rfl (⟨_, rfl, rfl, rfl, by unfold outp; first | exact Or.inl ⟨rfl, Or.inl (by assumption)⟩ | exact Or.inl ⟨rfl, Or.inr (by first | assumption | exact Int32.not_le.mp (by assumption))⟩ | exact Or.inr ⟨rfl, by assumption, by first | assumption | exact fun z => absurd z (Int32.not_lt.mpr (by assumption))⟩⟩)
    · refine x_const (c := 1) dX8_isOutside_10 rfl ?_
      refine x_goto dX8_isOutside_11 ?_
      exact x_iret (st := []) dX8_isOutside_15 rfl rfl (⟨_, rfl, rfl, rfl, by unfold outp; first | exact Or.inl ⟨rfl, Or.inl (by assumption)⟩ | exact Or.inl ⟨rfl, Or.inr (by first | assumption | exact Int32.not_le.mp (by assumption))⟩ | exact Or.inr ⟨rfl, by assumption, by first | assumption | exact fun z => absurd z (Int32.not_lt.mpr (by assumption))⟩⟩)
theorem outp01 {x lo hi y : Int32} (h : outp x lo hi y) : narrow .boolean (.int y) = .int y := by
  rcases h with ⟨rfl, -⟩ | ⟨rfl, -⟩ <;> rfl
set_option maxHeartbeats 4000000 in
theorem c_X8_isNoPlace {r : Ev} {n : Nat} {I : MI} {Q : MQ2} (x : Int32) : CT r 1 yX8_isNoPlace cX8_isNoPlace (1, (some .boolean)) (0, 0) [.int x] n I Q (ri Q (fun v J => J = I ∧ outp x (nI 0) (nI 9) v)) := by
  refine ct_of (lv := [some (.int x)]) (by decide +kernel) rfl rfl rfl ?_
  refine x_iload_0 dX8_isNoPlace_0 ?_
  refine x_const (c := 0) dX8_isNoPlace_1 rfl ?_
  refine x_bip (c := 9) dX8_isNoPlace_2 (by decide) ?_
  refine x_S3i dX8_isNoPlace_4 m_X8_91 (c_X8_isOutside x (nI 0) (nI 9)) (fun x4 I4 h4 => ?_)
  obtain ⟨rfl, h4⟩ := h4
  exact x_iret (st := []) dX8_isNoPlace_7 rfl (outp01 h4) (⟨_, rfl, rfl, rfl, h4⟩)
/-! bits of small numbers -/
def bitF (q : Nat → Bool) : Nat → Nat
  | 0 => 0
  | n + 1 => bitF q n + (if q n then 2 ^ n else 0)
theorem bitF_lt (q : Nat → Bool) : ∀ n, bitF q n < 2 ^ n
  | 0 => by unfold bitF; exact Nat.le_of_ble_eq_true rfl
  | n + 1 => by
    have h := bitF_lt q n
    have e : 2 ^ (n + 1) = 2 ^ n + 2 ^ n := by omega
    unfold bitF
    split <;> omega
theorem or_bit : ∀ l, l < 11 → ∀ a, a < 2 ^ l → nI a ||| (nI 1 <<< (nI l &&& 31)) = nI (a + 2 ^ l) := by decide +kernel
theorem or_0 : ∀ a, a < 2048 → nI a ||| nI 0 = nI a := by decide +kernel
theorem bit_at : ∀ l, l < 7 → ∀ a, a < 128 → ((nI a >>> (nI l &&& 31)) &&& nI 1) = nI (a / 2 ^ l % 2) := by decide +kernel
theorem bitF_bit (q : Nat → Bool) {l : Nat} : ∀ {n : Nat}, l < n → bitF q n / 2 ^ l % 2 = if q l then 1 else 0
  | 0, h => absurd h (Nat.not_lt_zero l)
  | n + 1, h => by
    have hp : 0 < 2 ^ l := Nat.pow_pos (by decide)
    rcases Nat.lt_or_ge l n with z | z
    · have ih := bitF_bit q z
      unfold bitF
      obtain ⟨k, rfl⟩ : ∃ k, n = l + 1 + k := ⟨n - (l + 1), by omega⟩
      have e : 2 ^ (l + 1 + k) = 2 ^ l * (2 * 2 ^ k) := by rw [Nat.pow_add, Nat.pow_add, Nat.pow_one]; rw [Nat.mul_assoc]
      split
      · rw [e, Nat.add_mul_div_left _ _ hp, Nat.add_mul_mod_self_left, ih]
      · rw [Nat.add_zero, ih]
    · have e : l = n := by omega
      subst e
      have hb := bitF_lt q l
      unfold bitF
      split
      · rw [Nat.add_div_right _ hp, Nat.div_eq_of_lt hb]
      · rw [Nat.add_zero, Nat.div_eq_of_lt hb]
theorem bitF_cong {q q' : Nat → Bool} : ∀ {n : Nat}, (∀ k, k < n → q k = q' k) → bitF q n = bitF q' n
  | 0, _ => rfl
  | n + 1, h => by unfold bitF; rw [h n (Nat.lt_succ_self n), bitF_cong (fun k hk => h k (Nat.lt_succ_of_lt hk))]
def sumF (f : Nat → Nat) : Nat → Nat
  | 0 => 0
  | n + 1 => sumF f n + f n
theorem sumF_cong {f g : Nat → Nat} : ∀ {n : Nat}, (∀ k, k < n → f k = g k) → sumF f n = sumF g n
  | 0, _ => rfl
  | n + 1, h => by unfold sumF; rw [h n (Nat.lt_succ_self n), sumF_cong (fun k hk => h k (Nat.lt_succ_of_lt hk))]
set_option maxHeartbeats 4000000 in
theorem c_X8_hasBit {r : Ev} {n : Nat} {I : MI} {Q : MQ2} (a l : Nat) (ha : a < 128) (hl : l < 7) : CT r 0 yX8_hasBit cX8_hasBit (2, (some .boolean)) (0, 0) [.int (nI a), .int (nI l)] n I Q (ri Q (fun v J => J = I ∧ ((v = nI 1 ∧ a / 2 ^ l % 2 = 1) ∨ (v = nI 0 ∧ a / 2 ^ l % 2 = 0)))) := by
  refine ct_of (lv := [some (.int (nI a)), some (.int (nI l))]) (by decide +kernel) rfl rfl rfl ?_
  refine x_iload_0 dX8_hasBit_0 ?_
  refine x_iload_1 dX8_hasBit_1 ?_
  refine x_ishr dX8_hasBit_2 ?_
  refine x_const (c := 1) dX8_hasBit_3 rfl ?_
  refine x_iand dX8_hasBit_4 ?_
  rw [bit_at l hl a ha]
  refine x_const (c := 1) dX8_hasBit_5 rfl ?_
  refine x_icmp_neN dX8_hasBit_6 (by omega) (by omega) (fun c6 => ?_) (fun c6 => ?_)
  · refine x_const (c := 0) dX8_hasBit_13 rfl ?_
    exact x_iret (st := []) dX8_hasBit_14 rfl rfl (⟨_, rfl, rfl, rfl, by first | exact Or.inl ⟨rfl, by omega⟩ | exact Or.inr ⟨rfl, by omega⟩⟩)
  · refine x_const (c := 1) dX8_hasBit_9 rfl ?_
    refine x_goto dX8_hasBit_10 ?_
    exact x_iret (st := []) dX8_hasBit_14 rfl rfl (⟨_, rfl, rfl, rfl, by first | exact Or.inl ⟨rfl, by omega⟩ | exact Or.inr ⟨rfl, by omega⟩⟩)
/-! a slope's cells: the slope at b, its row of looms at b + 1, fromAbove at b + 2, the looms from b + 3 on -/
def SlB (n : Nat) (Q : MQ2) (b : Nat) : Prop := Ob n 5 b ∧ Ar n 12 (b + 1) 6 ∧ Ar n 11 (b + 2) 6 ∧ (∀ k, k < 6 → Ob n 0 (b + 3 + k)) ∧ Q b 0 = some (b + 1) ∧ Q b 1 = some (b + 2) ∧ ∀ k, k < 6 → Q (b + 1) k = some (b + 3 + k)
def lmp (I : MI) (a k p t d x h : Nat) : Prop := I a 0 = nI k ∧ I a 1 = nI p ∧ I a 2 = nI t ∧ I a 3 = nI d ∧ I a 4 = nI x ∧ I a 6 = nI h
def slp (I : MI) (b : Nat) (t : Tp) (s : St) : Prop := I b 2 = nI (tN t) ∧ I b 3 = nI (sR s) ∧ I b 4 = nI (sO s) ∧ ∀ l, l < tN t → lmp I (b + 3 + l) (tK t l) (sP s l) (tT t l) (sD s l) (sX s l) (sH s l)
def rkp (I : MI) (b : Nat) (t : Tp) (s : St) : Prop := ∀ i, i < tN t → I (b + 2) i = nI (ordO (tN t) (sP s) i)
def FtS (b : Nat) (x _ : Nat) : Prop := b ≤ x ∧ x < b + 9
def FtL (b : Nat) (x _ : Nat) : Prop := b + 3 ≤ x ∧ x < b + 9
theorem slp_fr {I J : MI} {b : Nat} {t : Tp} {s : St} (h : slp I b t s) (ht : tN t ≤ 6) (fr : ∀ x j, b ≤ x → x < b + 9 → x ≠ b + 2 → J x j = I x j) : slp J b t s := by
  obtain ⟨h1, h2, h3, h4⟩ := h
  refine ⟨(fr b 2 (by omega) (by omega) (by omega)).trans h1, (fr b 3 (by omega) (by omega) (by omega)).trans h2, (fr b 4 (by omega) (by omega) (by omega)).trans h3, fun l hl => ?_⟩
  obtain ⟨a0, a1, a2, a3, a4, a6⟩ := h4 l hl
  have f := fun j => fr (b + 3 + l) j (by omega) (by omega) (by omega)
  exact ⟨(f 0).trans a0, (f 1).trans a1, (f 2).trans a2, (f 3).trans a3, (f 4).trans a4, (f 6).trans a6⟩
theorem rkp_fr {I J : MI} {b : Nat} {t : Tp} {s : St} (h : rkp I b t s) (fr : ∀ j, J (b + 2) j = I (b + 2) j) : rkp J b t s := fun i hi => (fr i).trans (h i hi)
theorem slp_loom {I J : MI} {b : Nat} {t : Tp} {s : St} {l p d x hh : Nat} (h : slp I b t s) (fr : ∀ y j, y ≠ b + 3 + l → J y j = I y j) (hm : lmp J (b + 3 + l) (tK t l) p (tT t l) d x hh) : slp J b t (setL s l p d x hh) := by
  obtain ⟨h1, h2, h3, h4⟩ := h
  refine ⟨(fr b 2 (by omega)).trans h1, (fr b 3 (by omega)).trans h2, (fr b 4 (by omega)).trans h3, fun k hk => ?_⟩
  rw [setL_P, setL_D, setL_X, setL_H]
  by_cases e : k = l
  · subst e
    rw [nup_s, nup_s, nup_s, nup_s]
    exact hm
  · rw [nup_n e, nup_n e, nup_n e, nup_n e]
    obtain ⟨a0, a1, a2, a3, a4, a6⟩ := h4 k hk
    have f := fun j => fr (b + 3 + k) j (by omega)
    exact ⟨(f 0).trans a0, (f 1).trans a1, (f 2).trans a2, (f 3).trans a3, (f 4).trans a4, (f 6).trans a6⟩
theorem slp_cong {I : MI} {b : Nat} {t : Tp} {s u : St} (h : slp I b t s) (e : eqS (tN t) s u) : slp I b t u := by
  obtain ⟨h1, h2, h3, h4⟩ := h
  refine ⟨h1, by rw [← e.2.2]; exact h2, by rw [← e.2.1]; exact h3, fun k hk => ?_⟩
  obtain ⟨e1, e2, e3, e4⟩ := e.1 k hk
  rw [← e1, ← e2, ← e3, ← e4]
  exact h4 k hk
theorem rkp_cong {I : MI} {b : Nat} {t : Tp} {s u : St} (h : rkp I b t s) (e : ∀ l, l < tN t → sP s l = sP u l) : rkp I b t u := fun i hi => by rw [← ordO_cong e]; exact h i hi
set_option maxHeartbeats 4000000 in
theorem c_X5_pick {r : Ev} {n : Nat} {I : MI} {Q : MQ2} (b k : Nat) (hb : SlB n Q b) (hk : k < 6) : CT r 0 yX5_pick cX5_pick (2, (some (.object "DewLooms$Loom"))) (0, 0) [.ref (evz r + b), .int (nI k)] n I Q (ro r I Q (b + 3 + k)) := by
  refine ct_of (lv := [some (.ref (evz r + b)), some (.int (nI k))]) (by decide +kernel) rfl rfl rfl ?_
  obtain ⟨h1, h2, h3, h4, h5, h6, h7⟩ := hb
  refine x_aload_0 dX5_pick_0 ?_
  refine x_getr dX5_pick_1 f_X5_11 h1 h5 ?_
  refine x_iload_1 dX5_pick_4 ?_
  refine x_if_ltN dX5_pick_5 (by omega) (fun c5 => ?_) (fun c5 => ?_)
  · exfalso; omega
  · refine x_iload_1 dX5_pick_8 ?_
    refine x_aload_0 dX5_pick_9 ?_
    refine x_getr dX5_pick_10 f_X5_11 h1 h5 ?_
    refine x_alen dX5_pick_13 h2 (by decide) ?_
    refine x_icmp_ltN dX5_pick_14 (by omega) (by omega) (fun c14 => ?_) (fun c14 => ?_)
    · refine x_iload_1 dX5_pick_21 ?_
      refine x_aaldL dX5_pick_22 h2 rfl (by omega) (h7 _ (by omega)) ?_
      exact x_aret (st := []) dX5_pick_23 rfl ⟨_, rfl⟩ (⟨rfl, rfl, rfl⟩)
    · exfalso; omega
set_option maxHeartbeats 4000000 in
theorem l_X5_loomOn {r : Ev} {n : Nat} {Q : MQ2} {F : Post} (b : Nat) (t : Tp) (s : St) (hb : SlB n Q b) {I : MI} (hs : slp I b t s) (hn : tN t ≤ 6) (p : Nat) (hp : p < 1000) (hpl : ∀ l, l < tN t → sP s l < 1000) (hF1 : ∀ l, l < tN t → sP s l = p → F (some (.int (nI l))) I Q) (hF2 : (∀ l, l < tN t → sP s l ≠ p) → F (some (.int (-4))) I Q) : ∀ (k : Nat) (i : Nat), i ≤ tN t → i + k = tN t + 1 → (∀ j, j < i → sP s j ≠ p) → X r 1 yX5_loomOn cX5_loomOn (3, (some .int)) (0, 0) 2 [some (.ref (evz r + b)), some (.int (nI p)), some (.int (nI i))] [] n I Q F := by
  intro k
  induction k with
  | zero => intros; omega
  | succ k ih =>
    obtain ⟨h1, h2, h3, h4, h5, h6, h7⟩ := id hb
    obtain ⟨g1, g2, g3, g4⟩ := id hs
    intro i hi0 hi ho
    refine x_iload_2 dX5_loomOn_2 ?_
    refine x_aload_0 dX5_loomOn_3 ?_
    refine x_getV dX5_loomOn_4 f_X5_22 h1 g1 ?_
    refine x_icmp_geN dX5_loomOn_7 (by omega) (by omega) (fun c7 => ?_) (fun c7 => ?_)
    · have c7 : i = tN t := by omega
      refine x_bipush (v := -4) dX5_loomOn_30 (by decide) ?_
      exact x_iret (st := []) dX5_loomOn_32 rfl rfl (hF2 (fun l hl => ho l (by omega)))
    · refine x_aload_0 dX5_loomOn_10 ?_
      refine x_iload_2 dX5_loomOn_11 ?_
      refine x_V1o dX5_loomOn_12 m_X5_32 (c_X5_pick b i hb (by omega)) (by assumption) ?_
      have hpi := hpl i (by omega)
      refine x_getV dX5_loomOn_15 f_X5_65 (h4 i (by omega)) (g4 i (by omega)).2.1 ?_
      refine x_iload_1 dX5_loomOn_18 ?_
      refine x_icmp_neN dX5_loomOn_19 (by omega) (by omega) (fun c19 => ?_) (fun c19 => ?_)
      · refine x_iinc_2 dX5_loomOn_24 (iinc1 _) rfl rfl ?_
        refine x_goto dX5_loomOn_27 ?_
        exact ih (i + 1) (by omega) (by omega) (fun j hj => (Nat.lt_or_ge j i).elim (ho j) (fun z => by obtain rfl : j = i := (by omega); exact c19))
      · have c19 : sP s i = p := by omega
        refine x_iload_2 dX5_loomOn_22 ?_
        exact x_iret (st := []) dX5_loomOn_23 rfl rfl (hF1 i (by omega) (by omega))
set_option maxHeartbeats 4000000 in
theorem c_X5_loomOn {r : Ev} {n : Nat} {I : MI} {Q : MQ2} (b : Nat) (t : Tp) (s : St) (hb : SlB n Q b) (hs : slp I b t s) (hn : tN t ≤ 6) (p : Nat) (hp : p < 1000) (hpl : ∀ l, l < tN t → sP s l < 1000) : CT r 1 yX5_loomOn cX5_loomOn (3, (some .int)) (0, 0) [.ref (evz r + b), .int (nI p)] n I Q (ri Q (fun v J => J = I ∧ ((∃ l, l < tN t ∧ sP s l = p ∧ v = nI l) ∨ (v = -4 ∧ ∀ l, l < tN t → sP s l ≠ p)))) := by
  refine ct_of (lv := [some (.ref (evz r + b)), some (.int (nI p)), none]) (by decide +kernel) rfl rfl rfl ?_
  refine x_const (c := 0) dX5_loomOn_0 rfl ?_
  refine x_istore_2 dX5_loomOn_1 rfl rfl ?_
  exact l_X5_loomOn b t s hb hs hn p hp hpl (fun l hl he => ⟨_, rfl, rfl, rfl, Or.inl ⟨l, hl, he, rfl⟩⟩) (fun h => ⟨_, rfl, rfl, rfl, Or.inr ⟨rfl, h⟩⟩) (tN t + 1) 0 (by omega) (by omega) (fun j hj => absurd hj (Nat.not_lt_zero j))
end
