-- ===== PART A: goes FIRST, ahead of the names: the tables' words, and 'selects' of the private methods out of them =====
/-- a private method of a class that the tables say can be made, by its rows of tables_1 -/
def lw_okq (q : MethodName × Nat) : Prop := (q.1.cls ≠ "java/lang/invoke/MethodHandle" ∧ q.1.cls ≠ "java/lang/invoke/VarHandle") ∧ Cond.instantiable q.1.cls q.2 ∈ tables_1 ∧ Cond.privateMethod q.1 ∈ tables_1 ∧ Cond.instanceMethod q.1 ∈ tables_1
theorem lw_p0 : lw_okq (⟨"SubtitleStyles$History", "stateAt", "(I)LSubtitleStyles$Screen;"⟩, 3) := ⟨⟨by decide +kernel, by decide +kernel⟩, List.mem_of_getElem? (i := 115) (by decide +kernel), List.mem_of_getElem? (i := 254) (by decide +kernel), List.mem_of_getElem? (i := 255) (by decide +kernel)⟩
theorem lw_p1 : lw_okq (⟨"SubtitleStyles$Look", "holdStyle", "(ILSubtitleStyles$Sheet;)V"⟩, 12) := ⟨⟨by decide +kernel, by decide +kernel⟩, List.mem_of_getElem? (i := 142) (by decide +kernel), List.mem_of_getElem? (i := 321) (by decide +kernel), List.mem_of_getElem? (i := 322) (by decide +kernel)⟩
theorem lw_p2 : lw_okq (⟨"SubtitleStyles$Look", "addSign", "(I)V"⟩, 12) := ⟨⟨by decide +kernel, by decide +kernel⟩, List.mem_of_getElem? (i := 142) (by decide +kernel), List.mem_of_getElem? (i := 327) (by decide +kernel), List.mem_of_getElem? (i := 328) (by decide +kernel)⟩
theorem lw_p3 : lw_okq (⟨"SubtitleStyles$Look", "addSyllable", "(I)V"⟩, 12) := ⟨⟨by decide +kernel, by decide +kernel⟩, List.mem_of_getElem? (i := 142) (by decide +kernel), List.mem_of_getElem? (i := 334) (by decide +kernel), List.mem_of_getElem? (i := 335) (by decide +kernel)⟩
theorem lw_p4 : lw_okq (⟨"SubtitleStyles$Picture", "sortByBeginnings", "()V"⟩, 3) := ⟨⟨by decide +kernel, by decide +kernel⟩, List.mem_of_getElem? (i := 135) (by decide +kernel), List.mem_of_getElem? (i := 341) (by decide +kernel), List.mem_of_getElem? (i := 342) (by decide +kernel)⟩
theorem lw_p5 : lw_okq (⟨"SubtitleStyles$Picture", "freeOffset", "(LSubtitleStyles$Look;I)I"⟩, 3) := ⟨⟨by decide +kernel, by decide +kernel⟩, List.mem_of_getElem? (i := 135) (by decide +kernel), List.mem_of_getElem? (i := 351) (by decide +kernel), List.mem_of_getElem? (i := 352) (by decide +kernel)⟩
theorem lw_p6 : lw_okq (⟨"SubtitleStyles$Reader", "take", "(II)V"⟩, 8) := ⟨⟨by decide +kernel, by decide +kernel⟩, List.mem_of_getElem? (i := 33) (by decide +kernel), List.mem_of_getElem? (i := 451) (by decide +kernel), List.mem_of_getElem? (i := 452) (by decide +kernel)⟩
theorem lw_p7 : lw_okq (⟨"SubtitleStyles$Reader", "takeOutside", "(I)V"⟩, 8) := ⟨⟨by decide +kernel, by decide +kernel⟩, List.mem_of_getElem? (i := 33) (by decide +kernel), List.mem_of_getElem? (i := 455) (by decide +kernel), List.mem_of_getElem? (i := 456) (by decide +kernel)⟩
theorem lw_p8 : lw_okq (⟨"SubtitleStyles$Reader", "addItem", "(II)V"⟩, 8) := ⟨⟨by decide +kernel, by decide +kernel⟩, List.mem_of_getElem? (i := 33) (by decide +kernel), List.mem_of_getElem? (i := 459) (by decide +kernel), List.mem_of_getElem? (i := 460) (by decide +kernel)⟩
theorem lw_p9 : lw_okq (⟨"SubtitleStyles$Reader", "takeLetter", "(II)V"⟩, 8) := ⟨⟨by decide +kernel, by decide +kernel⟩, List.mem_of_getElem? (i := 33) (by decide +kernel), List.mem_of_getElem? (i := 464) (by decide +kernel), List.mem_of_getElem? (i := 465) (by decide +kernel)⟩
theorem lw_p10 : lw_okq (⟨"SubtitleStyles$Reader", "closeTag", "(I)V"⟩, 8) := ⟨⟨by decide +kernel, by decide +kernel⟩, List.mem_of_getElem? (i := 33) (by decide +kernel), List.mem_of_getElem? (i := 469) (by decide +kernel), List.mem_of_getElem? (i := 470) (by decide +kernel)⟩
theorem lw_p11 : lw_okq (⟨"SubtitleStyles$Reader", "isInRange", "()Z"⟩, 8) := ⟨⟨by decide +kernel, by decide +kernel⟩, List.mem_of_getElem? (i := 33) (by decide +kernel), List.mem_of_getElem? (i := 473) (by decide +kernel), List.mem_of_getElem? (i := 474) (by decide +kernel)⟩
theorem lw_p12 : lw_okq (⟨"SubtitleStyles", "isChange", "(II)Z"⟩, 8) := ⟨⟨by decide +kernel, by decide +kernel⟩, List.mem_of_getElem? (i := 14) (by decide +kernel), List.mem_of_getElem? (i := 554) (by decide +kernel), List.mem_of_getElem? (i := 555) (by decide +kernel)⟩
theorem lw_p13 : lw_okq (⟨"SubtitleStyles$Picture", "comesBefore", "(II)Z"⟩, 3) := ⟨⟨by decide +kernel, by decide +kernel⟩, List.mem_of_getElem? (i := 135) (by decide +kernel), List.mem_of_getElem? (i := 659) (by decide +kernel), List.mem_of_getElem? (i := 660) (by decide +kernel)⟩
theorem lw_p14 : lw_okq (⟨"SubtitleStyles$Look", "isUnlike", "(ILSubtitleStyles$Look;)Z"⟩, 12) := ⟨⟨by decide +kernel, by decide +kernel⟩, List.mem_of_getElem? (i := 142) (by decide +kernel), List.mem_of_getElem? (i := 695) (by decide +kernel), List.mem_of_getElem? (i := 696) (by decide +kernel)⟩
theorem lw_p15 : lw_okq (⟨"SubtitleStyles", "mixStyle", "(JI)J"⟩, 8) := ⟨⟨by decide +kernel, by decide +kernel⟩, List.mem_of_getElem? (i := 14) (by decide +kernel), List.mem_of_getElem? (i := 717) (by decide +kernel), List.mem_of_getElem? (i := 718) (by decide +kernel)⟩
def lw_privs_1 : List (MethodName × Nat) := [(⟨"SubtitleStyles$History", "stateAt", "(I)LSubtitleStyles$Screen;"⟩, 3), (⟨"SubtitleStyles$Look", "holdStyle", "(ILSubtitleStyles$Sheet;)V"⟩, 12), (⟨"SubtitleStyles$Look", "addSign", "(I)V"⟩, 12), (⟨"SubtitleStyles$Look", "addSyllable", "(I)V"⟩, 12), (⟨"SubtitleStyles$Picture", "sortByBeginnings", "()V"⟩, 3), (⟨"SubtitleStyles$Picture", "freeOffset", "(LSubtitleStyles$Look;I)I"⟩, 3), (⟨"SubtitleStyles$Reader", "take", "(II)V"⟩, 8), (⟨"SubtitleStyles$Reader", "takeOutside", "(I)V"⟩, 8), (⟨"SubtitleStyles$Reader", "addItem", "(II)V"⟩, 8), (⟨"SubtitleStyles$Reader", "takeLetter", "(II)V"⟩, 8), (⟨"SubtitleStyles$Reader", "closeTag", "(I)V"⟩, 8), (⟨"SubtitleStyles$Reader", "isInRange", "()Z"⟩, 8), (⟨"SubtitleStyles", "isChange", "(II)Z"⟩, 8), (⟨"SubtitleStyles$Picture", "comesBefore", "(II)Z"⟩, 3), (⟨"SubtitleStyles$Look", "isUnlike", "(ILSubtitleStyles$Look;)Z"⟩, 12), (⟨"SubtitleStyles", "mixStyle", "(JI)J"⟩, 8)]
theorem lw_r1 : ∀ q ∈ lw_privs_1, lw_okq q := List.forall_mem_cons.mpr ⟨lw_p0, List.forall_mem_cons.mpr ⟨lw_p1, List.forall_mem_cons.mpr ⟨lw_p2, List.forall_mem_cons.mpr ⟨lw_p3, List.forall_mem_cons.mpr ⟨lw_p4, List.forall_mem_cons.mpr ⟨lw_p5, List.forall_mem_cons.mpr ⟨lw_p6, List.forall_mem_cons.mpr ⟨lw_p7, List.forall_mem_cons.mpr ⟨lw_p8, List.forall_mem_cons.mpr ⟨lw_p9, List.forall_mem_cons.mpr ⟨lw_p10, List.forall_mem_cons.mpr ⟨lw_p11, List.forall_mem_cons.mpr ⟨lw_p12, List.forall_mem_cons.mpr ⟨lw_p13, List.forall_mem_cons.mpr ⟨lw_p14, List.forall_mem_cons.mpr ⟨lw_p15, fun _ h => absurd h List.not_mem_nil⟩⟩⟩⟩⟩⟩⟩⟩⟩⟩⟩⟩⟩⟩⟩⟩
theorem lw_p16 : lw_okq (⟨"SubtitleStyles", "mixLine", "(JI)J"⟩, 8) := ⟨⟨by decide +kernel, by decide +kernel⟩, List.mem_of_getElem? (i := 14) (by decide +kernel), List.mem_of_getElem? (i := 724) (by decide +kernel), List.mem_of_getElem? (i := 725) (by decide +kernel)⟩
theorem lw_p17 : lw_okq (⟨"SubtitleStylesModel", "isStyleOrNone", "(I)Z"⟩, 21) := ⟨⟨by decide +kernel, by decide +kernel⟩, List.mem_of_getElem? (i := 733) (by decide +kernel), List.mem_of_getElem? (i := 808) (by decide +kernel), List.mem_of_getElem? (i := 809) (by decide +kernel)⟩
theorem lw_p18 : lw_okq (⟨"SubtitleStylesModel", "isStyle", "(I)Z"⟩, 21) := ⟨⟨by decide +kernel, by decide +kernel⟩, List.mem_of_getElem? (i := 733) (by decide +kernel), List.mem_of_getElem? (i := 812) (by decide +kernel), List.mem_of_getElem? (i := 813) (by decide +kernel)⟩
theorem lw_p19 : lw_okq (⟨"SubtitleStylesModel", "act", "()V"⟩, 21) := ⟨⟨by decide +kernel, by decide +kernel⟩, List.mem_of_getElem? (i := 733) (by decide +kernel), List.mem_of_getElem? (i := 819) (by decide +kernel), List.mem_of_getElem? (i := 820) (by decide +kernel)⟩
theorem lw_p20 : lw_okq (⟨"SubtitleStylesModel", "sets", "(II)I"⟩, 21) := ⟨⟨by decide +kernel, by decide +kernel⟩, List.mem_of_getElem? (i := 733) (by decide +kernel), List.mem_of_getElem? (i := 830) (by decide +kernel), List.mem_of_getElem? (i := 831) (by decide +kernel)⟩
theorem lw_p21 : lw_okq (⟨"SubtitleStylesModel", "flattens", "()I"⟩, 21) := ⟨⟨by decide +kernel, by decide +kernel⟩, List.mem_of_getElem? (i := 733) (by decide +kernel), List.mem_of_getElem? (i := 852) (by decide +kernel), List.mem_of_getElem? (i := 853) (by decide +kernel)⟩
theorem lw_p22 : lw_okq (⟨"SubtitleStylesModel", "valued", "(II)I"⟩, 21) := ⟨⟨by decide +kernel, by decide +kernel⟩, List.mem_of_getElem? (i := 733) (by decide +kernel), List.mem_of_getElem? (i := 856) (by decide +kernel), List.mem_of_getElem? (i := 857) (by decide +kernel)⟩
theorem lw_p23 : lw_okq (⟨"SubtitleStylesModel", "owner", "(II)I"⟩, 21) := ⟨⟨by decide +kernel, by decide +kernel⟩, List.mem_of_getElem? (i := 733) (by decide +kernel), List.mem_of_getElem? (i := 860) (by decide +kernel), List.mem_of_getElem? (i := 861) (by decide +kernel)⟩
theorem lw_p24 : lw_okq (⟨"SubtitleStylesModel", "styleTold", "(II)I"⟩, 21) := ⟨⟨by decide +kernel, by decide +kernel⟩, List.mem_of_getElem? (i := 733) (by decide +kernel), List.mem_of_getElem? (i := 871) (by decide +kernel), List.mem_of_getElem? (i := 872) (by decide +kernel)⟩
theorem lw_p25 : lw_okq (⟨"SubtitleStylesModel", "wrongAt", "()I"⟩, 21) := ⟨⟨by decide +kernel, by decide +kernel⟩, List.mem_of_getElem? (i := 733) (by decide +kernel), List.mem_of_getElem? (i := 901) (by decide +kernel), List.mem_of_getElem? (i := 902) (by decide +kernel)⟩
theorem lw_p26 : lw_okq (⟨"SubtitleStylesModel", "next", "()I"⟩, 21) := ⟨⟨by decide +kernel, by decide +kernel⟩, List.mem_of_getElem? (i := 733) (by decide +kernel), List.mem_of_getElem? (i := 905) (by decide +kernel), List.mem_of_getElem? (i := 906) (by decide +kernel)⟩
theorem lw_p27 : lw_okq (⟨"SubtitleStylesModel", "reads", "(II)V"⟩, 21) := ⟨⟨by decide +kernel, by decide +kernel⟩, List.mem_of_getElem? (i := 733) (by decide +kernel), List.mem_of_getElem? (i := 909) (by decide +kernel), List.mem_of_getElem? (i := 910) (by decide +kernel)⟩
theorem lw_p28 : lw_okq (⟨"SubtitleStylesModel", "readsTag", "()Z"⟩, 21) := ⟨⟨by decide +kernel, by decide +kernel⟩, List.mem_of_getElem? (i := 733) (by decide +kernel), List.mem_of_getElem? (i := 913) (by decide +kernel), List.mem_of_getElem? (i := 914) (by decide +kernel)⟩
theorem lw_p29 : lw_okq (⟨"SubtitleStylesModel", "isLine", "(I)Z"⟩, 21) := ⟨⟨by decide +kernel, by decide +kernel⟩, List.mem_of_getElem? (i := 733) (by decide +kernel), List.mem_of_getElem? (i := 924) (by decide +kernel), List.mem_of_getElem? (i := 925) (by decide +kernel)⟩
theorem lw_p30 : lw_okq (⟨"SubtitleStylesModel", "told", "(II)I"⟩, 21) := ⟨⟨by decide +kernel, by decide +kernel⟩, List.mem_of_getElem? (i := 733) (by decide +kernel), List.mem_of_getElem? (i := 945) (by decide +kernel), List.mem_of_getElem? (i := 946) (by decide +kernel)⟩
theorem lw_p31 : lw_okq (⟨"SubtitleStylesModel", "places", "()V"⟩, 21) := ⟨⟨by decide +kernel, by decide +kernel⟩, List.mem_of_getElem? (i := 733) (by decide +kernel), List.mem_of_getElem? (i := 949) (by decide +kernel), List.mem_of_getElem? (i := 950) (by decide +kernel)⟩
def lw_privs_2 : List (MethodName × Nat) := [(⟨"SubtitleStyles", "mixLine", "(JI)J"⟩, 8), (⟨"SubtitleStylesModel", "isStyleOrNone", "(I)Z"⟩, 21), (⟨"SubtitleStylesModel", "isStyle", "(I)Z"⟩, 21), (⟨"SubtitleStylesModel", "act", "()V"⟩, 21), (⟨"SubtitleStylesModel", "sets", "(II)I"⟩, 21), (⟨"SubtitleStylesModel", "flattens", "()I"⟩, 21), (⟨"SubtitleStylesModel", "valued", "(II)I"⟩, 21), (⟨"SubtitleStylesModel", "owner", "(II)I"⟩, 21), (⟨"SubtitleStylesModel", "styleTold", "(II)I"⟩, 21), (⟨"SubtitleStylesModel", "wrongAt", "()I"⟩, 21), (⟨"SubtitleStylesModel", "next", "()I"⟩, 21), (⟨"SubtitleStylesModel", "reads", "(II)V"⟩, 21), (⟨"SubtitleStylesModel", "readsTag", "()Z"⟩, 21), (⟨"SubtitleStylesModel", "isLine", "(I)Z"⟩, 21), (⟨"SubtitleStylesModel", "told", "(II)I"⟩, 21), (⟨"SubtitleStylesModel", "places", "()V"⟩, 21)]
theorem lw_r2 : ∀ q ∈ lw_privs_2, lw_okq q := List.forall_mem_cons.mpr ⟨lw_p16, List.forall_mem_cons.mpr ⟨lw_p17, List.forall_mem_cons.mpr ⟨lw_p18, List.forall_mem_cons.mpr ⟨lw_p19, List.forall_mem_cons.mpr ⟨lw_p20, List.forall_mem_cons.mpr ⟨lw_p21, List.forall_mem_cons.mpr ⟨lw_p22, List.forall_mem_cons.mpr ⟨lw_p23, List.forall_mem_cons.mpr ⟨lw_p24, List.forall_mem_cons.mpr ⟨lw_p25, List.forall_mem_cons.mpr ⟨lw_p26, List.forall_mem_cons.mpr ⟨lw_p27, List.forall_mem_cons.mpr ⟨lw_p28, List.forall_mem_cons.mpr ⟨lw_p29, List.forall_mem_cons.mpr ⟨lw_p30, List.forall_mem_cons.mpr ⟨lw_p31, fun _ h => absurd h List.not_mem_nil⟩⟩⟩⟩⟩⟩⟩⟩⟩⟩⟩⟩⟩⟩⟩⟩
theorem lw_p32 : lw_okq (⟨"SubtitleStylesModel", "goes", "(I)V"⟩, 21) := ⟨⟨by decide +kernel, by decide +kernel⟩, List.mem_of_getElem? (i := 733) (by decide +kernel), List.mem_of_getElem? (i := 953) (by decide +kernel), List.mem_of_getElem? (i := 954) (by decide +kernel)⟩
theorem lw_p33 : lw_okq (⟨"SubtitleStylesModel", "restyles", "(I)V"⟩, 21) := ⟨⟨by decide +kernel, by decide +kernel⟩, List.mem_of_getElem? (i := 733) (by decide +kernel), List.mem_of_getElem? (i := 957) (by decide +kernel), List.mem_of_getElem? (i := 958) (by decide +kernel)⟩
theorem lw_p34 : lw_okq (⟨"SubtitleStylesModel", "tags", "(III)V"⟩, 21) := ⟨⟨by decide +kernel, by decide +kernel⟩, List.mem_of_getElem? (i := 733) (by decide +kernel), List.mem_of_getElem? (i := 961) (by decide +kernel), List.mem_of_getElem? (i := 962) (by decide +kernel)⟩
theorem lw_p35 : lw_okq (⟨"SubtitleStylesModel", "tall", "(I)I"⟩, 21) := ⟨⟨by decide +kernel, by decide +kernel⟩, List.mem_of_getElem? (i := 733) (by decide +kernel), List.mem_of_getElem? (i := 965) (by decide +kernel), List.mem_of_getElem? (i := 966) (by decide +kernel)⟩
theorem lw_p36 : lw_okq (⟨"SubtitleStylesModel", "margin", "(I)I"⟩, 21) := ⟨⟨by decide +kernel, by decide +kernel⟩, List.mem_of_getElem? (i := 733) (by decide +kernel), List.mem_of_getElem? (i := 969) (by decide +kernel), List.mem_of_getElem? (i := 970) (by decide +kernel)⟩
theorem lw_p37 : lw_okq (⟨"SubtitleStylesModel", "inTheWay", "(II)I"⟩, 21) := ⟨⟨by decide +kernel, by decide +kernel⟩, List.mem_of_getElem? (i := 733) (by decide +kernel), List.mem_of_getElem? (i := 973) (by decide +kernel), List.mem_of_getElem? (i := 974) (by decide +kernel)⟩
theorem lw_p38 : lw_okq (⟨"SubtitleStylesModel", "group", "(I)I"⟩, 21) := ⟨⟨by decide +kernel, by decide +kernel⟩, List.mem_of_getElem? (i := 733) (by decide +kernel), List.mem_of_getElem? (i := 977) (by decide +kernel), List.mem_of_getElem? (i := 978) (by decide +kernel)⟩
theorem lw_p39 : lw_okq (⟨"SubtitleStylesModel", "isShown", "(II)Z"⟩, 21) := ⟨⟨by decide +kernel, by decide +kernel⟩, List.mem_of_getElem? (i := 733) (by decide +kernel), List.mem_of_getElem? (i := 981) (by decide +kernel), List.mem_of_getElem? (i := 982) (by decide +kernel)⟩
theorem lw_p40 : lw_okq (⟨"SubtitleStylesModel", "lasting", "()I"⟩, 21) := ⟨⟨by decide +kernel, by decide +kernel⟩, List.mem_of_getElem? (i := 733) (by decide +kernel), List.mem_of_getElem? (i := 985) (by decide +kernel), List.mem_of_getElem? (i := 986) (by decide +kernel)⟩
theorem lw_p41 : lw_okq (⟨"SubtitleStylesModel", "syllableTold", "(III)I"⟩, 21) := ⟨⟨by decide +kernel, by decide +kernel⟩, List.mem_of_getElem? (i := 733) (by decide +kernel), List.mem_of_getElem? (i := 1001) (by decide +kernel), List.mem_of_getElem? (i := 1002) (by decide +kernel)⟩
theorem lw_p42 : lw_okq (⟨"SubtitleStylesModel", "beginsAt", "(II)I"⟩, 21) := ⟨⟨by decide +kernel, by decide +kernel⟩, List.mem_of_getElem? (i := 733) (by decide +kernel), List.mem_of_getElem? (i := 1005) (by decide +kernel), List.mem_of_getElem? (i := 1006) (by decide +kernel)⟩
theorem lw_p43 : lw_okq (⟨"SubtitleStylesModel", "isSung", "(III)Z"⟩, 21) := ⟨⟨by decide +kernel, by decide +kernel⟩, List.mem_of_getElem? (i := 733) (by decide +kernel), List.mem_of_getElem? (i := 1017) (by decide +kernel), List.mem_of_getElem? (i := 1018) (by decide +kernel)⟩
theorem lw_p44 : lw_okq (⟨"SubtitleStylesModel", "isAhead", "(II)Z"⟩, 21) := ⟨⟨by decide +kernel, by decide +kernel⟩, List.mem_of_getElem? (i := 733) (by decide +kernel), List.mem_of_getElem? (i := 1025) (by decide +kernel), List.mem_of_getElem? (i := 1026) (by decide +kernel)⟩
theorem lw_p45 : lw_okq (⟨"SubtitleStylesModel", "crowded", "()I"⟩, 21) := ⟨⟨by decide +kernel, by decide +kernel⟩, List.mem_of_getElem? (i := 733) (by decide +kernel), List.mem_of_getElem? (i := 1033) (by decide +kernel), List.mem_of_getElem? (i := 1034) (by decide +kernel)⟩
theorem lw_p46 : lw_okq (⟨"SubtitleStylesModel", "unlikeMany", "()I"⟩, 21) := ⟨⟨by decide +kernel, by decide +kernel⟩, List.mem_of_getElem? (i := 733) (by decide +kernel), List.mem_of_getElem? (i := 1045) (by decide +kernel), List.mem_of_getElem? (i := 1046) (by decide +kernel)⟩
def lw_privs_3 : List (MethodName × Nat) := [(⟨"SubtitleStylesModel", "goes", "(I)V"⟩, 21), (⟨"SubtitleStylesModel", "restyles", "(I)V"⟩, 21), (⟨"SubtitleStylesModel", "tags", "(III)V"⟩, 21), (⟨"SubtitleStylesModel", "tall", "(I)I"⟩, 21), (⟨"SubtitleStylesModel", "margin", "(I)I"⟩, 21), (⟨"SubtitleStylesModel", "inTheWay", "(II)I"⟩, 21), (⟨"SubtitleStylesModel", "group", "(I)I"⟩, 21), (⟨"SubtitleStylesModel", "isShown", "(II)Z"⟩, 21), (⟨"SubtitleStylesModel", "lasting", "()I"⟩, 21), (⟨"SubtitleStylesModel", "syllableTold", "(III)I"⟩, 21), (⟨"SubtitleStylesModel", "beginsAt", "(II)I"⟩, 21), (⟨"SubtitleStylesModel", "isSung", "(III)Z"⟩, 21), (⟨"SubtitleStylesModel", "isAhead", "(II)Z"⟩, 21), (⟨"SubtitleStylesModel", "crowded", "()I"⟩, 21), (⟨"SubtitleStylesModel", "unlikeMany", "()I"⟩, 21)]
theorem lw_r3 : ∀ q ∈ lw_privs_3, lw_okq q := List.forall_mem_cons.mpr ⟨lw_p32, List.forall_mem_cons.mpr ⟨lw_p33, List.forall_mem_cons.mpr ⟨lw_p34, List.forall_mem_cons.mpr ⟨lw_p35, List.forall_mem_cons.mpr ⟨lw_p36, List.forall_mem_cons.mpr ⟨lw_p37, List.forall_mem_cons.mpr ⟨lw_p38, List.forall_mem_cons.mpr ⟨lw_p39, List.forall_mem_cons.mpr ⟨lw_p40, List.forall_mem_cons.mpr ⟨lw_p41, List.forall_mem_cons.mpr ⟨lw_p42, List.forall_mem_cons.mpr ⟨lw_p43, List.forall_mem_cons.mpr ⟨lw_p44, List.forall_mem_cons.mpr ⟨lw_p45, List.forall_mem_cons.mpr ⟨lw_p46, fun _ h => absurd h List.not_mem_nil⟩⟩⟩⟩⟩⟩⟩⟩⟩⟩⟩⟩⟩⟩⟩
def lw_privs : List (MethodName × Nat) := lw_privs_1 ++ (lw_privs_2 ++ (lw_privs_3))
def lw_tbl : List Cond := k2_sels lw_privs ++ tables_1
theorem lw_privs_ok : ∀ q ∈ lw_privs, lw_okq q := by
  show ∀ q ∈ lw_privs_1 ++ (lw_privs_2 ++ (lw_privs_3)), lw_okq q
  exact List.forall_mem_append.mpr ⟨lw_r1, List.forall_mem_append.mpr ⟨lw_r2, lw_r3⟩⟩
/-- the streams that the claim lets the run draw from -/
abbrev lw_cs : List Choice := [Jvm.Choice.named "NaN.bits"]
theorem lw_bits : nanBits ∈ lw_cs := by first | decide | exact List.mem_cons_self | simp [lw_cs, nanBits]
def RX0 : String := "SubtitleStyles$History"
def TX0 : u_T := fun k => match k with
  | 0 => ("SubtitleStyles$History", "ring", "[LSubtitleStyles$Screen;", true)
  | 1 => ("SubtitleStyles$History", "oldest", "I", false)
  | _ => ("SubtitleStyles$History", "count", "I", false)
def tyX0 : Nat → FieldType := fun k => match k with
  | 0 => .array (.object "SubtitleStyles$Screen")
  | 1 => .int
  | _ => .int
abbrev wsX00 : List Cond := u_ws RX0 TX0 3
theorem nmX0 : ∀ a, a < 3 → ∀ b, b < 3 → a ≠ b → (TX0 a).2.1 ≠ (TX0 b).2.1 := by decide +kernel
theorem tyX0_ok : ∀ k, k < 3 → parseFieldDescriptor (TX0 k).2.2.1 = some (tyX0 k) := by decide +kernel
abbrev cX0_init : ByteArray := prog_2_method_1_code
def yX0_init : MethodName := ⟨RX0, "<init>", "()V"⟩
abbrev cX0_keep : ByteArray := prog_2_method_2_code
def yX0_keep : MethodName := ⟨RX0, "keep", "(LSubtitleStyles$Screen;)V"⟩
abbrev cX0_restore : ByteArray := prog_2_method_3_code
def yX0_restore : MethodName := ⟨RX0, "restore", "(LSubtitleStyles$Screen;)V"⟩
abbrev cX0_stateAt : ByteArray := prog_2_method_4_code
def yX0_stateAt : MethodName := ⟨RX0, "stateAt", "(I)LSubtitleStyles$Screen;"⟩
def RX1 : String := "SubtitleStyles$Line"
def TX1 : u_T := fun k => match k with
  | 0 => ("SubtitleStyles$Line", "begin", "I", true)
  | 1 => ("SubtitleStyles$Line", "end", "I", true)
  | 2 => ("SubtitleStyles$Line", "style", "I", true)
  | 3 => ("SubtitleStyles$Line", "margin", "I", true)
  | _ => ("SubtitleStyles$Line", "text", "LSubtitleStyles$Text;", true)
def tyX1 : Nat → FieldType := fun k => match k with
  | 0 => .int
  | 1 => .int
  | 2 => .int
  | 3 => .int
  | _ => .object "SubtitleStyles$Text"
abbrev wsX10 : List Cond := u_ws RX1 TX1 5
theorem nmX1 : ∀ a, a < 5 → ∀ b, b < 5 → a ≠ b → (TX1 a).2.1 ≠ (TX1 b).2.1 := by decide +kernel
theorem tyX1_ok : ∀ k, k < 5 → parseFieldDescriptor (TX1 k).2.2.1 = some (tyX1 k) := by decide +kernel
abbrev cX1_init : ByteArray := prog_3_method_1_code
def yX1_init : MethodName := ⟨RX1, "<init>", "(IIIILSubtitleStyles$Text;)V"⟩
abbrev cX1_withStyle : ByteArray := prog_3_method_2_code
def yX1_withStyle : MethodName := ⟨RX1, "withStyle", "(I)LSubtitleStyles$Line;"⟩
abbrev cX1_withMargin : ByteArray := prog_3_method_3_code
def yX1_withMargin : MethodName := ⟨RX1, "withMargin", "(I)LSubtitleStyles$Line;"⟩
abbrev cX1_withText : ByteArray := prog_3_method_4_code
def yX1_withText : MethodName := ⟨RX1, "withText", "(LSubtitleStyles$Text;)LSubtitleStyles$Line;"⟩
abbrev cX1_movedBy : ByteArray := prog_3_method_5_code
def yX1_movedBy : MethodName := ⟨RX1, "movedBy", "(I)LSubtitleStyles$Line;"⟩
def RX2 : String := "SubtitleStyles$Look"
def TX2 : u_T := fun k => match k with
  | 0 => ("SubtitleStyles$Look", "begin", "I", false)
  | 1 => ("SubtitleStyles$Look", "end", "I", false)
  | 2 => ("SubtitleStyles$Look", "group", "I", false)
  | 3 => ("SubtitleStyles$Look", "margin", "I", false)
  | 4 => ("SubtitleStyles$Look", "height", "I", false)
  | 5 => ("SubtitleStyles$Look", "offset", "I", false)
  | 6 => ("SubtitleStyles$Look", "signs", "I", false)
  | 7 => ("SubtitleStyles$Look", "signTable", "LSubtitleStyles$Row;", true)
  | 8 => ("SubtitleStyles$Look", "syllables", "I", false)
  | 9 => ("SubtitleStyles$Look", "syllableTable", "LSubtitleStyles$Row;", true)
  | 10 => ("SubtitleStyles$Look", "lasting", "I", false)
  | _ => ("SubtitleStyles$Look", "held", "LSubtitleStyles$Row;", true)
def tyX2 : Nat → FieldType := fun k => match k with
  | 0 => .int
  | 1 => .int
  | 2 => .int
  | 3 => .int
  | 4 => .int
  | 5 => .int
  | 6 => .int
  | 7 => .object "SubtitleStyles$Row"
  | 8 => .int
  | 9 => .object "SubtitleStyles$Row"
  | 10 => .int
  | _ => .object "SubtitleStyles$Row"
abbrev wsX20 : List Cond := u_ws RX2 TX2 12
theorem nmX2 : ∀ a, a < 12 → ∀ b, b < 12 → a ≠ b → (TX2 a).2.1 ≠ (TX2 b).2.1 := by decide +kernel
theorem tyX2_ok : ∀ k, k < 12 → parseFieldDescriptor (TX2 k).2.2.1 = some (tyX2 k) := by decide +kernel
abbrev cX2_init : ByteArray := prog_4_method_1_code
def yX2_init : MethodName := ⟨RX2, "<init>", "()V"⟩
abbrev cX2_read : ByteArray := prog_4_method_2_code
def yX2_read : MethodName := ⟨RX2, "read", "(LSubtitleStyles$Line;LSubtitleStyles$Sheet;)V"⟩
abbrev cX2_holdStyle : ByteArray := prog_4_method_3_code
def yX2_holdStyle : MethodName := ⟨RX2, "holdStyle", "(ILSubtitleStyles$Sheet;)V"⟩
abbrev cX2_addSign : ByteArray := prog_4_method_4_code
def yX2_addSign : MethodName := ⟨RX2, "addSign", "(I)V"⟩
abbrev cX2_addSyllable : ByteArray := prog_4_method_5_code
def yX2_addSyllable : MethodName := ⟨RX2, "addSyllable", "(I)V"⟩
abbrev cX2_hasSign : ByteArray := prog_4_method_6_code
def yX2_hasSign : MethodName := ⟨RX2, "hasSign", "(I)Z"⟩
abbrev cX2_signNumber : ByteArray := prog_4_method_7_code
def yX2_signNumber : MethodName := ⟨RX2, "signNumber", "(II)I"⟩
abbrev cX2_hasSyllable : ByteArray := prog_4_method_8_code
def yX2_hasSyllable : MethodName := ⟨RX2, "hasSyllable", "(I)Z"⟩
abbrev cX2_syllableNumber : ByteArray := prog_4_method_9_code
def yX2_syllableNumber : MethodName := ⟨RX2, "syllableNumber", "(II)I"⟩
abbrev cX2_isShownAt : ByteArray := prog_4_method_10_code
def yX2_isShownAt : MethodName := ⟨RX2, "isShownAt", "(I)Z"⟩
abbrev cX2_isSungAt : ByteArray := prog_4_method_11_code
def yX2_isSungAt : MethodName := ⟨RX2, "isSungAt", "(II)Z"⟩
abbrev cX2_countSungAt : ByteArray := prog_4_method_12_code
def yX2_countSungAt : MethodName := ⟨RX2, "countSungAt", "(I)I"⟩
abbrev cX2_countUnlike : ByteArray := prog_4_method_13_code
def yX2_countUnlike : MethodName := ⟨RX2, "countUnlike", "(LSubtitleStyles$Look;)I"⟩
abbrev cX2_isUnlike : ByteArray := prog_4_method_14_code
def yX2_isUnlike : MethodName := ⟨RX2, "isUnlike", "(ILSubtitleStyles$Look;)Z"⟩
abbrev cX2_blocks : ByteArray := prog_4_method_15_code
def yX2_blocks : MethodName := ⟨RX2, "blocks", "(LSubtitleStyles$Look;I)Z"⟩
abbrev cX2_isAheadOf : ByteArray := prog_4_method_16_code
def yX2_isAheadOf : MethodName := ⟨RX2, "isAheadOf", "(LSubtitleStyles$Look;)Z"⟩
def RX3 : String := "SubtitleStyles$Picture"
def TX3 : u_T := fun k => match k with
  | 0 => ("SubtitleStyles$Picture", "looks", "[LSubtitleStyles$Look;", true)
  | 1 => ("SubtitleStyles$Picture", "count", "I", false)
  | _ => ("SubtitleStyles$Picture", "order", "LSubtitleStyles$Row;", true)
def tyX3 : Nat → FieldType := fun k => match k with
  | 0 => .array (.object "SubtitleStyles$Look")
  | 1 => .int
  | _ => .object "SubtitleStyles$Row"
abbrev wsX30 : List Cond := u_ws RX3 TX3 3
theorem nmX3 : ∀ a, a < 3 → ∀ b, b < 3 → a ≠ b → (TX3 a).2.1 ≠ (TX3 b).2.1 := by decide +kernel
theorem tyX3_ok : ∀ k, k < 3 → parseFieldDescriptor (TX3 k).2.2.1 = some (tyX3 k) := by decide +kernel
abbrev cX3_init : ByteArray := prog_5_method_1_code
def yX3_init : MethodName := ⟨RX3, "<init>", "()V"⟩
abbrev cX3_draw : ByteArray := prog_5_method_2_code
def yX3_draw : MethodName := ⟨RX3, "draw", "(LSubtitleStyles$Screen;)V"⟩
abbrev cX3_lookAt : ByteArray := prog_5_method_3_code
def yX3_lookAt : MethodName := ⟨RX3, "lookAt", "(I)LSubtitleStyles$Look;"⟩
abbrev cX3_beginOf : ByteArray := prog_5_method_4_code
def yX3_beginOf : MethodName := ⟨RX3, "beginOf", "(I)I"⟩
abbrev cX3_sortByBeginnings : ByteArray := prog_5_method_5_code
def yX3_sortByBeginnings : MethodName := ⟨RX3, "sortByBeginnings", "()V"⟩
abbrev cX3_freeOffset : ByteArray := prog_5_method_6_code
def yX3_freeOffset : MethodName := ⟨RX3, "freeOffset", "(LSubtitleStyles$Look;I)I"⟩
abbrev cX3_isShownAt : ByteArray := prog_5_method_7_code
def yX3_isShownAt : MethodName := ⟨RX3, "isShownAt", "(II)Z"⟩
abbrev cX3_countShownAt : ByteArray := prog_5_method_8_code
def yX3_countShownAt : MethodName := ⟨RX3, "countShownAt", "(I)I"⟩
abbrev cX3_countAhead : ByteArray := prog_5_method_9_code
def yX3_countAhead : MethodName := ⟨RX3, "countAhead", "(II)I"⟩
abbrev cX3_comesBefore : ByteArray := prog_5_method_10_code
def yX3_comesBefore : MethodName := ⟨RX3, "comesBefore", "(II)Z"⟩
def RX4 : String := "SubtitleStyles$Reader"
def TX4 : u_T := fun k => match k with
  | 0 => ("SubtitleStyles$Reader", "kinds", "LSubtitleStyles$Row;", true)
  | 1 => ("SubtitleStyles$Reader", "numbers", "LSubtitleStyles$Row;", true)
  | 2 => ("SubtitleStyles$Reader", "size", "I", false)
  | 3 => ("SubtitleStyles$Reader", "misplaced", "I", false)
  | 4 => ("SubtitleStyles$Reader", "outOfRange", "I", false)
  | 5 => ("SubtitleStyles$Reader", "tag", "I", false)
  | 6 => ("SubtitleStyles$Reader", "digits", "I", false)
  | _ => ("SubtitleStyles$Reader", "number", "I", false)
def tyX4 : Nat → FieldType := fun k => match k with
  | 0 => .object "SubtitleStyles$Row"
  | 1 => .object "SubtitleStyles$Row"
  | 2 => .int
  | 3 => .int
  | 4 => .int
  | 5 => .int
  | 6 => .int
  | _ => .int
abbrev wsX40 : List Cond := u_ws RX4 TX4 8
theorem nmX4 : ∀ a, a < 8 → ∀ b, b < 8 → a ≠ b → (TX4 a).2.1 ≠ (TX4 b).2.1 := by decide +kernel
theorem tyX4_ok : ∀ k, k < 8 → parseFieldDescriptor (TX4 k).2.2.1 = some (tyX4 k) := by decide +kernel
abbrev cX4_init : ByteArray := prog_6_method_1_code
def yX4_init : MethodName := ⟨RX4, "<init>", "()V"⟩
abbrev cX4_read : ByteArray := prog_6_method_2_code
def yX4_read : MethodName := ⟨RX4, "read", "(LSubtitleStyles$Row;I)I"⟩
abbrev cX4_take : ByteArray := prog_6_method_3_code
def yX4_take : MethodName := ⟨RX4, "take", "(II)V"⟩
abbrev cX4_takeOutside : ByteArray := prog_6_method_4_code
def yX4_takeOutside : MethodName := ⟨RX4, "takeOutside", "(I)V"⟩
abbrev cX4_takeLetter : ByteArray := prog_6_method_5_code
def yX4_takeLetter : MethodName := ⟨RX4, "takeLetter", "(II)V"⟩
abbrev cX4_closeTag : ByteArray := prog_6_method_6_code
def yX4_closeTag : MethodName := ⟨RX4, "closeTag", "(I)V"⟩
abbrev cX4_isInRange : ByteArray := prog_6_method_7_code
def yX4_isInRange : MethodName := ⟨RX4, "isInRange", "()Z"⟩
abbrev cX4_addItem : ByteArray := prog_6_method_8_code
def yX4_addItem : MethodName := ⟨RX4, "addItem", "(II)V"⟩
def RX5 : String := "SubtitleStyles$Row"
def TX5 : u_T := fun k => match k with
  | _ => ("SubtitleStyles$Row", "cells", "[I", true)
def tyX5 : Nat → FieldType := fun k => match k with
  | _ => .array .int
abbrev wsX50 : List Cond := u_ws RX5 TX5 1
theorem nmX5 : ∀ a, a < 1 → ∀ b, b < 1 → a ≠ b → (TX5 a).2.1 ≠ (TX5 b).2.1 := by decide +kernel
theorem tyX5_ok : ∀ k, k < 1 → parseFieldDescriptor (TX5 k).2.2.1 = some (tyX5 k) := by decide +kernel
abbrev cX5_init : ByteArray := prog_7_method_1_code
def yX5_init : MethodName := ⟨RX5, "<init>", "(I)V"⟩
abbrev cX5_get : ByteArray := prog_7_method_2_code
def yX5_get : MethodName := ⟨RX5, "get", "(I)I"⟩
abbrev cX5_set : ByteArray := prog_7_method_3_code
def yX5_set : MethodName := ⟨RX5, "set", "(II)V"⟩
abbrev cX5_copy : ByteArray := prog_7_method_4_code
def yX5_copy : MethodName := ⟨RX5, "copy", "(LSubtitleStyles$Row;)V"⟩
def RX6 : String := "SubtitleStyles$Screen"
def TX6 : u_T := fun k => match k with
  | 0 => ("SubtitleStyles$Screen", "sheet", "LSubtitleStyles$Sheet;", true)
  | 1 => ("SubtitleStyles$Screen", "rows", "[LSubtitleStyles$Line;", true)
  | 2 => ("SubtitleStyles$Screen", "count", "I", false)
  | _ => ("SubtitleStyles$Screen", "height", "I", false)
def tyX6 : Nat → FieldType := fun k => match k with
  | 0 => .object "SubtitleStyles$Sheet"
  | 1 => .array (.object "SubtitleStyles$Line")
  | 2 => .int
  | _ => .int
abbrev wsX60 : List Cond := u_ws RX6 TX6 4
theorem nmX6 : ∀ a, a < 4 → ∀ b, b < 4 → a ≠ b → (TX6 a).2.1 ≠ (TX6 b).2.1 := by decide +kernel
theorem tyX6_ok : ∀ k, k < 4 → parseFieldDescriptor (TX6 k).2.2.1 = some (tyX6 k) := by decide +kernel
abbrev cX6_init : ByteArray := prog_8_method_1_code
def yX6_init : MethodName := ⟨RX6, "<init>", "()V"⟩
abbrev cX6_copy : ByteArray := prog_8_method_2_code
def yX6_copy : MethodName := ⟨RX6, "copy", "(LSubtitleStyles$Screen;)V"⟩
abbrev cX6_lineAt : ByteArray := prog_8_method_3_code
def yX6_lineAt : MethodName := ⟨RX6, "lineAt", "(I)LSubtitleStyles$Line;"⟩
abbrev cX6_putLine : ByteArray := prog_8_method_4_code
def yX6_putLine : MethodName := ⟨RX6, "putLine", "(ILSubtitleStyles$Line;)V"⟩
abbrev cX6_addLine : ByteArray := prog_8_method_5_code
def yX6_addLine : MethodName := ⟨RX6, "addLine", "(LSubtitleStyles$Line;)V"⟩
abbrev cX6_dropLine : ByteArray := prog_8_method_6_code
def yX6_dropLine : MethodName := ⟨RX6, "dropLine", "(I)V"⟩
abbrev cX6_hasLineOfStyle : ByteArray := prog_8_method_7_code
def yX6_hasLineOfStyle : MethodName := ⟨RX6, "hasLineOfStyle", "(I)Z"⟩
def RX7 : String := "SubtitleStyles$Sheet"
def TX7 : u_T := fun k => match k with
  | 0 => ("SubtitleStyles$Sheet", "count", "I", false)
  | 1 => ("SubtitleStyles$Sheet", "parents", "LSubtitleStyles$Row;", true)
  | _ => ("SubtitleStyles$Sheet", "own", "LSubtitleStyles$Row;", true)
def tyX7 : Nat → FieldType := fun k => match k with
  | 0 => .int
  | 1 => .object "SubtitleStyles$Row"
  | _ => .object "SubtitleStyles$Row"
abbrev wsX70 : List Cond := u_ws RX7 TX7 3
theorem nmX7 : ∀ a, a < 3 → ∀ b, b < 3 → a ≠ b → (TX7 a).2.1 ≠ (TX7 b).2.1 := by decide +kernel
theorem tyX7_ok : ∀ k, k < 3 → parseFieldDescriptor (TX7 k).2.2.1 = some (tyX7 k) := by decide +kernel
abbrev cX7_init : ByteArray := prog_9_method_1_code
def yX7_init : MethodName := ⟨RX7, "<init>", "()V"⟩
abbrev cX7_copy : ByteArray := prog_9_method_2_code
def yX7_copy : MethodName := ⟨RX7, "copy", "(LSubtitleStyles$Sheet;)V"⟩
abbrev cX7_has : ByteArray := prog_9_method_3_code
def yX7_has : MethodName := ⟨RX7, "has", "(I)Z"⟩
abbrev cX7_hasOrNothing : ByteArray := prog_9_method_4_code
def yX7_hasOrNothing : MethodName := ⟨RX7, "hasOrNothing", "(I)Z"⟩
abbrev cX7_add : ByteArray := prog_9_method_5_code
def yX7_add : MethodName := ⟨RX7, "add", "(I)V"⟩
abbrev cX7_dropLast : ByteArray := prog_9_method_6_code
def yX7_dropLast : MethodName := ⟨RX7, "dropLast", "()V"⟩
abbrev cX7_ownValue : ByteArray := prog_9_method_7_code
def yX7_ownValue : MethodName := ⟨RX7, "ownValue", "(II)I"⟩
abbrev cX7_setOwnValue : ByteArray := prog_9_method_8_code
def yX7_setOwnValue : MethodName := ⟨RX7, "setOwnValue", "(III)V"⟩
abbrev cX7_sourceOf : ByteArray := prog_9_method_9_code
def yX7_sourceOf : MethodName := ⟨RX7, "sourceOf", "(II)I"⟩
abbrev cX7_valueIn : ByteArray := prog_9_method_10_code
def yX7_valueIn : MethodName := ⟨RX7, "valueIn", "(II)I"⟩
abbrev cX7_leadsTo : ByteArray := prog_9_method_11_code
def yX7_leadsTo : MethodName := ⟨RX7, "leadsTo", "(II)Z"⟩
abbrev cX7_ancestorsOf : ByteArray := prog_9_method_12_code
def yX7_ancestorsOf : MethodName := ⟨RX7, "ancestorsOf", "(I)I"⟩
abbrev cX7_childrenOf : ByteArray := prog_9_method_13_code
def yX7_childrenOf : MethodName := ⟨RX7, "childrenOf", "(I)I"⟩
abbrev cX7_makeFlat : ByteArray := prog_9_method_14_code
def yX7_makeFlat : MethodName := ⟨RX7, "makeFlat", "()I"⟩
def RX8 : String := "SubtitleStyles$Text"
def TX8 : u_T := fun k => match k with
  | 0 => ("SubtitleStyles$Text", "size", "I", true)
  | 1 => ("SubtitleStyles$Text", "kinds", "LSubtitleStyles$Row;", true)
  | _ => ("SubtitleStyles$Text", "numbers", "LSubtitleStyles$Row;", true)
def tyX8 : Nat → FieldType := fun k => match k with
  | 0 => .int
  | 1 => .object "SubtitleStyles$Row"
  | _ => .object "SubtitleStyles$Row"
abbrev wsX80 : List Cond := u_ws RX8 TX8 3
theorem nmX8 : ∀ a, a < 3 → ∀ b, b < 3 → a ≠ b → (TX8 a).2.1 ≠ (TX8 b).2.1 := by decide +kernel
theorem tyX8_ok : ∀ k, k < 3 → parseFieldDescriptor (TX8 k).2.2.1 = some (tyX8 k) := by decide +kernel
abbrev cX8_init : ByteArray := prog_10_method_1_code
def yX8_init : MethodName := ⟨RX8, "<init>", "(LSubtitleStyles$Row;LSubtitleStyles$Row;I)V"⟩
abbrev cX8_withLastSyllable : ByteArray := prog_10_method_2_code
def yX8_withLastSyllable : MethodName := ⟨RX8, "withLastSyllable", "(I)LSubtitleStyles$Text;"⟩
def RX9 : String := "SubtitleStyles"
def TX9 : u_T := fun k => match k with
  | 0 => ("SubtitleStyles", "buffer", "LSubtitleStyles$Row;", true)
  | 1 => ("SubtitleStyles", "typed", "I", false)
  | 2 => ("SubtitleStyles", "reader", "LSubtitleStyles$Reader;", true)
  | 3 => ("SubtitleStyles", "screen", "LSubtitleStyles$Screen;", true)
  | 4 => ("SubtitleStyles", "history", "LSubtitleStyles$History;", true)
  | 5 => ("SubtitleStyles", "picture", "LSubtitleStyles$Picture;", true)
  | 6 => ("SubtitleStyles", "flatSheet", "LSubtitleStyles$Sheet;", true)
  | _ => ("SubtitleStyles", "flatLook", "LSubtitleStyles$Look;", true)
def tyX9 : Nat → FieldType := fun k => match k with
  | 0 => .object "SubtitleStyles$Row"
  | 1 => .int
  | 2 => .object "SubtitleStyles$Reader"
  | 3 => .object "SubtitleStyles$Screen"
  | 4 => .object "SubtitleStyles$History"
  | 5 => .object "SubtitleStyles$Picture"
  | 6 => .object "SubtitleStyles$Sheet"
  | _ => .object "SubtitleStyles$Look"
abbrev wsX90 : List Cond := u_ws RX9 TX9 8
theorem nmX9 : ∀ a, a < 8 → ∀ b, b < 8 → a ≠ b → (TX9 a).2.1 ≠ (TX9 b).2.1 := by decide +kernel
theorem tyX9_ok : ∀ k, k < 8 → parseFieldDescriptor (TX9 k).2.2.1 = some (tyX9 k) := by decide +kernel
abbrev cX9_init : ByteArray := prog_1_method_1_code
def yX9_init : MethodName := ⟨RX9, "<init>", "()V"⟩
abbrev cX9_style : ByteArray := prog_1_method_2_code
def yX9_style : MethodName := ⟨RX9, "style", "(I)I"⟩
abbrev cX9_setParent : ByteArray := prog_1_method_3_code
def yX9_setParent : MethodName := ⟨RX9, "setParent", "(II)I"⟩
abbrev cX9_setStyle : ByteArray := prog_1_method_4_code
def yX9_setStyle : MethodName := ⟨RX9, "setStyle", "(III)I"⟩
abbrev cX9_unstyle : ByteArray := prog_1_method_5_code
def yX9_unstyle : MethodName := ⟨RX9, "unstyle", "()I"⟩
abbrev cX9_flatten : ByteArray := prog_1_method_6_code
def yX9_flatten : MethodName := ⟨RX9, "flatten", "()I"⟩
abbrev cX9_styleAt : ByteArray := prog_1_method_7_code
def yX9_styleAt : MethodName := ⟨RX9, "styleAt", "(II)I"⟩
abbrev cX9_valueOf : ByteArray := prog_1_method_8_code
def yX9_valueOf : MethodName := ⟨RX9, "valueOf", "(II)I"⟩
abbrev cX9_from : ByteArray := prog_1_method_9_code
def yX9_from : MethodName := ⟨RX9, "from", "(II)I"⟩
abbrev cX9_styles : ByteArray := prog_1_method_10_code
def yX9_styles : MethodName := ⟨RX9, "styles", "()I"⟩
abbrev cX9_type : ByteArray := prog_1_method_11_code
def yX9_type : MethodName := ⟨RX9, "type", "(I)I"⟩
abbrev cX9_clear : ByteArray := prog_1_method_12_code
def yX9_clear : MethodName := ⟨RX9, "clear", "()I"⟩
abbrev cX9_line : ByteArray := prog_1_method_13_code
def yX9_line : MethodName := ⟨RX9, "line", "(III)I"⟩
abbrev cX9_remove : ByteArray := prog_1_method_14_code
def yX9_remove : MethodName := ⟨RX9, "remove", "(I)I"⟩
abbrev cX9_change : ByteArray := prog_1_method_15_code
def yX9_change : MethodName := ⟨RX9, "change", "(III)I"⟩
abbrev cX9_isChange : ByteArray := prog_1_method_16_code
def yX9_isChange : MethodName := ⟨RX9, "isChange", "(II)Z"⟩
abbrev cX9_shift : ByteArray := prog_1_method_17_code
def yX9_shift : MethodName := ⟨RX9, "shift", "(II)I"⟩
abbrev cX9_setHeight : ByteArray := prog_1_method_18_code
def yX9_setHeight : MethodName := ⟨RX9, "setHeight", "(I)I"⟩
abbrev cX9_about : ByteArray := prog_1_method_19_code
def yX9_about : MethodName := ⟨RX9, "about", "(II)I"⟩
abbrev cX9_lines : ByteArray := prog_1_method_20_code
def yX9_lines : MethodName := ⟨RX9, "lines", "()I"⟩
abbrev cX9_sign : ByteArray := prog_1_method_21_code
def yX9_sign : MethodName := ⟨RX9, "sign", "(III)I"⟩
abbrev cX9_syllable : ByteArray := prog_1_method_22_code
def yX9_syllable : MethodName := ⟨RX9, "syllable", "(III)I"⟩
abbrev cX9_fit : ByteArray := prog_1_method_23_code
def yX9_fit : MethodName := ⟨RX9, "fit", "(I)I"⟩
abbrev cX9_shows : ByteArray := prog_1_method_24_code
def yX9_shows : MethodName := ⟨RX9, "shows", "(III)I"⟩
abbrev cX9_shown : ByteArray := prog_1_method_25_code
def yX9_shown : MethodName := ⟨RX9, "shown", "(II)I"⟩
abbrev cX9_crowd : ByteArray := prog_1_method_26_code
def yX9_crowd : MethodName := ⟨RX9, "crowd", "()I"⟩
abbrev cX9_sung : ByteArray := prog_1_method_27_code
def yX9_sung : MethodName := ⟨RX9, "sung", "(I)F"⟩
abbrev cX9_unlike : ByteArray := prog_1_method_28_code
def yX9_unlike : MethodName := ⟨RX9, "unlike", "()I"⟩
abbrev cX9_undo : ByteArray := prog_1_method_29_code
def yX9_undo : MethodName := ⟨RX9, "undo", "()I"⟩
abbrev cX9_fingerprint : ByteArray := prog_1_method_30_code
def yX9_fingerprint : MethodName := ⟨RX9, "fingerprint", "()J"⟩
abbrev cX9_mix : ByteArray := prog_1_method_31_code
def yX9_mix : MethodName := ⟨RX9, "mix", "(JI)J"⟩
abbrev cX9_mixStyle : ByteArray := prog_1_method_32_code
def yX9_mixStyle : MethodName := ⟨RX9, "mixStyle", "(JI)J"⟩
abbrev cX9_mixLine : ByteArray := prog_1_method_33_code
def yX9_mixLine : MethodName := ⟨RX9, "mixLine", "(JI)J"⟩
abbrev cX9_isProperty : ByteArray := prog_1_method_34_code
def yX9_isProperty : MethodName := ⟨RX9, "isProperty", "(I)Z"⟩
abbrev cX9_allows : ByteArray := prog_1_method_35_code
def yX9_allows : MethodName := ⟨RX9, "allows", "(II)Z"⟩
abbrev cX9_basicValue : ByteArray := prog_1_method_36_code
def yX9_basicValue : MethodName := ⟨RX9, "basicValue", "(I)I"⟩
abbrev cX9_propertyOfTag : ByteArray := prog_1_method_37_code
def yX9_propertyOfTag : MethodName := ⟨RX9, "propertyOfTag", "(I)I"⟩
def RX10 : String := "SubtitleStylesModel"
def TX10 : u_T := fun k => match k with
  | 0 => ("SubtitleStylesModel", "v", "[I", true)
  | 1 => ("SubtitleStylesModel", "past", "[I", true)
  | 2 => ("SubtitleStylesModel", "pastMany", "I", false)
  | 3 => ("SubtitleStylesModel", "flat", "[I", true)
  | 4 => ("SubtitleStylesModel", "text", "[I", true)
  | 5 => ("SubtitleStylesModel", "typed", "I", false)
  | 6 => ("SubtitleStylesModel", "at", "I", false)
  | 7 => ("SubtitleStylesModel", "wrong", "I", false)
  | 8 => ("SubtitleStylesModel", "items", "[I", true)
  | 9 => ("SubtitleStylesModel", "itemMany", "I", false)
  | 10 => ("SubtitleStylesModel", "signs", "[I", true)
  | 11 => ("SubtitleStylesModel", "signMany", "I", false)
  | 12 => ("SubtitleStylesModel", "lasts", "[I", true)
  | 13 => ("SubtitleStylesModel", "has", "[I", true)
  | 14 => ("SubtitleStylesModel", "syllables", "I", false)
  | 15 => ("SubtitleStylesModel", "now", "[I", true)
  | 16 => ("SubtitleStylesModel", "offset", "[I", true)
  | 17 => ("SubtitleStylesModel", "high", "[I", true)
  | 18 => ("SubtitleStylesModel", "isPlaced", "[Z", true)
  | 19 => ("SubtitleStylesModel", "aside", "[I", true)
  | _ => ("SubtitleStylesModel", "looks", "[I", true)
def tyX10 : Nat → FieldType := fun k => match k with
  | 0 => .array .int
  | 1 => .array .int
  | 2 => .int
  | 3 => .array .int
  | 4 => .array .int
  | 5 => .int
  | 6 => .int
  | 7 => .int
  | 8 => .array .int
  | 9 => .int
  | 10 => .array .int
  | 11 => .int
  | 12 => .array .int
  | 13 => .array .int
  | 14 => .int
  | 15 => .array .int
  | 16 => .array .int
  | 17 => .array .int
  | 18 => .array .boolean
  | 19 => .array .int
  | _ => .array .int
abbrev wsX100 : List Cond := u_ws RX10 TX10 21
theorem nmX10 : ∀ a, a < 21 → ∀ b, b < 21 → a ≠ b → (TX10 a).2.1 ≠ (TX10 b).2.1 := by decide +kernel
theorem tyX10_ok : ∀ k, k < 21 → parseFieldDescriptor (TX10 k).2.2.1 = some (tyX10 k) := by decide +kernel
abbrev cX10_init : ByteArray := prog_12_method_1_code
def yX10_init : MethodName := ⟨RX10, "<init>", "()V"⟩
abbrev cX10_in : ByteArray := prog_12_method_2_code
def yX10_in : MethodName := ⟨RX10, "in", "(III)Z"⟩
abbrev cX10_act : ByteArray := prog_12_method_3_code
def yX10_act : MethodName := ⟨RX10, "act", "()V"⟩
abbrev cX10_sets : ByteArray := prog_12_method_4_code
def yX10_sets : MethodName := ⟨RX10, "sets", "(II)I"⟩
abbrev cX10_placeOf : ByteArray := prog_12_method_5_code
def yX10_placeOf : MethodName := ⟨RX10, "placeOf", "(I)I"⟩
abbrev cX10_isStyle : ByteArray := prog_12_method_6_code
def yX10_isStyle : MethodName := ⟨RX10, "isStyle", "(I)Z"⟩
abbrev cX10_isStyleOrNone : ByteArray := prog_12_method_7_code
def yX10_isStyleOrNone : MethodName := ⟨RX10, "isStyleOrNone", "(I)Z"⟩
abbrev cX10_basic : ByteArray := prog_12_method_8_code
def yX10_basic : MethodName := ⟨RX10, "basic", "(I)I"⟩
abbrev cX10_isValue : ByteArray := prog_12_method_9_code
def yX10_isValue : MethodName := ⟨RX10, "isValue", "(II)Z"⟩
abbrev cX10_style : ByteArray := prog_12_method_10_code
def yX10_style : MethodName := ⟨RX10, "style", "(I)I"⟩
abbrev cX10_setParent : ByteArray := prog_12_method_11_code
def yX10_setParent : MethodName := ⟨RX10, "setParent", "(II)I"⟩
abbrev cX10_setStyle : ByteArray := prog_12_method_12_code
def yX10_setStyle : MethodName := ⟨RX10, "setStyle", "(III)I"⟩
abbrev cX10_unstyle : ByteArray := prog_12_method_13_code
def yX10_unstyle : MethodName := ⟨RX10, "unstyle", "()I"⟩
abbrev cX10_owner : ByteArray := prog_12_method_14_code
def yX10_owner : MethodName := ⟨RX10, "owner", "(II)I"⟩
abbrev cX10_valued : ByteArray := prog_12_method_15_code
def yX10_valued : MethodName := ⟨RX10, "valued", "(II)I"⟩
abbrev cX10_flattens : ByteArray := prog_12_method_16_code
def yX10_flattens : MethodName := ⟨RX10, "flattens", "()I"⟩
abbrev cX10_flatten : ByteArray := prog_12_method_17_code
def yX10_flatten : MethodName := ⟨RX10, "flatten", "()I"⟩
abbrev cX10_styleTold : ByteArray := prog_12_method_18_code
def yX10_styleTold : MethodName := ⟨RX10, "styleTold", "(II)I"⟩
abbrev cX10_styleAt : ByteArray := prog_12_method_19_code
def yX10_styleAt : MethodName := ⟨RX10, "styleAt", "(II)I"⟩
abbrev cX10_valueOf : ByteArray := prog_12_method_20_code
def yX10_valueOf : MethodName := ⟨RX10, "valueOf", "(II)I"⟩
abbrev cX10_from : ByteArray := prog_12_method_21_code
def yX10_from : MethodName := ⟨RX10, "from", "(II)I"⟩
abbrev cX10_styles : ByteArray := prog_12_method_22_code
def yX10_styles : MethodName := ⟨RX10, "styles", "()I"⟩
abbrev cX10_type : ByteArray := prog_12_method_23_code
def yX10_type : MethodName := ⟨RX10, "type", "(I)I"⟩
abbrev cX10_clear : ByteArray := prog_12_method_24_code
def yX10_clear : MethodName := ⟨RX10, "clear", "()I"⟩
abbrev cX10_next : ByteArray := prog_12_method_25_code
def yX10_next : MethodName := ⟨RX10, "next", "()I"⟩
abbrev cX10_reads : ByteArray := prog_12_method_26_code
def yX10_reads : MethodName := ⟨RX10, "reads", "(II)V"⟩
abbrev cX10_isRange : ByteArray := prog_12_method_27_code
def yX10_isRange : MethodName := ⟨RX10, "isRange", "(II)Z"⟩
abbrev cX10_readsTag : ByteArray := prog_12_method_28_code
def yX10_readsTag : MethodName := ⟨RX10, "readsTag", "()Z"⟩
abbrev cX10_wrongAt : ByteArray := prog_12_method_29_code
def yX10_wrongAt : MethodName := ⟨RX10, "wrongAt", "()I"⟩
abbrev cX10_lineAt : ByteArray := prog_12_method_30_code
def yX10_lineAt : MethodName := ⟨RX10, "lineAt", "(I)I"⟩
abbrev cX10_isLine : ByteArray := prog_12_method_31_code
def yX10_isLine : MethodName := ⟨RX10, "isLine", "(I)Z"⟩
abbrev cX10_line : ByteArray := prog_12_method_32_code
def yX10_line : MethodName := ⟨RX10, "line", "(III)I"⟩
abbrev cX10_remove : ByteArray := prog_12_method_33_code
def yX10_remove : MethodName := ⟨RX10, "remove", "(I)I"⟩
abbrev cX10_change : ByteArray := prog_12_method_34_code
def yX10_change : MethodName := ⟨RX10, "change", "(III)I"⟩
abbrev cX10_shift : ByteArray := prog_12_method_35_code
def yX10_shift : MethodName := ⟨RX10, "shift", "(II)I"⟩
abbrev cX10_setHeight : ByteArray := prog_12_method_36_code
def yX10_setHeight : MethodName := ⟨RX10, "setHeight", "(I)I"⟩
abbrev cX10_restyles : ByteArray := prog_12_method_37_code
def yX10_restyles : MethodName := ⟨RX10, "restyles", "(I)V"⟩
abbrev cX10_tags : ByteArray := prog_12_method_38_code
def yX10_tags : MethodName := ⟨RX10, "tags", "(III)V"⟩
abbrev cX10_goes : ByteArray := prog_12_method_39_code
def yX10_goes : MethodName := ⟨RX10, "goes", "(I)V"⟩
abbrev cX10_lasting : ByteArray := prog_12_method_40_code
def yX10_lasting : MethodName := ⟨RX10, "lasting", "()I"⟩
abbrev cX10_tall : ByteArray := prog_12_method_41_code
def yX10_tall : MethodName := ⟨RX10, "tall", "(I)I"⟩
abbrev cX10_group : ByteArray := prog_12_method_42_code
def yX10_group : MethodName := ⟨RX10, "group", "(I)I"⟩
abbrev cX10_margin : ByteArray := prog_12_method_43_code
def yX10_margin : MethodName := ⟨RX10, "margin", "(I)I"⟩
abbrev cX10_isShown : ByteArray := prog_12_method_44_code
def yX10_isShown : MethodName := ⟨RX10, "isShown", "(II)Z"⟩
abbrev cX10_inTheWay : ByteArray := prog_12_method_45_code
def yX10_inTheWay : MethodName := ⟨RX10, "inTheWay", "(II)I"⟩
abbrev cX10_places : ByteArray := prog_12_method_46_code
def yX10_places : MethodName := ⟨RX10, "places", "()V"⟩
abbrev cX10_told : ByteArray := prog_12_method_47_code
def yX10_told : MethodName := ⟨RX10, "told", "(II)I"⟩
abbrev cX10_about : ByteArray := prog_12_method_48_code
def yX10_about : MethodName := ⟨RX10, "about", "(II)I"⟩
abbrev cX10_lines : ByteArray := prog_12_method_49_code
def yX10_lines : MethodName := ⟨RX10, "lines", "()I"⟩
abbrev cX10_sign : ByteArray := prog_12_method_50_code
def yX10_sign : MethodName := ⟨RX10, "sign", "(III)I"⟩
abbrev cX10_beginsAt : ByteArray := prog_12_method_51_code
def yX10_beginsAt : MethodName := ⟨RX10, "beginsAt", "(II)I"⟩
abbrev cX10_syllableTold : ByteArray := prog_12_method_52_code
def yX10_syllableTold : MethodName := ⟨RX10, "syllableTold", "(III)I"⟩
abbrev cX10_syllable : ByteArray := prog_12_method_53_code
def yX10_syllable : MethodName := ⟨RX10, "syllable", "(III)I"⟩
abbrev cX10_fit : ByteArray := prog_12_method_54_code
def yX10_fit : MethodName := ⟨RX10, "fit", "(I)I"⟩
abbrev cX10_isSung : ByteArray := prog_12_method_55_code
def yX10_isSung : MethodName := ⟨RX10, "isSung", "(III)Z"⟩
abbrev cX10_shows : ByteArray := prog_12_method_56_code
def yX10_shows : MethodName := ⟨RX10, "shows", "(III)I"⟩
abbrev cX10_isAhead : ByteArray := prog_12_method_57_code
def yX10_isAhead : MethodName := ⟨RX10, "isAhead", "(II)Z"⟩
abbrev cX10_shown : ByteArray := prog_12_method_58_code
def yX10_shown : MethodName := ⟨RX10, "shown", "(II)I"⟩
abbrev cX10_crowded : ByteArray := prog_12_method_59_code
def yX10_crowded : MethodName := ⟨RX10, "crowded", "()I"⟩
abbrev cX10_crowd : ByteArray := prog_12_method_60_code
def yX10_crowd : MethodName := ⟨RX10, "crowd", "()I"⟩
abbrev cX10_sung : ByteArray := prog_12_method_61_code
def yX10_sung : MethodName := ⟨RX10, "sung", "(I)F"⟩
abbrev cX10_unlikeMany : ByteArray := prog_12_method_62_code
def yX10_unlikeMany : MethodName := ⟨RX10, "unlikeMany", "()I"⟩
abbrev cX10_unlike : ByteArray := prog_12_method_63_code
def yX10_unlike : MethodName := ⟨RX10, "unlike", "()I"⟩
abbrev cX10_undo : ByteArray := prog_12_method_64_code
def yX10_undo : MethodName := ⟨RX10, "undo", "()I"⟩
abbrev cX10_fingerprint : ByteArray := prog_12_method_65_code
def yX10_fingerprint : MethodName := ⟨RX10, "fingerprint", "()J"⟩
def RL : String := "SubtitleStylesLaw"
abbrev cL_law : ByteArray := code
def yL_law : MethodName := ⟨RL, "law", "([I)Z"⟩
theorem dX0_init_0 : decode cX0_init 0 = .ok (.aload_n 0, 1) := by decide +kernel
theorem dX0_init_1 : decode cX0_init 1 = .ok (.invokespecial 3, 3) := by decide +kernel
theorem dX0_init_4 : decode cX0_init 4 = .ok (.aload_n 0, 1) := by decide +kernel
theorem dX0_init_5 : decode cX0_init 5 = .ok (.iconst 5, 1) := by decide +kernel
theorem dX0_init_6 : decode cX0_init 6 = .ok (.anewarray 9, 3) := by decide +kernel
theorem dX0_init_9 : decode cX0_init 9 = .ok (.putfield 11, 3) := by decide +kernel
theorem dX0_init_12 : decode cX0_init 12 = .ok (.iconst 0, 1) := by decide +kernel
theorem dX0_init_13 : decode cX0_init 13 = .ok (.istore_n 1, 1) := by decide +kernel
theorem dX0_init_14 : decode cX0_init 14 = .ok (.iload_n 1, 1) := by decide +kernel
theorem dX0_init_15 : decode cX0_init 15 = .ok (.aload_n 0, 1) := by decide +kernel
theorem dX0_init_16 : decode cX0_init 16 = .ok (.getfield 11, 3) := by decide +kernel
theorem dX0_init_19 : decode cX0_init 19 = .ok (.arraylength, 1) := by decide +kernel
theorem dX0_init_20 : decode cX0_init 20 = .ok (.if_icmp .ge 22, 3) := by decide +kernel
theorem dX0_init_23 : decode cX0_init 23 = .ok (.aload_n 0, 1) := by decide +kernel
theorem dX0_init_24 : decode cX0_init 24 = .ok (.getfield 11, 3) := by decide +kernel
theorem dX0_init_27 : decode cX0_init 27 = .ok (.iload_n 1, 1) := by decide +kernel
theorem dX0_init_28 : decode cX0_init 28 = .ok (.new 9, 3) := by decide +kernel
theorem dX0_init_31 : decode cX0_init 31 = .ok (.dup, 1) := by decide +kernel
theorem dX0_init_32 : decode cX0_init 32 = .ok (.invokespecial 17, 3) := by decide +kernel
theorem dX0_init_35 : decode cX0_init 35 = .ok (.aastore, 1) := by decide +kernel
theorem dX0_init_36 : decode cX0_init 36 = .ok (.iinc 1 1, 3) := by decide +kernel
theorem dX0_init_39 : decode cX0_init 39 = .ok (.goto (-25), 3) := by decide +kernel
theorem dX0_init_42 : decode cX0_init 42 = .ok (.aload_n 0, 1) := by decide +kernel
theorem dX0_init_43 : decode cX0_init 43 = .ok (.iconst 0, 1) := by decide +kernel
theorem dX0_init_44 : decode cX0_init 44 = .ok (.putfield 18, 3) := by decide +kernel
theorem dX0_init_47 : decode cX0_init 47 = .ok (.aload_n 0, 1) := by decide +kernel
theorem dX0_init_48 : decode cX0_init 48 = .ok (.iconst 0, 1) := by decide +kernel
theorem dX0_init_49 : decode cX0_init 49 = .ok (.putfield 22, 3) := by decide +kernel
theorem dX0_init_52 : decode cX0_init 52 = .ok (.return_, 1) := by decide +kernel
theorem dX0_keep_0 : decode cX0_keep 0 = .ok (.aload_n 0, 1) := by decide +kernel
theorem dX0_keep_1 : decode cX0_keep 1 = .ok (.getfield 22, 3) := by decide +kernel
theorem dX0_keep_4 : decode cX0_keep 4 = .ok (.iconst 5, 1) := by decide +kernel
theorem dX0_keep_5 : decode cX0_keep 5 = .ok (.if_icmp .lt 25, 3) := by decide +kernel
theorem dX0_keep_8 : decode cX0_keep 8 = .ok (.aload_n 0, 1) := by decide +kernel
theorem dX0_keep_9 : decode cX0_keep 9 = .ok (.aload_n 0, 1) := by decide +kernel
theorem dX0_keep_10 : decode cX0_keep 10 = .ok (.getfield 18, 3) := by decide +kernel
theorem dX0_keep_13 : decode cX0_keep 13 = .ok (.iconst 1, 1) := by decide +kernel
theorem dX0_keep_14 : decode cX0_keep 14 = .ok (.iadd, 1) := by decide +kernel
theorem dX0_keep_15 : decode cX0_keep 15 = .ok (.iconst 5, 1) := by decide +kernel
theorem dX0_keep_16 : decode cX0_keep 16 = .ok (.irem, 1) := by decide +kernel
theorem dX0_keep_17 : decode cX0_keep 17 = .ok (.putfield 18, 3) := by decide +kernel
theorem dX0_keep_20 : decode cX0_keep 20 = .ok (.aload_n 0, 1) := by decide +kernel
theorem dX0_keep_21 : decode cX0_keep 21 = .ok (.dup, 1) := by decide +kernel
theorem dX0_keep_22 : decode cX0_keep 22 = .ok (.getfield 22, 3) := by decide +kernel
theorem dX0_keep_25 : decode cX0_keep 25 = .ok (.iconst 1, 1) := by decide +kernel
theorem dX0_keep_26 : decode cX0_keep 26 = .ok (.isub, 1) := by decide +kernel
theorem dX0_keep_27 : decode cX0_keep 27 = .ok (.putfield 22, 3) := by decide +kernel
theorem dX0_keep_30 : decode cX0_keep 30 = .ok (.aload_n 0, 1) := by decide +kernel
theorem dX0_keep_31 : decode cX0_keep 31 = .ok (.aload_n 0, 1) := by decide +kernel
theorem dX0_keep_32 : decode cX0_keep 32 = .ok (.getfield 22, 3) := by decide +kernel
theorem dX0_keep_35 : decode cX0_keep 35 = .ok (.invokevirtual 25, 3) := by decide +kernel
theorem dX0_keep_38 : decode cX0_keep 38 = .ok (.astore_n 2, 1) := by decide +kernel
theorem dX0_keep_39 : decode cX0_keep 39 = .ok (.aload_n 2, 1) := by decide +kernel
theorem dX0_keep_40 : decode cX0_keep 40 = .ok (.ifnull 18, 3) := by decide +kernel
theorem dX0_keep_43 : decode cX0_keep 43 = .ok (.aload_n 2, 1) := by decide +kernel
theorem dX0_keep_44 : decode cX0_keep 44 = .ok (.aload_n 1, 1) := by decide +kernel
theorem dX0_keep_45 : decode cX0_keep 45 = .ok (.invokevirtual 29, 3) := by decide +kernel
theorem dX0_keep_48 : decode cX0_keep 48 = .ok (.aload_n 0, 1) := by decide +kernel
theorem dX0_keep_49 : decode cX0_keep 49 = .ok (.dup, 1) := by decide +kernel
theorem dX0_keep_50 : decode cX0_keep 50 = .ok (.getfield 22, 3) := by decide +kernel
theorem dX0_keep_53 : decode cX0_keep 53 = .ok (.iconst 1, 1) := by decide +kernel
theorem dX0_keep_54 : decode cX0_keep 54 = .ok (.iadd, 1) := by decide +kernel
theorem dX0_keep_55 : decode cX0_keep 55 = .ok (.putfield 22, 3) := by decide +kernel
theorem dX0_keep_58 : decode cX0_keep 58 = .ok (.return_, 1) := by decide +kernel
theorem dX0_restore_0 : decode cX0_restore 0 = .ok (.aload_n 0, 1) := by decide +kernel
theorem dX0_restore_1 : decode cX0_restore 1 = .ok (.dup, 1) := by decide +kernel
theorem dX0_restore_2 : decode cX0_restore 2 = .ok (.getfield 22, 3) := by decide +kernel
theorem dX0_restore_5 : decode cX0_restore 5 = .ok (.iconst 1, 1) := by decide +kernel
theorem dX0_restore_6 : decode cX0_restore 6 = .ok (.isub, 1) := by decide +kernel
theorem dX0_restore_7 : decode cX0_restore 7 = .ok (.putfield 22, 3) := by decide +kernel
theorem dX0_restore_10 : decode cX0_restore 10 = .ok (.aload_n 0, 1) := by decide +kernel
theorem dX0_restore_11 : decode cX0_restore 11 = .ok (.aload_n 0, 1) := by decide +kernel
theorem dX0_restore_12 : decode cX0_restore 12 = .ok (.getfield 22, 3) := by decide +kernel
theorem dX0_restore_15 : decode cX0_restore 15 = .ok (.invokevirtual 25, 3) := by decide +kernel
theorem dX0_restore_18 : decode cX0_restore 18 = .ok (.astore_n 2, 1) := by decide +kernel
theorem dX0_restore_19 : decode cX0_restore 19 = .ok (.aload_n 2, 1) := by decide +kernel
theorem dX0_restore_20 : decode cX0_restore 20 = .ok (.ifnull 8, 3) := by decide +kernel
theorem dX0_restore_23 : decode cX0_restore 23 = .ok (.aload_n 1, 1) := by decide +kernel
theorem dX0_restore_24 : decode cX0_restore 24 = .ok (.aload_n 2, 1) := by decide +kernel
theorem dX0_restore_25 : decode cX0_restore 25 = .ok (.invokevirtual 29, 3) := by decide +kernel
theorem dX0_restore_28 : decode cX0_restore 28 = .ok (.return_, 1) := by decide +kernel
theorem dX0_stateAt_0 : decode cX0_stateAt 0 = .ok (.aload_n 0, 1) := by decide +kernel
theorem dX0_stateAt_1 : decode cX0_stateAt 1 = .ok (.getfield 18, 3) := by decide +kernel
theorem dX0_stateAt_4 : decode cX0_stateAt 4 = .ok (.iload_n 1, 1) := by decide +kernel
theorem dX0_stateAt_5 : decode cX0_stateAt 5 = .ok (.iadd, 1) := by decide +kernel
theorem dX0_stateAt_6 : decode cX0_stateAt 6 = .ok (.iconst 5, 1) := by decide +kernel
theorem dX0_stateAt_7 : decode cX0_stateAt 7 = .ok (.irem, 1) := by decide +kernel
theorem dX0_stateAt_8 : decode cX0_stateAt 8 = .ok (.istore_n 2, 1) := by decide +kernel
theorem dX0_stateAt_9 : decode cX0_stateAt 9 = .ok (.iload_n 2, 1) := by decide +kernel
theorem dX0_stateAt_10 : decode cX0_stateAt 10 = .ok (.ifCond .lt 21, 3) := by decide +kernel
theorem dX0_stateAt_13 : decode cX0_stateAt 13 = .ok (.iload_n 2, 1) := by decide +kernel
theorem dX0_stateAt_14 : decode cX0_stateAt 14 = .ok (.aload_n 0, 1) := by decide +kernel
theorem dX0_stateAt_15 : decode cX0_stateAt 15 = .ok (.getfield 11, 3) := by decide +kernel
theorem dX0_stateAt_18 : decode cX0_stateAt 18 = .ok (.arraylength, 1) := by decide +kernel
theorem dX0_stateAt_19 : decode cX0_stateAt 19 = .ok (.if_icmp .ge 12, 3) := by decide +kernel
theorem dX0_stateAt_22 : decode cX0_stateAt 22 = .ok (.aload_n 0, 1) := by decide +kernel
theorem dX0_stateAt_23 : decode cX0_stateAt 23 = .ok (.getfield 11, 3) := by decide +kernel
theorem dX0_stateAt_26 : decode cX0_stateAt 26 = .ok (.iload_n 2, 1) := by decide +kernel
theorem dX0_stateAt_27 : decode cX0_stateAt 27 = .ok (.aaload, 1) := by decide +kernel
theorem dX0_stateAt_28 : decode cX0_stateAt 28 = .ok (.goto 4, 3) := by decide +kernel
theorem dX0_stateAt_31 : decode cX0_stateAt 31 = .ok (.aconst_null, 1) := by decide +kernel
theorem dX0_stateAt_32 : decode cX0_stateAt 32 = .ok (.areturn, 1) := by decide +kernel
theorem dX1_init_0 : decode cX1_init 0 = .ok (.aload_n 0, 1) := by decide +kernel
theorem dX1_init_1 : decode cX1_init 1 = .ok (.invokespecial 1, 3) := by decide +kernel
theorem dX1_init_4 : decode cX1_init 4 = .ok (.aload_n 0, 1) := by decide +kernel
theorem dX1_init_5 : decode cX1_init 5 = .ok (.iload_n 1, 1) := by decide +kernel
theorem dX1_init_6 : decode cX1_init 6 = .ok (.putfield 7, 3) := by decide +kernel
theorem dX1_init_9 : decode cX1_init 9 = .ok (.aload_n 0, 1) := by decide +kernel
theorem dX1_init_10 : decode cX1_init 10 = .ok (.iload_n 2, 1) := by decide +kernel
theorem dX1_init_11 : decode cX1_init 11 = .ok (.putfield 13, 3) := by decide +kernel
theorem dX1_init_14 : decode cX1_init 14 = .ok (.aload_n 0, 1) := by decide +kernel
theorem dX1_init_15 : decode cX1_init 15 = .ok (.iload_n 3, 1) := by decide +kernel
theorem dX1_init_16 : decode cX1_init 16 = .ok (.putfield 16, 3) := by decide +kernel
theorem dX1_init_19 : decode cX1_init 19 = .ok (.aload_n 0, 1) := by decide +kernel
theorem dX1_init_20 : decode cX1_init 20 = .ok (.iload 4, 2) := by decide +kernel
theorem dX1_init_22 : decode cX1_init 22 = .ok (.putfield 19, 3) := by decide +kernel
theorem dX1_init_25 : decode cX1_init 25 = .ok (.aload_n 0, 1) := by decide +kernel
theorem dX1_init_26 : decode cX1_init 26 = .ok (.aload 5, 2) := by decide +kernel
theorem dX1_init_28 : decode cX1_init 28 = .ok (.putfield 22, 3) := by decide +kernel
theorem dX1_init_31 : decode cX1_init 31 = .ok (.return_, 1) := by decide +kernel
theorem dX1_withStyle_0 : decode cX1_withStyle 0 = .ok (.new 8, 3) := by decide +kernel
theorem dX1_withStyle_3 : decode cX1_withStyle 3 = .ok (.dup, 1) := by decide +kernel
theorem dX1_withStyle_4 : decode cX1_withStyle 4 = .ok (.aload_n 0, 1) := by decide +kernel
theorem dX1_withStyle_5 : decode cX1_withStyle 5 = .ok (.getfield 7, 3) := by decide +kernel
theorem dX1_withStyle_8 : decode cX1_withStyle 8 = .ok (.aload_n 0, 1) := by decide +kernel
theorem dX1_withStyle_9 : decode cX1_withStyle 9 = .ok (.getfield 13, 3) := by decide +kernel
theorem dX1_withStyle_12 : decode cX1_withStyle 12 = .ok (.iload_n 1, 1) := by decide +kernel
theorem dX1_withStyle_13 : decode cX1_withStyle 13 = .ok (.aload_n 0, 1) := by decide +kernel
theorem dX1_withStyle_14 : decode cX1_withStyle 14 = .ok (.getfield 19, 3) := by decide +kernel
theorem dX1_withStyle_17 : decode cX1_withStyle 17 = .ok (.aload_n 0, 1) := by decide +kernel
theorem dX1_withStyle_18 : decode cX1_withStyle 18 = .ok (.getfield 22, 3) := by decide +kernel
theorem dX1_withStyle_21 : decode cX1_withStyle 21 = .ok (.invokespecial 26, 3) := by decide +kernel
theorem dX1_withStyle_24 : decode cX1_withStyle 24 = .ok (.areturn, 1) := by decide +kernel
theorem dX1_withMargin_0 : decode cX1_withMargin 0 = .ok (.new 8, 3) := by decide +kernel
theorem dX1_withMargin_3 : decode cX1_withMargin 3 = .ok (.dup, 1) := by decide +kernel
theorem dX1_withMargin_4 : decode cX1_withMargin 4 = .ok (.aload_n 0, 1) := by decide +kernel
theorem dX1_withMargin_5 : decode cX1_withMargin 5 = .ok (.getfield 7, 3) := by decide +kernel
theorem dX1_withMargin_8 : decode cX1_withMargin 8 = .ok (.aload_n 0, 1) := by decide +kernel
theorem dX1_withMargin_9 : decode cX1_withMargin 9 = .ok (.getfield 13, 3) := by decide +kernel
theorem dX1_withMargin_12 : decode cX1_withMargin 12 = .ok (.aload_n 0, 1) := by decide +kernel
theorem dX1_withMargin_13 : decode cX1_withMargin 13 = .ok (.getfield 16, 3) := by decide +kernel
theorem dX1_withMargin_16 : decode cX1_withMargin 16 = .ok (.iload_n 1, 1) := by decide +kernel
theorem dX1_withMargin_17 : decode cX1_withMargin 17 = .ok (.aload_n 0, 1) := by decide +kernel
theorem dX1_withMargin_18 : decode cX1_withMargin 18 = .ok (.getfield 22, 3) := by decide +kernel
theorem dX1_withMargin_21 : decode cX1_withMargin 21 = .ok (.invokespecial 26, 3) := by decide +kernel
theorem dX1_withMargin_24 : decode cX1_withMargin 24 = .ok (.areturn, 1) := by decide +kernel
theorem dX1_withText_0 : decode cX1_withText 0 = .ok (.new 8, 3) := by decide +kernel
theorem dX1_withText_3 : decode cX1_withText 3 = .ok (.dup, 1) := by decide +kernel
theorem dX1_withText_4 : decode cX1_withText 4 = .ok (.aload_n 0, 1) := by decide +kernel
theorem dX1_withText_5 : decode cX1_withText 5 = .ok (.getfield 7, 3) := by decide +kernel
theorem dX1_withText_8 : decode cX1_withText 8 = .ok (.aload_n 0, 1) := by decide +kernel
theorem dX1_withText_9 : decode cX1_withText 9 = .ok (.getfield 13, 3) := by decide +kernel
theorem dX1_withText_12 : decode cX1_withText 12 = .ok (.aload_n 0, 1) := by decide +kernel
theorem dX1_withText_13 : decode cX1_withText 13 = .ok (.getfield 16, 3) := by decide +kernel
theorem dX1_withText_16 : decode cX1_withText 16 = .ok (.aload_n 0, 1) := by decide +kernel
theorem dX1_withText_17 : decode cX1_withText 17 = .ok (.getfield 19, 3) := by decide +kernel
theorem dX1_withText_20 : decode cX1_withText 20 = .ok (.aload_n 1, 1) := by decide +kernel
theorem dX1_withText_21 : decode cX1_withText 21 = .ok (.invokespecial 26, 3) := by decide +kernel
theorem dX1_withText_24 : decode cX1_withText 24 = .ok (.areturn, 1) := by decide +kernel
theorem dX1_movedBy_0 : decode cX1_movedBy 0 = .ok (.new 8, 3) := by decide +kernel
theorem dX1_movedBy_3 : decode cX1_movedBy 3 = .ok (.dup, 1) := by decide +kernel
theorem dX1_movedBy_4 : decode cX1_movedBy 4 = .ok (.aload_n 0, 1) := by decide +kernel
theorem dX1_movedBy_5 : decode cX1_movedBy 5 = .ok (.getfield 7, 3) := by decide +kernel
theorem dX1_movedBy_8 : decode cX1_movedBy 8 = .ok (.iload_n 1, 1) := by decide +kernel
theorem dX1_movedBy_9 : decode cX1_movedBy 9 = .ok (.iadd, 1) := by decide +kernel
theorem dX1_movedBy_10 : decode cX1_movedBy 10 = .ok (.aload_n 0, 1) := by decide +kernel
theorem dX1_movedBy_11 : decode cX1_movedBy 11 = .ok (.getfield 13, 3) := by decide +kernel
theorem dX1_movedBy_14 : decode cX1_movedBy 14 = .ok (.iload_n 1, 1) := by decide +kernel
theorem dX1_movedBy_15 : decode cX1_movedBy 15 = .ok (.iadd, 1) := by decide +kernel
theorem dX1_movedBy_16 : decode cX1_movedBy 16 = .ok (.aload_n 0, 1) := by decide +kernel
theorem dX1_movedBy_17 : decode cX1_movedBy 17 = .ok (.getfield 16, 3) := by decide +kernel
theorem dX1_movedBy_20 : decode cX1_movedBy 20 = .ok (.aload_n 0, 1) := by decide +kernel
theorem dX1_movedBy_21 : decode cX1_movedBy 21 = .ok (.getfield 19, 3) := by decide +kernel
theorem dX1_movedBy_24 : decode cX1_movedBy 24 = .ok (.aload_n 0, 1) := by decide +kernel
theorem dX1_movedBy_25 : decode cX1_movedBy 25 = .ok (.getfield 22, 3) := by decide +kernel
theorem dX1_movedBy_28 : decode cX1_movedBy 28 = .ok (.invokespecial 26, 3) := by decide +kernel
theorem dX1_movedBy_31 : decode cX1_movedBy 31 = .ok (.areturn, 1) := by decide +kernel
theorem dX2_init_0 : decode cX2_init 0 = .ok (.aload_n 0, 1) := by decide +kernel
theorem dX2_init_1 : decode cX2_init 1 = .ok (.invokespecial 3, 3) := by decide +kernel
theorem dX2_init_4 : decode cX2_init 4 = .ok (.aload_n 0, 1) := by decide +kernel
theorem dX2_init_5 : decode cX2_init 5 = .ok (.new 9, 3) := by decide +kernel
theorem dX2_init_8 : decode cX2_init 8 = .ok (.dup, 1) := by decide +kernel
theorem dX2_init_9 : decode cX2_init 9 = .ok (.sipush 480, 3) := by decide +kernel
theorem dX2_init_12 : decode cX2_init 12 = .ok (.invokespecial 11, 3) := by decide +kernel
theorem dX2_init_15 : decode cX2_init 15 = .ok (.putfield 14, 3) := by decide +kernel
theorem dX2_init_18 : decode cX2_init 18 = .ok (.aload_n 0, 1) := by decide +kernel
theorem dX2_init_19 : decode cX2_init 19 = .ok (.new 9, 3) := by decide +kernel
theorem dX2_init_22 : decode cX2_init 22 = .ok (.dup, 1) := by decide +kernel
theorem dX2_init_23 : decode cX2_init 23 = .ok (.bipush 60, 2) := by decide +kernel
theorem dX2_init_25 : decode cX2_init 25 = .ok (.invokespecial 11, 3) := by decide +kernel
theorem dX2_init_28 : decode cX2_init 28 = .ok (.putfield 20, 3) := by decide +kernel
theorem dX2_init_31 : decode cX2_init 31 = .ok (.aload_n 0, 1) := by decide +kernel
theorem dX2_init_32 : decode cX2_init 32 = .ok (.new 9, 3) := by decide +kernel
theorem dX2_init_35 : decode cX2_init 35 = .ok (.dup, 1) := by decide +kernel
theorem dX2_init_36 : decode cX2_init 36 = .ok (.iconst 4, 1) := by decide +kernel
theorem dX2_init_37 : decode cX2_init 37 = .ok (.invokespecial 11, 3) := by decide +kernel
theorem dX2_init_40 : decode cX2_init 40 = .ok (.putfield 23, 3) := by decide +kernel
theorem dX2_init_43 : decode cX2_init 43 = .ok (.return_, 1) := by decide +kernel
theorem dX2_read_0 : decode cX2_read 0 = .ok (.aload_n 0, 1) := by decide +kernel
theorem dX2_read_1 : decode cX2_read 1 = .ok (.aload_n 1, 1) := by decide +kernel
theorem dX2_read_2 : decode cX2_read 2 = .ok (.getfield 26, 3) := by decide +kernel
theorem dX2_read_5 : decode cX2_read 5 = .ok (.putfield 32, 3) := by decide +kernel
theorem dX2_read_8 : decode cX2_read 8 = .ok (.aload_n 0, 1) := by decide +kernel
theorem dX2_read_9 : decode cX2_read 9 = .ok (.aload_n 1, 1) := by decide +kernel
theorem dX2_read_10 : decode cX2_read 10 = .ok (.getfield 33, 3) := by decide +kernel
theorem dX2_read_13 : decode cX2_read 13 = .ok (.putfield 36, 3) := by decide +kernel
theorem dX2_read_16 : decode cX2_read 16 = .ok (.aload_n 0, 1) := by decide +kernel
theorem dX2_read_17 : decode cX2_read 17 = .ok (.aload_n 2, 1) := by decide +kernel
theorem dX2_read_18 : decode cX2_read 18 = .ok (.aload_n 1, 1) := by decide +kernel
theorem dX2_read_19 : decode cX2_read 19 = .ok (.getfield 37, 3) := by decide +kernel
theorem dX2_read_22 : decode cX2_read 22 = .ok (.iconst 4, 1) := by decide +kernel
theorem dX2_read_23 : decode cX2_read 23 = .ok (.invokevirtual 40, 3) := by decide +kernel
theorem dX2_read_26 : decode cX2_read 26 = .ok (.putfield 46, 3) := by decide +kernel
theorem dX2_read_29 : decode cX2_read 29 = .ok (.aload_n 0, 1) := by decide +kernel
theorem dX2_read_30 : decode cX2_read 30 = .ok (.aload_n 1, 1) := by decide +kernel
theorem dX2_read_31 : decode cX2_read 31 = .ok (.getfield 49, 3) := by decide +kernel
theorem dX2_read_34 : decode cX2_read 34 = .ok (.iconst (-1), 1) := by decide +kernel
theorem dX2_read_35 : decode cX2_read 35 = .ok (.if_icmp .ne 15, 3) := by decide +kernel
theorem dX2_read_38 : decode cX2_read 38 = .ok (.aload_n 2, 1) := by decide +kernel
theorem dX2_read_39 : decode cX2_read 39 = .ok (.aload_n 1, 1) := by decide +kernel
theorem dX2_read_40 : decode cX2_read 40 = .ok (.getfield 37, 3) := by decide +kernel
theorem dX2_read_43 : decode cX2_read 43 = .ok (.iconst 5, 1) := by decide +kernel
theorem dX2_read_44 : decode cX2_read 44 = .ok (.invokevirtual 40, 3) := by decide +kernel
theorem dX2_read_47 : decode cX2_read 47 = .ok (.goto 7, 3) := by decide +kernel
theorem dX2_read_50 : decode cX2_read 50 = .ok (.aload_n 1, 1) := by decide +kernel
theorem dX2_read_51 : decode cX2_read 51 = .ok (.getfield 49, 3) := by decide +kernel
theorem dX2_read_54 : decode cX2_read 54 = .ok (.putfield 52, 3) := by decide +kernel
theorem dX2_read_57 : decode cX2_read 57 = .ok (.aload_n 0, 1) := by decide +kernel
theorem dX2_read_58 : decode cX2_read 58 = .ok (.iconst 0, 1) := by decide +kernel
theorem dX2_read_59 : decode cX2_read 59 = .ok (.putfield 53, 3) := by decide +kernel
theorem dX2_read_62 : decode cX2_read 62 = .ok (.aload_n 0, 1) := by decide +kernel
theorem dX2_read_63 : decode cX2_read 63 = .ok (.iconst 0, 1) := by decide +kernel
theorem dX2_read_64 : decode cX2_read 64 = .ok (.putfield 56, 3) := by decide +kernel
theorem dX2_read_67 : decode cX2_read 67 = .ok (.aload_n 0, 1) := by decide +kernel
theorem dX2_read_68 : decode cX2_read 68 = .ok (.iconst 0, 1) := by decide +kernel
theorem dX2_read_69 : decode cX2_read 69 = .ok (.putfield 59, 3) := by decide +kernel
theorem dX2_read_72 : decode cX2_read 72 = .ok (.aload_n 0, 1) := by decide +kernel
theorem dX2_read_73 : decode cX2_read 73 = .ok (.iconst 0, 1) := by decide +kernel
theorem dX2_read_74 : decode cX2_read 74 = .ok (.putfield 62, 3) := by decide +kernel
theorem dX2_read_77 : decode cX2_read 77 = .ok (.aload_n 0, 1) := by decide +kernel
theorem dX2_read_78 : decode cX2_read 78 = .ok (.aload_n 1, 1) := by decide +kernel
theorem dX2_read_79 : decode cX2_read 79 = .ok (.getfield 37, 3) := by decide +kernel
theorem dX2_read_82 : decode cX2_read 82 = .ok (.aload_n 2, 1) := by decide +kernel
theorem dX2_read_83 : decode cX2_read 83 = .ok (.invokevirtual 65, 3) := by decide +kernel
theorem dX2_read_86 : decode cX2_read 86 = .ok (.aload_n 1, 1) := by decide +kernel
theorem dX2_read_87 : decode cX2_read 87 = .ok (.getfield 69, 3) := by decide +kernel
theorem dX2_read_90 : decode cX2_read 90 = .ok (.astore_n 3, 1) := by decide +kernel
theorem dX2_read_91 : decode cX2_read 91 = .ok (.iconst 0, 1) := by decide +kernel
theorem dX2_read_92 : decode cX2_read 92 = .ok (.istore 4, 2) := by decide +kernel
theorem dX2_read_94 : decode cX2_read 94 = .ok (.iload 4, 2) := by decide +kernel
theorem dX2_read_96 : decode cX2_read 96 = .ok (.aload_n 3, 1) := by decide +kernel
theorem dX2_read_97 : decode cX2_read 97 = .ok (.getfield 73, 3) := by decide +kernel
theorem dX2_read_100 : decode cX2_read 100 = .ok (.if_icmp .ge 121, 3) := by decide +kernel
theorem dX2_read_103 : decode cX2_read 103 = .ok (.aload_n 3, 1) := by decide +kernel
theorem dX2_read_104 : decode cX2_read 104 = .ok (.getfield 78, 3) := by decide +kernel
theorem dX2_read_107 : decode cX2_read 107 = .ok (.iload 4, 2) := by decide +kernel
theorem dX2_read_109 : decode cX2_read 109 = .ok (.invokevirtual 81, 3) := by decide +kernel
theorem dX2_read_112 : decode cX2_read 112 = .ok (.istore 5, 2) := by decide +kernel
theorem dX2_read_114 : decode cX2_read 114 = .ok (.aload_n 3, 1) := by decide +kernel
theorem dX2_read_115 : decode cX2_read 115 = .ok (.getfield 85, 3) := by decide +kernel
theorem dX2_read_118 : decode cX2_read 118 = .ok (.iload 4, 2) := by decide +kernel
theorem dX2_read_120 : decode cX2_read 120 = .ok (.invokevirtual 81, 3) := by decide +kernel
theorem dX2_read_123 : decode cX2_read 123 = .ok (.istore 6, 2) := by decide +kernel
theorem dX2_read_125 : decode cX2_read 125 = .ok (.iload 5, 2) := by decide +kernel
theorem dX2_read_127 : decode cX2_read 127 = .ok (.lookupswitch 74 #[(0, 33), (107, 42), (114, 51)], 33) := by decide +kernel
theorem dX2_read_160 : decode cX2_read 160 = .ok (.aload_n 0, 1) := by decide +kernel
theorem dX2_read_161 : decode cX2_read 161 = .ok (.iload 6, 2) := by decide +kernel
theorem dX2_read_163 : decode cX2_read 163 = .ok (.invokevirtual 88, 3) := by decide +kernel
theorem dX2_read_166 : decode cX2_read 166 = .ok (.goto 49, 3) := by decide +kernel
theorem dX2_read_169 : decode cX2_read 169 = .ok (.aload_n 0, 1) := by decide +kernel
theorem dX2_read_170 : decode cX2_read 170 = .ok (.iload 6, 2) := by decide +kernel
theorem dX2_read_172 : decode cX2_read 172 = .ok (.invokevirtual 91, 3) := by decide +kernel
theorem dX2_read_175 : decode cX2_read 175 = .ok (.goto 40, 3) := by decide +kernel
theorem dX2_read_178 : decode cX2_read 178 = .ok (.aload_n 0, 1) := by decide +kernel
theorem dX2_read_179 : decode cX2_read 179 = .ok (.iload 6, 2) := by decide +kernel
theorem dX2_read_181 : decode cX2_read 181 = .ok (.iconst (-1), 1) := by decide +kernel
theorem dX2_read_182 : decode cX2_read 182 = .ok (.if_icmp .ne 10, 3) := by decide +kernel
theorem dX2_read_185 : decode cX2_read 185 = .ok (.aload_n 1, 1) := by decide +kernel
theorem dX2_read_186 : decode cX2_read 186 = .ok (.getfield 37, 3) := by decide +kernel
theorem dX2_read_189 : decode cX2_read 189 = .ok (.goto 5, 3) := by decide +kernel
theorem dX2_read_192 : decode cX2_read 192 = .ok (.iload 6, 2) := by decide +kernel
theorem dX2_read_194 : decode cX2_read 194 = .ok (.aload_n 2, 1) := by decide +kernel
theorem dX2_read_195 : decode cX2_read 195 = .ok (.invokevirtual 65, 3) := by decide +kernel
theorem dX2_read_198 : decode cX2_read 198 = .ok (.goto 17, 3) := by decide +kernel
theorem dX2_read_201 : decode cX2_read 201 = .ok (.aload_n 0, 1) := by decide +kernel
theorem dX2_read_202 : decode cX2_read 202 = .ok (.getfield 23, 3) := by decide +kernel
theorem dX2_read_205 : decode cX2_read 205 = .ok (.iload 5, 2) := by decide +kernel
theorem dX2_read_207 : decode cX2_read 207 = .ok (.invokestatic 94, 3) := by decide +kernel
theorem dX2_read_210 : decode cX2_read 210 = .ok (.iload 6, 2) := by decide +kernel
theorem dX2_read_212 : decode cX2_read 212 = .ok (.invokevirtual 97, 3) := by decide +kernel
theorem dX2_read_215 : decode cX2_read 215 = .ok (.iinc 4 1, 3) := by decide +kernel
theorem dX2_read_218 : decode cX2_read 218 = .ok (.goto (-124), 3) := by decide +kernel
theorem dX2_read_221 : decode cX2_read 221 = .ok (.aload_n 0, 1) := by decide +kernel
theorem dX2_read_222 : decode cX2_read 222 = .ok (.getfield 53, 3) := by decide +kernel
theorem dX2_read_225 : decode cX2_read 225 = .ok (.ifCond .ne 16, 3) := by decide +kernel
theorem dX2_read_228 : decode cX2_read 228 = .ok (.aload_n 0, 1) := by decide +kernel
theorem dX2_read_229 : decode cX2_read 229 = .ok (.aload_n 2, 1) := by decide +kernel
theorem dX2_read_230 : decode cX2_read 230 = .ok (.aload_n 1, 1) := by decide +kernel
theorem dX2_read_231 : decode cX2_read 231 = .ok (.getfield 37, 3) := by decide +kernel
theorem dX2_read_234 : decode cX2_read 234 = .ok (.iconst 0, 1) := by decide +kernel
theorem dX2_read_235 : decode cX2_read 235 = .ok (.invokevirtual 40, 3) := by decide +kernel
theorem dX2_read_238 : decode cX2_read 238 = .ok (.putfield 62, 3) := by decide +kernel
theorem dX2_read_241 : decode cX2_read 241 = .ok (.return_, 1) := by decide +kernel
theorem dX2_holdStyle_0 : decode cX2_holdStyle 0 = .ok (.iconst 0, 1) := by decide +kernel
theorem dX2_holdStyle_1 : decode cX2_holdStyle 1 = .ok (.istore_n 3, 1) := by decide +kernel
theorem dX2_holdStyle_2 : decode cX2_holdStyle 2 = .ok (.iload_n 3, 1) := by decide +kernel
theorem dX2_holdStyle_3 : decode cX2_holdStyle 3 = .ok (.iconst 4, 1) := by decide +kernel
theorem dX2_holdStyle_4 : decode cX2_holdStyle 4 = .ok (.if_icmp .ge 23, 3) := by decide +kernel
theorem dX2_holdStyle_7 : decode cX2_holdStyle 7 = .ok (.aload_n 0, 1) := by decide +kernel
theorem dX2_holdStyle_8 : decode cX2_holdStyle 8 = .ok (.getfield 23, 3) := by decide +kernel
theorem dX2_holdStyle_11 : decode cX2_holdStyle 11 = .ok (.iload_n 3, 1) := by decide +kernel
theorem dX2_holdStyle_12 : decode cX2_holdStyle 12 = .ok (.aload_n 2, 1) := by decide +kernel
theorem dX2_holdStyle_13 : decode cX2_holdStyle 13 = .ok (.iload_n 1, 1) := by decide +kernel
theorem dX2_holdStyle_14 : decode cX2_holdStyle 14 = .ok (.iload_n 3, 1) := by decide +kernel
theorem dX2_holdStyle_15 : decode cX2_holdStyle 15 = .ok (.invokevirtual 40, 3) := by decide +kernel
theorem dX2_holdStyle_18 : decode cX2_holdStyle 18 = .ok (.invokevirtual 97, 3) := by decide +kernel
theorem dX2_holdStyle_21 : decode cX2_holdStyle 21 = .ok (.iinc 3 1, 3) := by decide +kernel
theorem dX2_holdStyle_24 : decode cX2_holdStyle 24 = .ok (.goto (-22), 3) := by decide +kernel
theorem dX2_holdStyle_27 : decode cX2_holdStyle 27 = .ok (.return_, 1) := by decide +kernel
theorem dX2_addSign_0 : decode cX2_addSign 0 = .ok (.aload_n 0, 1) := by decide +kernel
theorem dX2_addSign_1 : decode cX2_addSign 1 = .ok (.getfield 53, 3) := by decide +kernel
theorem dX2_addSign_4 : decode cX2_addSign 4 = .ok (.bipush 6, 2) := by decide +kernel
theorem dX2_addSign_6 : decode cX2_addSign 6 = .ok (.imul, 1) := by decide +kernel
theorem dX2_addSign_7 : decode cX2_addSign 7 = .ok (.istore_n 2, 1) := by decide +kernel
theorem dX2_addSign_8 : decode cX2_addSign 8 = .ok (.aload_n 0, 1) := by decide +kernel
theorem dX2_addSign_9 : decode cX2_addSign 9 = .ok (.getfield 56, 3) := by decide +kernel
theorem dX2_addSign_12 : decode cX2_addSign 12 = .ok (.iconst 1, 1) := by decide +kernel
theorem dX2_addSign_13 : decode cX2_addSign 13 = .ok (.isub, 1) := by decide +kernel
theorem dX2_addSign_14 : decode cX2_addSign 14 = .ok (.istore_n 3, 1) := by decide +kernel
theorem dX2_addSign_15 : decode cX2_addSign 15 = .ok (.aload_n 0, 1) := by decide +kernel
theorem dX2_addSign_16 : decode cX2_addSign 16 = .ok (.getfield 14, 3) := by decide +kernel
theorem dX2_addSign_19 : decode cX2_addSign 19 = .ok (.iload_n 2, 1) := by decide +kernel
theorem dX2_addSign_20 : decode cX2_addSign 20 = .ok (.iconst 0, 1) := by decide +kernel
theorem dX2_addSign_21 : decode cX2_addSign 21 = .ok (.iadd, 1) := by decide +kernel
theorem dX2_addSign_22 : decode cX2_addSign 22 = .ok (.iload_n 1, 1) := by decide +kernel
theorem dX2_addSign_23 : decode cX2_addSign 23 = .ok (.invokevirtual 97, 3) := by decide +kernel
theorem dX2_addSign_26 : decode cX2_addSign 26 = .ok (.iconst 0, 1) := by decide +kernel
theorem dX2_addSign_27 : decode cX2_addSign 27 = .ok (.istore 4, 2) := by decide +kernel
theorem dX2_addSign_29 : decode cX2_addSign 29 = .ok (.iload 4, 2) := by decide +kernel
theorem dX2_addSign_31 : decode cX2_addSign 31 = .ok (.iconst 4, 1) := by decide +kernel
theorem dX2_addSign_32 : decode cX2_addSign 32 = .ok (.if_icmp .ge 31, 3) := by decide +kernel
theorem dX2_addSign_35 : decode cX2_addSign 35 = .ok (.aload_n 0, 1) := by decide +kernel
theorem dX2_addSign_36 : decode cX2_addSign 36 = .ok (.getfield 14, 3) := by decide +kernel
theorem dX2_addSign_39 : decode cX2_addSign 39 = .ok (.iload_n 2, 1) := by decide +kernel
theorem dX2_addSign_40 : decode cX2_addSign 40 = .ok (.iconst 1, 1) := by decide +kernel
theorem dX2_addSign_41 : decode cX2_addSign 41 = .ok (.iadd, 1) := by decide +kernel
theorem dX2_addSign_42 : decode cX2_addSign 42 = .ok (.iload 4, 2) := by decide +kernel
theorem dX2_addSign_44 : decode cX2_addSign 44 = .ok (.iadd, 1) := by decide +kernel
theorem dX2_addSign_45 : decode cX2_addSign 45 = .ok (.aload_n 0, 1) := by decide +kernel
theorem dX2_addSign_46 : decode cX2_addSign 46 = .ok (.getfield 23, 3) := by decide +kernel
theorem dX2_addSign_49 : decode cX2_addSign 49 = .ok (.iload 4, 2) := by decide +kernel
theorem dX2_addSign_51 : decode cX2_addSign 51 = .ok (.invokevirtual 81, 3) := by decide +kernel
theorem dX2_addSign_54 : decode cX2_addSign 54 = .ok (.invokevirtual 97, 3) := by decide +kernel
theorem dX2_addSign_57 : decode cX2_addSign 57 = .ok (.iinc 4 1, 3) := by decide +kernel
theorem dX2_addSign_60 : decode cX2_addSign 60 = .ok (.goto (-31), 3) := by decide +kernel
theorem dX2_addSign_63 : decode cX2_addSign 63 = .ok (.aload_n 0, 1) := by decide +kernel
theorem dX2_addSign_64 : decode cX2_addSign 64 = .ok (.getfield 14, 3) := by decide +kernel
theorem dX2_addSign_67 : decode cX2_addSign 67 = .ok (.iload_n 2, 1) := by decide +kernel
theorem dX2_addSign_68 : decode cX2_addSign 68 = .ok (.iconst 5, 1) := by decide +kernel
theorem dX2_addSign_69 : decode cX2_addSign 69 = .ok (.iadd, 1) := by decide +kernel
theorem dX2_addSign_70 : decode cX2_addSign 70 = .ok (.iload_n 3, 1) := by decide +kernel
theorem dX2_addSign_71 : decode cX2_addSign 71 = .ok (.ifCond .ge 8, 3) := by decide +kernel
theorem dX2_addSign_74 : decode cX2_addSign 74 = .ok (.bipush (-9), 2) := by decide +kernel
theorem dX2_addSign_76 : decode cX2_addSign 76 = .ok (.goto 4, 3) := by decide +kernel
theorem dX2_addSign_79 : decode cX2_addSign 79 = .ok (.iload_n 3, 1) := by decide +kernel
theorem dX2_addSign_80 : decode cX2_addSign 80 = .ok (.invokevirtual 97, 3) := by decide +kernel
theorem dX2_addSign_83 : decode cX2_addSign 83 = .ok (.iload_n 3, 1) := by decide +kernel
theorem dX2_addSign_84 : decode cX2_addSign 84 = .ok (.ifCond .lt 30, 3) := by decide +kernel
theorem dX2_addSign_87 : decode cX2_addSign 87 = .ok (.iload_n 3, 1) := by decide +kernel
theorem dX2_addSign_88 : decode cX2_addSign 88 = .ok (.iconst 3, 1) := by decide +kernel
theorem dX2_addSign_89 : decode cX2_addSign 89 = .ok (.imul, 1) := by decide +kernel
theorem dX2_addSign_90 : decode cX2_addSign 90 = .ok (.iconst 2, 1) := by decide +kernel
theorem dX2_addSign_91 : decode cX2_addSign 91 = .ok (.iadd, 1) := by decide +kernel
theorem dX2_addSign_92 : decode cX2_addSign 92 = .ok (.istore 4, 2) := by decide +kernel
theorem dX2_addSign_94 : decode cX2_addSign 94 = .ok (.aload_n 0, 1) := by decide +kernel
theorem dX2_addSign_95 : decode cX2_addSign 95 = .ok (.getfield 20, 3) := by decide +kernel
theorem dX2_addSign_98 : decode cX2_addSign 98 = .ok (.iload 4, 2) := by decide +kernel
theorem dX2_addSign_100 : decode cX2_addSign 100 = .ok (.aload_n 0, 1) := by decide +kernel
theorem dX2_addSign_101 : decode cX2_addSign 101 = .ok (.getfield 20, 3) := by decide +kernel
theorem dX2_addSign_104 : decode cX2_addSign 104 = .ok (.iload 4, 2) := by decide +kernel
theorem dX2_addSign_106 : decode cX2_addSign 106 = .ok (.invokevirtual 81, 3) := by decide +kernel
theorem dX2_addSign_109 : decode cX2_addSign 109 = .ok (.iconst 1, 1) := by decide +kernel
theorem dX2_addSign_110 : decode cX2_addSign 110 = .ok (.iadd, 1) := by decide +kernel
theorem dX2_addSign_111 : decode cX2_addSign 111 = .ok (.invokevirtual 97, 3) := by decide +kernel
theorem dX2_addSign_114 : decode cX2_addSign 114 = .ok (.aload_n 0, 1) := by decide +kernel
theorem dX2_addSign_115 : decode cX2_addSign 115 = .ok (.aload_n 0, 1) := by decide +kernel
theorem dX2_addSign_116 : decode cX2_addSign 116 = .ok (.getfield 62, 3) := by decide +kernel
theorem dX2_addSign_119 : decode cX2_addSign 119 = .ok (.aload_n 0, 1) := by decide +kernel
theorem dX2_addSign_120 : decode cX2_addSign 120 = .ok (.getfield 23, 3) := by decide +kernel
theorem dX2_addSign_123 : decode cX2_addSign 123 = .ok (.iconst 0, 1) := by decide +kernel
theorem dX2_addSign_124 : decode cX2_addSign 124 = .ok (.invokevirtual 81, 3) := by decide +kernel
theorem dX2_addSign_127 : decode cX2_addSign 127 = .ok (.invokestatic 101, 3) := by decide +kernel
theorem dX2_addSign_130 : decode cX2_addSign 130 = .ok (.putfield 62, 3) := by decide +kernel
theorem dX2_addSign_133 : decode cX2_addSign 133 = .ok (.aload_n 0, 1) := by decide +kernel
theorem dX2_addSign_134 : decode cX2_addSign 134 = .ok (.dup, 1) := by decide +kernel
theorem dX2_addSign_135 : decode cX2_addSign 135 = .ok (.getfield 53, 3) := by decide +kernel
theorem dX2_addSign_138 : decode cX2_addSign 138 = .ok (.iconst 1, 1) := by decide +kernel
theorem dX2_addSign_139 : decode cX2_addSign 139 = .ok (.iadd, 1) := by decide +kernel
theorem dX2_addSign_140 : decode cX2_addSign 140 = .ok (.putfield 53, 3) := by decide +kernel
theorem dX2_addSign_143 : decode cX2_addSign 143 = .ok (.return_, 1) := by decide +kernel
theorem dX2_addSyllable_0 : decode cX2_addSyllable 0 = .ok (.aload_n 0, 1) := by decide +kernel
theorem dX2_addSyllable_1 : decode cX2_addSyllable 1 = .ok (.getfield 56, 3) := by decide +kernel
theorem dX2_addSyllable_4 : decode cX2_addSyllable 4 = .ok (.iconst 3, 1) := by decide +kernel
theorem dX2_addSyllable_5 : decode cX2_addSyllable 5 = .ok (.imul, 1) := by decide +kernel
theorem dX2_addSyllable_6 : decode cX2_addSyllable 6 = .ok (.istore_n 2, 1) := by decide +kernel
theorem dX2_addSyllable_7 : decode cX2_addSyllable 7 = .ok (.aload_n 0, 1) := by decide +kernel
theorem dX2_addSyllable_8 : decode cX2_addSyllable 8 = .ok (.getfield 20, 3) := by decide +kernel
theorem dX2_addSyllable_11 : decode cX2_addSyllable 11 = .ok (.iload_n 2, 1) := by decide +kernel
theorem dX2_addSyllable_12 : decode cX2_addSyllable 12 = .ok (.aload_n 0, 1) := by decide +kernel
theorem dX2_addSyllable_13 : decode cX2_addSyllable 13 = .ok (.getfield 32, 3) := by decide +kernel
theorem dX2_addSyllable_16 : decode cX2_addSyllable 16 = .ok (.aload_n 0, 1) := by decide +kernel
theorem dX2_addSyllable_17 : decode cX2_addSyllable 17 = .ok (.getfield 59, 3) := by decide +kernel
theorem dX2_addSyllable_20 : decode cX2_addSyllable 20 = .ok (.iadd, 1) := by decide +kernel
theorem dX2_addSyllable_21 : decode cX2_addSyllable 21 = .ok (.invokevirtual 97, 3) := by decide +kernel
theorem dX2_addSyllable_24 : decode cX2_addSyllable 24 = .ok (.aload_n 0, 1) := by decide +kernel
theorem dX2_addSyllable_25 : decode cX2_addSyllable 25 = .ok (.getfield 20, 3) := by decide +kernel
theorem dX2_addSyllable_28 : decode cX2_addSyllable 28 = .ok (.iload_n 2, 1) := by decide +kernel
theorem dX2_addSyllable_29 : decode cX2_addSyllable 29 = .ok (.iconst 1, 1) := by decide +kernel
theorem dX2_addSyllable_30 : decode cX2_addSyllable 30 = .ok (.iadd, 1) := by decide +kernel
theorem dX2_addSyllable_31 : decode cX2_addSyllable 31 = .ok (.iload_n 1, 1) := by decide +kernel
theorem dX2_addSyllable_32 : decode cX2_addSyllable 32 = .ok (.invokevirtual 97, 3) := by decide +kernel
theorem dX2_addSyllable_35 : decode cX2_addSyllable 35 = .ok (.aload_n 0, 1) := by decide +kernel
theorem dX2_addSyllable_36 : decode cX2_addSyllable 36 = .ok (.getfield 20, 3) := by decide +kernel
theorem dX2_addSyllable_39 : decode cX2_addSyllable 39 = .ok (.iload_n 2, 1) := by decide +kernel
theorem dX2_addSyllable_40 : decode cX2_addSyllable 40 = .ok (.iconst 2, 1) := by decide +kernel
theorem dX2_addSyllable_41 : decode cX2_addSyllable 41 = .ok (.iadd, 1) := by decide +kernel
theorem dX2_addSyllable_42 : decode cX2_addSyllable 42 = .ok (.iconst 0, 1) := by decide +kernel
theorem dX2_addSyllable_43 : decode cX2_addSyllable 43 = .ok (.invokevirtual 97, 3) := by decide +kernel
theorem dX2_addSyllable_46 : decode cX2_addSyllable 46 = .ok (.aload_n 0, 1) := by decide +kernel
theorem dX2_addSyllable_47 : decode cX2_addSyllable 47 = .ok (.dup, 1) := by decide +kernel
theorem dX2_addSyllable_48 : decode cX2_addSyllable 48 = .ok (.getfield 59, 3) := by decide +kernel
theorem dX2_addSyllable_51 : decode cX2_addSyllable 51 = .ok (.iload_n 1, 1) := by decide +kernel
theorem dX2_addSyllable_52 : decode cX2_addSyllable 52 = .ok (.iadd, 1) := by decide +kernel
theorem dX2_addSyllable_53 : decode cX2_addSyllable 53 = .ok (.putfield 59, 3) := by decide +kernel
theorem dX2_addSyllable_56 : decode cX2_addSyllable 56 = .ok (.aload_n 0, 1) := by decide +kernel
theorem dX2_addSyllable_57 : decode cX2_addSyllable 57 = .ok (.dup, 1) := by decide +kernel
theorem dX2_addSyllable_58 : decode cX2_addSyllable 58 = .ok (.getfield 56, 3) := by decide +kernel
theorem dX2_addSyllable_61 : decode cX2_addSyllable 61 = .ok (.iconst 1, 1) := by decide +kernel
theorem dX2_addSyllable_62 : decode cX2_addSyllable 62 = .ok (.iadd, 1) := by decide +kernel
theorem dX2_addSyllable_63 : decode cX2_addSyllable 63 = .ok (.putfield 56, 3) := by decide +kernel
theorem dX2_addSyllable_66 : decode cX2_addSyllable 66 = .ok (.return_, 1) := by decide +kernel
theorem dX2_hasSign_0 : decode cX2_hasSign 0 = .ok (.iload_n 1, 1) := by decide +kernel
theorem dX2_hasSign_1 : decode cX2_hasSign 1 = .ok (.ifCond .lt 15, 3) := by decide +kernel
theorem dX2_hasSign_4 : decode cX2_hasSign 4 = .ok (.iload_n 1, 1) := by decide +kernel
theorem dX2_hasSign_5 : decode cX2_hasSign 5 = .ok (.aload_n 0, 1) := by decide +kernel
theorem dX2_hasSign_6 : decode cX2_hasSign 6 = .ok (.getfield 53, 3) := by decide +kernel
theorem dX2_hasSign_9 : decode cX2_hasSign 9 = .ok (.if_icmp .ge 7, 3) := by decide +kernel
theorem dX2_hasSign_12 : decode cX2_hasSign 12 = .ok (.iconst 1, 1) := by decide +kernel
theorem dX2_hasSign_13 : decode cX2_hasSign 13 = .ok (.goto 4, 3) := by decide +kernel
theorem dX2_hasSign_16 : decode cX2_hasSign 16 = .ok (.iconst 0, 1) := by decide +kernel
theorem dX2_hasSign_17 : decode cX2_hasSign 17 = .ok (.ireturn, 1) := by decide +kernel
theorem dX2_signNumber_0 : decode cX2_signNumber 0 = .ok (.aload_n 0, 1) := by decide +kernel
theorem dX2_signNumber_1 : decode cX2_signNumber 1 = .ok (.getfield 14, 3) := by decide +kernel
theorem dX2_signNumber_4 : decode cX2_signNumber 4 = .ok (.iload_n 1, 1) := by decide +kernel
theorem dX2_signNumber_5 : decode cX2_signNumber 5 = .ok (.bipush 6, 2) := by decide +kernel
theorem dX2_signNumber_7 : decode cX2_signNumber 7 = .ok (.imul, 1) := by decide +kernel
theorem dX2_signNumber_8 : decode cX2_signNumber 8 = .ok (.iload_n 2, 1) := by decide +kernel
theorem dX2_signNumber_9 : decode cX2_signNumber 9 = .ok (.iadd, 1) := by decide +kernel
theorem dX2_signNumber_10 : decode cX2_signNumber 10 = .ok (.invokevirtual 81, 3) := by decide +kernel
theorem dX2_signNumber_13 : decode cX2_signNumber 13 = .ok (.ireturn, 1) := by decide +kernel
theorem dX2_hasSyllable_0 : decode cX2_hasSyllable 0 = .ok (.iload_n 1, 1) := by decide +kernel
theorem dX2_hasSyllable_1 : decode cX2_hasSyllable 1 = .ok (.ifCond .lt 15, 3) := by decide +kernel
theorem dX2_hasSyllable_4 : decode cX2_hasSyllable 4 = .ok (.iload_n 1, 1) := by decide +kernel
theorem dX2_hasSyllable_5 : decode cX2_hasSyllable 5 = .ok (.aload_n 0, 1) := by decide +kernel
theorem dX2_hasSyllable_6 : decode cX2_hasSyllable 6 = .ok (.getfield 56, 3) := by decide +kernel
theorem dX2_hasSyllable_9 : decode cX2_hasSyllable 9 = .ok (.if_icmp .ge 7, 3) := by decide +kernel
theorem dX2_hasSyllable_12 : decode cX2_hasSyllable 12 = .ok (.iconst 1, 1) := by decide +kernel
theorem dX2_hasSyllable_13 : decode cX2_hasSyllable 13 = .ok (.goto 4, 3) := by decide +kernel
theorem dX2_hasSyllable_16 : decode cX2_hasSyllable 16 = .ok (.iconst 0, 1) := by decide +kernel
theorem dX2_hasSyllable_17 : decode cX2_hasSyllable 17 = .ok (.ireturn, 1) := by decide +kernel
theorem dX2_syllableNumber_0 : decode cX2_syllableNumber 0 = .ok (.aload_n 0, 1) := by decide +kernel
theorem dX2_syllableNumber_1 : decode cX2_syllableNumber 1 = .ok (.getfield 20, 3) := by decide +kernel
theorem dX2_syllableNumber_4 : decode cX2_syllableNumber 4 = .ok (.iload_n 1, 1) := by decide +kernel
theorem dX2_syllableNumber_5 : decode cX2_syllableNumber 5 = .ok (.iconst 3, 1) := by decide +kernel
theorem dX2_syllableNumber_6 : decode cX2_syllableNumber 6 = .ok (.imul, 1) := by decide +kernel
theorem dX2_syllableNumber_7 : decode cX2_syllableNumber 7 = .ok (.iload_n 2, 1) := by decide +kernel
theorem dX2_syllableNumber_8 : decode cX2_syllableNumber 8 = .ok (.iadd, 1) := by decide +kernel
theorem dX2_syllableNumber_9 : decode cX2_syllableNumber 9 = .ok (.invokevirtual 81, 3) := by decide +kernel
theorem dX2_syllableNumber_12 : decode cX2_syllableNumber 12 = .ok (.ireturn, 1) := by decide +kernel
theorem dX2_isShownAt_0 : decode cX2_isShownAt 0 = .ok (.aload_n 0, 1) := by decide +kernel
theorem dX2_isShownAt_1 : decode cX2_isShownAt 1 = .ok (.getfield 32, 3) := by decide +kernel
theorem dX2_isShownAt_4 : decode cX2_isShownAt 4 = .ok (.iload_n 1, 1) := by decide +kernel
theorem dX2_isShownAt_5 : decode cX2_isShownAt 5 = .ok (.if_icmp .gt 15, 3) := by decide +kernel
theorem dX2_isShownAt_8 : decode cX2_isShownAt 8 = .ok (.iload_n 1, 1) := by decide +kernel
theorem dX2_isShownAt_9 : decode cX2_isShownAt 9 = .ok (.aload_n 0, 1) := by decide +kernel
theorem dX2_isShownAt_10 : decode cX2_isShownAt 10 = .ok (.getfield 36, 3) := by decide +kernel
theorem dX2_isShownAt_13 : decode cX2_isShownAt 13 = .ok (.if_icmp .ge 7, 3) := by decide +kernel
theorem dX2_isShownAt_16 : decode cX2_isShownAt 16 = .ok (.iconst 1, 1) := by decide +kernel
theorem dX2_isShownAt_17 : decode cX2_isShownAt 17 = .ok (.goto 4, 3) := by decide +kernel
theorem dX2_isShownAt_20 : decode cX2_isShownAt 20 = .ok (.iconst 0, 1) := by decide +kernel
theorem dX2_isShownAt_21 : decode cX2_isShownAt 21 = .ok (.ireturn, 1) := by decide +kernel
theorem dX2_isSungAt_0 : decode cX2_isSungAt 0 = .ok (.aload_n 0, 1) := by decide +kernel
theorem dX2_isSungAt_1 : decode cX2_isSungAt 1 = .ok (.iload_n 1, 1) := by decide +kernel
theorem dX2_isSungAt_2 : decode cX2_isSungAt 2 = .ok (.iconst 5, 1) := by decide +kernel
theorem dX2_isSungAt_3 : decode cX2_isSungAt 3 = .ok (.invokevirtual 106, 3) := by decide +kernel
theorem dX2_isSungAt_6 : decode cX2_isSungAt 6 = .ok (.istore_n 3, 1) := by decide +kernel
theorem dX2_isSungAt_7 : decode cX2_isSungAt 7 = .ok (.iload_n 3, 1) := by decide +kernel
theorem dX2_isSungAt_8 : decode cX2_isSungAt 8 = .ok (.bipush (-9), 2) := by decide +kernel
theorem dX2_isSungAt_10 : decode cX2_isSungAt 10 = .ok (.if_icmp .eq 17, 3) := by decide +kernel
theorem dX2_isSungAt_13 : decode cX2_isSungAt 13 = .ok (.aload_n 0, 1) := by decide +kernel
theorem dX2_isSungAt_14 : decode cX2_isSungAt 14 = .ok (.iload_n 3, 1) := by decide +kernel
theorem dX2_isSungAt_15 : decode cX2_isSungAt 15 = .ok (.iconst 0, 1) := by decide +kernel
theorem dX2_isSungAt_16 : decode cX2_isSungAt 16 = .ok (.invokevirtual 109, 3) := by decide +kernel
theorem dX2_isSungAt_19 : decode cX2_isSungAt 19 = .ok (.iload_n 2, 1) := by decide +kernel
theorem dX2_isSungAt_20 : decode cX2_isSungAt 20 = .ok (.if_icmp .gt 7, 3) := by decide +kernel
theorem dX2_isSungAt_23 : decode cX2_isSungAt 23 = .ok (.iconst 1, 1) := by decide +kernel
theorem dX2_isSungAt_24 : decode cX2_isSungAt 24 = .ok (.goto 4, 3) := by decide +kernel
theorem dX2_isSungAt_27 : decode cX2_isSungAt 27 = .ok (.iconst 0, 1) := by decide +kernel
theorem dX2_isSungAt_28 : decode cX2_isSungAt 28 = .ok (.ireturn, 1) := by decide +kernel
theorem dX2_countSungAt_0 : decode cX2_countSungAt 0 = .ok (.iconst 0, 1) := by decide +kernel
theorem dX2_countSungAt_1 : decode cX2_countSungAt 1 = .ok (.istore_n 2, 1) := by decide +kernel
theorem dX2_countSungAt_2 : decode cX2_countSungAt 2 = .ok (.iconst 0, 1) := by decide +kernel
theorem dX2_countSungAt_3 : decode cX2_countSungAt 3 = .ok (.istore_n 3, 1) := by decide +kernel
theorem dX2_countSungAt_4 : decode cX2_countSungAt 4 = .ok (.iload_n 3, 1) := by decide +kernel
theorem dX2_countSungAt_5 : decode cX2_countSungAt 5 = .ok (.aload_n 0, 1) := by decide +kernel
theorem dX2_countSungAt_6 : decode cX2_countSungAt 6 = .ok (.getfield 53, 3) := by decide +kernel
theorem dX2_countSungAt_9 : decode cX2_countSungAt 9 = .ok (.if_icmp .ge 21, 3) := by decide +kernel
theorem dX2_countSungAt_12 : decode cX2_countSungAt 12 = .ok (.aload_n 0, 1) := by decide +kernel
theorem dX2_countSungAt_13 : decode cX2_countSungAt 13 = .ok (.iload_n 3, 1) := by decide +kernel
theorem dX2_countSungAt_14 : decode cX2_countSungAt 14 = .ok (.iload_n 1, 1) := by decide +kernel
theorem dX2_countSungAt_15 : decode cX2_countSungAt 15 = .ok (.invokevirtual 112, 3) := by decide +kernel
theorem dX2_countSungAt_18 : decode cX2_countSungAt 18 = .ok (.ifCond .eq 6, 3) := by decide +kernel
theorem dX2_countSungAt_21 : decode cX2_countSungAt 21 = .ok (.iinc 2 1, 3) := by decide +kernel
theorem dX2_countSungAt_24 : decode cX2_countSungAt 24 = .ok (.iinc 3 1, 3) := by decide +kernel
theorem dX2_countSungAt_27 : decode cX2_countSungAt 27 = .ok (.goto (-23), 3) := by decide +kernel
theorem dX2_countSungAt_30 : decode cX2_countSungAt 30 = .ok (.iload_n 2, 1) := by decide +kernel
theorem dX2_countSungAt_31 : decode cX2_countSungAt 31 = .ok (.ireturn, 1) := by decide +kernel
theorem dX2_countUnlike_0 : decode cX2_countUnlike 0 = .ok (.iconst 0, 1) := by decide +kernel
theorem dX2_countUnlike_1 : decode cX2_countUnlike 1 = .ok (.istore_n 2, 1) := by decide +kernel
theorem dX2_countUnlike_2 : decode cX2_countUnlike 2 = .ok (.iconst 0, 1) := by decide +kernel
theorem dX2_countUnlike_3 : decode cX2_countUnlike 3 = .ok (.istore_n 3, 1) := by decide +kernel
theorem dX2_countUnlike_4 : decode cX2_countUnlike 4 = .ok (.iload_n 3, 1) := by decide +kernel
theorem dX2_countUnlike_5 : decode cX2_countUnlike 5 = .ok (.aload_n 0, 1) := by decide +kernel
theorem dX2_countUnlike_6 : decode cX2_countUnlike 6 = .ok (.getfield 53, 3) := by decide +kernel
theorem dX2_countUnlike_9 : decode cX2_countUnlike 9 = .ok (.if_icmp .ge 21, 3) := by decide +kernel
theorem dX2_countUnlike_12 : decode cX2_countUnlike 12 = .ok (.aload_n 0, 1) := by decide +kernel
theorem dX2_countUnlike_13 : decode cX2_countUnlike 13 = .ok (.iload_n 3, 1) := by decide +kernel
theorem dX2_countUnlike_14 : decode cX2_countUnlike 14 = .ok (.aload_n 1, 1) := by decide +kernel
theorem dX2_countUnlike_15 : decode cX2_countUnlike 15 = .ok (.invokevirtual 116, 3) := by decide +kernel
theorem dX2_countUnlike_18 : decode cX2_countUnlike 18 = .ok (.ifCond .eq 6, 3) := by decide +kernel
theorem dX2_countUnlike_21 : decode cX2_countUnlike 21 = .ok (.iinc 2 1, 3) := by decide +kernel
theorem dX2_countUnlike_24 : decode cX2_countUnlike 24 = .ok (.iinc 3 1, 3) := by decide +kernel
theorem dX2_countUnlike_27 : decode cX2_countUnlike 27 = .ok (.goto (-23), 3) := by decide +kernel
theorem dX2_countUnlike_30 : decode cX2_countUnlike 30 = .ok (.iload_n 2, 1) := by decide +kernel
theorem dX2_countUnlike_31 : decode cX2_countUnlike 31 = .ok (.ireturn, 1) := by decide +kernel
theorem dX2_isUnlike_0 : decode cX2_isUnlike 0 = .ok (.iconst 0, 1) := by decide +kernel
theorem dX2_isUnlike_1 : decode cX2_isUnlike 1 = .ok (.istore_n 3, 1) := by decide +kernel
theorem dX2_isUnlike_2 : decode cX2_isUnlike 2 = .ok (.iload_n 3, 1) := by decide +kernel
theorem dX2_isUnlike_3 : decode cX2_isUnlike 3 = .ok (.iconst 4, 1) := by decide +kernel
theorem dX2_isUnlike_4 : decode cX2_isUnlike 4 = .ok (.if_icmp .ge 33, 3) := by decide +kernel
theorem dX2_isUnlike_7 : decode cX2_isUnlike 7 = .ok (.iconst 1, 1) := by decide +kernel
theorem dX2_isUnlike_8 : decode cX2_isUnlike 8 = .ok (.iload_n 3, 1) := by decide +kernel
theorem dX2_isUnlike_9 : decode cX2_isUnlike 9 = .ok (.iadd, 1) := by decide +kernel
theorem dX2_isUnlike_10 : decode cX2_isUnlike 10 = .ok (.istore 4, 2) := by decide +kernel
theorem dX2_isUnlike_12 : decode cX2_isUnlike 12 = .ok (.aload_n 0, 1) := by decide +kernel
theorem dX2_isUnlike_13 : decode cX2_isUnlike 13 = .ok (.iload_n 1, 1) := by decide +kernel
theorem dX2_isUnlike_14 : decode cX2_isUnlike 14 = .ok (.iload 4, 2) := by decide +kernel
theorem dX2_isUnlike_16 : decode cX2_isUnlike 16 = .ok (.invokevirtual 106, 3) := by decide +kernel
theorem dX2_isUnlike_19 : decode cX2_isUnlike 19 = .ok (.aload_n 2, 1) := by decide +kernel
theorem dX2_isUnlike_20 : decode cX2_isUnlike 20 = .ok (.iload_n 1, 1) := by decide +kernel
theorem dX2_isUnlike_21 : decode cX2_isUnlike 21 = .ok (.iload 4, 2) := by decide +kernel
theorem dX2_isUnlike_23 : decode cX2_isUnlike 23 = .ok (.invokevirtual 106, 3) := by decide +kernel
theorem dX2_isUnlike_26 : decode cX2_isUnlike 26 = .ok (.if_icmp .eq 5, 3) := by decide +kernel
theorem dX2_isUnlike_29 : decode cX2_isUnlike 29 = .ok (.iconst 1, 1) := by decide +kernel
theorem dX2_isUnlike_30 : decode cX2_isUnlike 30 = .ok (.ireturn, 1) := by decide +kernel
theorem dX2_isUnlike_31 : decode cX2_isUnlike 31 = .ok (.iinc 3 1, 3) := by decide +kernel
theorem dX2_isUnlike_34 : decode cX2_isUnlike 34 = .ok (.goto (-32), 3) := by decide +kernel
theorem dX2_isUnlike_37 : decode cX2_isUnlike 37 = .ok (.iconst 0, 1) := by decide +kernel
theorem dX2_isUnlike_38 : decode cX2_isUnlike 38 = .ok (.ireturn, 1) := by decide +kernel
theorem dX2_blocks_0 : decode cX2_blocks 0 = .ok (.aload_n 0, 1) := by decide +kernel
theorem dX2_blocks_1 : decode cX2_blocks 1 = .ok (.getfield 46, 3) := by decide +kernel
theorem dX2_blocks_4 : decode cX2_blocks 4 = .ok (.aload_n 1, 1) := by decide +kernel
theorem dX2_blocks_5 : decode cX2_blocks 5 = .ok (.getfield 46, 3) := by decide +kernel
theorem dX2_blocks_8 : decode cX2_blocks 8 = .ok (.if_icmp .ne 44, 3) := by decide +kernel
theorem dX2_blocks_11 : decode cX2_blocks 11 = .ok (.aload_n 1, 1) := by decide +kernel
theorem dX2_blocks_12 : decode cX2_blocks 12 = .ok (.getfield 32, 3) := by decide +kernel
theorem dX2_blocks_15 : decode cX2_blocks 15 = .ok (.aload_n 0, 1) := by decide +kernel
theorem dX2_blocks_16 : decode cX2_blocks 16 = .ok (.getfield 36, 3) := by decide +kernel
theorem dX2_blocks_19 : decode cX2_blocks 19 = .ok (.if_icmp .ge 33, 3) := by decide +kernel
theorem dX2_blocks_22 : decode cX2_blocks 22 = .ok (.iload_n 2, 1) := by decide +kernel
theorem dX2_blocks_23 : decode cX2_blocks 23 = .ok (.aload_n 0, 1) := by decide +kernel
theorem dX2_blocks_24 : decode cX2_blocks 24 = .ok (.getfield 120, 3) := by decide +kernel
theorem dX2_blocks_27 : decode cX2_blocks 27 = .ok (.aload_n 0, 1) := by decide +kernel
theorem dX2_blocks_28 : decode cX2_blocks 28 = .ok (.getfield 62, 3) := by decide +kernel
theorem dX2_blocks_31 : decode cX2_blocks 31 = .ok (.iadd, 1) := by decide +kernel
theorem dX2_blocks_32 : decode cX2_blocks 32 = .ok (.if_icmp .ge 20, 3) := by decide +kernel
theorem dX2_blocks_35 : decode cX2_blocks 35 = .ok (.aload_n 0, 1) := by decide +kernel
theorem dX2_blocks_36 : decode cX2_blocks 36 = .ok (.getfield 120, 3) := by decide +kernel
theorem dX2_blocks_39 : decode cX2_blocks 39 = .ok (.iload_n 2, 1) := by decide +kernel
theorem dX2_blocks_40 : decode cX2_blocks 40 = .ok (.aload_n 1, 1) := by decide +kernel
theorem dX2_blocks_41 : decode cX2_blocks 41 = .ok (.getfield 62, 3) := by decide +kernel
theorem dX2_blocks_44 : decode cX2_blocks 44 = .ok (.iadd, 1) := by decide +kernel
theorem dX2_blocks_45 : decode cX2_blocks 45 = .ok (.if_icmp .ge 7, 3) := by decide +kernel
theorem dX2_blocks_48 : decode cX2_blocks 48 = .ok (.iconst 1, 1) := by decide +kernel
theorem dX2_blocks_49 : decode cX2_blocks 49 = .ok (.goto 4, 3) := by decide +kernel
theorem dX2_blocks_52 : decode cX2_blocks 52 = .ok (.iconst 0, 1) := by decide +kernel
theorem dX2_blocks_53 : decode cX2_blocks 53 = .ok (.ireturn, 1) := by decide +kernel
theorem dX2_isAheadOf_0 : decode cX2_isAheadOf 0 = .ok (.aload_n 0, 1) := by decide +kernel
theorem dX2_isAheadOf_1 : decode cX2_isAheadOf 1 = .ok (.getfield 46, 3) := by decide +kernel
theorem dX2_isAheadOf_4 : decode cX2_isAheadOf 4 = .ok (.aload_n 1, 1) := by decide +kernel
theorem dX2_isAheadOf_5 : decode cX2_isAheadOf 5 = .ok (.getfield 46, 3) := by decide +kernel
theorem dX2_isAheadOf_8 : decode cX2_isAheadOf 8 = .ok (.if_icmp .lt 25, 3) := by decide +kernel
theorem dX2_isAheadOf_11 : decode cX2_isAheadOf 11 = .ok (.aload_n 0, 1) := by decide +kernel
theorem dX2_isAheadOf_12 : decode cX2_isAheadOf 12 = .ok (.getfield 46, 3) := by decide +kernel
theorem dX2_isAheadOf_15 : decode cX2_isAheadOf 15 = .ok (.aload_n 1, 1) := by decide +kernel
theorem dX2_isAheadOf_16 : decode cX2_isAheadOf 16 = .ok (.getfield 46, 3) := by decide +kernel
theorem dX2_isAheadOf_19 : decode cX2_isAheadOf 19 = .ok (.if_icmp .ne 18, 3) := by decide +kernel
theorem dX2_isAheadOf_22 : decode cX2_isAheadOf 22 = .ok (.aload_n 0, 1) := by decide +kernel
theorem dX2_isAheadOf_23 : decode cX2_isAheadOf 23 = .ok (.getfield 120, 3) := by decide +kernel
theorem dX2_isAheadOf_26 : decode cX2_isAheadOf 26 = .ok (.aload_n 1, 1) := by decide +kernel
theorem dX2_isAheadOf_27 : decode cX2_isAheadOf 27 = .ok (.getfield 120, 3) := by decide +kernel
theorem dX2_isAheadOf_30 : decode cX2_isAheadOf 30 = .ok (.if_icmp .ge 7, 3) := by decide +kernel
theorem dX2_isAheadOf_33 : decode cX2_isAheadOf 33 = .ok (.iconst 1, 1) := by decide +kernel
theorem dX2_isAheadOf_34 : decode cX2_isAheadOf 34 = .ok (.goto 4, 3) := by decide +kernel
theorem dX2_isAheadOf_37 : decode cX2_isAheadOf 37 = .ok (.iconst 0, 1) := by decide +kernel
theorem dX2_isAheadOf_38 : decode cX2_isAheadOf 38 = .ok (.ireturn, 1) := by decide +kernel
theorem dX3_init_0 : decode cX3_init 0 = .ok (.aload_n 0, 1) := by decide +kernel
theorem dX3_init_1 : decode cX3_init 1 = .ok (.invokespecial 3, 3) := by decide +kernel
theorem dX3_init_4 : decode cX3_init 4 = .ok (.aload_n 0, 1) := by decide +kernel
theorem dX3_init_5 : decode cX3_init 5 = .ok (.bipush 16, 2) := by decide +kernel
theorem dX3_init_7 : decode cX3_init 7 = .ok (.anewarray 9, 3) := by decide +kernel
theorem dX3_init_10 : decode cX3_init 10 = .ok (.putfield 11, 3) := by decide +kernel
theorem dX3_init_13 : decode cX3_init 13 = .ok (.iconst 0, 1) := by decide +kernel
theorem dX3_init_14 : decode cX3_init 14 = .ok (.istore_n 1, 1) := by decide +kernel
theorem dX3_init_15 : decode cX3_init 15 = .ok (.iload_n 1, 1) := by decide +kernel
theorem dX3_init_16 : decode cX3_init 16 = .ok (.aload_n 0, 1) := by decide +kernel
theorem dX3_init_17 : decode cX3_init 17 = .ok (.getfield 11, 3) := by decide +kernel
theorem dX3_init_20 : decode cX3_init 20 = .ok (.arraylength, 1) := by decide +kernel
theorem dX3_init_21 : decode cX3_init 21 = .ok (.if_icmp .ge 22, 3) := by decide +kernel
theorem dX3_init_24 : decode cX3_init 24 = .ok (.aload_n 0, 1) := by decide +kernel
theorem dX3_init_25 : decode cX3_init 25 = .ok (.getfield 11, 3) := by decide +kernel
theorem dX3_init_28 : decode cX3_init 28 = .ok (.iload_n 1, 1) := by decide +kernel
theorem dX3_init_29 : decode cX3_init 29 = .ok (.new 9, 3) := by decide +kernel
theorem dX3_init_32 : decode cX3_init 32 = .ok (.dup, 1) := by decide +kernel
theorem dX3_init_33 : decode cX3_init 33 = .ok (.invokespecial 17, 3) := by decide +kernel
theorem dX3_init_36 : decode cX3_init 36 = .ok (.aastore, 1) := by decide +kernel
theorem dX3_init_37 : decode cX3_init 37 = .ok (.iinc 1 1, 3) := by decide +kernel
theorem dX3_init_40 : decode cX3_init 40 = .ok (.goto (-25), 3) := by decide +kernel
theorem dX3_init_43 : decode cX3_init 43 = .ok (.aload_n 0, 1) := by decide +kernel
theorem dX3_init_44 : decode cX3_init 44 = .ok (.iconst 0, 1) := by decide +kernel
theorem dX3_init_45 : decode cX3_init 45 = .ok (.putfield 18, 3) := by decide +kernel
theorem dX3_init_48 : decode cX3_init 48 = .ok (.aload_n 0, 1) := by decide +kernel
theorem dX3_init_49 : decode cX3_init 49 = .ok (.new 22, 3) := by decide +kernel
theorem dX3_init_52 : decode cX3_init 52 = .ok (.dup, 1) := by decide +kernel
theorem dX3_init_53 : decode cX3_init 53 = .ok (.bipush 16, 2) := by decide +kernel
theorem dX3_init_55 : decode cX3_init 55 = .ok (.invokespecial 24, 3) := by decide +kernel
theorem dX3_init_58 : decode cX3_init 58 = .ok (.putfield 27, 3) := by decide +kernel
theorem dX3_init_61 : decode cX3_init 61 = .ok (.return_, 1) := by decide +kernel
theorem dX3_draw_0 : decode cX3_draw 0 = .ok (.aload_n 0, 1) := by decide +kernel
theorem dX3_draw_1 : decode cX3_draw 1 = .ok (.aload_n 1, 1) := by decide +kernel
theorem dX3_draw_2 : decode cX3_draw 2 = .ok (.getfield 31, 3) := by decide +kernel
theorem dX3_draw_5 : decode cX3_draw 5 = .ok (.putfield 18, 3) := by decide +kernel
theorem dX3_draw_8 : decode cX3_draw 8 = .ok (.iconst 0, 1) := by decide +kernel
theorem dX3_draw_9 : decode cX3_draw 9 = .ok (.istore_n 2, 1) := by decide +kernel
theorem dX3_draw_10 : decode cX3_draw 10 = .ok (.iload_n 2, 1) := by decide +kernel
theorem dX3_draw_11 : decode cX3_draw 11 = .ok (.aload_n 0, 1) := by decide +kernel
theorem dX3_draw_12 : decode cX3_draw 12 = .ok (.getfield 18, 3) := by decide +kernel
theorem dX3_draw_15 : decode cX3_draw 15 = .ok (.if_icmp .ge 41, 3) := by decide +kernel
theorem dX3_draw_18 : decode cX3_draw 18 = .ok (.aload_n 1, 1) := by decide +kernel
theorem dX3_draw_19 : decode cX3_draw 19 = .ok (.iload_n 2, 1) := by decide +kernel
theorem dX3_draw_20 : decode cX3_draw 20 = .ok (.invokevirtual 34, 3) := by decide +kernel
theorem dX3_draw_23 : decode cX3_draw 23 = .ok (.astore_n 3, 1) := by decide +kernel
theorem dX3_draw_24 : decode cX3_draw 24 = .ok (.aload_n 0, 1) := by decide +kernel
theorem dX3_draw_25 : decode cX3_draw 25 = .ok (.iload_n 2, 1) := by decide +kernel
theorem dX3_draw_26 : decode cX3_draw 26 = .ok (.invokevirtual 38, 3) := by decide +kernel
theorem dX3_draw_29 : decode cX3_draw 29 = .ok (.astore 4, 2) := by decide +kernel
theorem dX3_draw_31 : decode cX3_draw 31 = .ok (.aload_n 3, 1) := by decide +kernel
theorem dX3_draw_32 : decode cX3_draw 32 = .ok (.ifnull 18, 3) := by decide +kernel
theorem dX3_draw_35 : decode cX3_draw 35 = .ok (.aload 4, 2) := by decide +kernel
theorem dX3_draw_37 : decode cX3_draw 37 = .ok (.ifnull 13, 3) := by decide +kernel
theorem dX3_draw_40 : decode cX3_draw 40 = .ok (.aload 4, 2) := by decide +kernel
theorem dX3_draw_42 : decode cX3_draw 42 = .ok (.aload_n 3, 1) := by decide +kernel
theorem dX3_draw_43 : decode cX3_draw 43 = .ok (.aload_n 1, 1) := by decide +kernel
theorem dX3_draw_44 : decode cX3_draw 44 = .ok (.getfield 42, 3) := by decide +kernel
theorem dX3_draw_47 : decode cX3_draw 47 = .ok (.invokevirtual 46, 3) := by decide +kernel
theorem dX3_draw_50 : decode cX3_draw 50 = .ok (.iinc 2 1, 3) := by decide +kernel
theorem dX3_draw_53 : decode cX3_draw 53 = .ok (.goto (-43), 3) := by decide +kernel
theorem dX3_draw_56 : decode cX3_draw 56 = .ok (.aload_n 0, 1) := by decide +kernel
theorem dX3_draw_57 : decode cX3_draw 57 = .ok (.invokevirtual 50, 3) := by decide +kernel
theorem dX3_draw_60 : decode cX3_draw 60 = .ok (.iconst 0, 1) := by decide +kernel
theorem dX3_draw_61 : decode cX3_draw 61 = .ok (.istore_n 2, 1) := by decide +kernel
theorem dX3_draw_62 : decode cX3_draw 62 = .ok (.iload_n 2, 1) := by decide +kernel
theorem dX3_draw_63 : decode cX3_draw 63 = .ok (.aload_n 0, 1) := by decide +kernel
theorem dX3_draw_64 : decode cX3_draw 64 = .ok (.getfield 18, 3) := by decide +kernel
theorem dX3_draw_67 : decode cX3_draw 67 = .ok (.if_icmp .ge 36, 3) := by decide +kernel
theorem dX3_draw_70 : decode cX3_draw 70 = .ok (.aload_n 0, 1) := by decide +kernel
theorem dX3_draw_71 : decode cX3_draw 71 = .ok (.aload_n 0, 1) := by decide +kernel
theorem dX3_draw_72 : decode cX3_draw 72 = .ok (.getfield 27, 3) := by decide +kernel
theorem dX3_draw_75 : decode cX3_draw 75 = .ok (.iload_n 2, 1) := by decide +kernel
theorem dX3_draw_76 : decode cX3_draw 76 = .ok (.invokevirtual 53, 3) := by decide +kernel
theorem dX3_draw_79 : decode cX3_draw 79 = .ok (.invokevirtual 38, 3) := by decide +kernel
theorem dX3_draw_82 : decode cX3_draw 82 = .ok (.astore_n 3, 1) := by decide +kernel
theorem dX3_draw_83 : decode cX3_draw 83 = .ok (.aload_n 3, 1) := by decide +kernel
theorem dX3_draw_84 : decode cX3_draw 84 = .ok (.ifnull 13, 3) := by decide +kernel
theorem dX3_draw_87 : decode cX3_draw 87 = .ok (.aload_n 3, 1) := by decide +kernel
theorem dX3_draw_88 : decode cX3_draw 88 = .ok (.aload_n 0, 1) := by decide +kernel
theorem dX3_draw_89 : decode cX3_draw 89 = .ok (.aload_n 3, 1) := by decide +kernel
theorem dX3_draw_90 : decode cX3_draw 90 = .ok (.iload_n 2, 1) := by decide +kernel
theorem dX3_draw_91 : decode cX3_draw 91 = .ok (.invokevirtual 57, 3) := by decide +kernel
theorem dX3_draw_94 : decode cX3_draw 94 = .ok (.putfield 61, 3) := by decide +kernel
theorem dX3_draw_97 : decode cX3_draw 97 = .ok (.iinc 2 1, 3) := by decide +kernel
theorem dX3_draw_100 : decode cX3_draw 100 = .ok (.goto (-38), 3) := by decide +kernel
theorem dX3_draw_103 : decode cX3_draw 103 = .ok (.return_, 1) := by decide +kernel
theorem dX3_lookAt_0 : decode cX3_lookAt 0 = .ok (.iload_n 1, 1) := by decide +kernel
theorem dX3_lookAt_1 : decode cX3_lookAt 1 = .ok (.ifCond .lt 29, 3) := by decide +kernel
theorem dX3_lookAt_4 : decode cX3_lookAt 4 = .ok (.iload_n 1, 1) := by decide +kernel
theorem dX3_lookAt_5 : decode cX3_lookAt 5 = .ok (.aload_n 0, 1) := by decide +kernel
theorem dX3_lookAt_6 : decode cX3_lookAt 6 = .ok (.getfield 18, 3) := by decide +kernel
theorem dX3_lookAt_9 : decode cX3_lookAt 9 = .ok (.if_icmp .ge 21, 3) := by decide +kernel
theorem dX3_lookAt_12 : decode cX3_lookAt 12 = .ok (.iload_n 1, 1) := by decide +kernel
theorem dX3_lookAt_13 : decode cX3_lookAt 13 = .ok (.aload_n 0, 1) := by decide +kernel
theorem dX3_lookAt_14 : decode cX3_lookAt 14 = .ok (.getfield 11, 3) := by decide +kernel
theorem dX3_lookAt_17 : decode cX3_lookAt 17 = .ok (.arraylength, 1) := by decide +kernel
theorem dX3_lookAt_18 : decode cX3_lookAt 18 = .ok (.if_icmp .ge 12, 3) := by decide +kernel
theorem dX3_lookAt_21 : decode cX3_lookAt 21 = .ok (.aload_n 0, 1) := by decide +kernel
theorem dX3_lookAt_22 : decode cX3_lookAt 22 = .ok (.getfield 11, 3) := by decide +kernel
theorem dX3_lookAt_25 : decode cX3_lookAt 25 = .ok (.iload_n 1, 1) := by decide +kernel
theorem dX3_lookAt_26 : decode cX3_lookAt 26 = .ok (.aaload, 1) := by decide +kernel
theorem dX3_lookAt_27 : decode cX3_lookAt 27 = .ok (.goto 4, 3) := by decide +kernel
theorem dX3_lookAt_30 : decode cX3_lookAt 30 = .ok (.aconst_null, 1) := by decide +kernel
theorem dX3_lookAt_31 : decode cX3_lookAt 31 = .ok (.areturn, 1) := by decide +kernel
theorem dX3_beginOf_0 : decode cX3_beginOf 0 = .ok (.aload_n 0, 1) := by decide +kernel
theorem dX3_beginOf_1 : decode cX3_beginOf 1 = .ok (.iload_n 1, 1) := by decide +kernel
theorem dX3_beginOf_2 : decode cX3_beginOf 2 = .ok (.invokevirtual 38, 3) := by decide +kernel
theorem dX3_beginOf_5 : decode cX3_beginOf 5 = .ok (.astore_n 2, 1) := by decide +kernel
theorem dX3_beginOf_6 : decode cX3_beginOf 6 = .ok (.aload_n 2, 1) := by decide +kernel
theorem dX3_beginOf_7 : decode cX3_beginOf 7 = .ok (.ifnonnull 7, 3) := by decide +kernel
theorem dX3_beginOf_10 : decode cX3_beginOf 10 = .ok (.iconst 0, 1) := by decide +kernel
theorem dX3_beginOf_11 : decode cX3_beginOf 11 = .ok (.goto 7, 3) := by decide +kernel
theorem dX3_beginOf_14 : decode cX3_beginOf 14 = .ok (.aload_n 2, 1) := by decide +kernel
theorem dX3_beginOf_15 : decode cX3_beginOf 15 = .ok (.getfield 64, 3) := by decide +kernel
theorem dX3_beginOf_18 : decode cX3_beginOf 18 = .ok (.ireturn, 1) := by decide +kernel
theorem dX3_sortByBeginnings_0 : decode cX3_sortByBeginnings 0 = .ok (.iconst 0, 1) := by decide +kernel
theorem dX3_sortByBeginnings_1 : decode cX3_sortByBeginnings 1 = .ok (.istore_n 1, 1) := by decide +kernel
theorem dX3_sortByBeginnings_2 : decode cX3_sortByBeginnings 2 = .ok (.iload_n 1, 1) := by decide +kernel
theorem dX3_sortByBeginnings_3 : decode cX3_sortByBeginnings 3 = .ok (.aload_n 0, 1) := by decide +kernel
theorem dX3_sortByBeginnings_4 : decode cX3_sortByBeginnings 4 = .ok (.getfield 18, 3) := by decide +kernel
theorem dX3_sortByBeginnings_7 : decode cX3_sortByBeginnings 7 = .ok (.if_icmp .ge 70, 3) := by decide +kernel
theorem dX3_sortByBeginnings_10 : decode cX3_sortByBeginnings 10 = .ok (.iload_n 1, 1) := by decide +kernel
theorem dX3_sortByBeginnings_11 : decode cX3_sortByBeginnings 11 = .ok (.istore_n 2, 1) := by decide +kernel
theorem dX3_sortByBeginnings_12 : decode cX3_sortByBeginnings 12 = .ok (.iload_n 2, 1) := by decide +kernel
theorem dX3_sortByBeginnings_13 : decode cX3_sortByBeginnings 13 = .ok (.ifCond .le 49, 3) := by decide +kernel
theorem dX3_sortByBeginnings_16 : decode cX3_sortByBeginnings 16 = .ok (.aload_n 0, 1) := by decide +kernel
theorem dX3_sortByBeginnings_17 : decode cX3_sortByBeginnings 17 = .ok (.aload_n 0, 1) := by decide +kernel
theorem dX3_sortByBeginnings_18 : decode cX3_sortByBeginnings 18 = .ok (.getfield 27, 3) := by decide +kernel
theorem dX3_sortByBeginnings_21 : decode cX3_sortByBeginnings 21 = .ok (.iload_n 2, 1) := by decide +kernel
theorem dX3_sortByBeginnings_22 : decode cX3_sortByBeginnings 22 = .ok (.iconst 1, 1) := by decide +kernel
theorem dX3_sortByBeginnings_23 : decode cX3_sortByBeginnings 23 = .ok (.isub, 1) := by decide +kernel
theorem dX3_sortByBeginnings_24 : decode cX3_sortByBeginnings 24 = .ok (.invokevirtual 53, 3) := by decide +kernel
theorem dX3_sortByBeginnings_27 : decode cX3_sortByBeginnings 27 = .ok (.invokevirtual 67, 3) := by decide +kernel
theorem dX3_sortByBeginnings_30 : decode cX3_sortByBeginnings 30 = .ok (.aload_n 0, 1) := by decide +kernel
theorem dX3_sortByBeginnings_31 : decode cX3_sortByBeginnings 31 = .ok (.iload_n 1, 1) := by decide +kernel
theorem dX3_sortByBeginnings_32 : decode cX3_sortByBeginnings 32 = .ok (.invokevirtual 67, 3) := by decide +kernel
theorem dX3_sortByBeginnings_35 : decode cX3_sortByBeginnings 35 = .ok (.if_icmp .le 27, 3) := by decide +kernel
theorem dX3_sortByBeginnings_38 : decode cX3_sortByBeginnings 38 = .ok (.aload_n 0, 1) := by decide +kernel
theorem dX3_sortByBeginnings_39 : decode cX3_sortByBeginnings 39 = .ok (.getfield 27, 3) := by decide +kernel
theorem dX3_sortByBeginnings_42 : decode cX3_sortByBeginnings 42 = .ok (.iload_n 2, 1) := by decide +kernel
theorem dX3_sortByBeginnings_43 : decode cX3_sortByBeginnings 43 = .ok (.aload_n 0, 1) := by decide +kernel
theorem dX3_sortByBeginnings_44 : decode cX3_sortByBeginnings 44 = .ok (.getfield 27, 3) := by decide +kernel
theorem dX3_sortByBeginnings_47 : decode cX3_sortByBeginnings 47 = .ok (.iload_n 2, 1) := by decide +kernel
theorem dX3_sortByBeginnings_48 : decode cX3_sortByBeginnings 48 = .ok (.iconst 1, 1) := by decide +kernel
theorem dX3_sortByBeginnings_49 : decode cX3_sortByBeginnings 49 = .ok (.isub, 1) := by decide +kernel
theorem dX3_sortByBeginnings_50 : decode cX3_sortByBeginnings 50 = .ok (.invokevirtual 53, 3) := by decide +kernel
theorem dX3_sortByBeginnings_53 : decode cX3_sortByBeginnings 53 = .ok (.invokevirtual 70, 3) := by decide +kernel
theorem dX3_sortByBeginnings_56 : decode cX3_sortByBeginnings 56 = .ok (.iinc 2 (-1), 3) := by decide +kernel
theorem dX3_sortByBeginnings_59 : decode cX3_sortByBeginnings 59 = .ok (.goto (-47), 3) := by decide +kernel
theorem dX3_sortByBeginnings_62 : decode cX3_sortByBeginnings 62 = .ok (.aload_n 0, 1) := by decide +kernel
theorem dX3_sortByBeginnings_63 : decode cX3_sortByBeginnings 63 = .ok (.getfield 27, 3) := by decide +kernel
theorem dX3_sortByBeginnings_66 : decode cX3_sortByBeginnings 66 = .ok (.iload_n 2, 1) := by decide +kernel
theorem dX3_sortByBeginnings_67 : decode cX3_sortByBeginnings 67 = .ok (.iload_n 1, 1) := by decide +kernel
theorem dX3_sortByBeginnings_68 : decode cX3_sortByBeginnings 68 = .ok (.invokevirtual 70, 3) := by decide +kernel
theorem dX3_sortByBeginnings_71 : decode cX3_sortByBeginnings 71 = .ok (.iinc 1 1, 3) := by decide +kernel
theorem dX3_sortByBeginnings_74 : decode cX3_sortByBeginnings 74 = .ok (.goto (-72), 3) := by decide +kernel
theorem dX3_sortByBeginnings_77 : decode cX3_sortByBeginnings 77 = .ok (.return_, 1) := by decide +kernel
theorem dX3_freeOffset_0 : decode cX3_freeOffset 0 = .ok (.aload_n 1, 1) := by decide +kernel
theorem dX3_freeOffset_1 : decode cX3_freeOffset 1 = .ok (.getfield 74, 3) := by decide +kernel
theorem dX3_freeOffset_4 : decode cX3_freeOffset 4 = .ok (.istore_n 3, 1) := by decide +kernel
theorem dX3_freeOffset_5 : decode cX3_freeOffset 5 = .ok (.iconst 0, 1) := by decide +kernel
theorem dX3_freeOffset_6 : decode cX3_freeOffset 6 = .ok (.istore 4, 2) := by decide +kernel
theorem dX3_freeOffset_8 : decode cX3_freeOffset 8 = .ok (.iload 4, 2) := by decide +kernel
theorem dX3_freeOffset_10 : decode cX3_freeOffset 10 = .ok (.iload_n 2, 1) := by decide +kernel
theorem dX3_freeOffset_11 : decode cX3_freeOffset 11 = .ok (.if_icmp .ge 66, 3) := by decide +kernel
theorem dX3_freeOffset_14 : decode cX3_freeOffset 14 = .ok (.iconst 0, 1) := by decide +kernel
theorem dX3_freeOffset_15 : decode cX3_freeOffset 15 = .ok (.istore 5, 2) := by decide +kernel
theorem dX3_freeOffset_17 : decode cX3_freeOffset 17 = .ok (.iload 5, 2) := by decide +kernel
theorem dX3_freeOffset_19 : decode cX3_freeOffset 19 = .ok (.iload_n 2, 1) := by decide +kernel
theorem dX3_freeOffset_20 : decode cX3_freeOffset 20 = .ok (.if_icmp .ge 51, 3) := by decide +kernel
theorem dX3_freeOffset_23 : decode cX3_freeOffset 23 = .ok (.aload_n 0, 1) := by decide +kernel
theorem dX3_freeOffset_24 : decode cX3_freeOffset 24 = .ok (.aload_n 0, 1) := by decide +kernel
theorem dX3_freeOffset_25 : decode cX3_freeOffset 25 = .ok (.getfield 27, 3) := by decide +kernel
theorem dX3_freeOffset_28 : decode cX3_freeOffset 28 = .ok (.iload 5, 2) := by decide +kernel
theorem dX3_freeOffset_30 : decode cX3_freeOffset 30 = .ok (.invokevirtual 53, 3) := by decide +kernel
theorem dX3_freeOffset_33 : decode cX3_freeOffset 33 = .ok (.invokevirtual 38, 3) := by decide +kernel
theorem dX3_freeOffset_36 : decode cX3_freeOffset 36 = .ok (.astore 6, 2) := by decide +kernel
theorem dX3_freeOffset_38 : decode cX3_freeOffset 38 = .ok (.aload 6, 2) := by decide +kernel
theorem dX3_freeOffset_40 : decode cX3_freeOffset 40 = .ok (.ifnull 25, 3) := by decide +kernel
theorem dX3_freeOffset_43 : decode cX3_freeOffset 43 = .ok (.aload 6, 2) := by decide +kernel
theorem dX3_freeOffset_45 : decode cX3_freeOffset 45 = .ok (.aload_n 1, 1) := by decide +kernel
theorem dX3_freeOffset_46 : decode cX3_freeOffset 46 = .ok (.iload_n 3, 1) := by decide +kernel
theorem dX3_freeOffset_47 : decode cX3_freeOffset 47 = .ok (.invokevirtual 77, 3) := by decide +kernel
theorem dX3_freeOffset_50 : decode cX3_freeOffset 50 = .ok (.ifCond .eq 15, 3) := by decide +kernel
theorem dX3_freeOffset_53 : decode cX3_freeOffset 53 = .ok (.aload 6, 2) := by decide +kernel
theorem dX3_freeOffset_55 : decode cX3_freeOffset 55 = .ok (.getfield 61, 3) := by decide +kernel
theorem dX3_freeOffset_58 : decode cX3_freeOffset 58 = .ok (.aload 6, 2) := by decide +kernel
theorem dX3_freeOffset_60 : decode cX3_freeOffset 60 = .ok (.getfield 81, 3) := by decide +kernel
theorem dX3_freeOffset_63 : decode cX3_freeOffset 63 = .ok (.iadd, 1) := by decide +kernel
theorem dX3_freeOffset_64 : decode cX3_freeOffset 64 = .ok (.istore_n 3, 1) := by decide +kernel
theorem dX3_freeOffset_65 : decode cX3_freeOffset 65 = .ok (.iinc 5 1, 3) := by decide +kernel
theorem dX3_freeOffset_68 : decode cX3_freeOffset 68 = .ok (.goto (-51), 3) := by decide +kernel
theorem dX3_freeOffset_71 : decode cX3_freeOffset 71 = .ok (.iinc 4 1, 3) := by decide +kernel
theorem dX3_freeOffset_74 : decode cX3_freeOffset 74 = .ok (.goto (-66), 3) := by decide +kernel
theorem dX3_freeOffset_77 : decode cX3_freeOffset 77 = .ok (.iload_n 3, 1) := by decide +kernel
theorem dX3_freeOffset_78 : decode cX3_freeOffset 78 = .ok (.ireturn, 1) := by decide +kernel
theorem dX3_isShownAt_0 : decode cX3_isShownAt 0 = .ok (.aload_n 0, 1) := by decide +kernel
theorem dX3_isShownAt_1 : decode cX3_isShownAt 1 = .ok (.iload_n 1, 1) := by decide +kernel
theorem dX3_isShownAt_2 : decode cX3_isShownAt 2 = .ok (.invokevirtual 38, 3) := by decide +kernel
theorem dX3_isShownAt_5 : decode cX3_isShownAt 5 = .ok (.astore_n 3, 1) := by decide +kernel
theorem dX3_isShownAt_6 : decode cX3_isShownAt 6 = .ok (.aload_n 3, 1) := by decide +kernel
theorem dX3_isShownAt_7 : decode cX3_isShownAt 7 = .ok (.ifnull 15, 3) := by decide +kernel
theorem dX3_isShownAt_10 : decode cX3_isShownAt 10 = .ok (.aload_n 3, 1) := by decide +kernel
theorem dX3_isShownAt_11 : decode cX3_isShownAt 11 = .ok (.iload_n 2, 1) := by decide +kernel
theorem dX3_isShownAt_12 : decode cX3_isShownAt 12 = .ok (.invokevirtual 84, 3) := by decide +kernel
theorem dX3_isShownAt_15 : decode cX3_isShownAt 15 = .ok (.ifCond .eq 7, 3) := by decide +kernel
theorem dX3_isShownAt_18 : decode cX3_isShownAt 18 = .ok (.iconst 1, 1) := by decide +kernel
theorem dX3_isShownAt_19 : decode cX3_isShownAt 19 = .ok (.goto 4, 3) := by decide +kernel
theorem dX3_isShownAt_22 : decode cX3_isShownAt 22 = .ok (.iconst 0, 1) := by decide +kernel
theorem dX3_isShownAt_23 : decode cX3_isShownAt 23 = .ok (.ireturn, 1) := by decide +kernel
theorem dX3_countShownAt_0 : decode cX3_countShownAt 0 = .ok (.iconst 0, 1) := by decide +kernel
theorem dX3_countShownAt_1 : decode cX3_countShownAt 1 = .ok (.istore_n 2, 1) := by decide +kernel
theorem dX3_countShownAt_2 : decode cX3_countShownAt 2 = .ok (.iconst 0, 1) := by decide +kernel
theorem dX3_countShownAt_3 : decode cX3_countShownAt 3 = .ok (.istore_n 3, 1) := by decide +kernel
theorem dX3_countShownAt_4 : decode cX3_countShownAt 4 = .ok (.iload_n 3, 1) := by decide +kernel
theorem dX3_countShownAt_5 : decode cX3_countShownAt 5 = .ok (.aload_n 0, 1) := by decide +kernel
theorem dX3_countShownAt_6 : decode cX3_countShownAt 6 = .ok (.getfield 18, 3) := by decide +kernel
theorem dX3_countShownAt_9 : decode cX3_countShownAt 9 = .ok (.if_icmp .ge 21, 3) := by decide +kernel
theorem dX3_countShownAt_12 : decode cX3_countShownAt 12 = .ok (.aload_n 0, 1) := by decide +kernel
theorem dX3_countShownAt_13 : decode cX3_countShownAt 13 = .ok (.iload_n 3, 1) := by decide +kernel
theorem dX3_countShownAt_14 : decode cX3_countShownAt 14 = .ok (.iload_n 1, 1) := by decide +kernel
theorem dX3_countShownAt_15 : decode cX3_countShownAt 15 = .ok (.invokevirtual 88, 3) := by decide +kernel
theorem dX3_countShownAt_18 : decode cX3_countShownAt 18 = .ok (.ifCond .eq 6, 3) := by decide +kernel
theorem dX3_countShownAt_21 : decode cX3_countShownAt 21 = .ok (.iinc 2 1, 3) := by decide +kernel
theorem dX3_countShownAt_24 : decode cX3_countShownAt 24 = .ok (.iinc 3 1, 3) := by decide +kernel
theorem dX3_countShownAt_27 : decode cX3_countShownAt 27 = .ok (.goto (-23), 3) := by decide +kernel
theorem dX3_countShownAt_30 : decode cX3_countShownAt 30 = .ok (.iload_n 2, 1) := by decide +kernel
theorem dX3_countShownAt_31 : decode cX3_countShownAt 31 = .ok (.ireturn, 1) := by decide +kernel
theorem dX3_countAhead_0 : decode cX3_countAhead 0 = .ok (.iconst 0, 1) := by decide +kernel
theorem dX3_countAhead_1 : decode cX3_countAhead 1 = .ok (.istore_n 3, 1) := by decide +kernel
theorem dX3_countAhead_2 : decode cX3_countAhead 2 = .ok (.iconst 0, 1) := by decide +kernel
theorem dX3_countAhead_3 : decode cX3_countAhead 3 = .ok (.istore 4, 2) := by decide +kernel
theorem dX3_countAhead_5 : decode cX3_countAhead 5 = .ok (.iload 4, 2) := by decide +kernel
theorem dX3_countAhead_7 : decode cX3_countAhead 7 = .ok (.aload_n 0, 1) := by decide +kernel
theorem dX3_countAhead_8 : decode cX3_countAhead 8 = .ok (.getfield 18, 3) := by decide +kernel
theorem dX3_countAhead_11 : decode cX3_countAhead 11 = .ok (.if_icmp .ge 38, 3) := by decide +kernel
theorem dX3_countAhead_14 : decode cX3_countAhead 14 = .ok (.iload 4, 2) := by decide +kernel
theorem dX3_countAhead_16 : decode cX3_countAhead 16 = .ok (.iload_n 1, 1) := by decide +kernel
theorem dX3_countAhead_17 : decode cX3_countAhead 17 = .ok (.if_icmp .eq 26, 3) := by decide +kernel
theorem dX3_countAhead_20 : decode cX3_countAhead 20 = .ok (.aload_n 0, 1) := by decide +kernel
theorem dX3_countAhead_21 : decode cX3_countAhead 21 = .ok (.iload 4, 2) := by decide +kernel
theorem dX3_countAhead_23 : decode cX3_countAhead 23 = .ok (.iload_n 2, 1) := by decide +kernel
theorem dX3_countAhead_24 : decode cX3_countAhead 24 = .ok (.invokevirtual 88, 3) := by decide +kernel
theorem dX3_countAhead_27 : decode cX3_countAhead 27 = .ok (.ifCond .eq 16, 3) := by decide +kernel
theorem dX3_countAhead_30 : decode cX3_countAhead 30 = .ok (.aload_n 0, 1) := by decide +kernel
theorem dX3_countAhead_31 : decode cX3_countAhead 31 = .ok (.iload 4, 2) := by decide +kernel
theorem dX3_countAhead_33 : decode cX3_countAhead 33 = .ok (.iload_n 1, 1) := by decide +kernel
theorem dX3_countAhead_34 : decode cX3_countAhead 34 = .ok (.invokevirtual 91, 3) := by decide +kernel
theorem dX3_countAhead_37 : decode cX3_countAhead 37 = .ok (.ifCond .eq 6, 3) := by decide +kernel
theorem dX3_countAhead_40 : decode cX3_countAhead 40 = .ok (.iinc 3 1, 3) := by decide +kernel
theorem dX3_countAhead_43 : decode cX3_countAhead 43 = .ok (.iinc 4 1, 3) := by decide +kernel
theorem dX3_countAhead_46 : decode cX3_countAhead 46 = .ok (.goto (-41), 3) := by decide +kernel
theorem dX3_countAhead_49 : decode cX3_countAhead 49 = .ok (.iload_n 3, 1) := by decide +kernel
theorem dX3_countAhead_50 : decode cX3_countAhead 50 = .ok (.ireturn, 1) := by decide +kernel
theorem dX3_comesBefore_0 : decode cX3_comesBefore 0 = .ok (.aload_n 0, 1) := by decide +kernel
theorem dX3_comesBefore_1 : decode cX3_comesBefore 1 = .ok (.iload_n 1, 1) := by decide +kernel
theorem dX3_comesBefore_2 : decode cX3_comesBefore 2 = .ok (.invokevirtual 38, 3) := by decide +kernel
theorem dX3_comesBefore_5 : decode cX3_comesBefore 5 = .ok (.astore_n 3, 1) := by decide +kernel
theorem dX3_comesBefore_6 : decode cX3_comesBefore 6 = .ok (.aload_n 0, 1) := by decide +kernel
theorem dX3_comesBefore_7 : decode cX3_comesBefore 7 = .ok (.iload_n 2, 1) := by decide +kernel
theorem dX3_comesBefore_8 : decode cX3_comesBefore 8 = .ok (.invokevirtual 38, 3) := by decide +kernel
theorem dX3_comesBefore_11 : decode cX3_comesBefore 11 = .ok (.astore 4, 2) := by decide +kernel
theorem dX3_comesBefore_13 : decode cX3_comesBefore 13 = .ok (.aload_n 3, 1) := by decide +kernel
theorem dX3_comesBefore_14 : decode cX3_comesBefore 14 = .ok (.ifnull 8, 3) := by decide +kernel
theorem dX3_comesBefore_17 : decode cX3_comesBefore 17 = .ok (.aload 4, 2) := by decide +kernel
theorem dX3_comesBefore_19 : decode cX3_comesBefore 19 = .ok (.ifnonnull 5, 3) := by decide +kernel
theorem dX3_comesBefore_22 : decode cX3_comesBefore 22 = .ok (.iconst 0, 1) := by decide +kernel
theorem dX3_comesBefore_23 : decode cX3_comesBefore 23 = .ok (.ireturn, 1) := by decide +kernel
theorem dX3_comesBefore_24 : decode cX3_comesBefore 24 = .ok (.aload_n 3, 1) := by decide +kernel
theorem dX3_comesBefore_25 : decode cX3_comesBefore 25 = .ok (.aload 4, 2) := by decide +kernel
theorem dX3_comesBefore_27 : decode cX3_comesBefore 27 = .ok (.invokevirtual 94, 3) := by decide +kernel
theorem dX3_comesBefore_30 : decode cX3_comesBefore 30 = .ok (.ifCond .ne 17, 3) := by decide +kernel
theorem dX3_comesBefore_33 : decode cX3_comesBefore 33 = .ok (.aload 4, 2) := by decide +kernel
theorem dX3_comesBefore_35 : decode cX3_comesBefore 35 = .ok (.aload_n 3, 1) := by decide +kernel
theorem dX3_comesBefore_36 : decode cX3_comesBefore 36 = .ok (.invokevirtual 94, 3) := by decide +kernel
theorem dX3_comesBefore_39 : decode cX3_comesBefore 39 = .ok (.ifCond .ne 12, 3) := by decide +kernel
theorem dX3_comesBefore_42 : decode cX3_comesBefore 42 = .ok (.iload_n 1, 1) := by decide +kernel
theorem dX3_comesBefore_43 : decode cX3_comesBefore 43 = .ok (.iload_n 2, 1) := by decide +kernel
theorem dX3_comesBefore_44 : decode cX3_comesBefore 44 = .ok (.if_icmp .ge 7, 3) := by decide +kernel
theorem dX3_comesBefore_47 : decode cX3_comesBefore 47 = .ok (.iconst 1, 1) := by decide +kernel
theorem dX3_comesBefore_48 : decode cX3_comesBefore 48 = .ok (.goto 4, 3) := by decide +kernel
theorem dX3_comesBefore_51 : decode cX3_comesBefore 51 = .ok (.iconst 0, 1) := by decide +kernel
theorem dX3_comesBefore_52 : decode cX3_comesBefore 52 = .ok (.ireturn, 1) := by decide +kernel
theorem dX4_init_0 : decode cX4_init 0 = .ok (.aload_n 0, 1) := by decide +kernel
theorem dX4_init_1 : decode cX4_init 1 = .ok (.invokespecial 3, 3) := by decide +kernel
theorem dX4_init_4 : decode cX4_init 4 = .ok (.aload_n 0, 1) := by decide +kernel
theorem dX4_init_5 : decode cX4_init 5 = .ok (.new 9, 3) := by decide +kernel
theorem dX4_init_8 : decode cX4_init 8 = .ok (.dup, 1) := by decide +kernel
theorem dX4_init_9 : decode cX4_init 9 = .ok (.bipush 80, 2) := by decide +kernel
theorem dX4_init_11 : decode cX4_init 11 = .ok (.invokespecial 11, 3) := by decide +kernel
theorem dX4_init_14 : decode cX4_init 14 = .ok (.putfield 14, 3) := by decide +kernel
theorem dX4_init_17 : decode cX4_init 17 = .ok (.aload_n 0, 1) := by decide +kernel
theorem dX4_init_18 : decode cX4_init 18 = .ok (.new 9, 3) := by decide +kernel
theorem dX4_init_21 : decode cX4_init 21 = .ok (.dup, 1) := by decide +kernel
theorem dX4_init_22 : decode cX4_init 22 = .ok (.bipush 80, 2) := by decide +kernel
theorem dX4_init_24 : decode cX4_init 24 = .ok (.invokespecial 11, 3) := by decide +kernel
theorem dX4_init_27 : decode cX4_init 27 = .ok (.putfield 20, 3) := by decide +kernel
theorem dX4_init_30 : decode cX4_init 30 = .ok (.return_, 1) := by decide +kernel
theorem dX4_read_0 : decode cX4_read 0 = .ok (.aload_n 0, 1) := by decide +kernel
theorem dX4_read_1 : decode cX4_read 1 = .ok (.iconst 0, 1) := by decide +kernel
theorem dX4_read_2 : decode cX4_read 2 = .ok (.putfield 23, 3) := by decide +kernel
theorem dX4_read_5 : decode cX4_read 5 = .ok (.aload_n 0, 1) := by decide +kernel
theorem dX4_read_6 : decode cX4_read 6 = .ok (.iconst (-1), 1) := by decide +kernel
theorem dX4_read_7 : decode cX4_read 7 = .ok (.putfield 27, 3) := by decide +kernel
theorem dX4_read_10 : decode cX4_read 10 = .ok (.aload_n 0, 1) := by decide +kernel
theorem dX4_read_11 : decode cX4_read 11 = .ok (.iconst (-1), 1) := by decide +kernel
theorem dX4_read_12 : decode cX4_read 12 = .ok (.putfield 30, 3) := by decide +kernel
theorem dX4_read_15 : decode cX4_read 15 = .ok (.aload_n 0, 1) := by decide +kernel
theorem dX4_read_16 : decode cX4_read 16 = .ok (.iconst 0, 1) := by decide +kernel
theorem dX4_read_17 : decode cX4_read 17 = .ok (.putfield 33, 3) := by decide +kernel
theorem dX4_read_20 : decode cX4_read 20 = .ok (.iconst 0, 1) := by decide +kernel
theorem dX4_read_21 : decode cX4_read 21 = .ok (.istore_n 3, 1) := by decide +kernel
theorem dX4_read_22 : decode cX4_read 22 = .ok (.iload_n 3, 1) := by decide +kernel
theorem dX4_read_23 : decode cX4_read 23 = .ok (.iload_n 2, 1) := by decide +kernel
theorem dX4_read_24 : decode cX4_read 24 = .ok (.if_icmp .ge 27, 3) := by decide +kernel
theorem dX4_read_27 : decode cX4_read 27 = .ok (.aload_n 0, 1) := by decide +kernel
theorem dX4_read_28 : decode cX4_read 28 = .ok (.getfield 27, 3) := by decide +kernel
theorem dX4_read_31 : decode cX4_read 31 = .ok (.iconst (-1), 1) := by decide +kernel
theorem dX4_read_32 : decode cX4_read 32 = .ok (.if_icmp .ne 19, 3) := by decide +kernel
theorem dX4_read_35 : decode cX4_read 35 = .ok (.aload_n 0, 1) := by decide +kernel
theorem dX4_read_36 : decode cX4_read 36 = .ok (.iload_n 3, 1) := by decide +kernel
theorem dX4_read_37 : decode cX4_read 37 = .ok (.aload_n 1, 1) := by decide +kernel
theorem dX4_read_38 : decode cX4_read 38 = .ok (.iload_n 3, 1) := by decide +kernel
theorem dX4_read_39 : decode cX4_read 39 = .ok (.invokevirtual 36, 3) := by decide +kernel
theorem dX4_read_42 : decode cX4_read 42 = .ok (.invokevirtual 40, 3) := by decide +kernel
theorem dX4_read_45 : decode cX4_read 45 = .ok (.iinc 3 1, 3) := by decide +kernel
theorem dX4_read_48 : decode cX4_read 48 = .ok (.goto (-26), 3) := by decide +kernel
theorem dX4_read_51 : decode cX4_read 51 = .ok (.aload_n 0, 1) := by decide +kernel
theorem dX4_read_52 : decode cX4_read 52 = .ok (.getfield 27, 3) := by decide +kernel
theorem dX4_read_55 : decode cX4_read 55 = .ok (.iconst (-1), 1) := by decide +kernel
theorem dX4_read_56 : decode cX4_read 56 = .ok (.if_icmp .eq 8, 3) := by decide +kernel
theorem dX4_read_59 : decode cX4_read 59 = .ok (.aload_n 0, 1) := by decide +kernel
theorem dX4_read_60 : decode cX4_read 60 = .ok (.getfield 27, 3) := by decide +kernel
theorem dX4_read_63 : decode cX4_read 63 = .ok (.ireturn, 1) := by decide +kernel
theorem dX4_read_64 : decode cX4_read 64 = .ok (.aload_n 0, 1) := by decide +kernel
theorem dX4_read_65 : decode cX4_read 65 = .ok (.getfield 33, 3) := by decide +kernel
theorem dX4_read_68 : decode cX4_read 68 = .ok (.ifCond .ne 10, 3) := by decide +kernel
theorem dX4_read_71 : decode cX4_read 71 = .ok (.aload_n 0, 1) := by decide +kernel
theorem dX4_read_72 : decode cX4_read 72 = .ok (.getfield 30, 3) := by decide +kernel
theorem dX4_read_75 : decode cX4_read 75 = .ok (.goto 4, 3) := by decide +kernel
theorem dX4_read_78 : decode cX4_read 78 = .ok (.iload_n 2, 1) := by decide +kernel
theorem dX4_read_79 : decode cX4_read 79 = .ok (.ireturn, 1) := by decide +kernel
theorem dX4_take_0 : decode cX4_take 0 = .ok (.aload_n 0, 1) := by decide +kernel
theorem dX4_take_1 : decode cX4_take 1 = .ok (.getfield 33, 3) := by decide +kernel
theorem dX4_take_4 : decode cX4_take 4 = .ok (.ifCond .ne 11, 3) := by decide +kernel
theorem dX4_take_7 : decode cX4_take 7 = .ok (.aload_n 0, 1) := by decide +kernel
theorem dX4_take_8 : decode cX4_take 8 = .ok (.iload_n 2, 1) := by decide +kernel
theorem dX4_take_9 : decode cX4_take 9 = .ok (.invokevirtual 44, 3) := by decide +kernel
theorem dX4_take_12 : decode cX4_take 12 = .ok (.goto 104, 3) := by decide +kernel
theorem dX4_take_15 : decode cX4_take 15 = .ok (.aload_n 0, 1) := by decide +kernel
theorem dX4_take_16 : decode cX4_take 16 = .ok (.getfield 33, 3) := by decide +kernel
theorem dX4_take_19 : decode cX4_take 19 = .ok (.iconst 1, 1) := by decide +kernel
theorem dX4_take_20 : decode cX4_take 20 = .ok (.if_icmp .ne 12, 3) := by decide +kernel
theorem dX4_take_23 : decode cX4_take 23 = .ok (.aload_n 0, 1) := by decide +kernel
theorem dX4_take_24 : decode cX4_take 24 = .ok (.iload_n 1, 1) := by decide +kernel
theorem dX4_take_25 : decode cX4_take 25 = .ok (.iload_n 2, 1) := by decide +kernel
theorem dX4_take_26 : decode cX4_take 26 = .ok (.invokevirtual 47, 3) := by decide +kernel
theorem dX4_take_29 : decode cX4_take 29 = .ok (.goto 87, 3) := by decide +kernel
theorem dX4_take_32 : decode cX4_take 32 = .ok (.iload_n 2, 1) := by decide +kernel
theorem dX4_take_33 : decode cX4_take 33 = .ok (.bipush 48, 2) := by decide +kernel
theorem dX4_take_35 : decode cX4_take 35 = .ok (.if_icmp .lt 46, 3) := by decide +kernel
theorem dX4_take_38 : decode cX4_take 38 = .ok (.iload_n 2, 1) := by decide +kernel
theorem dX4_take_39 : decode cX4_take 39 = .ok (.bipush 57, 2) := by decide +kernel
theorem dX4_take_41 : decode cX4_take 41 = .ok (.if_icmp .gt 40, 3) := by decide +kernel
theorem dX4_take_44 : decode cX4_take 44 = .ok (.aload_n 0, 1) := by decide +kernel
theorem dX4_take_45 : decode cX4_take 45 = .ok (.getfield 50, 3) := by decide +kernel
theorem dX4_take_48 : decode cX4_take 48 = .ok (.iconst 4, 1) := by decide +kernel
theorem dX4_take_49 : decode cX4_take 49 = .ok (.if_icmp .ge 32, 3) := by decide +kernel
theorem dX4_take_52 : decode cX4_take 52 = .ok (.aload_n 0, 1) := by decide +kernel
theorem dX4_take_53 : decode cX4_take 53 = .ok (.aload_n 0, 1) := by decide +kernel
theorem dX4_take_54 : decode cX4_take 54 = .ok (.getfield 53, 3) := by decide +kernel
theorem dX4_take_57 : decode cX4_take 57 = .ok (.bipush 10, 2) := by decide +kernel
theorem dX4_take_59 : decode cX4_take 59 = .ok (.imul, 1) := by decide +kernel
theorem dX4_take_60 : decode cX4_take 60 = .ok (.iload_n 2, 1) := by decide +kernel
theorem dX4_take_61 : decode cX4_take 61 = .ok (.iadd, 1) := by decide +kernel
theorem dX4_take_62 : decode cX4_take 62 = .ok (.bipush 48, 2) := by decide +kernel
theorem dX4_take_64 : decode cX4_take 64 = .ok (.isub, 1) := by decide +kernel
theorem dX4_take_65 : decode cX4_take 65 = .ok (.putfield 53, 3) := by decide +kernel
theorem dX4_take_68 : decode cX4_take 68 = .ok (.aload_n 0, 1) := by decide +kernel
theorem dX4_take_69 : decode cX4_take 69 = .ok (.dup, 1) := by decide +kernel
theorem dX4_take_70 : decode cX4_take 70 = .ok (.getfield 50, 3) := by decide +kernel
theorem dX4_take_73 : decode cX4_take 73 = .ok (.iconst 1, 1) := by decide +kernel
theorem dX4_take_74 : decode cX4_take 74 = .ok (.iadd, 1) := by decide +kernel
theorem dX4_take_75 : decode cX4_take 75 = .ok (.putfield 50, 3) := by decide +kernel
theorem dX4_take_78 : decode cX4_take 78 = .ok (.goto 38, 3) := by decide +kernel
theorem dX4_take_81 : decode cX4_take 81 = .ok (.iload_n 2, 1) := by decide +kernel
theorem dX4_take_82 : decode cX4_take 82 = .ok (.bipush 125, 2) := by decide +kernel
theorem dX4_take_84 : decode cX4_take 84 = .ok (.if_icmp .ne 27, 3) := by decide +kernel
theorem dX4_take_87 : decode cX4_take 87 = .ok (.aload_n 0, 1) := by decide +kernel
theorem dX4_take_88 : decode cX4_take 88 = .ok (.getfield 50, 3) := by decide +kernel
theorem dX4_take_91 : decode cX4_take 91 = .ok (.ifCond .gt 12, 3) := by decide +kernel
theorem dX4_take_94 : decode cX4_take 94 = .ok (.aload_n 0, 1) := by decide +kernel
theorem dX4_take_95 : decode cX4_take 95 = .ok (.getfield 33, 3) := by decide +kernel
theorem dX4_take_98 : decode cX4_take 98 = .ok (.bipush 114, 2) := by decide +kernel
theorem dX4_take_100 : decode cX4_take 100 = .ok (.if_icmp .ne 11, 3) := by decide +kernel
theorem dX4_take_103 : decode cX4_take 103 = .ok (.aload_n 0, 1) := by decide +kernel
theorem dX4_take_104 : decode cX4_take 104 = .ok (.iload_n 1, 1) := by decide +kernel
theorem dX4_take_105 : decode cX4_take 105 = .ok (.invokevirtual 56, 3) := by decide +kernel
theorem dX4_take_108 : decode cX4_take 108 = .ok (.goto 8, 3) := by decide +kernel
theorem dX4_take_111 : decode cX4_take 111 = .ok (.aload_n 0, 1) := by decide +kernel
theorem dX4_take_112 : decode cX4_take 112 = .ok (.iload_n 1, 1) := by decide +kernel
theorem dX4_take_113 : decode cX4_take 113 = .ok (.putfield 27, 3) := by decide +kernel
theorem dX4_take_116 : decode cX4_take 116 = .ok (.return_, 1) := by decide +kernel
theorem dX4_takeOutside_0 : decode cX4_takeOutside 0 = .ok (.iload_n 1, 1) := by decide +kernel
theorem dX4_takeOutside_1 : decode cX4_takeOutside 1 = .ok (.bipush 123, 2) := by decide +kernel
theorem dX4_takeOutside_3 : decode cX4_takeOutside 3 = .ok (.if_icmp .ne 11, 3) := by decide +kernel
theorem dX4_takeOutside_6 : decode cX4_takeOutside 6 = .ok (.aload_n 0, 1) := by decide +kernel
theorem dX4_takeOutside_7 : decode cX4_takeOutside 7 = .ok (.iconst 1, 1) := by decide +kernel
theorem dX4_takeOutside_8 : decode cX4_takeOutside 8 = .ok (.putfield 33, 3) := by decide +kernel
theorem dX4_takeOutside_11 : decode cX4_takeOutside 11 = .ok (.goto 9, 3) := by decide +kernel
theorem dX4_takeOutside_14 : decode cX4_takeOutside 14 = .ok (.aload_n 0, 1) := by decide +kernel
theorem dX4_takeOutside_15 : decode cX4_takeOutside 15 = .ok (.iconst 0, 1) := by decide +kernel
theorem dX4_takeOutside_16 : decode cX4_takeOutside 16 = .ok (.iload_n 1, 1) := by decide +kernel
theorem dX4_takeOutside_17 : decode cX4_takeOutside 17 = .ok (.invokevirtual 59, 3) := by decide +kernel
theorem dX4_takeOutside_20 : decode cX4_takeOutside 20 = .ok (.return_, 1) := by decide +kernel
theorem dX4_takeLetter_0 : decode cX4_takeLetter 0 = .ok (.iload_n 2, 1) := by decide +kernel
theorem dX4_takeLetter_1 : decode cX4_takeLetter 1 = .ok (.bipush 114, 2) := by decide +kernel
theorem dX4_takeLetter_3 : decode cX4_takeLetter 3 = .ok (.if_icmp .eq 23, 3) := by decide +kernel
theorem dX4_takeLetter_6 : decode cX4_takeLetter 6 = .ok (.iload_n 2, 1) := by decide +kernel
theorem dX4_takeLetter_7 : decode cX4_takeLetter 7 = .ok (.bipush 107, 2) := by decide +kernel
theorem dX4_takeLetter_9 : decode cX4_takeLetter 9 = .ok (.if_icmp .eq 17, 3) := by decide +kernel
theorem dX4_takeLetter_12 : decode cX4_takeLetter 12 = .ok (.iload_n 2, 1) := by decide +kernel
theorem dX4_takeLetter_13 : decode cX4_takeLetter 13 = .ok (.invokestatic 62, 3) := by decide +kernel
theorem dX4_takeLetter_16 : decode cX4_takeLetter 16 = .ok (.iconst (-1), 1) := by decide +kernel
theorem dX4_takeLetter_17 : decode cX4_takeLetter 17 = .ok (.if_icmp .ne 9, 3) := by decide +kernel
theorem dX4_takeLetter_20 : decode cX4_takeLetter 20 = .ok (.aload_n 0, 1) := by decide +kernel
theorem dX4_takeLetter_21 : decode cX4_takeLetter 21 = .ok (.iload_n 1, 1) := by decide +kernel
theorem dX4_takeLetter_22 : decode cX4_takeLetter 22 = .ok (.putfield 27, 3) := by decide +kernel
theorem dX4_takeLetter_25 : decode cX4_takeLetter 25 = .ok (.return_, 1) := by decide +kernel
theorem dX4_takeLetter_26 : decode cX4_takeLetter 26 = .ok (.aload_n 0, 1) := by decide +kernel
theorem dX4_takeLetter_27 : decode cX4_takeLetter 27 = .ok (.iload_n 2, 1) := by decide +kernel
theorem dX4_takeLetter_28 : decode cX4_takeLetter 28 = .ok (.putfield 33, 3) := by decide +kernel
theorem dX4_takeLetter_31 : decode cX4_takeLetter 31 = .ok (.aload_n 0, 1) := by decide +kernel
theorem dX4_takeLetter_32 : decode cX4_takeLetter 32 = .ok (.iconst 0, 1) := by decide +kernel
theorem dX4_takeLetter_33 : decode cX4_takeLetter 33 = .ok (.putfield 50, 3) := by decide +kernel
theorem dX4_takeLetter_36 : decode cX4_takeLetter 36 = .ok (.aload_n 0, 1) := by decide +kernel
theorem dX4_takeLetter_37 : decode cX4_takeLetter 37 = .ok (.iconst 0, 1) := by decide +kernel
theorem dX4_takeLetter_38 : decode cX4_takeLetter 38 = .ok (.putfield 53, 3) := by decide +kernel
theorem dX4_takeLetter_41 : decode cX4_takeLetter 41 = .ok (.return_, 1) := by decide +kernel
theorem dX4_closeTag_0 : decode cX4_closeTag 0 = .ok (.aload_n 0, 1) := by decide +kernel
theorem dX4_closeTag_1 : decode cX4_closeTag 1 = .ok (.getfield 50, 3) := by decide +kernel
theorem dX4_closeTag_4 : decode cX4_closeTag 4 = .ok (.ifCond .le 28, 3) := by decide +kernel
theorem dX4_closeTag_7 : decode cX4_closeTag 7 = .ok (.aload_n 0, 1) := by decide +kernel
theorem dX4_closeTag_8 : decode cX4_closeTag 8 = .ok (.invokevirtual 65, 3) := by decide +kernel
theorem dX4_closeTag_11 : decode cX4_closeTag 11 = .ok (.ifCond .ne 21, 3) := by decide +kernel
theorem dX4_closeTag_14 : decode cX4_closeTag 14 = .ok (.aload_n 0, 1) := by decide +kernel
theorem dX4_closeTag_15 : decode cX4_closeTag 15 = .ok (.getfield 30, 3) := by decide +kernel
theorem dX4_closeTag_18 : decode cX4_closeTag 18 = .ok (.iconst (-1), 1) := by decide +kernel
theorem dX4_closeTag_19 : decode cX4_closeTag 19 = .ok (.if_icmp .ne 13, 3) := by decide +kernel
theorem dX4_closeTag_22 : decode cX4_closeTag 22 = .ok (.aload_n 0, 1) := by decide +kernel
theorem dX4_closeTag_23 : decode cX4_closeTag 23 = .ok (.iload_n 1, 1) := by decide +kernel
theorem dX4_closeTag_24 : decode cX4_closeTag 24 = .ok (.aload_n 0, 1) := by decide +kernel
theorem dX4_closeTag_25 : decode cX4_closeTag 25 = .ok (.getfield 50, 3) := by decide +kernel
theorem dX4_closeTag_28 : decode cX4_closeTag 28 = .ok (.isub, 1) := by decide +kernel
theorem dX4_closeTag_29 : decode cX4_closeTag 29 = .ok (.putfield 30, 3) := by decide +kernel
theorem dX4_closeTag_32 : decode cX4_closeTag 32 = .ok (.aload_n 0, 1) := by decide +kernel
theorem dX4_closeTag_33 : decode cX4_closeTag 33 = .ok (.aload_n 0, 1) := by decide +kernel
theorem dX4_closeTag_34 : decode cX4_closeTag 34 = .ok (.getfield 33, 3) := by decide +kernel
theorem dX4_closeTag_37 : decode cX4_closeTag 37 = .ok (.aload_n 0, 1) := by decide +kernel
theorem dX4_closeTag_38 : decode cX4_closeTag 38 = .ok (.getfield 50, 3) := by decide +kernel
theorem dX4_closeTag_41 : decode cX4_closeTag 41 = .ok (.ifCond .le 10, 3) := by decide +kernel
theorem dX4_closeTag_44 : decode cX4_closeTag 44 = .ok (.aload_n 0, 1) := by decide +kernel
theorem dX4_closeTag_45 : decode cX4_closeTag 45 = .ok (.getfield 53, 3) := by decide +kernel
theorem dX4_closeTag_48 : decode cX4_closeTag 48 = .ok (.goto 4, 3) := by decide +kernel
theorem dX4_closeTag_51 : decode cX4_closeTag 51 = .ok (.iconst (-1), 1) := by decide +kernel
theorem dX4_closeTag_52 : decode cX4_closeTag 52 = .ok (.invokevirtual 59, 3) := by decide +kernel
theorem dX4_closeTag_55 : decode cX4_closeTag 55 = .ok (.aload_n 0, 1) := by decide +kernel
theorem dX4_closeTag_56 : decode cX4_closeTag 56 = .ok (.iconst 0, 1) := by decide +kernel
theorem dX4_closeTag_57 : decode cX4_closeTag 57 = .ok (.putfield 33, 3) := by decide +kernel
theorem dX4_closeTag_60 : decode cX4_closeTag 60 = .ok (.return_, 1) := by decide +kernel
theorem dX4_isInRange_0 : decode cX4_isInRange 0 = .ok (.aload_n 0, 1) := by decide +kernel
theorem dX4_isInRange_1 : decode cX4_isInRange 1 = .ok (.getfield 33, 3) := by decide +kernel
theorem dX4_isInRange_4 : decode cX4_isInRange 4 = .ok (.lookupswitch 59 #[(107, 43), (114, 28)], 28) := by decide +kernel
theorem dX4_isInRange_32 : decode cX4_isInRange 32 = .ok (.aload_n 0, 1) := by decide +kernel
theorem dX4_isInRange_33 : decode cX4_isInRange 33 = .ok (.getfield 53, 3) := by decide +kernel
theorem dX4_isInRange_36 : decode cX4_isInRange 36 = .ok (.bipush 10, 2) := by decide +kernel
theorem dX4_isInRange_38 : decode cX4_isInRange 38 = .ok (.if_icmp .ge 7, 3) := by decide +kernel
theorem dX4_isInRange_41 : decode cX4_isInRange 41 = .ok (.iconst 1, 1) := by decide +kernel
theorem dX4_isInRange_42 : decode cX4_isInRange 42 = .ok (.goto 4, 3) := by decide +kernel
theorem dX4_isInRange_45 : decode cX4_isInRange 45 = .ok (.iconst 0, 1) := by decide +kernel
theorem dX4_isInRange_46 : decode cX4_isInRange 46 = .ok (.ireturn, 1) := by decide +kernel
theorem dX4_isInRange_47 : decode cX4_isInRange 47 = .ok (.aload_n 0, 1) := by decide +kernel
theorem dX4_isInRange_48 : decode cX4_isInRange 48 = .ok (.getfield 53, 3) := by decide +kernel
theorem dX4_isInRange_51 : decode cX4_isInRange 51 = .ok (.sipush 9999, 3) := by decide +kernel
theorem dX4_isInRange_54 : decode cX4_isInRange 54 = .ok (.if_icmp .gt 7, 3) := by decide +kernel
theorem dX4_isInRange_57 : decode cX4_isInRange 57 = .ok (.iconst 1, 1) := by decide +kernel
theorem dX4_isInRange_58 : decode cX4_isInRange 58 = .ok (.goto 4, 3) := by decide +kernel
theorem dX4_isInRange_61 : decode cX4_isInRange 61 = .ok (.iconst 0, 1) := by decide +kernel
theorem dX4_isInRange_62 : decode cX4_isInRange 62 = .ok (.ireturn, 1) := by decide +kernel
theorem dX4_isInRange_63 : decode cX4_isInRange 63 = .ok (.aload_n 0, 1) := by decide +kernel
theorem dX4_isInRange_64 : decode cX4_isInRange 64 = .ok (.getfield 33, 3) := by decide +kernel
theorem dX4_isInRange_67 : decode cX4_isInRange 67 = .ok (.invokestatic 62, 3) := by decide +kernel
theorem dX4_isInRange_70 : decode cX4_isInRange 70 = .ok (.aload_n 0, 1) := by decide +kernel
theorem dX4_isInRange_71 : decode cX4_isInRange 71 = .ok (.getfield 53, 3) := by decide +kernel
theorem dX4_isInRange_74 : decode cX4_isInRange 74 = .ok (.invokestatic 69, 3) := by decide +kernel
theorem dX4_isInRange_77 : decode cX4_isInRange 77 = .ok (.ireturn, 1) := by decide +kernel
theorem dX4_addItem_0 : decode cX4_addItem 0 = .ok (.aload_n 0, 1) := by decide +kernel
theorem dX4_addItem_1 : decode cX4_addItem 1 = .ok (.getfield 14, 3) := by decide +kernel
theorem dX4_addItem_4 : decode cX4_addItem 4 = .ok (.aload_n 0, 1) := by decide +kernel
theorem dX4_addItem_5 : decode cX4_addItem 5 = .ok (.getfield 23, 3) := by decide +kernel
theorem dX4_addItem_8 : decode cX4_addItem 8 = .ok (.iload_n 1, 1) := by decide +kernel
theorem dX4_addItem_9 : decode cX4_addItem 9 = .ok (.invokevirtual 73, 3) := by decide +kernel
theorem dX4_addItem_12 : decode cX4_addItem 12 = .ok (.aload_n 0, 1) := by decide +kernel
theorem dX4_addItem_13 : decode cX4_addItem 13 = .ok (.getfield 20, 3) := by decide +kernel
theorem dX4_addItem_16 : decode cX4_addItem 16 = .ok (.aload_n 0, 1) := by decide +kernel
theorem dX4_addItem_17 : decode cX4_addItem 17 = .ok (.getfield 23, 3) := by decide +kernel
theorem dX4_addItem_20 : decode cX4_addItem 20 = .ok (.iload_n 2, 1) := by decide +kernel
theorem dX4_addItem_21 : decode cX4_addItem 21 = .ok (.invokevirtual 73, 3) := by decide +kernel
theorem dX4_addItem_24 : decode cX4_addItem 24 = .ok (.aload_n 0, 1) := by decide +kernel
theorem dX4_addItem_25 : decode cX4_addItem 25 = .ok (.dup, 1) := by decide +kernel
theorem dX4_addItem_26 : decode cX4_addItem 26 = .ok (.getfield 23, 3) := by decide +kernel
theorem dX4_addItem_29 : decode cX4_addItem 29 = .ok (.iconst 1, 1) := by decide +kernel
theorem dX4_addItem_30 : decode cX4_addItem 30 = .ok (.iadd, 1) := by decide +kernel
theorem dX4_addItem_31 : decode cX4_addItem 31 = .ok (.putfield 23, 3) := by decide +kernel
theorem dX4_addItem_34 : decode cX4_addItem 34 = .ok (.return_, 1) := by decide +kernel
theorem dX5_init_0 : decode cX5_init 0 = .ok (.aload_n 0, 1) := by decide +kernel
theorem dX5_init_1 : decode cX5_init 1 = .ok (.invokespecial 1, 3) := by decide +kernel
theorem dX5_init_4 : decode cX5_init 4 = .ok (.aload_n 0, 1) := by decide +kernel
theorem dX5_init_5 : decode cX5_init 5 = .ok (.iload_n 1, 1) := by decide +kernel
theorem dX5_init_6 : decode cX5_init 6 = .ok (.ifCond .ge 7, 3) := by decide +kernel
theorem dX5_init_9 : decode cX5_init 9 = .ok (.iconst 0, 1) := by decide +kernel
theorem dX5_init_10 : decode cX5_init 10 = .ok (.goto 4, 3) := by decide +kernel
theorem dX5_init_13 : decode cX5_init 13 = .ok (.iload_n 1, 1) := by decide +kernel
theorem dX5_init_14 : decode cX5_init 14 = .ok (.newarray .int, 2) := by decide +kernel
theorem dX5_init_16 : decode cX5_init 16 = .ok (.putfield 7, 3) := by decide +kernel
theorem dX5_init_19 : decode cX5_init 19 = .ok (.return_, 1) := by decide +kernel
theorem dX5_get_0 : decode cX5_get 0 = .ok (.iload_n 1, 1) := by decide +kernel
theorem dX5_get_1 : decode cX5_get 1 = .ok (.ifCond .lt 21, 3) := by decide +kernel
theorem dX5_get_4 : decode cX5_get 4 = .ok (.iload_n 1, 1) := by decide +kernel
theorem dX5_get_5 : decode cX5_get 5 = .ok (.aload_n 0, 1) := by decide +kernel
theorem dX5_get_6 : decode cX5_get 6 = .ok (.getfield 7, 3) := by decide +kernel
theorem dX5_get_9 : decode cX5_get 9 = .ok (.arraylength, 1) := by decide +kernel
theorem dX5_get_10 : decode cX5_get 10 = .ok (.if_icmp .ge 12, 3) := by decide +kernel
theorem dX5_get_13 : decode cX5_get 13 = .ok (.aload_n 0, 1) := by decide +kernel
theorem dX5_get_14 : decode cX5_get 14 = .ok (.getfield 7, 3) := by decide +kernel
theorem dX5_get_17 : decode cX5_get 17 = .ok (.iload_n 1, 1) := by decide +kernel
theorem dX5_get_18 : decode cX5_get 18 = .ok (.iaload, 1) := by decide +kernel
theorem dX5_get_19 : decode cX5_get 19 = .ok (.goto 4, 3) := by decide +kernel
theorem dX5_get_22 : decode cX5_get 22 = .ok (.iconst 0, 1) := by decide +kernel
theorem dX5_get_23 : decode cX5_get 23 = .ok (.ireturn, 1) := by decide +kernel
theorem dX5_set_0 : decode cX5_set 0 = .ok (.iload_n 1, 1) := by decide +kernel
theorem dX5_set_1 : decode cX5_set 1 = .ok (.ifCond .lt 19, 3) := by decide +kernel
theorem dX5_set_4 : decode cX5_set 4 = .ok (.iload_n 1, 1) := by decide +kernel
theorem dX5_set_5 : decode cX5_set 5 = .ok (.aload_n 0, 1) := by decide +kernel
theorem dX5_set_6 : decode cX5_set 6 = .ok (.getfield 7, 3) := by decide +kernel
theorem dX5_set_9 : decode cX5_set 9 = .ok (.arraylength, 1) := by decide +kernel
theorem dX5_set_10 : decode cX5_set 10 = .ok (.if_icmp .ge 10, 3) := by decide +kernel
theorem dX5_set_13 : decode cX5_set 13 = .ok (.aload_n 0, 1) := by decide +kernel
theorem dX5_set_14 : decode cX5_set 14 = .ok (.getfield 7, 3) := by decide +kernel
theorem dX5_set_17 : decode cX5_set 17 = .ok (.iload_n 1, 1) := by decide +kernel
theorem dX5_set_18 : decode cX5_set 18 = .ok (.iload_n 2, 1) := by decide +kernel
theorem dX5_set_19 : decode cX5_set 19 = .ok (.iastore, 1) := by decide +kernel
theorem dX5_set_20 : decode cX5_set 20 = .ok (.return_, 1) := by decide +kernel
theorem dX5_copy_0 : decode cX5_copy 0 = .ok (.iconst 0, 1) := by decide +kernel
theorem dX5_copy_1 : decode cX5_copy 1 = .ok (.istore_n 2, 1) := by decide +kernel
theorem dX5_copy_2 : decode cX5_copy 2 = .ok (.iload_n 2, 1) := by decide +kernel
theorem dX5_copy_3 : decode cX5_copy 3 = .ok (.aload_n 0, 1) := by decide +kernel
theorem dX5_copy_4 : decode cX5_copy 4 = .ok (.getfield 7, 3) := by decide +kernel
theorem dX5_copy_7 : decode cX5_copy 7 = .ok (.arraylength, 1) := by decide +kernel
theorem dX5_copy_8 : decode cX5_copy 8 = .ok (.if_icmp .ge 20, 3) := by decide +kernel
theorem dX5_copy_11 : decode cX5_copy 11 = .ok (.aload_n 0, 1) := by decide +kernel
theorem dX5_copy_12 : decode cX5_copy 12 = .ok (.getfield 7, 3) := by decide +kernel
theorem dX5_copy_15 : decode cX5_copy 15 = .ok (.iload_n 2, 1) := by decide +kernel
theorem dX5_copy_16 : decode cX5_copy 16 = .ok (.aload_n 1, 1) := by decide +kernel
theorem dX5_copy_17 : decode cX5_copy 17 = .ok (.iload_n 2, 1) := by decide +kernel
theorem dX5_copy_18 : decode cX5_copy 18 = .ok (.invokevirtual 13, 3) := by decide +kernel
theorem dX5_copy_21 : decode cX5_copy 21 = .ok (.iastore, 1) := by decide +kernel
theorem dX5_copy_22 : decode cX5_copy 22 = .ok (.iinc 2 1, 3) := by decide +kernel
theorem dX5_copy_25 : decode cX5_copy 25 = .ok (.goto (-23), 3) := by decide +kernel
theorem dX5_copy_28 : decode cX5_copy 28 = .ok (.return_, 1) := by decide +kernel
theorem dX6_init_0 : decode cX6_init 0 = .ok (.aload_n 0, 1) := by decide +kernel
theorem dX6_init_1 : decode cX6_init 1 = .ok (.invokespecial 3, 3) := by decide +kernel
theorem dX6_init_4 : decode cX6_init 4 = .ok (.aload_n 0, 1) := by decide +kernel
theorem dX6_init_5 : decode cX6_init 5 = .ok (.new 9, 3) := by decide +kernel
theorem dX6_init_8 : decode cX6_init 8 = .ok (.dup, 1) := by decide +kernel
theorem dX6_init_9 : decode cX6_init 9 = .ok (.invokespecial 11, 3) := by decide +kernel
theorem dX6_init_12 : decode cX6_init 12 = .ok (.putfield 12, 3) := by decide +kernel
theorem dX6_init_15 : decode cX6_init 15 = .ok (.aload_n 0, 1) := by decide +kernel
theorem dX6_init_16 : decode cX6_init 16 = .ok (.bipush 16, 2) := by decide +kernel
theorem dX6_init_18 : decode cX6_init 18 = .ok (.anewarray 18, 3) := by decide +kernel
theorem dX6_init_21 : decode cX6_init 21 = .ok (.putfield 20, 3) := by decide +kernel
theorem dX6_init_24 : decode cX6_init 24 = .ok (.aload_n 0, 1) := by decide +kernel
theorem dX6_init_25 : decode cX6_init 25 = .ok (.iconst 0, 1) := by decide +kernel
theorem dX6_init_26 : decode cX6_init 26 = .ok (.putfield 24, 3) := by decide +kernel
theorem dX6_init_29 : decode cX6_init 29 = .ok (.aload_n 0, 1) := by decide +kernel
theorem dX6_init_30 : decode cX6_init 30 = .ok (.sipush 300, 3) := by decide +kernel
theorem dX6_init_33 : decode cX6_init 33 = .ok (.putfield 28, 3) := by decide +kernel
theorem dX6_init_36 : decode cX6_init 36 = .ok (.return_, 1) := by decide +kernel
theorem dX6_copy_0 : decode cX6_copy 0 = .ok (.aload_n 0, 1) := by decide +kernel
theorem dX6_copy_1 : decode cX6_copy 1 = .ok (.getfield 12, 3) := by decide +kernel
theorem dX6_copy_4 : decode cX6_copy 4 = .ok (.aload_n 1, 1) := by decide +kernel
theorem dX6_copy_5 : decode cX6_copy 5 = .ok (.getfield 12, 3) := by decide +kernel
theorem dX6_copy_8 : decode cX6_copy 8 = .ok (.invokevirtual 31, 3) := by decide +kernel
theorem dX6_copy_11 : decode cX6_copy 11 = .ok (.aload_n 0, 1) := by decide +kernel
theorem dX6_copy_12 : decode cX6_copy 12 = .ok (.aload_n 1, 1) := by decide +kernel
theorem dX6_copy_13 : decode cX6_copy 13 = .ok (.getfield 24, 3) := by decide +kernel
theorem dX6_copy_16 : decode cX6_copy 16 = .ok (.putfield 24, 3) := by decide +kernel
theorem dX6_copy_19 : decode cX6_copy 19 = .ok (.aload_n 0, 1) := by decide +kernel
theorem dX6_copy_20 : decode cX6_copy 20 = .ok (.aload_n 1, 1) := by decide +kernel
theorem dX6_copy_21 : decode cX6_copy 21 = .ok (.getfield 28, 3) := by decide +kernel
theorem dX6_copy_24 : decode cX6_copy 24 = .ok (.putfield 28, 3) := by decide +kernel
theorem dX6_copy_27 : decode cX6_copy 27 = .ok (.iconst 0, 1) := by decide +kernel
theorem dX6_copy_28 : decode cX6_copy 28 = .ok (.istore_n 2, 1) := by decide +kernel
theorem dX6_copy_29 : decode cX6_copy 29 = .ok (.iload_n 2, 1) := by decide +kernel
theorem dX6_copy_30 : decode cX6_copy 30 = .ok (.aload_n 0, 1) := by decide +kernel
theorem dX6_copy_31 : decode cX6_copy 31 = .ok (.getfield 20, 3) := by decide +kernel
theorem dX6_copy_34 : decode cX6_copy 34 = .ok (.arraylength, 1) := by decide +kernel
theorem dX6_copy_35 : decode cX6_copy 35 = .ok (.if_icmp .ge 20, 3) := by decide +kernel
theorem dX6_copy_38 : decode cX6_copy 38 = .ok (.aload_n 0, 1) := by decide +kernel
theorem dX6_copy_39 : decode cX6_copy 39 = .ok (.getfield 20, 3) := by decide +kernel
theorem dX6_copy_42 : decode cX6_copy 42 = .ok (.iload_n 2, 1) := by decide +kernel
theorem dX6_copy_43 : decode cX6_copy 43 = .ok (.aload_n 1, 1) := by decide +kernel
theorem dX6_copy_44 : decode cX6_copy 44 = .ok (.iload_n 2, 1) := by decide +kernel
theorem dX6_copy_45 : decode cX6_copy 45 = .ok (.invokevirtual 35, 3) := by decide +kernel
theorem dX6_copy_48 : decode cX6_copy 48 = .ok (.aastore, 1) := by decide +kernel
theorem dX6_copy_49 : decode cX6_copy 49 = .ok (.iinc 2 1, 3) := by decide +kernel
theorem dX6_copy_52 : decode cX6_copy 52 = .ok (.goto (-23), 3) := by decide +kernel
theorem dX6_copy_55 : decode cX6_copy 55 = .ok (.return_, 1) := by decide +kernel
theorem dX6_lineAt_0 : decode cX6_lineAt 0 = .ok (.iload_n 1, 1) := by decide +kernel
theorem dX6_lineAt_1 : decode cX6_lineAt 1 = .ok (.ifCond .lt 29, 3) := by decide +kernel
theorem dX6_lineAt_4 : decode cX6_lineAt 4 = .ok (.iload_n 1, 1) := by decide +kernel
theorem dX6_lineAt_5 : decode cX6_lineAt 5 = .ok (.aload_n 0, 1) := by decide +kernel
theorem dX6_lineAt_6 : decode cX6_lineAt 6 = .ok (.getfield 24, 3) := by decide +kernel
theorem dX6_lineAt_9 : decode cX6_lineAt 9 = .ok (.if_icmp .ge 21, 3) := by decide +kernel
theorem dX6_lineAt_12 : decode cX6_lineAt 12 = .ok (.iload_n 1, 1) := by decide +kernel
theorem dX6_lineAt_13 : decode cX6_lineAt 13 = .ok (.aload_n 0, 1) := by decide +kernel
theorem dX6_lineAt_14 : decode cX6_lineAt 14 = .ok (.getfield 20, 3) := by decide +kernel
theorem dX6_lineAt_17 : decode cX6_lineAt 17 = .ok (.arraylength, 1) := by decide +kernel
theorem dX6_lineAt_18 : decode cX6_lineAt 18 = .ok (.if_icmp .ge 12, 3) := by decide +kernel
theorem dX6_lineAt_21 : decode cX6_lineAt 21 = .ok (.aload_n 0, 1) := by decide +kernel
theorem dX6_lineAt_22 : decode cX6_lineAt 22 = .ok (.getfield 20, 3) := by decide +kernel
theorem dX6_lineAt_25 : decode cX6_lineAt 25 = .ok (.iload_n 1, 1) := by decide +kernel
theorem dX6_lineAt_26 : decode cX6_lineAt 26 = .ok (.aaload, 1) := by decide +kernel
theorem dX6_lineAt_27 : decode cX6_lineAt 27 = .ok (.goto 4, 3) := by decide +kernel
theorem dX6_lineAt_30 : decode cX6_lineAt 30 = .ok (.aconst_null, 1) := by decide +kernel
theorem dX6_lineAt_31 : decode cX6_lineAt 31 = .ok (.areturn, 1) := by decide +kernel
theorem dX6_putLine_0 : decode cX6_putLine 0 = .ok (.iload_n 1, 1) := by decide +kernel
theorem dX6_putLine_1 : decode cX6_putLine 1 = .ok (.ifCond .lt 19, 3) := by decide +kernel
theorem dX6_putLine_4 : decode cX6_putLine 4 = .ok (.iload_n 1, 1) := by decide +kernel
theorem dX6_putLine_5 : decode cX6_putLine 5 = .ok (.aload_n 0, 1) := by decide +kernel
theorem dX6_putLine_6 : decode cX6_putLine 6 = .ok (.getfield 20, 3) := by decide +kernel
theorem dX6_putLine_9 : decode cX6_putLine 9 = .ok (.arraylength, 1) := by decide +kernel
theorem dX6_putLine_10 : decode cX6_putLine 10 = .ok (.if_icmp .ge 10, 3) := by decide +kernel
theorem dX6_putLine_13 : decode cX6_putLine 13 = .ok (.aload_n 0, 1) := by decide +kernel
theorem dX6_putLine_14 : decode cX6_putLine 14 = .ok (.getfield 20, 3) := by decide +kernel
theorem dX6_putLine_17 : decode cX6_putLine 17 = .ok (.iload_n 1, 1) := by decide +kernel
theorem dX6_putLine_18 : decode cX6_putLine 18 = .ok (.aload_n 2, 1) := by decide +kernel
theorem dX6_putLine_19 : decode cX6_putLine 19 = .ok (.aastore, 1) := by decide +kernel
theorem dX6_putLine_20 : decode cX6_putLine 20 = .ok (.return_, 1) := by decide +kernel
theorem dX6_addLine_0 : decode cX6_addLine 0 = .ok (.aload_n 0, 1) := by decide +kernel
theorem dX6_addLine_1 : decode cX6_addLine 1 = .ok (.aload_n 0, 1) := by decide +kernel
theorem dX6_addLine_2 : decode cX6_addLine 2 = .ok (.getfield 24, 3) := by decide +kernel
theorem dX6_addLine_5 : decode cX6_addLine 5 = .ok (.aload_n 1, 1) := by decide +kernel
theorem dX6_addLine_6 : decode cX6_addLine 6 = .ok (.invokevirtual 39, 3) := by decide +kernel
theorem dX6_addLine_9 : decode cX6_addLine 9 = .ok (.aload_n 0, 1) := by decide +kernel
theorem dX6_addLine_10 : decode cX6_addLine 10 = .ok (.dup, 1) := by decide +kernel
theorem dX6_addLine_11 : decode cX6_addLine 11 = .ok (.getfield 24, 3) := by decide +kernel
theorem dX6_addLine_14 : decode cX6_addLine 14 = .ok (.iconst 1, 1) := by decide +kernel
theorem dX6_addLine_15 : decode cX6_addLine 15 = .ok (.iadd, 1) := by decide +kernel
theorem dX6_addLine_16 : decode cX6_addLine 16 = .ok (.putfield 24, 3) := by decide +kernel
theorem dX6_addLine_19 : decode cX6_addLine 19 = .ok (.return_, 1) := by decide +kernel
theorem dX6_dropLine_0 : decode cX6_dropLine 0 = .ok (.iload_n 1, 1) := by decide +kernel
theorem dX6_dropLine_1 : decode cX6_dropLine 1 = .ok (.istore_n 2, 1) := by decide +kernel
theorem dX6_dropLine_2 : decode cX6_dropLine 2 = .ok (.iload_n 2, 1) := by decide +kernel
theorem dX6_dropLine_3 : decode cX6_dropLine 3 = .ok (.aload_n 0, 1) := by decide +kernel
theorem dX6_dropLine_4 : decode cX6_dropLine 4 = .ok (.getfield 24, 3) := by decide +kernel
theorem dX6_dropLine_7 : decode cX6_dropLine 7 = .ok (.if_icmp .ge 21, 3) := by decide +kernel
theorem dX6_dropLine_10 : decode cX6_dropLine 10 = .ok (.aload_n 0, 1) := by decide +kernel
theorem dX6_dropLine_11 : decode cX6_dropLine 11 = .ok (.iload_n 2, 1) := by decide +kernel
theorem dX6_dropLine_12 : decode cX6_dropLine 12 = .ok (.aload_n 0, 1) := by decide +kernel
theorem dX6_dropLine_13 : decode cX6_dropLine 13 = .ok (.iload_n 2, 1) := by decide +kernel
theorem dX6_dropLine_14 : decode cX6_dropLine 14 = .ok (.iconst 1, 1) := by decide +kernel
theorem dX6_dropLine_15 : decode cX6_dropLine 15 = .ok (.iadd, 1) := by decide +kernel
theorem dX6_dropLine_16 : decode cX6_dropLine 16 = .ok (.invokevirtual 35, 3) := by decide +kernel
theorem dX6_dropLine_19 : decode cX6_dropLine 19 = .ok (.invokevirtual 39, 3) := by decide +kernel
theorem dX6_dropLine_22 : decode cX6_dropLine 22 = .ok (.iinc 2 1, 3) := by decide +kernel
theorem dX6_dropLine_25 : decode cX6_dropLine 25 = .ok (.goto (-23), 3) := by decide +kernel
theorem dX6_dropLine_28 : decode cX6_dropLine 28 = .ok (.aload_n 0, 1) := by decide +kernel
theorem dX6_dropLine_29 : decode cX6_dropLine 29 = .ok (.dup, 1) := by decide +kernel
theorem dX6_dropLine_30 : decode cX6_dropLine 30 = .ok (.getfield 24, 3) := by decide +kernel
theorem dX6_dropLine_33 : decode cX6_dropLine 33 = .ok (.iconst 1, 1) := by decide +kernel
theorem dX6_dropLine_34 : decode cX6_dropLine 34 = .ok (.isub, 1) := by decide +kernel
theorem dX6_dropLine_35 : decode cX6_dropLine 35 = .ok (.putfield 24, 3) := by decide +kernel
theorem dX6_dropLine_38 : decode cX6_dropLine 38 = .ok (.return_, 1) := by decide +kernel
theorem dX6_hasLineOfStyle_0 : decode cX6_hasLineOfStyle 0 = .ok (.iconst 0, 1) := by decide +kernel
theorem dX6_hasLineOfStyle_1 : decode cX6_hasLineOfStyle 1 = .ok (.istore_n 2, 1) := by decide +kernel
theorem dX6_hasLineOfStyle_2 : decode cX6_hasLineOfStyle 2 = .ok (.iload_n 2, 1) := by decide +kernel
theorem dX6_hasLineOfStyle_3 : decode cX6_hasLineOfStyle 3 = .ok (.aload_n 0, 1) := by decide +kernel
theorem dX6_hasLineOfStyle_4 : decode cX6_hasLineOfStyle 4 = .ok (.getfield 24, 3) := by decide +kernel
theorem dX6_hasLineOfStyle_7 : decode cX6_hasLineOfStyle 7 = .ok (.if_icmp .ge 29, 3) := by decide +kernel
theorem dX6_hasLineOfStyle_10 : decode cX6_hasLineOfStyle 10 = .ok (.aload_n 0, 1) := by decide +kernel
theorem dX6_hasLineOfStyle_11 : decode cX6_hasLineOfStyle 11 = .ok (.iload_n 2, 1) := by decide +kernel
theorem dX6_hasLineOfStyle_12 : decode cX6_hasLineOfStyle 12 = .ok (.invokevirtual 35, 3) := by decide +kernel
theorem dX6_hasLineOfStyle_15 : decode cX6_hasLineOfStyle 15 = .ok (.astore_n 3, 1) := by decide +kernel
theorem dX6_hasLineOfStyle_16 : decode cX6_hasLineOfStyle 16 = .ok (.aload_n 3, 1) := by decide +kernel
theorem dX6_hasLineOfStyle_17 : decode cX6_hasLineOfStyle 17 = .ok (.ifnull 13, 3) := by decide +kernel
theorem dX6_hasLineOfStyle_20 : decode cX6_hasLineOfStyle 20 = .ok (.aload_n 3, 1) := by decide +kernel
theorem dX6_hasLineOfStyle_21 : decode cX6_hasLineOfStyle 21 = .ok (.getfield 43, 3) := by decide +kernel
theorem dX6_hasLineOfStyle_24 : decode cX6_hasLineOfStyle 24 = .ok (.iload_n 1, 1) := by decide +kernel
theorem dX6_hasLineOfStyle_25 : decode cX6_hasLineOfStyle 25 = .ok (.if_icmp .ne 5, 3) := by decide +kernel
theorem dX6_hasLineOfStyle_28 : decode cX6_hasLineOfStyle 28 = .ok (.iconst 1, 1) := by decide +kernel
theorem dX6_hasLineOfStyle_29 : decode cX6_hasLineOfStyle 29 = .ok (.ireturn, 1) := by decide +kernel
theorem dX6_hasLineOfStyle_30 : decode cX6_hasLineOfStyle 30 = .ok (.iinc 2 1, 3) := by decide +kernel
theorem dX6_hasLineOfStyle_33 : decode cX6_hasLineOfStyle 33 = .ok (.goto (-31), 3) := by decide +kernel
theorem dX6_hasLineOfStyle_36 : decode cX6_hasLineOfStyle 36 = .ok (.iconst 0, 1) := by decide +kernel
theorem dX6_hasLineOfStyle_37 : decode cX6_hasLineOfStyle 37 = .ok (.ireturn, 1) := by decide +kernel
theorem dX7_init_0 : decode cX7_init 0 = .ok (.aload_n 0, 1) := by decide +kernel
theorem dX7_init_1 : decode cX7_init 1 = .ok (.invokespecial 3, 3) := by decide +kernel
theorem dX7_init_4 : decode cX7_init 4 = .ok (.aload_n 0, 1) := by decide +kernel
theorem dX7_init_5 : decode cX7_init 5 = .ok (.iconst 0, 1) := by decide +kernel
theorem dX7_init_6 : decode cX7_init 6 = .ok (.putfield 9, 3) := by decide +kernel
theorem dX7_init_9 : decode cX7_init 9 = .ok (.aload_n 0, 1) := by decide +kernel
theorem dX7_init_10 : decode cX7_init 10 = .ok (.new 15, 3) := by decide +kernel
theorem dX7_init_13 : decode cX7_init 13 = .ok (.dup, 1) := by decide +kernel
theorem dX7_init_14 : decode cX7_init 14 = .ok (.bipush 10, 2) := by decide +kernel
theorem dX7_init_16 : decode cX7_init 16 = .ok (.invokespecial 17, 3) := by decide +kernel
theorem dX7_init_19 : decode cX7_init 19 = .ok (.putfield 20, 3) := by decide +kernel
theorem dX7_init_22 : decode cX7_init 22 = .ok (.aload_n 0, 1) := by decide +kernel
theorem dX7_init_23 : decode cX7_init 23 = .ok (.new 15, 3) := by decide +kernel
theorem dX7_init_26 : decode cX7_init 26 = .ok (.dup, 1) := by decide +kernel
theorem dX7_init_27 : decode cX7_init 27 = .ok (.bipush 60, 2) := by decide +kernel
theorem dX7_init_29 : decode cX7_init 29 = .ok (.invokespecial 17, 3) := by decide +kernel
theorem dX7_init_32 : decode cX7_init 32 = .ok (.putfield 24, 3) := by decide +kernel
theorem dX7_init_35 : decode cX7_init 35 = .ok (.return_, 1) := by decide +kernel
theorem dX7_copy_0 : decode cX7_copy 0 = .ok (.aload_n 0, 1) := by decide +kernel
theorem dX7_copy_1 : decode cX7_copy 1 = .ok (.aload_n 1, 1) := by decide +kernel
theorem dX7_copy_2 : decode cX7_copy 2 = .ok (.getfield 9, 3) := by decide +kernel
theorem dX7_copy_5 : decode cX7_copy 5 = .ok (.putfield 9, 3) := by decide +kernel
theorem dX7_copy_8 : decode cX7_copy 8 = .ok (.aload_n 0, 1) := by decide +kernel
theorem dX7_copy_9 : decode cX7_copy 9 = .ok (.getfield 20, 3) := by decide +kernel
theorem dX7_copy_12 : decode cX7_copy 12 = .ok (.aload_n 1, 1) := by decide +kernel
theorem dX7_copy_13 : decode cX7_copy 13 = .ok (.getfield 20, 3) := by decide +kernel
theorem dX7_copy_16 : decode cX7_copy 16 = .ok (.invokevirtual 27, 3) := by decide +kernel
theorem dX7_copy_19 : decode cX7_copy 19 = .ok (.aload_n 0, 1) := by decide +kernel
theorem dX7_copy_20 : decode cX7_copy 20 = .ok (.getfield 24, 3) := by decide +kernel
theorem dX7_copy_23 : decode cX7_copy 23 = .ok (.aload_n 1, 1) := by decide +kernel
theorem dX7_copy_24 : decode cX7_copy 24 = .ok (.getfield 24, 3) := by decide +kernel
theorem dX7_copy_27 : decode cX7_copy 27 = .ok (.invokevirtual 27, 3) := by decide +kernel
theorem dX7_copy_30 : decode cX7_copy 30 = .ok (.return_, 1) := by decide +kernel
theorem dX7_has_0 : decode cX7_has 0 = .ok (.iload_n 1, 1) := by decide +kernel
theorem dX7_has_1 : decode cX7_has 1 = .ok (.ifCond .lt 15, 3) := by decide +kernel
theorem dX7_has_4 : decode cX7_has 4 = .ok (.iload_n 1, 1) := by decide +kernel
theorem dX7_has_5 : decode cX7_has 5 = .ok (.aload_n 0, 1) := by decide +kernel
theorem dX7_has_6 : decode cX7_has 6 = .ok (.getfield 9, 3) := by decide +kernel
theorem dX7_has_9 : decode cX7_has 9 = .ok (.if_icmp .ge 7, 3) := by decide +kernel
theorem dX7_has_12 : decode cX7_has 12 = .ok (.iconst 1, 1) := by decide +kernel
theorem dX7_has_13 : decode cX7_has 13 = .ok (.goto 4, 3) := by decide +kernel
theorem dX7_has_16 : decode cX7_has 16 = .ok (.iconst 0, 1) := by decide +kernel
theorem dX7_has_17 : decode cX7_has 17 = .ok (.ireturn, 1) := by decide +kernel
theorem dX7_hasOrNothing_0 : decode cX7_hasOrNothing 0 = .ok (.iload_n 1, 1) := by decide +kernel
theorem dX7_hasOrNothing_1 : decode cX7_hasOrNothing 1 = .ok (.iconst (-1), 1) := by decide +kernel
theorem dX7_hasOrNothing_2 : decode cX7_hasOrNothing 2 = .ok (.if_icmp .eq 11, 3) := by decide +kernel
theorem dX7_hasOrNothing_5 : decode cX7_hasOrNothing 5 = .ok (.aload_n 0, 1) := by decide +kernel
theorem dX7_hasOrNothing_6 : decode cX7_hasOrNothing 6 = .ok (.iload_n 1, 1) := by decide +kernel
theorem dX7_hasOrNothing_7 : decode cX7_hasOrNothing 7 = .ok (.invokevirtual 31, 3) := by decide +kernel
theorem dX7_hasOrNothing_10 : decode cX7_hasOrNothing 10 = .ok (.ifCond .eq 7, 3) := by decide +kernel
theorem dX7_hasOrNothing_13 : decode cX7_hasOrNothing 13 = .ok (.iconst 1, 1) := by decide +kernel
theorem dX7_hasOrNothing_14 : decode cX7_hasOrNothing 14 = .ok (.goto 4, 3) := by decide +kernel
theorem dX7_hasOrNothing_17 : decode cX7_hasOrNothing 17 = .ok (.iconst 0, 1) := by decide +kernel
theorem dX7_hasOrNothing_18 : decode cX7_hasOrNothing 18 = .ok (.ireturn, 1) := by decide +kernel
theorem dX7_add_0 : decode cX7_add 0 = .ok (.aload_n 0, 1) := by decide +kernel
theorem dX7_add_1 : decode cX7_add 1 = .ok (.getfield 20, 3) := by decide +kernel
theorem dX7_add_4 : decode cX7_add 4 = .ok (.aload_n 0, 1) := by decide +kernel
theorem dX7_add_5 : decode cX7_add 5 = .ok (.getfield 9, 3) := by decide +kernel
theorem dX7_add_8 : decode cX7_add 8 = .ok (.iload_n 1, 1) := by decide +kernel
theorem dX7_add_9 : decode cX7_add 9 = .ok (.invokevirtual 35, 3) := by decide +kernel
theorem dX7_add_12 : decode cX7_add 12 = .ok (.iconst 0, 1) := by decide +kernel
theorem dX7_add_13 : decode cX7_add 13 = .ok (.istore_n 2, 1) := by decide +kernel
theorem dX7_add_14 : decode cX7_add 14 = .ok (.iload_n 2, 1) := by decide +kernel
theorem dX7_add_15 : decode cX7_add 15 = .ok (.bipush 6, 2) := by decide +kernel
theorem dX7_add_17 : decode cX7_add 17 = .ok (.if_icmp .ge 19, 3) := by decide +kernel
theorem dX7_add_20 : decode cX7_add 20 = .ok (.aload_n 0, 1) := by decide +kernel
theorem dX7_add_21 : decode cX7_add 21 = .ok (.aload_n 0, 1) := by decide +kernel
theorem dX7_add_22 : decode cX7_add 22 = .ok (.getfield 9, 3) := by decide +kernel
theorem dX7_add_25 : decode cX7_add 25 = .ok (.iload_n 2, 1) := by decide +kernel
theorem dX7_add_26 : decode cX7_add 26 = .ok (.iconst (-1), 1) := by decide +kernel
theorem dX7_add_27 : decode cX7_add 27 = .ok (.invokevirtual 39, 3) := by decide +kernel
theorem dX7_add_30 : decode cX7_add 30 = .ok (.iinc 2 1, 3) := by decide +kernel
theorem dX7_add_33 : decode cX7_add 33 = .ok (.goto (-19), 3) := by decide +kernel
theorem dX7_add_36 : decode cX7_add 36 = .ok (.aload_n 0, 1) := by decide +kernel
theorem dX7_add_37 : decode cX7_add 37 = .ok (.dup, 1) := by decide +kernel
theorem dX7_add_38 : decode cX7_add 38 = .ok (.getfield 9, 3) := by decide +kernel
theorem dX7_add_41 : decode cX7_add 41 = .ok (.iconst 1, 1) := by decide +kernel
theorem dX7_add_42 : decode cX7_add 42 = .ok (.iadd, 1) := by decide +kernel
theorem dX7_add_43 : decode cX7_add 43 = .ok (.putfield 9, 3) := by decide +kernel
theorem dX7_add_46 : decode cX7_add 46 = .ok (.return_, 1) := by decide +kernel
theorem dX7_dropLast_0 : decode cX7_dropLast 0 = .ok (.aload_n 0, 1) := by decide +kernel
theorem dX7_dropLast_1 : decode cX7_dropLast 1 = .ok (.dup, 1) := by decide +kernel
theorem dX7_dropLast_2 : decode cX7_dropLast 2 = .ok (.getfield 9, 3) := by decide +kernel
theorem dX7_dropLast_5 : decode cX7_dropLast 5 = .ok (.iconst 1, 1) := by decide +kernel
theorem dX7_dropLast_6 : decode cX7_dropLast 6 = .ok (.isub, 1) := by decide +kernel
theorem dX7_dropLast_7 : decode cX7_dropLast 7 = .ok (.putfield 9, 3) := by decide +kernel
theorem dX7_dropLast_10 : decode cX7_dropLast 10 = .ok (.return_, 1) := by decide +kernel
theorem dX7_ownValue_0 : decode cX7_ownValue 0 = .ok (.aload_n 0, 1) := by decide +kernel
theorem dX7_ownValue_1 : decode cX7_ownValue 1 = .ok (.getfield 24, 3) := by decide +kernel
theorem dX7_ownValue_4 : decode cX7_ownValue 4 = .ok (.iload_n 1, 1) := by decide +kernel
theorem dX7_ownValue_5 : decode cX7_ownValue 5 = .ok (.bipush 6, 2) := by decide +kernel
theorem dX7_ownValue_7 : decode cX7_ownValue 7 = .ok (.imul, 1) := by decide +kernel
theorem dX7_ownValue_8 : decode cX7_ownValue 8 = .ok (.iload_n 2, 1) := by decide +kernel
theorem dX7_ownValue_9 : decode cX7_ownValue 9 = .ok (.iadd, 1) := by decide +kernel
theorem dX7_ownValue_10 : decode cX7_ownValue 10 = .ok (.invokevirtual 43, 3) := by decide +kernel
theorem dX7_ownValue_13 : decode cX7_ownValue 13 = .ok (.ireturn, 1) := by decide +kernel
theorem dX7_setOwnValue_0 : decode cX7_setOwnValue 0 = .ok (.aload_n 0, 1) := by decide +kernel
theorem dX7_setOwnValue_1 : decode cX7_setOwnValue 1 = .ok (.getfield 24, 3) := by decide +kernel
theorem dX7_setOwnValue_4 : decode cX7_setOwnValue 4 = .ok (.iload_n 1, 1) := by decide +kernel
theorem dX7_setOwnValue_5 : decode cX7_setOwnValue 5 = .ok (.bipush 6, 2) := by decide +kernel
theorem dX7_setOwnValue_7 : decode cX7_setOwnValue 7 = .ok (.imul, 1) := by decide +kernel
theorem dX7_setOwnValue_8 : decode cX7_setOwnValue 8 = .ok (.iload_n 2, 1) := by decide +kernel
theorem dX7_setOwnValue_9 : decode cX7_setOwnValue 9 = .ok (.iadd, 1) := by decide +kernel
theorem dX7_setOwnValue_10 : decode cX7_setOwnValue 10 = .ok (.iload_n 3, 1) := by decide +kernel
theorem dX7_setOwnValue_11 : decode cX7_setOwnValue 11 = .ok (.invokevirtual 35, 3) := by decide +kernel
theorem dX7_setOwnValue_14 : decode cX7_setOwnValue 14 = .ok (.return_, 1) := by decide +kernel
theorem dX7_sourceOf_0 : decode cX7_sourceOf 0 = .ok (.iload_n 1, 1) := by decide +kernel
theorem dX7_sourceOf_1 : decode cX7_sourceOf 1 = .ok (.istore_n 3, 1) := by decide +kernel
theorem dX7_sourceOf_2 : decode cX7_sourceOf 2 = .ok (.iconst 0, 1) := by decide +kernel
theorem dX7_sourceOf_3 : decode cX7_sourceOf 3 = .ok (.istore 4, 2) := by decide +kernel
theorem dX7_sourceOf_5 : decode cX7_sourceOf 5 = .ok (.iload 4, 2) := by decide +kernel
theorem dX7_sourceOf_7 : decode cX7_sourceOf 7 = .ok (.bipush 10, 2) := by decide +kernel
theorem dX7_sourceOf_9 : decode cX7_sourceOf 9 = .ok (.if_icmp .ge 49, 3) := by decide +kernel
theorem dX7_sourceOf_12 : decode cX7_sourceOf 12 = .ok (.iload_n 3, 1) := by decide +kernel
theorem dX7_sourceOf_13 : decode cX7_sourceOf 13 = .ok (.ifCond .lt 45, 3) := by decide +kernel
theorem dX7_sourceOf_16 : decode cX7_sourceOf 16 = .ok (.iload_n 3, 1) := by decide +kernel
theorem dX7_sourceOf_17 : decode cX7_sourceOf 17 = .ok (.aload_n 0, 1) := by decide +kernel
theorem dX7_sourceOf_18 : decode cX7_sourceOf 18 = .ok (.getfield 9, 3) := by decide +kernel
theorem dX7_sourceOf_21 : decode cX7_sourceOf 21 = .ok (.if_icmp .ge 37, 3) := by decide +kernel
theorem dX7_sourceOf_24 : decode cX7_sourceOf 24 = .ok (.aload_n 0, 1) := by decide +kernel
theorem dX7_sourceOf_25 : decode cX7_sourceOf 25 = .ok (.getfield 24, 3) := by decide +kernel
theorem dX7_sourceOf_28 : decode cX7_sourceOf 28 = .ok (.iload_n 3, 1) := by decide +kernel
theorem dX7_sourceOf_29 : decode cX7_sourceOf 29 = .ok (.bipush 6, 2) := by decide +kernel
theorem dX7_sourceOf_31 : decode cX7_sourceOf 31 = .ok (.imul, 1) := by decide +kernel
theorem dX7_sourceOf_32 : decode cX7_sourceOf 32 = .ok (.iload_n 2, 1) := by decide +kernel
theorem dX7_sourceOf_33 : decode cX7_sourceOf 33 = .ok (.iadd, 1) := by decide +kernel
theorem dX7_sourceOf_34 : decode cX7_sourceOf 34 = .ok (.invokevirtual 43, 3) := by decide +kernel
theorem dX7_sourceOf_37 : decode cX7_sourceOf 37 = .ok (.iconst (-1), 1) := by decide +kernel
theorem dX7_sourceOf_38 : decode cX7_sourceOf 38 = .ok (.if_icmp .eq 5, 3) := by decide +kernel
theorem dX7_sourceOf_41 : decode cX7_sourceOf 41 = .ok (.iload_n 3, 1) := by decide +kernel
theorem dX7_sourceOf_42 : decode cX7_sourceOf 42 = .ok (.ireturn, 1) := by decide +kernel
theorem dX7_sourceOf_43 : decode cX7_sourceOf 43 = .ok (.aload_n 0, 1) := by decide +kernel
theorem dX7_sourceOf_44 : decode cX7_sourceOf 44 = .ok (.getfield 20, 3) := by decide +kernel
theorem dX7_sourceOf_47 : decode cX7_sourceOf 47 = .ok (.iload_n 3, 1) := by decide +kernel
theorem dX7_sourceOf_48 : decode cX7_sourceOf 48 = .ok (.invokevirtual 43, 3) := by decide +kernel
theorem dX7_sourceOf_51 : decode cX7_sourceOf 51 = .ok (.istore_n 3, 1) := by decide +kernel
theorem dX7_sourceOf_52 : decode cX7_sourceOf 52 = .ok (.iinc 4 1, 3) := by decide +kernel
theorem dX7_sourceOf_55 : decode cX7_sourceOf 55 = .ok (.goto (-50), 3) := by decide +kernel
theorem dX7_sourceOf_58 : decode cX7_sourceOf 58 = .ok (.bipush (-9), 2) := by decide +kernel
theorem dX7_sourceOf_60 : decode cX7_sourceOf 60 = .ok (.ireturn, 1) := by decide +kernel
theorem dX7_valueIn_0 : decode cX7_valueIn 0 = .ok (.aload_n 0, 1) := by decide +kernel
theorem dX7_valueIn_1 : decode cX7_valueIn 1 = .ok (.iload_n 1, 1) := by decide +kernel
theorem dX7_valueIn_2 : decode cX7_valueIn 2 = .ok (.iload_n 2, 1) := by decide +kernel
theorem dX7_valueIn_3 : decode cX7_valueIn 3 = .ok (.invokevirtual 47, 3) := by decide +kernel
theorem dX7_valueIn_6 : decode cX7_valueIn 6 = .ok (.istore_n 3, 1) := by decide +kernel
theorem dX7_valueIn_7 : decode cX7_valueIn 7 = .ok (.iload_n 3, 1) := by decide +kernel
theorem dX7_valueIn_8 : decode cX7_valueIn 8 = .ok (.bipush (-9), 2) := by decide +kernel
theorem dX7_valueIn_10 : decode cX7_valueIn 10 = .ok (.if_icmp .ne 10, 3) := by decide +kernel
theorem dX7_valueIn_13 : decode cX7_valueIn 13 = .ok (.iload_n 2, 1) := by decide +kernel
theorem dX7_valueIn_14 : decode cX7_valueIn 14 = .ok (.invokestatic 51, 3) := by decide +kernel
theorem dX7_valueIn_17 : decode cX7_valueIn 17 = .ok (.goto 9, 3) := by decide +kernel
theorem dX7_valueIn_20 : decode cX7_valueIn 20 = .ok (.aload_n 0, 1) := by decide +kernel
theorem dX7_valueIn_21 : decode cX7_valueIn 21 = .ok (.iload_n 3, 1) := by decide +kernel
theorem dX7_valueIn_22 : decode cX7_valueIn 22 = .ok (.iload_n 2, 1) := by decide +kernel
theorem dX7_valueIn_23 : decode cX7_valueIn 23 = .ok (.invokevirtual 54, 3) := by decide +kernel
theorem dX7_valueIn_26 : decode cX7_valueIn 26 = .ok (.ireturn, 1) := by decide +kernel
theorem dX7_leadsTo_0 : decode cX7_leadsTo 0 = .ok (.iload_n 1, 1) := by decide +kernel
theorem dX7_leadsTo_1 : decode cX7_leadsTo 1 = .ok (.istore_n 3, 1) := by decide +kernel
theorem dX7_leadsTo_2 : decode cX7_leadsTo 2 = .ok (.iconst 0, 1) := by decide +kernel
theorem dX7_leadsTo_3 : decode cX7_leadsTo 3 = .ok (.istore 4, 2) := by decide +kernel
theorem dX7_leadsTo_5 : decode cX7_leadsTo 5 = .ok (.iload 4, 2) := by decide +kernel
theorem dX7_leadsTo_7 : decode cX7_leadsTo 7 = .ok (.bipush 10, 2) := by decide +kernel
theorem dX7_leadsTo_9 : decode cX7_leadsTo 9 = .ok (.if_icmp .ge 33, 3) := by decide +kernel
theorem dX7_leadsTo_12 : decode cX7_leadsTo 12 = .ok (.aload_n 0, 1) := by decide +kernel
theorem dX7_leadsTo_13 : decode cX7_leadsTo 13 = .ok (.iload_n 3, 1) := by decide +kernel
theorem dX7_leadsTo_14 : decode cX7_leadsTo 14 = .ok (.invokevirtual 31, 3) := by decide +kernel
theorem dX7_leadsTo_17 : decode cX7_leadsTo 17 = .ok (.ifCond .eq 25, 3) := by decide +kernel
theorem dX7_leadsTo_20 : decode cX7_leadsTo 20 = .ok (.iload_n 3, 1) := by decide +kernel
theorem dX7_leadsTo_21 : decode cX7_leadsTo 21 = .ok (.iload_n 2, 1) := by decide +kernel
theorem dX7_leadsTo_22 : decode cX7_leadsTo 22 = .ok (.if_icmp .ne 5, 3) := by decide +kernel
theorem dX7_leadsTo_25 : decode cX7_leadsTo 25 = .ok (.iconst 1, 1) := by decide +kernel
theorem dX7_leadsTo_26 : decode cX7_leadsTo 26 = .ok (.ireturn, 1) := by decide +kernel
theorem dX7_leadsTo_27 : decode cX7_leadsTo 27 = .ok (.aload_n 0, 1) := by decide +kernel
theorem dX7_leadsTo_28 : decode cX7_leadsTo 28 = .ok (.getfield 20, 3) := by decide +kernel
theorem dX7_leadsTo_31 : decode cX7_leadsTo 31 = .ok (.iload_n 3, 1) := by decide +kernel
theorem dX7_leadsTo_32 : decode cX7_leadsTo 32 = .ok (.invokevirtual 43, 3) := by decide +kernel
theorem dX7_leadsTo_35 : decode cX7_leadsTo 35 = .ok (.istore_n 3, 1) := by decide +kernel
theorem dX7_leadsTo_36 : decode cX7_leadsTo 36 = .ok (.iinc 4 1, 3) := by decide +kernel
theorem dX7_leadsTo_39 : decode cX7_leadsTo 39 = .ok (.goto (-34), 3) := by decide +kernel
theorem dX7_leadsTo_42 : decode cX7_leadsTo 42 = .ok (.iconst 0, 1) := by decide +kernel
theorem dX7_leadsTo_43 : decode cX7_leadsTo 43 = .ok (.ireturn, 1) := by decide +kernel
theorem dX7_ancestorsOf_0 : decode cX7_ancestorsOf 0 = .ok (.iconst 0, 1) := by decide +kernel
theorem dX7_ancestorsOf_1 : decode cX7_ancestorsOf 1 = .ok (.istore_n 2, 1) := by decide +kernel
theorem dX7_ancestorsOf_2 : decode cX7_ancestorsOf 2 = .ok (.aload_n 0, 1) := by decide +kernel
theorem dX7_ancestorsOf_3 : decode cX7_ancestorsOf 3 = .ok (.getfield 20, 3) := by decide +kernel
theorem dX7_ancestorsOf_6 : decode cX7_ancestorsOf 6 = .ok (.iload_n 1, 1) := by decide +kernel
theorem dX7_ancestorsOf_7 : decode cX7_ancestorsOf 7 = .ok (.invokevirtual 43, 3) := by decide +kernel
theorem dX7_ancestorsOf_10 : decode cX7_ancestorsOf 10 = .ok (.istore_n 3, 1) := by decide +kernel
theorem dX7_ancestorsOf_11 : decode cX7_ancestorsOf 11 = .ok (.iconst 0, 1) := by decide +kernel
theorem dX7_ancestorsOf_12 : decode cX7_ancestorsOf 12 = .ok (.istore 4, 2) := by decide +kernel
theorem dX7_ancestorsOf_14 : decode cX7_ancestorsOf 14 = .ok (.iload 4, 2) := by decide +kernel
theorem dX7_ancestorsOf_16 : decode cX7_ancestorsOf 16 = .ok (.bipush 10, 2) := by decide +kernel
theorem dX7_ancestorsOf_18 : decode cX7_ancestorsOf 18 = .ok (.if_icmp .ge 29, 3) := by decide +kernel
theorem dX7_ancestorsOf_21 : decode cX7_ancestorsOf 21 = .ok (.aload_n 0, 1) := by decide +kernel
theorem dX7_ancestorsOf_22 : decode cX7_ancestorsOf 22 = .ok (.iload_n 3, 1) := by decide +kernel
theorem dX7_ancestorsOf_23 : decode cX7_ancestorsOf 23 = .ok (.invokevirtual 31, 3) := by decide +kernel
theorem dX7_ancestorsOf_26 : decode cX7_ancestorsOf 26 = .ok (.ifCond .eq 21, 3) := by decide +kernel
theorem dX7_ancestorsOf_29 : decode cX7_ancestorsOf 29 = .ok (.iinc 2 1, 3) := by decide +kernel
theorem dX7_ancestorsOf_32 : decode cX7_ancestorsOf 32 = .ok (.aload_n 0, 1) := by decide +kernel
theorem dX7_ancestorsOf_33 : decode cX7_ancestorsOf 33 = .ok (.getfield 20, 3) := by decide +kernel
theorem dX7_ancestorsOf_36 : decode cX7_ancestorsOf 36 = .ok (.iload_n 3, 1) := by decide +kernel
theorem dX7_ancestorsOf_37 : decode cX7_ancestorsOf 37 = .ok (.invokevirtual 43, 3) := by decide +kernel
theorem dX7_ancestorsOf_40 : decode cX7_ancestorsOf 40 = .ok (.istore_n 3, 1) := by decide +kernel
theorem dX7_ancestorsOf_41 : decode cX7_ancestorsOf 41 = .ok (.iinc 4 1, 3) := by decide +kernel
theorem dX7_ancestorsOf_44 : decode cX7_ancestorsOf 44 = .ok (.goto (-30), 3) := by decide +kernel
theorem dX7_ancestorsOf_47 : decode cX7_ancestorsOf 47 = .ok (.iload_n 2, 1) := by decide +kernel
theorem dX7_ancestorsOf_48 : decode cX7_ancestorsOf 48 = .ok (.ireturn, 1) := by decide +kernel
theorem dX7_childrenOf_0 : decode cX7_childrenOf 0 = .ok (.iconst 0, 1) := by decide +kernel
theorem dX7_childrenOf_1 : decode cX7_childrenOf 1 = .ok (.istore_n 2, 1) := by decide +kernel
theorem dX7_childrenOf_2 : decode cX7_childrenOf 2 = .ok (.iconst 0, 1) := by decide +kernel
theorem dX7_childrenOf_3 : decode cX7_childrenOf 3 = .ok (.istore_n 3, 1) := by decide +kernel
theorem dX7_childrenOf_4 : decode cX7_childrenOf 4 = .ok (.iload_n 3, 1) := by decide +kernel
theorem dX7_childrenOf_5 : decode cX7_childrenOf 5 = .ok (.aload_n 0, 1) := by decide +kernel
theorem dX7_childrenOf_6 : decode cX7_childrenOf 6 = .ok (.getfield 9, 3) := by decide +kernel
theorem dX7_childrenOf_9 : decode cX7_childrenOf 9 = .ok (.if_icmp .ge 24, 3) := by decide +kernel
theorem dX7_childrenOf_12 : decode cX7_childrenOf 12 = .ok (.aload_n 0, 1) := by decide +kernel
theorem dX7_childrenOf_13 : decode cX7_childrenOf 13 = .ok (.getfield 20, 3) := by decide +kernel
theorem dX7_childrenOf_16 : decode cX7_childrenOf 16 = .ok (.iload_n 3, 1) := by decide +kernel
theorem dX7_childrenOf_17 : decode cX7_childrenOf 17 = .ok (.invokevirtual 43, 3) := by decide +kernel
theorem dX7_childrenOf_20 : decode cX7_childrenOf 20 = .ok (.iload_n 1, 1) := by decide +kernel
theorem dX7_childrenOf_21 : decode cX7_childrenOf 21 = .ok (.if_icmp .ne 6, 3) := by decide +kernel
theorem dX7_childrenOf_24 : decode cX7_childrenOf 24 = .ok (.iinc 2 1, 3) := by decide +kernel
theorem dX7_childrenOf_27 : decode cX7_childrenOf 27 = .ok (.iinc 3 1, 3) := by decide +kernel
theorem dX7_childrenOf_30 : decode cX7_childrenOf 30 = .ok (.goto (-26), 3) := by decide +kernel
theorem dX7_childrenOf_33 : decode cX7_childrenOf 33 = .ok (.iload_n 2, 1) := by decide +kernel
theorem dX7_childrenOf_34 : decode cX7_childrenOf 34 = .ok (.ireturn, 1) := by decide +kernel
theorem dX7_makeFlat_0 : decode cX7_makeFlat 0 = .ok (.iconst 0, 1) := by decide +kernel
theorem dX7_makeFlat_1 : decode cX7_makeFlat 1 = .ok (.istore_n 1, 1) := by decide +kernel
theorem dX7_makeFlat_2 : decode cX7_makeFlat 2 = .ok (.iconst 0, 1) := by decide +kernel
theorem dX7_makeFlat_3 : decode cX7_makeFlat 3 = .ok (.istore_n 2, 1) := by decide +kernel
theorem dX7_makeFlat_4 : decode cX7_makeFlat 4 = .ok (.iload_n 2, 1) := by decide +kernel
theorem dX7_makeFlat_5 : decode cX7_makeFlat 5 = .ok (.aload_n 0, 1) := by decide +kernel
theorem dX7_makeFlat_6 : decode cX7_makeFlat 6 = .ok (.getfield 9, 3) := by decide +kernel
theorem dX7_makeFlat_9 : decode cX7_makeFlat 9 = .ok (.if_icmp .ge 57, 3) := by decide +kernel
theorem dX7_makeFlat_12 : decode cX7_makeFlat 12 = .ok (.iconst 0, 1) := by decide +kernel
theorem dX7_makeFlat_13 : decode cX7_makeFlat 13 = .ok (.istore_n 3, 1) := by decide +kernel
theorem dX7_makeFlat_14 : decode cX7_makeFlat 14 = .ok (.iload_n 3, 1) := by decide +kernel
theorem dX7_makeFlat_15 : decode cX7_makeFlat 15 = .ok (.bipush 6, 2) := by decide +kernel
theorem dX7_makeFlat_17 : decode cX7_makeFlat 17 = .ok (.if_icmp .ge 34, 3) := by decide +kernel
theorem dX7_makeFlat_20 : decode cX7_makeFlat 20 = .ok (.aload_n 0, 1) := by decide +kernel
theorem dX7_makeFlat_21 : decode cX7_makeFlat 21 = .ok (.iload_n 2, 1) := by decide +kernel
theorem dX7_makeFlat_22 : decode cX7_makeFlat 22 = .ok (.iload_n 3, 1) := by decide +kernel
theorem dX7_makeFlat_23 : decode cX7_makeFlat 23 = .ok (.invokevirtual 54, 3) := by decide +kernel
theorem dX7_makeFlat_26 : decode cX7_makeFlat 26 = .ok (.iconst (-1), 1) := by decide +kernel
theorem dX7_makeFlat_27 : decode cX7_makeFlat 27 = .ok (.if_icmp .ne 18, 3) := by decide +kernel
theorem dX7_makeFlat_30 : decode cX7_makeFlat 30 = .ok (.aload_n 0, 1) := by decide +kernel
theorem dX7_makeFlat_31 : decode cX7_makeFlat 31 = .ok (.iload_n 2, 1) := by decide +kernel
theorem dX7_makeFlat_32 : decode cX7_makeFlat 32 = .ok (.iload_n 3, 1) := by decide +kernel
theorem dX7_makeFlat_33 : decode cX7_makeFlat 33 = .ok (.aload_n 0, 1) := by decide +kernel
theorem dX7_makeFlat_34 : decode cX7_makeFlat 34 = .ok (.iload_n 2, 1) := by decide +kernel
theorem dX7_makeFlat_35 : decode cX7_makeFlat 35 = .ok (.iload_n 3, 1) := by decide +kernel
theorem dX7_makeFlat_36 : decode cX7_makeFlat 36 = .ok (.invokevirtual 57, 3) := by decide +kernel
theorem dX7_makeFlat_39 : decode cX7_makeFlat 39 = .ok (.invokevirtual 39, 3) := by decide +kernel
theorem dX7_makeFlat_42 : decode cX7_makeFlat 42 = .ok (.iinc 1 1, 3) := by decide +kernel
theorem dX7_makeFlat_45 : decode cX7_makeFlat 45 = .ok (.iinc 3 1, 3) := by decide +kernel
theorem dX7_makeFlat_48 : decode cX7_makeFlat 48 = .ok (.goto (-34), 3) := by decide +kernel
theorem dX7_makeFlat_51 : decode cX7_makeFlat 51 = .ok (.aload_n 0, 1) := by decide +kernel
theorem dX7_makeFlat_52 : decode cX7_makeFlat 52 = .ok (.getfield 20, 3) := by decide +kernel
theorem dX7_makeFlat_55 : decode cX7_makeFlat 55 = .ok (.iload_n 2, 1) := by decide +kernel
theorem dX7_makeFlat_56 : decode cX7_makeFlat 56 = .ok (.iconst (-1), 1) := by decide +kernel
theorem dX7_makeFlat_57 : decode cX7_makeFlat 57 = .ok (.invokevirtual 35, 3) := by decide +kernel
theorem dX7_makeFlat_60 : decode cX7_makeFlat 60 = .ok (.iinc 2 1, 3) := by decide +kernel
theorem dX7_makeFlat_63 : decode cX7_makeFlat 63 = .ok (.goto (-59), 3) := by decide +kernel
theorem dX7_makeFlat_66 : decode cX7_makeFlat 66 = .ok (.iload_n 1, 1) := by decide +kernel
theorem dX7_makeFlat_67 : decode cX7_makeFlat 67 = .ok (.ireturn, 1) := by decide +kernel
theorem dX8_init_0 : decode cX8_init 0 = .ok (.aload_n 0, 1) := by decide +kernel
theorem dX8_init_1 : decode cX8_init 1 = .ok (.invokespecial 3, 3) := by decide +kernel
theorem dX8_init_4 : decode cX8_init 4 = .ok (.aload_n 0, 1) := by decide +kernel
theorem dX8_init_5 : decode cX8_init 5 = .ok (.iload_n 3, 1) := by decide +kernel
theorem dX8_init_6 : decode cX8_init 6 = .ok (.putfield 9, 3) := by decide +kernel
theorem dX8_init_9 : decode cX8_init 9 = .ok (.aload_n 0, 1) := by decide +kernel
theorem dX8_init_10 : decode cX8_init 10 = .ok (.new 15, 3) := by decide +kernel
theorem dX8_init_13 : decode cX8_init 13 = .ok (.dup, 1) := by decide +kernel
theorem dX8_init_14 : decode cX8_init 14 = .ok (.iload_n 3, 1) := by decide +kernel
theorem dX8_init_15 : decode cX8_init 15 = .ok (.invokespecial 17, 3) := by decide +kernel
theorem dX8_init_18 : decode cX8_init 18 = .ok (.putfield 20, 3) := by decide +kernel
theorem dX8_init_21 : decode cX8_init 21 = .ok (.aload_n 0, 1) := by decide +kernel
theorem dX8_init_22 : decode cX8_init 22 = .ok (.new 15, 3) := by decide +kernel
theorem dX8_init_25 : decode cX8_init 25 = .ok (.dup, 1) := by decide +kernel
theorem dX8_init_26 : decode cX8_init 26 = .ok (.iload_n 3, 1) := by decide +kernel
theorem dX8_init_27 : decode cX8_init 27 = .ok (.invokespecial 17, 3) := by decide +kernel
theorem dX8_init_30 : decode cX8_init 30 = .ok (.putfield 24, 3) := by decide +kernel
theorem dX8_init_33 : decode cX8_init 33 = .ok (.aload_n 0, 1) := by decide +kernel
theorem dX8_init_34 : decode cX8_init 34 = .ok (.getfield 20, 3) := by decide +kernel
theorem dX8_init_37 : decode cX8_init 37 = .ok (.aload_n 1, 1) := by decide +kernel
theorem dX8_init_38 : decode cX8_init 38 = .ok (.invokevirtual 27, 3) := by decide +kernel
theorem dX8_init_41 : decode cX8_init 41 = .ok (.aload_n 0, 1) := by decide +kernel
theorem dX8_init_42 : decode cX8_init 42 = .ok (.getfield 24, 3) := by decide +kernel
theorem dX8_init_45 : decode cX8_init 45 = .ok (.aload_n 2, 1) := by decide +kernel
theorem dX8_init_46 : decode cX8_init 46 = .ok (.invokevirtual 27, 3) := by decide +kernel
theorem dX8_init_49 : decode cX8_init 49 = .ok (.return_, 1) := by decide +kernel
theorem dX8_withLastSyllable_0 : decode cX8_withLastSyllable 0 = .ok (.new 10, 3) := by decide +kernel
theorem dX8_withLastSyllable_3 : decode cX8_withLastSyllable 3 = .ok (.dup, 1) := by decide +kernel
theorem dX8_withLastSyllable_4 : decode cX8_withLastSyllable 4 = .ok (.aload_n 0, 1) := by decide +kernel
theorem dX8_withLastSyllable_5 : decode cX8_withLastSyllable 5 = .ok (.getfield 20, 3) := by decide +kernel
theorem dX8_withLastSyllable_8 : decode cX8_withLastSyllable 8 = .ok (.aload_n 0, 1) := by decide +kernel
theorem dX8_withLastSyllable_9 : decode cX8_withLastSyllable 9 = .ok (.getfield 24, 3) := by decide +kernel
theorem dX8_withLastSyllable_12 : decode cX8_withLastSyllable 12 = .ok (.aload_n 0, 1) := by decide +kernel
theorem dX8_withLastSyllable_13 : decode cX8_withLastSyllable 13 = .ok (.getfield 9, 3) := by decide +kernel
theorem dX8_withLastSyllable_16 : decode cX8_withLastSyllable 16 = .ok (.invokespecial 31, 3) := by decide +kernel
theorem dX8_withLastSyllable_19 : decode cX8_withLastSyllable 19 = .ok (.astore_n 2, 1) := by decide +kernel
theorem dX8_withLastSyllable_20 : decode cX8_withLastSyllable 20 = .ok (.aload_n 0, 1) := by decide +kernel
theorem dX8_withLastSyllable_21 : decode cX8_withLastSyllable 21 = .ok (.getfield 9, 3) := by decide +kernel
theorem dX8_withLastSyllable_24 : decode cX8_withLastSyllable 24 = .ok (.iconst 1, 1) := by decide +kernel
theorem dX8_withLastSyllable_25 : decode cX8_withLastSyllable 25 = .ok (.isub, 1) := by decide +kernel
theorem dX8_withLastSyllable_26 : decode cX8_withLastSyllable 26 = .ok (.istore_n 3, 1) := by decide +kernel
theorem dX8_withLastSyllable_27 : decode cX8_withLastSyllable 27 = .ok (.iload_n 3, 1) := by decide +kernel
theorem dX8_withLastSyllable_28 : decode cX8_withLastSyllable 28 = .ok (.ifCond .lt 33, 3) := by decide +kernel
theorem dX8_withLastSyllable_31 : decode cX8_withLastSyllable 31 = .ok (.aload_n 0, 1) := by decide +kernel
theorem dX8_withLastSyllable_32 : decode cX8_withLastSyllable 32 = .ok (.getfield 20, 3) := by decide +kernel
theorem dX8_withLastSyllable_35 : decode cX8_withLastSyllable 35 = .ok (.iload_n 3, 1) := by decide +kernel
theorem dX8_withLastSyllable_36 : decode cX8_withLastSyllable 36 = .ok (.invokevirtual 34, 3) := by decide +kernel
theorem dX8_withLastSyllable_39 : decode cX8_withLastSyllable 39 = .ok (.bipush 107, 2) := by decide +kernel
theorem dX8_withLastSyllable_41 : decode cX8_withLastSyllable 41 = .ok (.if_icmp .ne 14, 3) := by decide +kernel
theorem dX8_withLastSyllable_44 : decode cX8_withLastSyllable 44 = .ok (.aload_n 2, 1) := by decide +kernel
theorem dX8_withLastSyllable_45 : decode cX8_withLastSyllable 45 = .ok (.getfield 24, 3) := by decide +kernel
theorem dX8_withLastSyllable_48 : decode cX8_withLastSyllable 48 = .ok (.iload_n 3, 1) := by decide +kernel
theorem dX8_withLastSyllable_49 : decode cX8_withLastSyllable 49 = .ok (.iload_n 1, 1) := by decide +kernel
theorem dX8_withLastSyllable_50 : decode cX8_withLastSyllable 50 = .ok (.invokevirtual 38, 3) := by decide +kernel
theorem dX8_withLastSyllable_53 : decode cX8_withLastSyllable 53 = .ok (.aload_n 2, 1) := by decide +kernel
theorem dX8_withLastSyllable_54 : decode cX8_withLastSyllable 54 = .ok (.areturn, 1) := by decide +kernel
theorem dX8_withLastSyllable_55 : decode cX8_withLastSyllable 55 = .ok (.iinc 3 (-1), 3) := by decide +kernel
theorem dX8_withLastSyllable_58 : decode cX8_withLastSyllable 58 = .ok (.goto (-31), 3) := by decide +kernel
theorem dX8_withLastSyllable_61 : decode cX8_withLastSyllable 61 = .ok (.aload_n 2, 1) := by decide +kernel
theorem dX8_withLastSyllable_62 : decode cX8_withLastSyllable 62 = .ok (.areturn, 1) := by decide +kernel
theorem dX9_init_0 : decode cX9_init 0 = .ok (.aload_n 0, 1) := by decide +kernel
theorem dX9_init_1 : decode cX9_init 1 = .ok (.invokespecial 3, 3) := by decide +kernel
theorem dX9_init_4 : decode cX9_init 4 = .ok (.aload_n 0, 1) := by decide +kernel
theorem dX9_init_5 : decode cX9_init 5 = .ok (.new 9, 3) := by decide +kernel
theorem dX9_init_8 : decode cX9_init 8 = .ok (.dup, 1) := by decide +kernel
theorem dX9_init_9 : decode cX9_init 9 = .ok (.bipush 80, 2) := by decide +kernel
theorem dX9_init_11 : decode cX9_init 11 = .ok (.invokespecial 11, 3) := by decide +kernel
theorem dX9_init_14 : decode cX9_init 14 = .ok (.putfield 14, 3) := by decide +kernel
theorem dX9_init_17 : decode cX9_init 17 = .ok (.aload_n 0, 1) := by decide +kernel
theorem dX9_init_18 : decode cX9_init 18 = .ok (.iconst 0, 1) := by decide +kernel
theorem dX9_init_19 : decode cX9_init 19 = .ok (.putfield 18, 3) := by decide +kernel
theorem dX9_init_22 : decode cX9_init 22 = .ok (.aload_n 0, 1) := by decide +kernel
theorem dX9_init_23 : decode cX9_init 23 = .ok (.new 22, 3) := by decide +kernel
theorem dX9_init_26 : decode cX9_init 26 = .ok (.dup, 1) := by decide +kernel
theorem dX9_init_27 : decode cX9_init 27 = .ok (.invokespecial 24, 3) := by decide +kernel
theorem dX9_init_30 : decode cX9_init 30 = .ok (.putfield 25, 3) := by decide +kernel
theorem dX9_init_33 : decode cX9_init 33 = .ok (.aload_n 0, 1) := by decide +kernel
theorem dX9_init_34 : decode cX9_init 34 = .ok (.new 29, 3) := by decide +kernel
theorem dX9_init_37 : decode cX9_init 37 = .ok (.dup, 1) := by decide +kernel
theorem dX9_init_38 : decode cX9_init 38 = .ok (.invokespecial 31, 3) := by decide +kernel
theorem dX9_init_41 : decode cX9_init 41 = .ok (.putfield 32, 3) := by decide +kernel
theorem dX9_init_44 : decode cX9_init 44 = .ok (.aload_n 0, 1) := by decide +kernel
theorem dX9_init_45 : decode cX9_init 45 = .ok (.new 36, 3) := by decide +kernel
theorem dX9_init_48 : decode cX9_init 48 = .ok (.dup, 1) := by decide +kernel
theorem dX9_init_49 : decode cX9_init 49 = .ok (.invokespecial 38, 3) := by decide +kernel
theorem dX9_init_52 : decode cX9_init 52 = .ok (.putfield 39, 3) := by decide +kernel
theorem dX9_init_55 : decode cX9_init 55 = .ok (.aload_n 0, 1) := by decide +kernel
theorem dX9_init_56 : decode cX9_init 56 = .ok (.new 43, 3) := by decide +kernel
theorem dX9_init_59 : decode cX9_init 59 = .ok (.dup, 1) := by decide +kernel
theorem dX9_init_60 : decode cX9_init 60 = .ok (.invokespecial 45, 3) := by decide +kernel
theorem dX9_init_63 : decode cX9_init 63 = .ok (.putfield 46, 3) := by decide +kernel
theorem dX9_init_66 : decode cX9_init 66 = .ok (.aload_n 0, 1) := by decide +kernel
theorem dX9_init_67 : decode cX9_init 67 = .ok (.new 50, 3) := by decide +kernel
theorem dX9_init_70 : decode cX9_init 70 = .ok (.dup, 1) := by decide +kernel
theorem dX9_init_71 : decode cX9_init 71 = .ok (.invokespecial 52, 3) := by decide +kernel
theorem dX9_init_74 : decode cX9_init 74 = .ok (.putfield 53, 3) := by decide +kernel
theorem dX9_init_77 : decode cX9_init 77 = .ok (.aload_n 0, 1) := by decide +kernel
theorem dX9_init_78 : decode cX9_init 78 = .ok (.new 57, 3) := by decide +kernel
theorem dX9_init_81 : decode cX9_init 81 = .ok (.dup, 1) := by decide +kernel
theorem dX9_init_82 : decode cX9_init 82 = .ok (.invokespecial 59, 3) := by decide +kernel
theorem dX9_init_85 : decode cX9_init 85 = .ok (.putfield 60, 3) := by decide +kernel
theorem dX9_init_88 : decode cX9_init 88 = .ok (.return_, 1) := by decide +kernel
theorem dX9_style_0 : decode cX9_style 0 = .ok (.aload_n 0, 1) := by decide +kernel
theorem dX9_style_1 : decode cX9_style 1 = .ok (.getfield 32, 3) := by decide +kernel
theorem dX9_style_4 : decode cX9_style 4 = .ok (.getfield 64, 3) := by decide +kernel
theorem dX9_style_7 : decode cX9_style 7 = .ok (.astore_n 2, 1) := by decide +kernel
theorem dX9_style_8 : decode cX9_style 8 = .ok (.aload_n 2, 1) := by decide +kernel
theorem dX9_style_9 : decode cX9_style 9 = .ok (.iload_n 1, 1) := by decide +kernel
theorem dX9_style_10 : decode cX9_style 10 = .ok (.invokevirtual 67, 3) := by decide +kernel
theorem dX9_style_13 : decode cX9_style 13 = .ok (.ifCond .ne 5, 3) := by decide +kernel
theorem dX9_style_16 : decode cX9_style 16 = .ok (.iconst (-1), 1) := by decide +kernel
theorem dX9_style_17 : decode cX9_style 17 = .ok (.ireturn, 1) := by decide +kernel
theorem dX9_style_18 : decode cX9_style 18 = .ok (.aload_n 2, 1) := by decide +kernel
theorem dX9_style_19 : decode cX9_style 19 = .ok (.getfield 71, 3) := by decide +kernel
theorem dX9_style_22 : decode cX9_style 22 = .ok (.bipush 10, 2) := by decide +kernel
theorem dX9_style_24 : decode cX9_style 24 = .ok (.if_icmp .lt 6, 3) := by decide +kernel
theorem dX9_style_27 : decode cX9_style 27 = .ok (.bipush (-3), 2) := by decide +kernel
theorem dX9_style_29 : decode cX9_style 29 = .ok (.ireturn, 1) := by decide +kernel
theorem dX9_style_30 : decode cX9_style 30 = .ok (.aload_n 0, 1) := by decide +kernel
theorem dX9_style_31 : decode cX9_style 31 = .ok (.getfield 39, 3) := by decide +kernel
theorem dX9_style_34 : decode cX9_style 34 = .ok (.aload_n 0, 1) := by decide +kernel
theorem dX9_style_35 : decode cX9_style 35 = .ok (.getfield 32, 3) := by decide +kernel
theorem dX9_style_38 : decode cX9_style 38 = .ok (.invokevirtual 74, 3) := by decide +kernel
theorem dX9_style_41 : decode cX9_style 41 = .ok (.aload_n 2, 1) := by decide +kernel
theorem dX9_style_42 : decode cX9_style 42 = .ok (.iload_n 1, 1) := by decide +kernel
theorem dX9_style_43 : decode cX9_style 43 = .ok (.invokevirtual 78, 3) := by decide +kernel
theorem dX9_style_46 : decode cX9_style 46 = .ok (.aload_n 0, 1) := by decide +kernel
theorem dX9_style_47 : decode cX9_style 47 = .ok (.getfield 46, 3) := by decide +kernel
theorem dX9_style_50 : decode cX9_style 50 = .ok (.aload_n 0, 1) := by decide +kernel
theorem dX9_style_51 : decode cX9_style 51 = .ok (.getfield 32, 3) := by decide +kernel
theorem dX9_style_54 : decode cX9_style 54 = .ok (.invokevirtual 81, 3) := by decide +kernel
theorem dX9_style_57 : decode cX9_style 57 = .ok (.aload_n 2, 1) := by decide +kernel
theorem dX9_style_58 : decode cX9_style 58 = .ok (.getfield 71, 3) := by decide +kernel
theorem dX9_style_61 : decode cX9_style 61 = .ok (.iconst 1, 1) := by decide +kernel
theorem dX9_style_62 : decode cX9_style 62 = .ok (.isub, 1) := by decide +kernel
theorem dX9_style_63 : decode cX9_style 63 = .ok (.ireturn, 1) := by decide +kernel
theorem dX9_setParent_0 : decode cX9_setParent 0 = .ok (.aload_n 0, 1) := by decide +kernel
theorem dX9_setParent_1 : decode cX9_setParent 1 = .ok (.getfield 32, 3) := by decide +kernel
theorem dX9_setParent_4 : decode cX9_setParent 4 = .ok (.getfield 64, 3) := by decide +kernel
theorem dX9_setParent_7 : decode cX9_setParent 7 = .ok (.astore_n 3, 1) := by decide +kernel
theorem dX9_setParent_8 : decode cX9_setParent 8 = .ok (.aload_n 3, 1) := by decide +kernel
theorem dX9_setParent_9 : decode cX9_setParent 9 = .ok (.iload_n 1, 1) := by decide +kernel
theorem dX9_setParent_10 : decode cX9_setParent 10 = .ok (.invokevirtual 84, 3) := by decide +kernel
theorem dX9_setParent_13 : decode cX9_setParent 13 = .ok (.ifCond .eq 11, 3) := by decide +kernel
theorem dX9_setParent_16 : decode cX9_setParent 16 = .ok (.aload_n 3, 1) := by decide +kernel
theorem dX9_setParent_17 : decode cX9_setParent 17 = .ok (.iload_n 2, 1) := by decide +kernel
theorem dX9_setParent_18 : decode cX9_setParent 18 = .ok (.invokevirtual 67, 3) := by decide +kernel
theorem dX9_setParent_21 : decode cX9_setParent 21 = .ok (.ifCond .ne 5, 3) := by decide +kernel
theorem dX9_setParent_24 : decode cX9_setParent 24 = .ok (.iconst (-1), 1) := by decide +kernel
theorem dX9_setParent_25 : decode cX9_setParent 25 = .ok (.ireturn, 1) := by decide +kernel
theorem dX9_setParent_26 : decode cX9_setParent 26 = .ok (.aload_n 3, 1) := by decide +kernel
theorem dX9_setParent_27 : decode cX9_setParent 27 = .ok (.iload_n 2, 1) := by decide +kernel
theorem dX9_setParent_28 : decode cX9_setParent 28 = .ok (.iload_n 1, 1) := by decide +kernel
theorem dX9_setParent_29 : decode cX9_setParent 29 = .ok (.invokevirtual 87, 3) := by decide +kernel
theorem dX9_setParent_32 : decode cX9_setParent 32 = .ok (.ifCond .eq 6, 3) := by decide +kernel
theorem dX9_setParent_35 : decode cX9_setParent 35 = .ok (.bipush (-2), 2) := by decide +kernel
theorem dX9_setParent_37 : decode cX9_setParent 37 = .ok (.ireturn, 1) := by decide +kernel
theorem dX9_setParent_38 : decode cX9_setParent 38 = .ok (.aload_n 0, 1) := by decide +kernel
theorem dX9_setParent_39 : decode cX9_setParent 39 = .ok (.getfield 39, 3) := by decide +kernel
theorem dX9_setParent_42 : decode cX9_setParent 42 = .ok (.aload_n 0, 1) := by decide +kernel
theorem dX9_setParent_43 : decode cX9_setParent 43 = .ok (.getfield 32, 3) := by decide +kernel
theorem dX9_setParent_46 : decode cX9_setParent 46 = .ok (.invokevirtual 74, 3) := by decide +kernel
theorem dX9_setParent_49 : decode cX9_setParent 49 = .ok (.aload_n 3, 1) := by decide +kernel
theorem dX9_setParent_50 : decode cX9_setParent 50 = .ok (.getfield 91, 3) := by decide +kernel
theorem dX9_setParent_53 : decode cX9_setParent 53 = .ok (.iload_n 1, 1) := by decide +kernel
theorem dX9_setParent_54 : decode cX9_setParent 54 = .ok (.invokevirtual 94, 3) := by decide +kernel
theorem dX9_setParent_57 : decode cX9_setParent 57 = .ok (.istore 4, 2) := by decide +kernel
theorem dX9_setParent_59 : decode cX9_setParent 59 = .ok (.aload_n 3, 1) := by decide +kernel
theorem dX9_setParent_60 : decode cX9_setParent 60 = .ok (.getfield 91, 3) := by decide +kernel
theorem dX9_setParent_63 : decode cX9_setParent 63 = .ok (.iload_n 1, 1) := by decide +kernel
theorem dX9_setParent_64 : decode cX9_setParent 64 = .ok (.iload_n 2, 1) := by decide +kernel
theorem dX9_setParent_65 : decode cX9_setParent 65 = .ok (.invokevirtual 98, 3) := by decide +kernel
theorem dX9_setParent_68 : decode cX9_setParent 68 = .ok (.aload_n 0, 1) := by decide +kernel
theorem dX9_setParent_69 : decode cX9_setParent 69 = .ok (.getfield 46, 3) := by decide +kernel
theorem dX9_setParent_72 : decode cX9_setParent 72 = .ok (.aload_n 0, 1) := by decide +kernel
theorem dX9_setParent_73 : decode cX9_setParent 73 = .ok (.getfield 32, 3) := by decide +kernel
theorem dX9_setParent_76 : decode cX9_setParent 76 = .ok (.invokevirtual 81, 3) := by decide +kernel
theorem dX9_setParent_79 : decode cX9_setParent 79 = .ok (.iload 4, 2) := by decide +kernel
theorem dX9_setParent_81 : decode cX9_setParent 81 = .ok (.ireturn, 1) := by decide +kernel
theorem dX9_setStyle_0 : decode cX9_setStyle 0 = .ok (.aload_n 0, 1) := by decide +kernel
theorem dX9_setStyle_1 : decode cX9_setStyle 1 = .ok (.getfield 32, 3) := by decide +kernel
theorem dX9_setStyle_4 : decode cX9_setStyle 4 = .ok (.getfield 64, 3) := by decide +kernel
theorem dX9_setStyle_7 : decode cX9_setStyle 7 = .ok (.astore 4, 2) := by decide +kernel
theorem dX9_setStyle_9 : decode cX9_setStyle 9 = .ok (.aload 4, 2) := by decide +kernel
theorem dX9_setStyle_11 : decode cX9_setStyle 11 = .ok (.iload_n 1, 1) := by decide +kernel
theorem dX9_setStyle_12 : decode cX9_setStyle 12 = .ok (.invokevirtual 84, 3) := by decide +kernel
theorem dX9_setStyle_15 : decode cX9_setStyle 15 = .ok (.ifCond .eq 10, 3) := by decide +kernel
theorem dX9_setStyle_18 : decode cX9_setStyle 18 = .ok (.iload_n 2, 1) := by decide +kernel
theorem dX9_setStyle_19 : decode cX9_setStyle 19 = .ok (.invokestatic 102, 3) := by decide +kernel
theorem dX9_setStyle_22 : decode cX9_setStyle 22 = .ok (.ifCond .ne 5, 3) := by decide +kernel
theorem dX9_setStyle_25 : decode cX9_setStyle 25 = .ok (.iconst (-1), 1) := by decide +kernel
theorem dX9_setStyle_26 : decode cX9_setStyle 26 = .ok (.ireturn, 1) := by decide +kernel
theorem dX9_setStyle_27 : decode cX9_setStyle 27 = .ok (.iload_n 3, 1) := by decide +kernel
theorem dX9_setStyle_28 : decode cX9_setStyle 28 = .ok (.iconst (-1), 1) := by decide +kernel
theorem dX9_setStyle_29 : decode cX9_setStyle 29 = .ok (.if_icmp .eq 13, 3) := by decide +kernel
theorem dX9_setStyle_32 : decode cX9_setStyle 32 = .ok (.iload_n 2, 1) := by decide +kernel
theorem dX9_setStyle_33 : decode cX9_setStyle 33 = .ok (.iload_n 3, 1) := by decide +kernel
theorem dX9_setStyle_34 : decode cX9_setStyle 34 = .ok (.invokestatic 105, 3) := by decide +kernel
theorem dX9_setStyle_37 : decode cX9_setStyle 37 = .ok (.ifCond .ne 5, 3) := by decide +kernel
theorem dX9_setStyle_40 : decode cX9_setStyle 40 = .ok (.iconst (-1), 1) := by decide +kernel
theorem dX9_setStyle_41 : decode cX9_setStyle 41 = .ok (.ireturn, 1) := by decide +kernel
theorem dX9_setStyle_42 : decode cX9_setStyle 42 = .ok (.aload_n 0, 1) := by decide +kernel
theorem dX9_setStyle_43 : decode cX9_setStyle 43 = .ok (.getfield 39, 3) := by decide +kernel
theorem dX9_setStyle_46 : decode cX9_setStyle 46 = .ok (.aload_n 0, 1) := by decide +kernel
theorem dX9_setStyle_47 : decode cX9_setStyle 47 = .ok (.getfield 32, 3) := by decide +kernel
theorem dX9_setStyle_50 : decode cX9_setStyle 50 = .ok (.invokevirtual 74, 3) := by decide +kernel
theorem dX9_setStyle_53 : decode cX9_setStyle 53 = .ok (.aload 4, 2) := by decide +kernel
theorem dX9_setStyle_55 : decode cX9_setStyle 55 = .ok (.iload_n 1, 1) := by decide +kernel
theorem dX9_setStyle_56 : decode cX9_setStyle 56 = .ok (.iload_n 2, 1) := by decide +kernel
theorem dX9_setStyle_57 : decode cX9_setStyle 57 = .ok (.invokevirtual 108, 3) := by decide +kernel
theorem dX9_setStyle_60 : decode cX9_setStyle 60 = .ok (.istore 5, 2) := by decide +kernel
theorem dX9_setStyle_62 : decode cX9_setStyle 62 = .ok (.aload 4, 2) := by decide +kernel
theorem dX9_setStyle_64 : decode cX9_setStyle 64 = .ok (.iload_n 1, 1) := by decide +kernel
theorem dX9_setStyle_65 : decode cX9_setStyle 65 = .ok (.iload_n 2, 1) := by decide +kernel
theorem dX9_setStyle_66 : decode cX9_setStyle 66 = .ok (.iload_n 3, 1) := by decide +kernel
theorem dX9_setStyle_67 : decode cX9_setStyle 67 = .ok (.invokevirtual 112, 3) := by decide +kernel
theorem dX9_setStyle_70 : decode cX9_setStyle 70 = .ok (.aload_n 0, 1) := by decide +kernel
theorem dX9_setStyle_71 : decode cX9_setStyle 71 = .ok (.getfield 46, 3) := by decide +kernel
theorem dX9_setStyle_74 : decode cX9_setStyle 74 = .ok (.aload_n 0, 1) := by decide +kernel
theorem dX9_setStyle_75 : decode cX9_setStyle 75 = .ok (.getfield 32, 3) := by decide +kernel
theorem dX9_setStyle_78 : decode cX9_setStyle 78 = .ok (.invokevirtual 81, 3) := by decide +kernel
theorem dX9_setStyle_81 : decode cX9_setStyle 81 = .ok (.iload 5, 2) := by decide +kernel
theorem dX9_setStyle_83 : decode cX9_setStyle 83 = .ok (.ireturn, 1) := by decide +kernel
theorem dX9_unstyle_0 : decode cX9_unstyle 0 = .ok (.aload_n 0, 1) := by decide +kernel
theorem dX9_unstyle_1 : decode cX9_unstyle 1 = .ok (.getfield 32, 3) := by decide +kernel
theorem dX9_unstyle_4 : decode cX9_unstyle 4 = .ok (.getfield 64, 3) := by decide +kernel
theorem dX9_unstyle_7 : decode cX9_unstyle 7 = .ok (.astore_n 1, 1) := by decide +kernel
theorem dX9_unstyle_8 : decode cX9_unstyle 8 = .ok (.aload_n 1, 1) := by decide +kernel
theorem dX9_unstyle_9 : decode cX9_unstyle 9 = .ok (.getfield 71, 3) := by decide +kernel
theorem dX9_unstyle_12 : decode cX9_unstyle 12 = .ok (.iconst 1, 1) := by decide +kernel
theorem dX9_unstyle_13 : decode cX9_unstyle 13 = .ok (.isub, 1) := by decide +kernel
theorem dX9_unstyle_14 : decode cX9_unstyle 14 = .ok (.istore_n 2, 1) := by decide +kernel
theorem dX9_unstyle_15 : decode cX9_unstyle 15 = .ok (.iload_n 2, 1) := by decide +kernel
theorem dX9_unstyle_16 : decode cX9_unstyle 16 = .ok (.ifCond .lt 22, 3) := by decide +kernel
theorem dX9_unstyle_19 : decode cX9_unstyle 19 = .ok (.aload_n 1, 1) := by decide +kernel
theorem dX9_unstyle_20 : decode cX9_unstyle 20 = .ok (.iload_n 2, 1) := by decide +kernel
theorem dX9_unstyle_21 : decode cX9_unstyle 21 = .ok (.invokevirtual 116, 3) := by decide +kernel
theorem dX9_unstyle_24 : decode cX9_unstyle 24 = .ok (.ifCond .gt 14, 3) := by decide +kernel
theorem dX9_unstyle_27 : decode cX9_unstyle 27 = .ok (.aload_n 0, 1) := by decide +kernel
theorem dX9_unstyle_28 : decode cX9_unstyle 28 = .ok (.getfield 32, 3) := by decide +kernel
theorem dX9_unstyle_31 : decode cX9_unstyle 31 = .ok (.iload_n 2, 1) := by decide +kernel
theorem dX9_unstyle_32 : decode cX9_unstyle 32 = .ok (.invokevirtual 119, 3) := by decide +kernel
theorem dX9_unstyle_35 : decode cX9_unstyle 35 = .ok (.ifCond .eq 6, 3) := by decide +kernel
theorem dX9_unstyle_38 : decode cX9_unstyle 38 = .ok (.bipush (-2), 2) := by decide +kernel
theorem dX9_unstyle_40 : decode cX9_unstyle 40 = .ok (.ireturn, 1) := by decide +kernel
theorem dX9_unstyle_41 : decode cX9_unstyle 41 = .ok (.aload_n 0, 1) := by decide +kernel
theorem dX9_unstyle_42 : decode cX9_unstyle 42 = .ok (.getfield 39, 3) := by decide +kernel
theorem dX9_unstyle_45 : decode cX9_unstyle 45 = .ok (.aload_n 0, 1) := by decide +kernel
theorem dX9_unstyle_46 : decode cX9_unstyle 46 = .ok (.getfield 32, 3) := by decide +kernel
theorem dX9_unstyle_49 : decode cX9_unstyle 49 = .ok (.invokevirtual 74, 3) := by decide +kernel
theorem dX9_unstyle_52 : decode cX9_unstyle 52 = .ok (.aload_n 1, 1) := by decide +kernel
theorem dX9_unstyle_53 : decode cX9_unstyle 53 = .ok (.invokevirtual 122, 3) := by decide +kernel
theorem dX9_unstyle_56 : decode cX9_unstyle 56 = .ok (.aload_n 0, 1) := by decide +kernel
theorem dX9_unstyle_57 : decode cX9_unstyle 57 = .ok (.getfield 46, 3) := by decide +kernel
theorem dX9_unstyle_60 : decode cX9_unstyle 60 = .ok (.aload_n 0, 1) := by decide +kernel
theorem dX9_unstyle_61 : decode cX9_unstyle 61 = .ok (.getfield 32, 3) := by decide +kernel
theorem dX9_unstyle_64 : decode cX9_unstyle 64 = .ok (.invokevirtual 81, 3) := by decide +kernel
theorem dX9_unstyle_67 : decode cX9_unstyle 67 = .ok (.aload_n 1, 1) := by decide +kernel
theorem dX9_unstyle_68 : decode cX9_unstyle 68 = .ok (.getfield 71, 3) := by decide +kernel
theorem dX9_unstyle_71 : decode cX9_unstyle 71 = .ok (.ireturn, 1) := by decide +kernel
theorem dX9_flatten_0 : decode cX9_flatten 0 = .ok (.aload_n 0, 1) := by decide +kernel
theorem dX9_flatten_1 : decode cX9_flatten 1 = .ok (.getfield 39, 3) := by decide +kernel
theorem dX9_flatten_4 : decode cX9_flatten 4 = .ok (.aload_n 0, 1) := by decide +kernel
theorem dX9_flatten_5 : decode cX9_flatten 5 = .ok (.getfield 32, 3) := by decide +kernel
theorem dX9_flatten_8 : decode cX9_flatten 8 = .ok (.invokevirtual 74, 3) := by decide +kernel
theorem dX9_flatten_11 : decode cX9_flatten 11 = .ok (.aload_n 0, 1) := by decide +kernel
theorem dX9_flatten_12 : decode cX9_flatten 12 = .ok (.getfield 32, 3) := by decide +kernel
theorem dX9_flatten_15 : decode cX9_flatten 15 = .ok (.getfield 64, 3) := by decide +kernel
theorem dX9_flatten_18 : decode cX9_flatten 18 = .ok (.invokevirtual 125, 3) := by decide +kernel
theorem dX9_flatten_21 : decode cX9_flatten 21 = .ok (.istore_n 1, 1) := by decide +kernel
theorem dX9_flatten_22 : decode cX9_flatten 22 = .ok (.aload_n 0, 1) := by decide +kernel
theorem dX9_flatten_23 : decode cX9_flatten 23 = .ok (.getfield 46, 3) := by decide +kernel
theorem dX9_flatten_26 : decode cX9_flatten 26 = .ok (.aload_n 0, 1) := by decide +kernel
theorem dX9_flatten_27 : decode cX9_flatten 27 = .ok (.getfield 32, 3) := by decide +kernel
theorem dX9_flatten_30 : decode cX9_flatten 30 = .ok (.invokevirtual 81, 3) := by decide +kernel
theorem dX9_flatten_33 : decode cX9_flatten 33 = .ok (.iload_n 1, 1) := by decide +kernel
theorem dX9_flatten_34 : decode cX9_flatten 34 = .ok (.ireturn, 1) := by decide +kernel
theorem dX9_styleAt_0 : decode cX9_styleAt 0 = .ok (.aload_n 0, 1) := by decide +kernel
theorem dX9_styleAt_1 : decode cX9_styleAt 1 = .ok (.getfield 32, 3) := by decide +kernel
theorem dX9_styleAt_4 : decode cX9_styleAt 4 = .ok (.getfield 64, 3) := by decide +kernel
theorem dX9_styleAt_7 : decode cX9_styleAt 7 = .ok (.astore_n 3, 1) := by decide +kernel
theorem dX9_styleAt_8 : decode cX9_styleAt 8 = .ok (.aload_n 3, 1) := by decide +kernel
theorem dX9_styleAt_9 : decode cX9_styleAt 9 = .ok (.iload_n 1, 1) := by decide +kernel
theorem dX9_styleAt_10 : decode cX9_styleAt 10 = .ok (.invokevirtual 84, 3) := by decide +kernel
theorem dX9_styleAt_13 : decode cX9_styleAt 13 = .ok (.ifCond .ne 5, 3) := by decide +kernel
theorem dX9_styleAt_16 : decode cX9_styleAt 16 = .ok (.iconst (-1), 1) := by decide +kernel
theorem dX9_styleAt_17 : decode cX9_styleAt 17 = .ok (.ireturn, 1) := by decide +kernel
theorem dX9_styleAt_18 : decode cX9_styleAt 18 = .ok (.iload_n 2, 1) := by decide +kernel
theorem dX9_styleAt_19 : decode cX9_styleAt 19 = .ok (.invokestatic 102, 3) := by decide +kernel
theorem dX9_styleAt_22 : decode cX9_styleAt 22 = .ok (.ifCond .eq 10, 3) := by decide +kernel
theorem dX9_styleAt_25 : decode cX9_styleAt 25 = .ok (.aload_n 3, 1) := by decide +kernel
theorem dX9_styleAt_26 : decode cX9_styleAt 26 = .ok (.iload_n 1, 1) := by decide +kernel
theorem dX9_styleAt_27 : decode cX9_styleAt 27 = .ok (.iload_n 2, 1) := by decide +kernel
theorem dX9_styleAt_28 : decode cX9_styleAt 28 = .ok (.invokevirtual 108, 3) := by decide +kernel
theorem dX9_styleAt_31 : decode cX9_styleAt 31 = .ok (.ireturn, 1) := by decide +kernel
theorem dX9_styleAt_32 : decode cX9_styleAt 32 = .ok (.iload_n 2, 1) := by decide +kernel
theorem dX9_styleAt_33 : decode cX9_styleAt 33 = .ok (.tableswitch 48 6 8 #[27, 36, 42], 27) := by decide +kernel
theorem dX9_styleAt_60 : decode cX9_styleAt 60 = .ok (.aload_n 3, 1) := by decide +kernel
theorem dX9_styleAt_61 : decode cX9_styleAt 61 = .ok (.getfield 91, 3) := by decide +kernel
theorem dX9_styleAt_64 : decode cX9_styleAt 64 = .ok (.iload_n 1, 1) := by decide +kernel
theorem dX9_styleAt_65 : decode cX9_styleAt 65 = .ok (.invokevirtual 94, 3) := by decide +kernel
theorem dX9_styleAt_68 : decode cX9_styleAt 68 = .ok (.ireturn, 1) := by decide +kernel
theorem dX9_styleAt_69 : decode cX9_styleAt 69 = .ok (.aload_n 3, 1) := by decide +kernel
theorem dX9_styleAt_70 : decode cX9_styleAt 70 = .ok (.iload_n 1, 1) := by decide +kernel
theorem dX9_styleAt_71 : decode cX9_styleAt 71 = .ok (.invokevirtual 129, 3) := by decide +kernel
theorem dX9_styleAt_74 : decode cX9_styleAt 74 = .ok (.ireturn, 1) := by decide +kernel
theorem dX9_styleAt_75 : decode cX9_styleAt 75 = .ok (.aload_n 3, 1) := by decide +kernel
theorem dX9_styleAt_76 : decode cX9_styleAt 76 = .ok (.iload_n 1, 1) := by decide +kernel
theorem dX9_styleAt_77 : decode cX9_styleAt 77 = .ok (.invokevirtual 116, 3) := by decide +kernel
theorem dX9_styleAt_80 : decode cX9_styleAt 80 = .ok (.ireturn, 1) := by decide +kernel
theorem dX9_styleAt_81 : decode cX9_styleAt 81 = .ok (.iconst (-1), 1) := by decide +kernel
theorem dX9_styleAt_82 : decode cX9_styleAt 82 = .ok (.ireturn, 1) := by decide +kernel
theorem dX9_valueOf_0 : decode cX9_valueOf 0 = .ok (.aload_n 0, 1) := by decide +kernel
theorem dX9_valueOf_1 : decode cX9_valueOf 1 = .ok (.getfield 32, 3) := by decide +kernel
theorem dX9_valueOf_4 : decode cX9_valueOf 4 = .ok (.getfield 64, 3) := by decide +kernel
theorem dX9_valueOf_7 : decode cX9_valueOf 7 = .ok (.iload_n 1, 1) := by decide +kernel
theorem dX9_valueOf_8 : decode cX9_valueOf 8 = .ok (.invokevirtual 67, 3) := by decide +kernel
theorem dX9_valueOf_11 : decode cX9_valueOf 11 = .ok (.ifCond .eq 10, 3) := by decide +kernel
theorem dX9_valueOf_14 : decode cX9_valueOf 14 = .ok (.iload_n 2, 1) := by decide +kernel
theorem dX9_valueOf_15 : decode cX9_valueOf 15 = .ok (.invokestatic 102, 3) := by decide +kernel
theorem dX9_valueOf_18 : decode cX9_valueOf 18 = .ok (.ifCond .ne 5, 3) := by decide +kernel
theorem dX9_valueOf_21 : decode cX9_valueOf 21 = .ok (.iconst (-1), 1) := by decide +kernel
theorem dX9_valueOf_22 : decode cX9_valueOf 22 = .ok (.ireturn, 1) := by decide +kernel
theorem dX9_valueOf_23 : decode cX9_valueOf 23 = .ok (.aload_n 0, 1) := by decide +kernel
theorem dX9_valueOf_24 : decode cX9_valueOf 24 = .ok (.getfield 32, 3) := by decide +kernel
theorem dX9_valueOf_27 : decode cX9_valueOf 27 = .ok (.getfield 64, 3) := by decide +kernel
theorem dX9_valueOf_30 : decode cX9_valueOf 30 = .ok (.iload_n 1, 1) := by decide +kernel
theorem dX9_valueOf_31 : decode cX9_valueOf 31 = .ok (.iload_n 2, 1) := by decide +kernel
theorem dX9_valueOf_32 : decode cX9_valueOf 32 = .ok (.invokevirtual 132, 3) := by decide +kernel
theorem dX9_valueOf_35 : decode cX9_valueOf 35 = .ok (.ireturn, 1) := by decide +kernel
theorem dX9_from_0 : decode cX9_from 0 = .ok (.aload_n 0, 1) := by decide +kernel
theorem dX9_from_1 : decode cX9_from 1 = .ok (.getfield 32, 3) := by decide +kernel
theorem dX9_from_4 : decode cX9_from 4 = .ok (.getfield 64, 3) := by decide +kernel
theorem dX9_from_7 : decode cX9_from 7 = .ok (.iload_n 1, 1) := by decide +kernel
theorem dX9_from_8 : decode cX9_from 8 = .ok (.invokevirtual 84, 3) := by decide +kernel
theorem dX9_from_11 : decode cX9_from 11 = .ok (.ifCond .eq 10, 3) := by decide +kernel
theorem dX9_from_14 : decode cX9_from 14 = .ok (.iload_n 2, 1) := by decide +kernel
theorem dX9_from_15 : decode cX9_from 15 = .ok (.invokestatic 102, 3) := by decide +kernel
theorem dX9_from_18 : decode cX9_from 18 = .ok (.ifCond .ne 5, 3) := by decide +kernel
theorem dX9_from_21 : decode cX9_from 21 = .ok (.iconst (-1), 1) := by decide +kernel
theorem dX9_from_22 : decode cX9_from 22 = .ok (.ireturn, 1) := by decide +kernel
theorem dX9_from_23 : decode cX9_from 23 = .ok (.aload_n 0, 1) := by decide +kernel
theorem dX9_from_24 : decode cX9_from 24 = .ok (.getfield 32, 3) := by decide +kernel
theorem dX9_from_27 : decode cX9_from 27 = .ok (.getfield 64, 3) := by decide +kernel
theorem dX9_from_30 : decode cX9_from 30 = .ok (.iload_n 1, 1) := by decide +kernel
theorem dX9_from_31 : decode cX9_from 31 = .ok (.iload_n 2, 1) := by decide +kernel
theorem dX9_from_32 : decode cX9_from 32 = .ok (.invokevirtual 135, 3) := by decide +kernel
theorem dX9_from_35 : decode cX9_from 35 = .ok (.ireturn, 1) := by decide +kernel
theorem dX9_styles_0 : decode cX9_styles 0 = .ok (.aload_n 0, 1) := by decide +kernel
theorem dX9_styles_1 : decode cX9_styles 1 = .ok (.getfield 32, 3) := by decide +kernel
theorem dX9_styles_4 : decode cX9_styles 4 = .ok (.getfield 64, 3) := by decide +kernel
theorem dX9_styles_7 : decode cX9_styles 7 = .ok (.getfield 71, 3) := by decide +kernel
theorem dX9_styles_10 : decode cX9_styles 10 = .ok (.ireturn, 1) := by decide +kernel
theorem dX9_type_0 : decode cX9_type 0 = .ok (.iload_n 1, 1) := by decide +kernel
theorem dX9_type_1 : decode cX9_type 1 = .ok (.bipush 32, 2) := by decide +kernel
theorem dX9_type_3 : decode cX9_type 3 = .ok (.if_icmp .lt 9, 3) := by decide +kernel
theorem dX9_type_6 : decode cX9_type 6 = .ok (.iload_n 1, 1) := by decide +kernel
theorem dX9_type_7 : decode cX9_type 7 = .ok (.bipush 126, 2) := by decide +kernel
theorem dX9_type_9 : decode cX9_type 9 = .ok (.if_icmp .le 5, 3) := by decide +kernel
theorem dX9_type_12 : decode cX9_type 12 = .ok (.iconst (-1), 1) := by decide +kernel
theorem dX9_type_13 : decode cX9_type 13 = .ok (.ireturn, 1) := by decide +kernel
theorem dX9_type_14 : decode cX9_type 14 = .ok (.aload_n 0, 1) := by decide +kernel
theorem dX9_type_15 : decode cX9_type 15 = .ok (.getfield 18, 3) := by decide +kernel
theorem dX9_type_18 : decode cX9_type 18 = .ok (.bipush 80, 2) := by decide +kernel
theorem dX9_type_20 : decode cX9_type 20 = .ok (.if_icmp .lt 6, 3) := by decide +kernel
theorem dX9_type_23 : decode cX9_type 23 = .ok (.bipush (-3), 2) := by decide +kernel
theorem dX9_type_25 : decode cX9_type 25 = .ok (.ireturn, 1) := by decide +kernel
theorem dX9_type_26 : decode cX9_type 26 = .ok (.aload_n 0, 1) := by decide +kernel
theorem dX9_type_27 : decode cX9_type 27 = .ok (.getfield 14, 3) := by decide +kernel
theorem dX9_type_30 : decode cX9_type 30 = .ok (.aload_n 0, 1) := by decide +kernel
theorem dX9_type_31 : decode cX9_type 31 = .ok (.getfield 18, 3) := by decide +kernel
theorem dX9_type_34 : decode cX9_type 34 = .ok (.iload_n 1, 1) := by decide +kernel
theorem dX9_type_35 : decode cX9_type 35 = .ok (.invokevirtual 98, 3) := by decide +kernel
theorem dX9_type_38 : decode cX9_type 38 = .ok (.aload_n 0, 1) := by decide +kernel
theorem dX9_type_39 : decode cX9_type 39 = .ok (.dup, 1) := by decide +kernel
theorem dX9_type_40 : decode cX9_type 40 = .ok (.getfield 18, 3) := by decide +kernel
theorem dX9_type_43 : decode cX9_type 43 = .ok (.iconst 1, 1) := by decide +kernel
theorem dX9_type_44 : decode cX9_type 44 = .ok (.iadd, 1) := by decide +kernel
theorem dX9_type_45 : decode cX9_type 45 = .ok (.putfield 18, 3) := by decide +kernel
theorem dX9_type_48 : decode cX9_type 48 = .ok (.aload_n 0, 1) := by decide +kernel
theorem dX9_type_49 : decode cX9_type 49 = .ok (.getfield 18, 3) := by decide +kernel
theorem dX9_type_52 : decode cX9_type 52 = .ok (.ireturn, 1) := by decide +kernel
theorem dX9_clear_0 : decode cX9_clear 0 = .ok (.aload_n 0, 1) := by decide +kernel
theorem dX9_clear_1 : decode cX9_clear 1 = .ok (.getfield 18, 3) := by decide +kernel
theorem dX9_clear_4 : decode cX9_clear 4 = .ok (.istore_n 1, 1) := by decide +kernel
theorem dX9_clear_5 : decode cX9_clear 5 = .ok (.aload_n 0, 1) := by decide +kernel
theorem dX9_clear_6 : decode cX9_clear 6 = .ok (.iconst 0, 1) := by decide +kernel
theorem dX9_clear_7 : decode cX9_clear 7 = .ok (.putfield 18, 3) := by decide +kernel
theorem dX9_clear_10 : decode cX9_clear 10 = .ok (.iload_n 1, 1) := by decide +kernel
theorem dX9_clear_11 : decode cX9_clear 11 = .ok (.ireturn, 1) := by decide +kernel
theorem dX9_line_0 : decode cX9_line 0 = .ok (.iload_n 1, 1) := by decide +kernel
theorem dX9_line_1 : decode cX9_line 1 = .ok (.ifCond .lt 28, 3) := by decide +kernel
theorem dX9_line_4 : decode cX9_line 4 = .ok (.iload_n 2, 1) := by decide +kernel
theorem dX9_line_5 : decode cX9_line 5 = .ok (.iload_n 1, 1) := by decide +kernel
theorem dX9_line_6 : decode cX9_line 6 = .ok (.if_icmp .le 23, 3) := by decide +kernel
theorem dX9_line_9 : decode cX9_line 9 = .ok (.iload_n 2, 1) := by decide +kernel
theorem dX9_line_10 : decode cX9_line 10 = .ok (.ldc 138, 2) := by decide +kernel
theorem dX9_line_12 : decode cX9_line 12 = .ok (.if_icmp .gt 17, 3) := by decide +kernel
theorem dX9_line_15 : decode cX9_line 15 = .ok (.aload_n 0, 1) := by decide +kernel
theorem dX9_line_16 : decode cX9_line 16 = .ok (.getfield 32, 3) := by decide +kernel
theorem dX9_line_19 : decode cX9_line 19 = .ok (.getfield 64, 3) := by decide +kernel
theorem dX9_line_22 : decode cX9_line 22 = .ok (.iload_n 3, 1) := by decide +kernel
theorem dX9_line_23 : decode cX9_line 23 = .ok (.invokevirtual 67, 3) := by decide +kernel
theorem dX9_line_26 : decode cX9_line 26 = .ok (.ifCond .ne 5, 3) := by decide +kernel
theorem dX9_line_29 : decode cX9_line 29 = .ok (.iconst (-1), 1) := by decide +kernel
theorem dX9_line_30 : decode cX9_line 30 = .ok (.ireturn, 1) := by decide +kernel
theorem dX9_line_31 : decode cX9_line 31 = .ok (.aload_n 0, 1) := by decide +kernel
theorem dX9_line_32 : decode cX9_line 32 = .ok (.getfield 32, 3) := by decide +kernel
theorem dX9_line_35 : decode cX9_line 35 = .ok (.getfield 139, 3) := by decide +kernel
theorem dX9_line_38 : decode cX9_line 38 = .ok (.bipush 16, 2) := by decide +kernel
theorem dX9_line_40 : decode cX9_line 40 = .ok (.if_icmp .lt 6, 3) := by decide +kernel
theorem dX9_line_43 : decode cX9_line 43 = .ok (.bipush (-3), 2) := by decide +kernel
theorem dX9_line_45 : decode cX9_line 45 = .ok (.ireturn, 1) := by decide +kernel
theorem dX9_line_46 : decode cX9_line 46 = .ok (.aload_n 0, 1) := by decide +kernel
theorem dX9_line_47 : decode cX9_line 47 = .ok (.getfield 25, 3) := by decide +kernel
theorem dX9_line_50 : decode cX9_line 50 = .ok (.aload_n 0, 1) := by decide +kernel
theorem dX9_line_51 : decode cX9_line 51 = .ok (.getfield 14, 3) := by decide +kernel
theorem dX9_line_54 : decode cX9_line 54 = .ok (.aload_n 0, 1) := by decide +kernel
theorem dX9_line_55 : decode cX9_line 55 = .ok (.getfield 18, 3) := by decide +kernel
theorem dX9_line_58 : decode cX9_line 58 = .ok (.invokevirtual 140, 3) := by decide +kernel
theorem dX9_line_61 : decode cX9_line 61 = .ok (.istore 4, 2) := by decide +kernel
theorem dX9_line_63 : decode cX9_line 63 = .ok (.iload 4, 2) := by decide +kernel
theorem dX9_line_65 : decode cX9_line 65 = .ok (.ifCond .lt 9, 3) := by decide +kernel
theorem dX9_line_68 : decode cX9_line 68 = .ok (.bipush (-100), 2) := by decide +kernel
theorem dX9_line_70 : decode cX9_line 70 = .ok (.iload 4, 2) := by decide +kernel
theorem dX9_line_72 : decode cX9_line 72 = .ok (.isub, 1) := by decide +kernel
theorem dX9_line_73 : decode cX9_line 73 = .ok (.ireturn, 1) := by decide +kernel
theorem dX9_line_74 : decode cX9_line 74 = .ok (.aload_n 0, 1) := by decide +kernel
theorem dX9_line_75 : decode cX9_line 75 = .ok (.getfield 39, 3) := by decide +kernel
theorem dX9_line_78 : decode cX9_line 78 = .ok (.aload_n 0, 1) := by decide +kernel
theorem dX9_line_79 : decode cX9_line 79 = .ok (.getfield 32, 3) := by decide +kernel
theorem dX9_line_82 : decode cX9_line 82 = .ok (.invokevirtual 74, 3) := by decide +kernel
theorem dX9_line_85 : decode cX9_line 85 = .ok (.new 144, 3) := by decide +kernel
theorem dX9_line_88 : decode cX9_line 88 = .ok (.dup, 1) := by decide +kernel
theorem dX9_line_89 : decode cX9_line 89 = .ok (.aload_n 0, 1) := by decide +kernel
theorem dX9_line_90 : decode cX9_line 90 = .ok (.getfield 25, 3) := by decide +kernel
theorem dX9_line_93 : decode cX9_line 93 = .ok (.getfield 146, 3) := by decide +kernel
theorem dX9_line_96 : decode cX9_line 96 = .ok (.aload_n 0, 1) := by decide +kernel
theorem dX9_line_97 : decode cX9_line 97 = .ok (.getfield 25, 3) := by decide +kernel
theorem dX9_line_100 : decode cX9_line 100 = .ok (.getfield 149, 3) := by decide +kernel
theorem dX9_line_103 : decode cX9_line 103 = .ok (.aload_n 0, 1) := by decide +kernel
theorem dX9_line_104 : decode cX9_line 104 = .ok (.getfield 25, 3) := by decide +kernel
theorem dX9_line_107 : decode cX9_line 107 = .ok (.getfield 152, 3) := by decide +kernel
theorem dX9_line_110 : decode cX9_line 110 = .ok (.invokespecial 155, 3) := by decide +kernel
theorem dX9_line_113 : decode cX9_line 113 = .ok (.astore 5, 2) := by decide +kernel
theorem dX9_line_115 : decode cX9_line 115 = .ok (.aload_n 0, 1) := by decide +kernel
theorem dX9_line_116 : decode cX9_line 116 = .ok (.getfield 32, 3) := by decide +kernel
theorem dX9_line_119 : decode cX9_line 119 = .ok (.new 158, 3) := by decide +kernel
theorem dX9_line_122 : decode cX9_line 122 = .ok (.dup, 1) := by decide +kernel
theorem dX9_line_123 : decode cX9_line 123 = .ok (.iload_n 1, 1) := by decide +kernel
theorem dX9_line_124 : decode cX9_line 124 = .ok (.iload_n 2, 1) := by decide +kernel
theorem dX9_line_125 : decode cX9_line 125 = .ok (.iload_n 3, 1) := by decide +kernel
theorem dX9_line_126 : decode cX9_line 126 = .ok (.iconst (-1), 1) := by decide +kernel
theorem dX9_line_127 : decode cX9_line 127 = .ok (.aload 5, 2) := by decide +kernel
theorem dX9_line_129 : decode cX9_line 129 = .ok (.invokespecial 160, 3) := by decide +kernel
theorem dX9_line_132 : decode cX9_line 132 = .ok (.invokevirtual 163, 3) := by decide +kernel
theorem dX9_line_135 : decode cX9_line 135 = .ok (.aload_n 0, 1) := by decide +kernel
theorem dX9_line_136 : decode cX9_line 136 = .ok (.iconst 0, 1) := by decide +kernel
theorem dX9_line_137 : decode cX9_line 137 = .ok (.putfield 18, 3) := by decide +kernel
theorem dX9_line_140 : decode cX9_line 140 = .ok (.aload_n 0, 1) := by decide +kernel
theorem dX9_line_141 : decode cX9_line 141 = .ok (.getfield 46, 3) := by decide +kernel
theorem dX9_line_144 : decode cX9_line 144 = .ok (.aload_n 0, 1) := by decide +kernel
theorem dX9_line_145 : decode cX9_line 145 = .ok (.getfield 32, 3) := by decide +kernel
theorem dX9_line_148 : decode cX9_line 148 = .ok (.invokevirtual 81, 3) := by decide +kernel
theorem dX9_line_151 : decode cX9_line 151 = .ok (.aload_n 0, 1) := by decide +kernel
theorem dX9_line_152 : decode cX9_line 152 = .ok (.getfield 32, 3) := by decide +kernel
theorem dX9_line_155 : decode cX9_line 155 = .ok (.getfield 139, 3) := by decide +kernel
theorem dX9_line_158 : decode cX9_line 158 = .ok (.iconst 1, 1) := by decide +kernel
theorem dX9_line_159 : decode cX9_line 159 = .ok (.isub, 1) := by decide +kernel
theorem dX9_line_160 : decode cX9_line 160 = .ok (.ireturn, 1) := by decide +kernel
theorem dX9_remove_0 : decode cX9_remove 0 = .ok (.aload_n 0, 1) := by decide +kernel
theorem dX9_remove_1 : decode cX9_remove 1 = .ok (.getfield 32, 3) := by decide +kernel
theorem dX9_remove_4 : decode cX9_remove 4 = .ok (.iload_n 1, 1) := by decide +kernel
theorem dX9_remove_5 : decode cX9_remove 5 = .ok (.invokevirtual 167, 3) := by decide +kernel
theorem dX9_remove_8 : decode cX9_remove 8 = .ok (.ifnonnull 5, 3) := by decide +kernel
theorem dX9_remove_11 : decode cX9_remove 11 = .ok (.iconst (-1), 1) := by decide +kernel
theorem dX9_remove_12 : decode cX9_remove 12 = .ok (.ireturn, 1) := by decide +kernel
theorem dX9_remove_13 : decode cX9_remove 13 = .ok (.aload_n 0, 1) := by decide +kernel
theorem dX9_remove_14 : decode cX9_remove 14 = .ok (.getfield 39, 3) := by decide +kernel
theorem dX9_remove_17 : decode cX9_remove 17 = .ok (.aload_n 0, 1) := by decide +kernel
theorem dX9_remove_18 : decode cX9_remove 18 = .ok (.getfield 32, 3) := by decide +kernel
theorem dX9_remove_21 : decode cX9_remove 21 = .ok (.invokevirtual 74, 3) := by decide +kernel
theorem dX9_remove_24 : decode cX9_remove 24 = .ok (.aload_n 0, 1) := by decide +kernel
theorem dX9_remove_25 : decode cX9_remove 25 = .ok (.getfield 32, 3) := by decide +kernel
theorem dX9_remove_28 : decode cX9_remove 28 = .ok (.iload_n 1, 1) := by decide +kernel
theorem dX9_remove_29 : decode cX9_remove 29 = .ok (.invokevirtual 171, 3) := by decide +kernel
theorem dX9_remove_32 : decode cX9_remove 32 = .ok (.aload_n 0, 1) := by decide +kernel
theorem dX9_remove_33 : decode cX9_remove 33 = .ok (.getfield 46, 3) := by decide +kernel
theorem dX9_remove_36 : decode cX9_remove 36 = .ok (.aload_n 0, 1) := by decide +kernel
theorem dX9_remove_37 : decode cX9_remove 37 = .ok (.getfield 32, 3) := by decide +kernel
theorem dX9_remove_40 : decode cX9_remove 40 = .ok (.invokevirtual 81, 3) := by decide +kernel
theorem dX9_remove_43 : decode cX9_remove 43 = .ok (.aload_n 0, 1) := by decide +kernel
theorem dX9_remove_44 : decode cX9_remove 44 = .ok (.getfield 32, 3) := by decide +kernel
theorem dX9_remove_47 : decode cX9_remove 47 = .ok (.getfield 139, 3) := by decide +kernel
theorem dX9_remove_50 : decode cX9_remove 50 = .ok (.ireturn, 1) := by decide +kernel
theorem dX9_change_0 : decode cX9_change 0 = .ok (.aload_n 0, 1) := by decide +kernel
theorem dX9_change_1 : decode cX9_change 1 = .ok (.getfield 32, 3) := by decide +kernel
theorem dX9_change_4 : decode cX9_change 4 = .ok (.iload_n 1, 1) := by decide +kernel
theorem dX9_change_5 : decode cX9_change 5 = .ok (.invokevirtual 167, 3) := by decide +kernel
theorem dX9_change_8 : decode cX9_change 8 = .ok (.astore 4, 2) := by decide +kernel
theorem dX9_change_10 : decode cX9_change 10 = .ok (.aload 4, 2) := by decide +kernel
theorem dX9_change_12 : decode cX9_change 12 = .ok (.ifnull 12, 3) := by decide +kernel
theorem dX9_change_15 : decode cX9_change 15 = .ok (.aload_n 0, 1) := by decide +kernel
theorem dX9_change_16 : decode cX9_change 16 = .ok (.iload_n 2, 1) := by decide +kernel
theorem dX9_change_17 : decode cX9_change 17 = .ok (.iload_n 3, 1) := by decide +kernel
theorem dX9_change_18 : decode cX9_change 18 = .ok (.invokevirtual 174, 3) := by decide +kernel
theorem dX9_change_21 : decode cX9_change 21 = .ok (.ifCond .ne 5, 3) := by decide +kernel
theorem dX9_change_24 : decode cX9_change 24 = .ok (.iconst (-1), 1) := by decide +kernel
theorem dX9_change_25 : decode cX9_change 25 = .ok (.ireturn, 1) := by decide +kernel
theorem dX9_change_26 : decode cX9_change 26 = .ok (.aload_n 0, 1) := by decide +kernel
theorem dX9_change_27 : decode cX9_change 27 = .ok (.getfield 39, 3) := by decide +kernel
theorem dX9_change_30 : decode cX9_change 30 = .ok (.aload_n 0, 1) := by decide +kernel
theorem dX9_change_31 : decode cX9_change 31 = .ok (.getfield 32, 3) := by decide +kernel
theorem dX9_change_34 : decode cX9_change 34 = .ok (.invokevirtual 74, 3) := by decide +kernel
theorem dX9_change_37 : decode cX9_change 37 = .ok (.aload_n 0, 1) := by decide +kernel
theorem dX9_change_38 : decode cX9_change 38 = .ok (.getfield 32, 3) := by decide +kernel
theorem dX9_change_41 : decode cX9_change 41 = .ok (.iload_n 1, 1) := by decide +kernel
theorem dX9_change_42 : decode cX9_change 42 = .ok (.iload_n 2, 1) := by decide +kernel
theorem dX9_change_43 : decode cX9_change 43 = .ok (.ifCond .ne 12, 3) := by decide +kernel
theorem dX9_change_46 : decode cX9_change 46 = .ok (.aload 4, 2) := by decide +kernel
theorem dX9_change_48 : decode cX9_change 48 = .ok (.iload_n 3, 1) := by decide +kernel
theorem dX9_change_49 : decode cX9_change 49 = .ok (.invokevirtual 177, 3) := by decide +kernel
theorem dX9_change_52 : decode cX9_change 52 = .ok (.goto 9, 3) := by decide +kernel
theorem dX9_change_55 : decode cX9_change 55 = .ok (.aload 4, 2) := by decide +kernel
theorem dX9_change_57 : decode cX9_change 57 = .ok (.iload_n 3, 1) := by decide +kernel
theorem dX9_change_58 : decode cX9_change 58 = .ok (.invokevirtual 180, 3) := by decide +kernel
theorem dX9_change_61 : decode cX9_change 61 = .ok (.invokevirtual 183, 3) := by decide +kernel
theorem dX9_change_64 : decode cX9_change 64 = .ok (.aload_n 0, 1) := by decide +kernel
theorem dX9_change_65 : decode cX9_change 65 = .ok (.getfield 46, 3) := by decide +kernel
theorem dX9_change_68 : decode cX9_change 68 = .ok (.aload_n 0, 1) := by decide +kernel
theorem dX9_change_69 : decode cX9_change 69 = .ok (.getfield 32, 3) := by decide +kernel
theorem dX9_change_72 : decode cX9_change 72 = .ok (.invokevirtual 81, 3) := by decide +kernel
theorem dX9_change_75 : decode cX9_change 75 = .ok (.iload_n 2, 1) := by decide +kernel
theorem dX9_change_76 : decode cX9_change 76 = .ok (.ifCond .ne 11, 3) := by decide +kernel
theorem dX9_change_79 : decode cX9_change 79 = .ok (.aload 4, 2) := by decide +kernel
theorem dX9_change_81 : decode cX9_change 81 = .ok (.getfield 187, 3) := by decide +kernel
theorem dX9_change_84 : decode cX9_change 84 = .ok (.goto 8, 3) := by decide +kernel
theorem dX9_change_87 : decode cX9_change 87 = .ok (.aload 4, 2) := by decide +kernel
theorem dX9_change_89 : decode cX9_change 89 = .ok (.getfield 190, 3) := by decide +kernel
theorem dX9_change_92 : decode cX9_change 92 = .ok (.ireturn, 1) := by decide +kernel
theorem dX9_isChange_0 : decode cX9_isChange 0 = .ok (.iload_n 1, 1) := by decide +kernel
theorem dX9_isChange_1 : decode cX9_isChange 1 = .ok (.ifCond .ne 15, 3) := by decide +kernel
theorem dX9_isChange_4 : decode cX9_isChange 4 = .ok (.aload_n 0, 1) := by decide +kernel
theorem dX9_isChange_5 : decode cX9_isChange 5 = .ok (.getfield 32, 3) := by decide +kernel
theorem dX9_isChange_8 : decode cX9_isChange 8 = .ok (.getfield 64, 3) := by decide +kernel
theorem dX9_isChange_11 : decode cX9_isChange 11 = .ok (.iload_n 2, 1) := by decide +kernel
theorem dX9_isChange_12 : decode cX9_isChange 12 = .ok (.invokevirtual 67, 3) := by decide +kernel
theorem dX9_isChange_15 : decode cX9_isChange 15 = .ok (.ireturn, 1) := by decide +kernel
theorem dX9_isChange_16 : decode cX9_isChange 16 = .ok (.iload_n 1, 1) := by decide +kernel
theorem dX9_isChange_17 : decode cX9_isChange 17 = .ok (.iconst 1, 1) := by decide +kernel
theorem dX9_isChange_18 : decode cX9_isChange 18 = .ok (.if_icmp .ne 20, 3) := by decide +kernel
theorem dX9_isChange_21 : decode cX9_isChange 21 = .ok (.iload_n 2, 1) := by decide +kernel
theorem dX9_isChange_22 : decode cX9_isChange 22 = .ok (.iconst (-1), 1) := by decide +kernel
theorem dX9_isChange_23 : decode cX9_isChange 23 = .ok (.if_icmp .eq 11, 3) := by decide +kernel
theorem dX9_isChange_26 : decode cX9_isChange 26 = .ok (.iconst 5, 1) := by decide +kernel
theorem dX9_isChange_27 : decode cX9_isChange 27 = .ok (.iload_n 2, 1) := by decide +kernel
theorem dX9_isChange_28 : decode cX9_isChange 28 = .ok (.invokestatic 105, 3) := by decide +kernel
theorem dX9_isChange_31 : decode cX9_isChange 31 = .ok (.ifCond .eq 7, 3) := by decide +kernel
theorem dX9_isChange_34 : decode cX9_isChange 34 = .ok (.iconst 1, 1) := by decide +kernel
theorem dX9_isChange_35 : decode cX9_isChange 35 = .ok (.goto 4, 3) := by decide +kernel
theorem dX9_isChange_38 : decode cX9_isChange 38 = .ok (.iconst 0, 1) := by decide +kernel
theorem dX9_isChange_39 : decode cX9_isChange 39 = .ok (.ireturn, 1) := by decide +kernel
theorem dX9_shift_0 : decode cX9_shift 0 = .ok (.aload_n 0, 1) := by decide +kernel
theorem dX9_shift_1 : decode cX9_shift 1 = .ok (.getfield 32, 3) := by decide +kernel
theorem dX9_shift_4 : decode cX9_shift 4 = .ok (.iload_n 1, 1) := by decide +kernel
theorem dX9_shift_5 : decode cX9_shift 5 = .ok (.invokevirtual 167, 3) := by decide +kernel
theorem dX9_shift_8 : decode cX9_shift 8 = .ok (.astore_n 3, 1) := by decide +kernel
theorem dX9_shift_9 : decode cX9_shift 9 = .ok (.aload_n 3, 1) := by decide +kernel
theorem dX9_shift_10 : decode cX9_shift 10 = .ok (.ifnull 15, 3) := by decide +kernel
theorem dX9_shift_13 : decode cX9_shift 13 = .ok (.iload_n 2, 1) := by decide +kernel
theorem dX9_shift_14 : decode cX9_shift 14 = .ok (.ldc 193, 2) := by decide +kernel
theorem dX9_shift_16 : decode cX9_shift 16 = .ok (.if_icmp .lt 9, 3) := by decide +kernel
theorem dX9_shift_19 : decode cX9_shift 19 = .ok (.iload_n 2, 1) := by decide +kernel
theorem dX9_shift_20 : decode cX9_shift 20 = .ok (.ldc 138, 2) := by decide +kernel
theorem dX9_shift_22 : decode cX9_shift 22 = .ok (.if_icmp .le 5, 3) := by decide +kernel
theorem dX9_shift_25 : decode cX9_shift 25 = .ok (.iconst (-1), 1) := by decide +kernel
theorem dX9_shift_26 : decode cX9_shift 26 = .ok (.ireturn, 1) := by decide +kernel
theorem dX9_shift_27 : decode cX9_shift 27 = .ok (.aload_n 3, 1) := by decide +kernel
theorem dX9_shift_28 : decode cX9_shift 28 = .ok (.getfield 194, 3) := by decide +kernel
theorem dX9_shift_31 : decode cX9_shift 31 = .ok (.iload_n 2, 1) := by decide +kernel
theorem dX9_shift_32 : decode cX9_shift 32 = .ok (.iadd, 1) := by decide +kernel
theorem dX9_shift_33 : decode cX9_shift 33 = .ok (.ifCond .lt 14, 3) := by decide +kernel
theorem dX9_shift_36 : decode cX9_shift 36 = .ok (.aload_n 3, 1) := by decide +kernel
theorem dX9_shift_37 : decode cX9_shift 37 = .ok (.getfield 197, 3) := by decide +kernel
theorem dX9_shift_40 : decode cX9_shift 40 = .ok (.iload_n 2, 1) := by decide +kernel
theorem dX9_shift_41 : decode cX9_shift 41 = .ok (.iadd, 1) := by decide +kernel
theorem dX9_shift_42 : decode cX9_shift 42 = .ok (.ldc 138, 2) := by decide +kernel
theorem dX9_shift_44 : decode cX9_shift 44 = .ok (.if_icmp .le 6, 3) := by decide +kernel
theorem dX9_shift_47 : decode cX9_shift 47 = .ok (.bipush (-2), 2) := by decide +kernel
theorem dX9_shift_49 : decode cX9_shift 49 = .ok (.ireturn, 1) := by decide +kernel
theorem dX9_shift_50 : decode cX9_shift 50 = .ok (.aload_n 0, 1) := by decide +kernel
theorem dX9_shift_51 : decode cX9_shift 51 = .ok (.getfield 39, 3) := by decide +kernel
theorem dX9_shift_54 : decode cX9_shift 54 = .ok (.aload_n 0, 1) := by decide +kernel
theorem dX9_shift_55 : decode cX9_shift 55 = .ok (.getfield 32, 3) := by decide +kernel
theorem dX9_shift_58 : decode cX9_shift 58 = .ok (.invokevirtual 74, 3) := by decide +kernel
theorem dX9_shift_61 : decode cX9_shift 61 = .ok (.aload_n 0, 1) := by decide +kernel
theorem dX9_shift_62 : decode cX9_shift 62 = .ok (.getfield 32, 3) := by decide +kernel
theorem dX9_shift_65 : decode cX9_shift 65 = .ok (.iload_n 1, 1) := by decide +kernel
theorem dX9_shift_66 : decode cX9_shift 66 = .ok (.aload_n 3, 1) := by decide +kernel
theorem dX9_shift_67 : decode cX9_shift 67 = .ok (.iload_n 2, 1) := by decide +kernel
theorem dX9_shift_68 : decode cX9_shift 68 = .ok (.invokevirtual 200, 3) := by decide +kernel
theorem dX9_shift_71 : decode cX9_shift 71 = .ok (.invokevirtual 183, 3) := by decide +kernel
theorem dX9_shift_74 : decode cX9_shift 74 = .ok (.aload_n 0, 1) := by decide +kernel
theorem dX9_shift_75 : decode cX9_shift 75 = .ok (.getfield 46, 3) := by decide +kernel
theorem dX9_shift_78 : decode cX9_shift 78 = .ok (.aload_n 0, 1) := by decide +kernel
theorem dX9_shift_79 : decode cX9_shift 79 = .ok (.getfield 32, 3) := by decide +kernel
theorem dX9_shift_82 : decode cX9_shift 82 = .ok (.invokevirtual 81, 3) := by decide +kernel
theorem dX9_shift_85 : decode cX9_shift 85 = .ok (.aload_n 3, 1) := by decide +kernel
theorem dX9_shift_86 : decode cX9_shift 86 = .ok (.getfield 194, 3) := by decide +kernel
theorem dX9_shift_89 : decode cX9_shift 89 = .ok (.iload_n 2, 1) := by decide +kernel
theorem dX9_shift_90 : decode cX9_shift 90 = .ok (.iadd, 1) := by decide +kernel
theorem dX9_shift_91 : decode cX9_shift 91 = .ok (.ireturn, 1) := by decide +kernel
theorem dX9_setHeight_0 : decode cX9_setHeight 0 = .ok (.iload_n 1, 1) := by decide +kernel
theorem dX9_setHeight_1 : decode cX9_setHeight 1 = .ok (.bipush 50, 2) := by decide +kernel
theorem dX9_setHeight_3 : decode cX9_setHeight 3 = .ok (.if_icmp .lt 10, 3) := by decide +kernel
theorem dX9_setHeight_6 : decode cX9_setHeight 6 = .ok (.iload_n 1, 1) := by decide +kernel
theorem dX9_setHeight_7 : decode cX9_setHeight 7 = .ok (.sipush 2000, 3) := by decide +kernel
theorem dX9_setHeight_10 : decode cX9_setHeight 10 = .ok (.if_icmp .le 5, 3) := by decide +kernel
theorem dX9_setHeight_13 : decode cX9_setHeight 13 = .ok (.iconst (-1), 1) := by decide +kernel
theorem dX9_setHeight_14 : decode cX9_setHeight 14 = .ok (.ireturn, 1) := by decide +kernel
theorem dX9_setHeight_15 : decode cX9_setHeight 15 = .ok (.aload_n 0, 1) := by decide +kernel
theorem dX9_setHeight_16 : decode cX9_setHeight 16 = .ok (.getfield 39, 3) := by decide +kernel
theorem dX9_setHeight_19 : decode cX9_setHeight 19 = .ok (.aload_n 0, 1) := by decide +kernel
theorem dX9_setHeight_20 : decode cX9_setHeight 20 = .ok (.getfield 32, 3) := by decide +kernel
theorem dX9_setHeight_23 : decode cX9_setHeight 23 = .ok (.invokevirtual 74, 3) := by decide +kernel
theorem dX9_setHeight_26 : decode cX9_setHeight 26 = .ok (.aload_n 0, 1) := by decide +kernel
theorem dX9_setHeight_27 : decode cX9_setHeight 27 = .ok (.getfield 32, 3) := by decide +kernel
theorem dX9_setHeight_30 : decode cX9_setHeight 30 = .ok (.getfield 203, 3) := by decide +kernel
theorem dX9_setHeight_33 : decode cX9_setHeight 33 = .ok (.istore_n 2, 1) := by decide +kernel
theorem dX9_setHeight_34 : decode cX9_setHeight 34 = .ok (.aload_n 0, 1) := by decide +kernel
theorem dX9_setHeight_35 : decode cX9_setHeight 35 = .ok (.getfield 32, 3) := by decide +kernel
theorem dX9_setHeight_38 : decode cX9_setHeight 38 = .ok (.iload_n 1, 1) := by decide +kernel
theorem dX9_setHeight_39 : decode cX9_setHeight 39 = .ok (.putfield 203, 3) := by decide +kernel
theorem dX9_setHeight_42 : decode cX9_setHeight 42 = .ok (.iload_n 2, 1) := by decide +kernel
theorem dX9_setHeight_43 : decode cX9_setHeight 43 = .ok (.ireturn, 1) := by decide +kernel
theorem dX9_about_0 : decode cX9_about 0 = .ok (.aload_n 0, 1) := by decide +kernel
theorem dX9_about_1 : decode cX9_about 1 = .ok (.getfield 32, 3) := by decide +kernel
theorem dX9_about_4 : decode cX9_about 4 = .ok (.iload_n 1, 1) := by decide +kernel
theorem dX9_about_5 : decode cX9_about 5 = .ok (.invokevirtual 167, 3) := by decide +kernel
theorem dX9_about_8 : decode cX9_about 8 = .ok (.astore_n 3, 1) := by decide +kernel
theorem dX9_about_9 : decode cX9_about 9 = .ok (.aload_n 0, 1) := by decide +kernel
theorem dX9_about_10 : decode cX9_about 10 = .ok (.getfield 46, 3) := by decide +kernel
theorem dX9_about_13 : decode cX9_about 13 = .ok (.iload_n 1, 1) := by decide +kernel
theorem dX9_about_14 : decode cX9_about 14 = .ok (.invokevirtual 206, 3) := by decide +kernel
theorem dX9_about_17 : decode cX9_about 17 = .ok (.astore 4, 2) := by decide +kernel
theorem dX9_about_19 : decode cX9_about 19 = .ok (.aload_n 3, 1) := by decide +kernel
theorem dX9_about_20 : decode cX9_about 20 = .ok (.ifnull 8, 3) := by decide +kernel
theorem dX9_about_23 : decode cX9_about 23 = .ok (.aload 4, 2) := by decide +kernel
theorem dX9_about_25 : decode cX9_about 25 = .ok (.ifnonnull 5, 3) := by decide +kernel
theorem dX9_about_28 : decode cX9_about 28 = .ok (.iconst (-1), 1) := by decide +kernel
theorem dX9_about_29 : decode cX9_about 29 = .ok (.ireturn, 1) := by decide +kernel
theorem dX9_about_30 : decode cX9_about 30 = .ok (.iload_n 2, 1) := by decide +kernel
theorem dX9_about_31 : decode cX9_about 31 = .ok (.tableswitch 167 0 11 #[61, 66, 71, 76, 81, 87, 93, 99, 122, 128, 134, 140], 61) := by decide +kernel
theorem dX9_about_92 : decode cX9_about 92 = .ok (.aload_n 3, 1) := by decide +kernel
theorem dX9_about_93 : decode cX9_about 93 = .ok (.getfield 194, 3) := by decide +kernel
theorem dX9_about_96 : decode cX9_about 96 = .ok (.ireturn, 1) := by decide +kernel
theorem dX9_about_97 : decode cX9_about 97 = .ok (.aload_n 3, 1) := by decide +kernel
theorem dX9_about_98 : decode cX9_about 98 = .ok (.getfield 197, 3) := by decide +kernel
theorem dX9_about_101 : decode cX9_about 101 = .ok (.ireturn, 1) := by decide +kernel
theorem dX9_about_102 : decode cX9_about 102 = .ok (.aload_n 3, 1) := by decide +kernel
theorem dX9_about_103 : decode cX9_about 103 = .ok (.getfield 187, 3) := by decide +kernel
theorem dX9_about_106 : decode cX9_about 106 = .ok (.ireturn, 1) := by decide +kernel
theorem dX9_about_107 : decode cX9_about 107 = .ok (.aload_n 3, 1) := by decide +kernel
theorem dX9_about_108 : decode cX9_about 108 = .ok (.getfield 190, 3) := by decide +kernel
theorem dX9_about_111 : decode cX9_about 111 = .ok (.ireturn, 1) := by decide +kernel
theorem dX9_about_112 : decode cX9_about 112 = .ok (.aload 4, 2) := by decide +kernel
theorem dX9_about_114 : decode cX9_about 114 = .ok (.getfield 210, 3) := by decide +kernel
theorem dX9_about_117 : decode cX9_about 117 = .ok (.ireturn, 1) := by decide +kernel
theorem dX9_about_118 : decode cX9_about 118 = .ok (.aload 4, 2) := by decide +kernel
theorem dX9_about_120 : decode cX9_about 120 = .ok (.getfield 213, 3) := by decide +kernel
theorem dX9_about_123 : decode cX9_about 123 = .ok (.ireturn, 1) := by decide +kernel
theorem dX9_about_124 : decode cX9_about 124 = .ok (.aload 4, 2) := by decide +kernel
theorem dX9_about_126 : decode cX9_about 126 = .ok (.getfield 216, 3) := by decide +kernel
theorem dX9_about_129 : decode cX9_about 129 = .ok (.ireturn, 1) := by decide +kernel
theorem dX9_about_130 : decode cX9_about 130 = .ok (.aload 4, 2) := by decide +kernel
theorem dX9_about_132 : decode cX9_about 132 = .ok (.getfield 216, 3) := by decide +kernel
theorem dX9_about_135 : decode cX9_about 135 = .ok (.aload_n 3, 1) := by decide +kernel
theorem dX9_about_136 : decode cX9_about 136 = .ok (.getfield 197, 3) := by decide +kernel
theorem dX9_about_139 : decode cX9_about 139 = .ok (.aload_n 3, 1) := by decide +kernel
theorem dX9_about_140 : decode cX9_about 140 = .ok (.getfield 194, 3) := by decide +kernel
theorem dX9_about_143 : decode cX9_about 143 = .ok (.isub, 1) := by decide +kernel
theorem dX9_about_144 : decode cX9_about 144 = .ok (.if_icmp .gt 7, 3) := by decide +kernel
theorem dX9_about_147 : decode cX9_about 147 = .ok (.iconst 1, 1) := by decide +kernel
theorem dX9_about_148 : decode cX9_about 148 = .ok (.goto 4, 3) := by decide +kernel
theorem dX9_about_151 : decode cX9_about 151 = .ok (.iconst 0, 1) := by decide +kernel
theorem dX9_about_152 : decode cX9_about 152 = .ok (.ireturn, 1) := by decide +kernel
theorem dX9_about_153 : decode cX9_about 153 = .ok (.aload 4, 2) := by decide +kernel
theorem dX9_about_155 : decode cX9_about 155 = .ok (.getfield 219, 3) := by decide +kernel
theorem dX9_about_158 : decode cX9_about 158 = .ok (.ireturn, 1) := by decide +kernel
theorem dX9_about_159 : decode cX9_about 159 = .ok (.aload 4, 2) := by decide +kernel
theorem dX9_about_161 : decode cX9_about 161 = .ok (.getfield 220, 3) := by decide +kernel
theorem dX9_about_164 : decode cX9_about 164 = .ok (.ireturn, 1) := by decide +kernel
theorem dX9_about_165 : decode cX9_about 165 = .ok (.aload 4, 2) := by decide +kernel
theorem dX9_about_167 : decode cX9_about 167 = .ok (.getfield 223, 3) := by decide +kernel
theorem dX9_about_170 : decode cX9_about 170 = .ok (.ireturn, 1) := by decide +kernel
theorem dX9_about_171 : decode cX9_about 171 = .ok (.aload 4, 2) := by decide +kernel
theorem dX9_about_173 : decode cX9_about 173 = .ok (.getfield 220, 3) := by decide +kernel
theorem dX9_about_176 : decode cX9_about 176 = .ok (.aload 4, 2) := by decide +kernel
theorem dX9_about_178 : decode cX9_about 178 = .ok (.getfield 219, 3) := by decide +kernel
theorem dX9_about_181 : decode cX9_about 181 = .ok (.iadd, 1) := by decide +kernel
theorem dX9_about_182 : decode cX9_about 182 = .ok (.aload_n 0, 1) := by decide +kernel
theorem dX9_about_183 : decode cX9_about 183 = .ok (.getfield 32, 3) := by decide +kernel
theorem dX9_about_186 : decode cX9_about 186 = .ok (.getfield 203, 3) := by decide +kernel
theorem dX9_about_189 : decode cX9_about 189 = .ok (.if_icmp .le 7, 3) := by decide +kernel
theorem dX9_about_192 : decode cX9_about 192 = .ok (.iconst 1, 1) := by decide +kernel
theorem dX9_about_193 : decode cX9_about 193 = .ok (.goto 4, 3) := by decide +kernel
theorem dX9_about_196 : decode cX9_about 196 = .ok (.iconst 0, 1) := by decide +kernel
theorem dX9_about_197 : decode cX9_about 197 = .ok (.ireturn, 1) := by decide +kernel
theorem dX9_about_198 : decode cX9_about 198 = .ok (.iconst (-1), 1) := by decide +kernel
theorem dX9_about_199 : decode cX9_about 199 = .ok (.ireturn, 1) := by decide +kernel
theorem dX9_lines_0 : decode cX9_lines 0 = .ok (.aload_n 0, 1) := by decide +kernel
theorem dX9_lines_1 : decode cX9_lines 1 = .ok (.getfield 32, 3) := by decide +kernel
theorem dX9_lines_4 : decode cX9_lines 4 = .ok (.getfield 139, 3) := by decide +kernel
theorem dX9_lines_7 : decode cX9_lines 7 = .ok (.ireturn, 1) := by decide +kernel
theorem dX9_sign_0 : decode cX9_sign 0 = .ok (.aload_n 0, 1) := by decide +kernel
theorem dX9_sign_1 : decode cX9_sign 1 = .ok (.getfield 46, 3) := by decide +kernel
theorem dX9_sign_4 : decode cX9_sign 4 = .ok (.iload_n 1, 1) := by decide +kernel
theorem dX9_sign_5 : decode cX9_sign 5 = .ok (.invokevirtual 206, 3) := by decide +kernel
theorem dX9_sign_8 : decode cX9_sign 8 = .ok (.astore 4, 2) := by decide +kernel
theorem dX9_sign_10 : decode cX9_sign 10 = .ok (.aload 4, 2) := by decide +kernel
theorem dX9_sign_12 : decode cX9_sign 12 = .ok (.ifnull 22, 3) := by decide +kernel
theorem dX9_sign_15 : decode cX9_sign 15 = .ok (.aload 4, 2) := by decide +kernel
theorem dX9_sign_17 : decode cX9_sign 17 = .ok (.iload_n 2, 1) := by decide +kernel
theorem dX9_sign_18 : decode cX9_sign 18 = .ok (.invokevirtual 226, 3) := by decide +kernel
theorem dX9_sign_21 : decode cX9_sign 21 = .ok (.ifCond .eq 13, 3) := by decide +kernel
theorem dX9_sign_24 : decode cX9_sign 24 = .ok (.iload_n 3, 1) := by decide +kernel
theorem dX9_sign_25 : decode cX9_sign 25 = .ok (.ifCond .lt 9, 3) := by decide +kernel
theorem dX9_sign_28 : decode cX9_sign 28 = .ok (.iload_n 3, 1) := by decide +kernel
theorem dX9_sign_29 : decode cX9_sign 29 = .ok (.bipush 6, 2) := by decide +kernel
theorem dX9_sign_31 : decode cX9_sign 31 = .ok (.if_icmp .lt 5, 3) := by decide +kernel
theorem dX9_sign_34 : decode cX9_sign 34 = .ok (.iconst (-1), 1) := by decide +kernel
theorem dX9_sign_35 : decode cX9_sign 35 = .ok (.ireturn, 1) := by decide +kernel
theorem dX9_sign_36 : decode cX9_sign 36 = .ok (.aload 4, 2) := by decide +kernel
theorem dX9_sign_38 : decode cX9_sign 38 = .ok (.iload_n 2, 1) := by decide +kernel
theorem dX9_sign_39 : decode cX9_sign 39 = .ok (.iload_n 3, 1) := by decide +kernel
theorem dX9_sign_40 : decode cX9_sign 40 = .ok (.invokevirtual 229, 3) := by decide +kernel
theorem dX9_sign_43 : decode cX9_sign 43 = .ok (.ireturn, 1) := by decide +kernel
theorem dX9_syllable_0 : decode cX9_syllable 0 = .ok (.aload_n 0, 1) := by decide +kernel
theorem dX9_syllable_1 : decode cX9_syllable 1 = .ok (.getfield 46, 3) := by decide +kernel
theorem dX9_syllable_4 : decode cX9_syllable 4 = .ok (.iload_n 1, 1) := by decide +kernel
theorem dX9_syllable_5 : decode cX9_syllable 5 = .ok (.invokevirtual 206, 3) := by decide +kernel
theorem dX9_syllable_8 : decode cX9_syllable 8 = .ok (.astore 4, 2) := by decide +kernel
theorem dX9_syllable_10 : decode cX9_syllable 10 = .ok (.aload 4, 2) := by decide +kernel
theorem dX9_syllable_12 : decode cX9_syllable 12 = .ok (.ifnull 21, 3) := by decide +kernel
theorem dX9_syllable_15 : decode cX9_syllable 15 = .ok (.aload 4, 2) := by decide +kernel
theorem dX9_syllable_17 : decode cX9_syllable 17 = .ok (.iload_n 2, 1) := by decide +kernel
theorem dX9_syllable_18 : decode cX9_syllable 18 = .ok (.invokevirtual 232, 3) := by decide +kernel
theorem dX9_syllable_21 : decode cX9_syllable 21 = .ok (.ifCond .eq 12, 3) := by decide +kernel
theorem dX9_syllable_24 : decode cX9_syllable 24 = .ok (.iload_n 3, 1) := by decide +kernel
theorem dX9_syllable_25 : decode cX9_syllable 25 = .ok (.ifCond .lt 8, 3) := by decide +kernel
theorem dX9_syllable_28 : decode cX9_syllable 28 = .ok (.iload_n 3, 1) := by decide +kernel
theorem dX9_syllable_29 : decode cX9_syllable 29 = .ok (.iconst 3, 1) := by decide +kernel
theorem dX9_syllable_30 : decode cX9_syllable 30 = .ok (.if_icmp .lt 5, 3) := by decide +kernel
theorem dX9_syllable_33 : decode cX9_syllable 33 = .ok (.iconst (-1), 1) := by decide +kernel
theorem dX9_syllable_34 : decode cX9_syllable 34 = .ok (.ireturn, 1) := by decide +kernel
theorem dX9_syllable_35 : decode cX9_syllable 35 = .ok (.aload 4, 2) := by decide +kernel
theorem dX9_syllable_37 : decode cX9_syllable 37 = .ok (.iload_n 2, 1) := by decide +kernel
theorem dX9_syllable_38 : decode cX9_syllable 38 = .ok (.iload_n 3, 1) := by decide +kernel
theorem dX9_syllable_39 : decode cX9_syllable 39 = .ok (.invokevirtual 235, 3) := by decide +kernel
theorem dX9_syllable_42 : decode cX9_syllable 42 = .ok (.ireturn, 1) := by decide +kernel
theorem dX9_fit_0 : decode cX9_fit 0 = .ok (.aload_n 0, 1) := by decide +kernel
theorem dX9_fit_1 : decode cX9_fit 1 = .ok (.getfield 32, 3) := by decide +kernel
theorem dX9_fit_4 : decode cX9_fit 4 = .ok (.iload_n 1, 1) := by decide +kernel
theorem dX9_fit_5 : decode cX9_fit 5 = .ok (.invokevirtual 167, 3) := by decide +kernel
theorem dX9_fit_8 : decode cX9_fit 8 = .ok (.astore_n 2, 1) := by decide +kernel
theorem dX9_fit_9 : decode cX9_fit 9 = .ok (.aload_n 0, 1) := by decide +kernel
theorem dX9_fit_10 : decode cX9_fit 10 = .ok (.getfield 46, 3) := by decide +kernel
theorem dX9_fit_13 : decode cX9_fit 13 = .ok (.iload_n 1, 1) := by decide +kernel
theorem dX9_fit_14 : decode cX9_fit 14 = .ok (.invokevirtual 206, 3) := by decide +kernel
theorem dX9_fit_17 : decode cX9_fit 17 = .ok (.astore_n 3, 1) := by decide +kernel
theorem dX9_fit_18 : decode cX9_fit 18 = .ok (.aload_n 2, 1) := by decide +kernel
theorem dX9_fit_19 : decode cX9_fit 19 = .ok (.ifnull 7, 3) := by decide +kernel
theorem dX9_fit_22 : decode cX9_fit 22 = .ok (.aload_n 3, 1) := by decide +kernel
theorem dX9_fit_23 : decode cX9_fit 23 = .ok (.ifnonnull 5, 3) := by decide +kernel
theorem dX9_fit_26 : decode cX9_fit 26 = .ok (.iconst (-1), 1) := by decide +kernel
theorem dX9_fit_27 : decode cX9_fit 27 = .ok (.ireturn, 1) := by decide +kernel
theorem dX9_fit_28 : decode cX9_fit 28 = .ok (.aload_n 3, 1) := by decide +kernel
theorem dX9_fit_29 : decode cX9_fit 29 = .ok (.getfield 213, 3) := by decide +kernel
theorem dX9_fit_32 : decode cX9_fit 32 = .ok (.iconst 1, 1) := by decide +kernel
theorem dX9_fit_33 : decode cX9_fit 33 = .ok (.isub, 1) := by decide +kernel
theorem dX9_fit_34 : decode cX9_fit 34 = .ok (.istore 4, 2) := by decide +kernel
theorem dX9_fit_36 : decode cX9_fit 36 = .ok (.iload 4, 2) := by decide +kernel
theorem dX9_fit_38 : decode cX9_fit 38 = .ok (.ifCond .ge 6, 3) := by decide +kernel
theorem dX9_fit_41 : decode cX9_fit 41 = .ok (.bipush (-2), 2) := by decide +kernel
theorem dX9_fit_43 : decode cX9_fit 43 = .ok (.ireturn, 1) := by decide +kernel
theorem dX9_fit_44 : decode cX9_fit 44 = .ok (.aload_n 3, 1) := by decide +kernel
theorem dX9_fit_45 : decode cX9_fit 45 = .ok (.getfield 216, 3) := by decide +kernel
theorem dX9_fit_48 : decode cX9_fit 48 = .ok (.aload_n 3, 1) := by decide +kernel
theorem dX9_fit_49 : decode cX9_fit 49 = .ok (.iload 4, 2) := by decide +kernel
theorem dX9_fit_51 : decode cX9_fit 51 = .ok (.iconst 1, 1) := by decide +kernel
theorem dX9_fit_52 : decode cX9_fit 52 = .ok (.invokevirtual 235, 3) := by decide +kernel
theorem dX9_fit_55 : decode cX9_fit 55 = .ok (.isub, 1) := by decide +kernel
theorem dX9_fit_56 : decode cX9_fit 56 = .ok (.istore 5, 2) := by decide +kernel
theorem dX9_fit_58 : decode cX9_fit 58 = .ok (.aload_n 2, 1) := by decide +kernel
theorem dX9_fit_59 : decode cX9_fit 59 = .ok (.getfield 197, 3) := by decide +kernel
theorem dX9_fit_62 : decode cX9_fit 62 = .ok (.aload_n 2, 1) := by decide +kernel
theorem dX9_fit_63 : decode cX9_fit 63 = .ok (.getfield 194, 3) := by decide +kernel
theorem dX9_fit_66 : decode cX9_fit 66 = .ok (.isub, 1) := by decide +kernel
theorem dX9_fit_67 : decode cX9_fit 67 = .ok (.iload 5, 2) := by decide +kernel
theorem dX9_fit_69 : decode cX9_fit 69 = .ok (.isub, 1) := by decide +kernel
theorem dX9_fit_70 : decode cX9_fit 70 = .ok (.istore 6, 2) := by decide +kernel
theorem dX9_fit_72 : decode cX9_fit 72 = .ok (.iload 6, 2) := by decide +kernel
theorem dX9_fit_74 : decode cX9_fit 74 = .ok (.ifCond .lt 11, 3) := by decide +kernel
theorem dX9_fit_77 : decode cX9_fit 77 = .ok (.iload 6, 2) := by decide +kernel
theorem dX9_fit_79 : decode cX9_fit 79 = .ok (.sipush 9999, 3) := by decide +kernel
theorem dX9_fit_82 : decode cX9_fit 82 = .ok (.if_icmp .le 6, 3) := by decide +kernel
theorem dX9_fit_85 : decode cX9_fit 85 = .ok (.bipush (-2), 2) := by decide +kernel
theorem dX9_fit_87 : decode cX9_fit 87 = .ok (.ireturn, 1) := by decide +kernel
theorem dX9_fit_88 : decode cX9_fit 88 = .ok (.aload_n 0, 1) := by decide +kernel
theorem dX9_fit_89 : decode cX9_fit 89 = .ok (.getfield 39, 3) := by decide +kernel
theorem dX9_fit_92 : decode cX9_fit 92 = .ok (.aload_n 0, 1) := by decide +kernel
theorem dX9_fit_93 : decode cX9_fit 93 = .ok (.getfield 32, 3) := by decide +kernel
theorem dX9_fit_96 : decode cX9_fit 96 = .ok (.invokevirtual 74, 3) := by decide +kernel
theorem dX9_fit_99 : decode cX9_fit 99 = .ok (.aload_n 0, 1) := by decide +kernel
theorem dX9_fit_100 : decode cX9_fit 100 = .ok (.getfield 32, 3) := by decide +kernel
theorem dX9_fit_103 : decode cX9_fit 103 = .ok (.iload_n 1, 1) := by decide +kernel
theorem dX9_fit_104 : decode cX9_fit 104 = .ok (.aload_n 2, 1) := by decide +kernel
theorem dX9_fit_105 : decode cX9_fit 105 = .ok (.aload_n 2, 1) := by decide +kernel
theorem dX9_fit_106 : decode cX9_fit 106 = .ok (.getfield 238, 3) := by decide +kernel
theorem dX9_fit_109 : decode cX9_fit 109 = .ok (.iload 6, 2) := by decide +kernel
theorem dX9_fit_111 : decode cX9_fit 111 = .ok (.invokevirtual 242, 3) := by decide +kernel
theorem dX9_fit_114 : decode cX9_fit 114 = .ok (.invokevirtual 246, 3) := by decide +kernel
theorem dX9_fit_117 : decode cX9_fit 117 = .ok (.invokevirtual 183, 3) := by decide +kernel
theorem dX9_fit_120 : decode cX9_fit 120 = .ok (.aload_n 0, 1) := by decide +kernel
theorem dX9_fit_121 : decode cX9_fit 121 = .ok (.getfield 46, 3) := by decide +kernel
theorem dX9_fit_124 : decode cX9_fit 124 = .ok (.aload_n 0, 1) := by decide +kernel
theorem dX9_fit_125 : decode cX9_fit 125 = .ok (.getfield 32, 3) := by decide +kernel
theorem dX9_fit_128 : decode cX9_fit 128 = .ok (.invokevirtual 81, 3) := by decide +kernel
theorem dX9_fit_131 : decode cX9_fit 131 = .ok (.iload 6, 2) := by decide +kernel
theorem dX9_fit_133 : decode cX9_fit 133 = .ok (.ireturn, 1) := by decide +kernel
theorem dX9_shows_0 : decode cX9_shows 0 = .ok (.aload_n 0, 1) := by decide +kernel
theorem dX9_shows_1 : decode cX9_shows 1 = .ok (.getfield 46, 3) := by decide +kernel
theorem dX9_shows_4 : decode cX9_shows 4 = .ok (.iload_n 1, 1) := by decide +kernel
theorem dX9_shows_5 : decode cX9_shows 5 = .ok (.invokevirtual 206, 3) := by decide +kernel
theorem dX9_shows_8 : decode cX9_shows 8 = .ok (.astore 4, 2) := by decide +kernel
theorem dX9_shows_10 : decode cX9_shows 10 = .ok (.aload 4, 2) := by decide +kernel
theorem dX9_shows_12 : decode cX9_shows 12 = .ok (.ifnull 12, 3) := by decide +kernel
theorem dX9_shows_15 : decode cX9_shows 15 = .ok (.aload 4, 2) := by decide +kernel
theorem dX9_shows_17 : decode cX9_shows 17 = .ok (.iload_n 2, 1) := by decide +kernel
theorem dX9_shows_18 : decode cX9_shows 18 = .ok (.invokevirtual 226, 3) := by decide +kernel
theorem dX9_shows_21 : decode cX9_shows 21 = .ok (.ifCond .ne 5, 3) := by decide +kernel
theorem dX9_shows_24 : decode cX9_shows 24 = .ok (.iconst (-1), 1) := by decide +kernel
theorem dX9_shows_25 : decode cX9_shows 25 = .ok (.ireturn, 1) := by decide +kernel
theorem dX9_shows_26 : decode cX9_shows 26 = .ok (.aload 4, 2) := by decide +kernel
theorem dX9_shows_28 : decode cX9_shows 28 = .ok (.iload_n 3, 1) := by decide +kernel
theorem dX9_shows_29 : decode cX9_shows 29 = .ok (.invokevirtual 250, 3) := by decide +kernel
theorem dX9_shows_32 : decode cX9_shows 32 = .ok (.ifCond .ne 6, 3) := by decide +kernel
theorem dX9_shows_35 : decode cX9_shows 35 = .ok (.bipush (-9), 2) := by decide +kernel
theorem dX9_shows_37 : decode cX9_shows 37 = .ok (.ireturn, 1) := by decide +kernel
theorem dX9_shows_38 : decode cX9_shows 38 = .ok (.aload 4, 2) := by decide +kernel
theorem dX9_shows_40 : decode cX9_shows 40 = .ok (.iload_n 2, 1) := by decide +kernel
theorem dX9_shows_41 : decode cX9_shows 41 = .ok (.iload_n 3, 1) := by decide +kernel
theorem dX9_shows_42 : decode cX9_shows 42 = .ok (.invokevirtual 253, 3) := by decide +kernel
theorem dX9_shows_45 : decode cX9_shows 45 = .ok (.ifCond .eq 7, 3) := by decide +kernel
theorem dX9_shows_48 : decode cX9_shows 48 = .ok (.iconst 2, 1) := by decide +kernel
theorem dX9_shows_49 : decode cX9_shows 49 = .ok (.goto 4, 3) := by decide +kernel
theorem dX9_shows_52 : decode cX9_shows 52 = .ok (.iconst 1, 1) := by decide +kernel
theorem dX9_shows_53 : decode cX9_shows 53 = .ok (.istore 5, 2) := by decide +kernel
theorem dX9_shows_55 : decode cX9_shows 55 = .ok (.aload 4, 2) := by decide +kernel
theorem dX9_shows_57 : decode cX9_shows 57 = .ok (.iload_n 2, 1) := by decide +kernel
theorem dX9_shows_58 : decode cX9_shows 58 = .ok (.iconst 1, 1) := by decide +kernel
theorem dX9_shows_59 : decode cX9_shows 59 = .ok (.iload 5, 2) := by decide +kernel
theorem dX9_shows_61 : decode cX9_shows 61 = .ok (.iadd, 1) := by decide +kernel
theorem dX9_shows_62 : decode cX9_shows 62 = .ok (.invokevirtual 229, 3) := by decide +kernel
theorem dX9_shows_65 : decode cX9_shows 65 = .ok (.ireturn, 1) := by decide +kernel
theorem dX9_shown_0 : decode cX9_shown 0 = .ok (.iload_n 2, 1) := by decide +kernel
theorem dX9_shown_1 : decode cX9_shown 1 = .ok (.ifCond .ge 5, 3) := by decide +kernel
theorem dX9_shown_4 : decode cX9_shown 4 = .ok (.iconst (-1), 1) := by decide +kernel
theorem dX9_shown_5 : decode cX9_shown 5 = .ok (.ireturn, 1) := by decide +kernel
theorem dX9_shown_6 : decode cX9_shown 6 = .ok (.iconst 0, 1) := by decide +kernel
theorem dX9_shown_7 : decode cX9_shown 7 = .ok (.istore_n 3, 1) := by decide +kernel
theorem dX9_shown_8 : decode cX9_shown 8 = .ok (.iload_n 3, 1) := by decide +kernel
theorem dX9_shown_9 : decode cX9_shown 9 = .ok (.aload_n 0, 1) := by decide +kernel
theorem dX9_shown_10 : decode cX9_shown 10 = .ok (.getfield 32, 3) := by decide +kernel
theorem dX9_shown_13 : decode cX9_shown 13 = .ok (.getfield 139, 3) := by decide +kernel
theorem dX9_shown_16 : decode cX9_shown 16 = .ok (.if_icmp .ge 36, 3) := by decide +kernel
theorem dX9_shown_19 : decode cX9_shown 19 = .ok (.aload_n 0, 1) := by decide +kernel
theorem dX9_shown_20 : decode cX9_shown 20 = .ok (.getfield 46, 3) := by decide +kernel
theorem dX9_shown_23 : decode cX9_shown 23 = .ok (.iload_n 3, 1) := by decide +kernel
theorem dX9_shown_24 : decode cX9_shown 24 = .ok (.iload_n 1, 1) := by decide +kernel
theorem dX9_shown_25 : decode cX9_shown 25 = .ok (.invokevirtual 256, 3) := by decide +kernel
theorem dX9_shown_28 : decode cX9_shown 28 = .ok (.ifCond .eq 18, 3) := by decide +kernel
theorem dX9_shown_31 : decode cX9_shown 31 = .ok (.aload_n 0, 1) := by decide +kernel
theorem dX9_shown_32 : decode cX9_shown 32 = .ok (.getfield 46, 3) := by decide +kernel
theorem dX9_shown_35 : decode cX9_shown 35 = .ok (.iload_n 3, 1) := by decide +kernel
theorem dX9_shown_36 : decode cX9_shown 36 = .ok (.iload_n 1, 1) := by decide +kernel
theorem dX9_shown_37 : decode cX9_shown 37 = .ok (.invokevirtual 258, 3) := by decide +kernel
theorem dX9_shown_40 : decode cX9_shown 40 = .ok (.iload_n 2, 1) := by decide +kernel
theorem dX9_shown_41 : decode cX9_shown 41 = .ok (.if_icmp .ne 5, 3) := by decide +kernel
theorem dX9_shown_44 : decode cX9_shown 44 = .ok (.iload_n 3, 1) := by decide +kernel
theorem dX9_shown_45 : decode cX9_shown 45 = .ok (.ireturn, 1) := by decide +kernel
theorem dX9_shown_46 : decode cX9_shown 46 = .ok (.iinc 3 1, 3) := by decide +kernel
theorem dX9_shown_49 : decode cX9_shown 49 = .ok (.goto (-41), 3) := by decide +kernel
theorem dX9_shown_52 : decode cX9_shown 52 = .ok (.bipush (-9), 2) := by decide +kernel
theorem dX9_shown_54 : decode cX9_shown 54 = .ok (.ireturn, 1) := by decide +kernel
theorem dX9_crowd_0 : decode cX9_crowd 0 = .ok (.bipush (-9), 2) := by decide +kernel
theorem dX9_crowd_2 : decode cX9_crowd 2 = .ok (.istore_n 1, 1) := by decide +kernel
theorem dX9_crowd_3 : decode cX9_crowd 3 = .ok (.iconst 0, 1) := by decide +kernel
theorem dX9_crowd_4 : decode cX9_crowd 4 = .ok (.istore_n 2, 1) := by decide +kernel
theorem dX9_crowd_5 : decode cX9_crowd 5 = .ok (.iconst 0, 1) := by decide +kernel
theorem dX9_crowd_6 : decode cX9_crowd 6 = .ok (.istore_n 3, 1) := by decide +kernel
theorem dX9_crowd_7 : decode cX9_crowd 7 = .ok (.iload_n 3, 1) := by decide +kernel
theorem dX9_crowd_8 : decode cX9_crowd 8 = .ok (.aload_n 0, 1) := by decide +kernel
theorem dX9_crowd_9 : decode cX9_crowd 9 = .ok (.getfield 32, 3) := by decide +kernel
theorem dX9_crowd_12 : decode cX9_crowd 12 = .ok (.getfield 139, 3) := by decide +kernel
theorem dX9_crowd_15 : decode cX9_crowd 15 = .ok (.if_icmp .ge 54, 3) := by decide +kernel
theorem dX9_crowd_18 : decode cX9_crowd 18 = .ok (.aload_n 0, 1) := by decide +kernel
theorem dX9_crowd_19 : decode cX9_crowd 19 = .ok (.getfield 46, 3) := by decide +kernel
theorem dX9_crowd_22 : decode cX9_crowd 22 = .ok (.iload_n 3, 1) := by decide +kernel
theorem dX9_crowd_23 : decode cX9_crowd 23 = .ok (.invokevirtual 261, 3) := by decide +kernel
theorem dX9_crowd_26 : decode cX9_crowd 26 = .ok (.istore 4, 2) := by decide +kernel
theorem dX9_crowd_28 : decode cX9_crowd 28 = .ok (.aload_n 0, 1) := by decide +kernel
theorem dX9_crowd_29 : decode cX9_crowd 29 = .ok (.getfield 46, 3) := by decide +kernel
theorem dX9_crowd_32 : decode cX9_crowd 32 = .ok (.iload 4, 2) := by decide +kernel
theorem dX9_crowd_34 : decode cX9_crowd 34 = .ok (.invokevirtual 264, 3) := by decide +kernel
theorem dX9_crowd_37 : decode cX9_crowd 37 = .ok (.istore 5, 2) := by decide +kernel
theorem dX9_crowd_39 : decode cX9_crowd 39 = .ok (.iload 5, 2) := by decide +kernel
theorem dX9_crowd_41 : decode cX9_crowd 41 = .ok (.iload_n 2, 1) := by decide +kernel
theorem dX9_crowd_42 : decode cX9_crowd 42 = .ok (.if_icmp .gt 15, 3) := by decide +kernel
theorem dX9_crowd_45 : decode cX9_crowd 45 = .ok (.iload 5, 2) := by decide +kernel
theorem dX9_crowd_47 : decode cX9_crowd 47 = .ok (.iload_n 2, 1) := by decide +kernel
theorem dX9_crowd_48 : decode cX9_crowd 48 = .ok (.if_icmp .ne 15, 3) := by decide +kernel
theorem dX9_crowd_51 : decode cX9_crowd 51 = .ok (.iload 4, 2) := by decide +kernel
theorem dX9_crowd_53 : decode cX9_crowd 53 = .ok (.iload_n 1, 1) := by decide +kernel
theorem dX9_crowd_54 : decode cX9_crowd 54 = .ok (.if_icmp .ge 9, 3) := by decide +kernel
theorem dX9_crowd_57 : decode cX9_crowd 57 = .ok (.iload 5, 2) := by decide +kernel
theorem dX9_crowd_59 : decode cX9_crowd 59 = .ok (.istore_n 2, 1) := by decide +kernel
theorem dX9_crowd_60 : decode cX9_crowd 60 = .ok (.iload 4, 2) := by decide +kernel
theorem dX9_crowd_62 : decode cX9_crowd 62 = .ok (.istore_n 1, 1) := by decide +kernel
theorem dX9_crowd_63 : decode cX9_crowd 63 = .ok (.iinc 3 1, 3) := by decide +kernel
theorem dX9_crowd_66 : decode cX9_crowd 66 = .ok (.goto (-59), 3) := by decide +kernel
theorem dX9_crowd_69 : decode cX9_crowd 69 = .ok (.iload_n 1, 1) := by decide +kernel
theorem dX9_crowd_70 : decode cX9_crowd 70 = .ok (.ireturn, 1) := by decide +kernel
theorem dX9_sung_0 : decode cX9_sung 0 = .ok (.iconst 0, 1) := by decide +kernel
theorem dX9_sung_1 : decode cX9_sung 1 = .ok (.istore_n 2, 1) := by decide +kernel
theorem dX9_sung_2 : decode cX9_sung 2 = .ok (.iconst 0, 1) := by decide +kernel
theorem dX9_sung_3 : decode cX9_sung 3 = .ok (.istore_n 3, 1) := by decide +kernel
theorem dX9_sung_4 : decode cX9_sung 4 = .ok (.iconst 0, 1) := by decide +kernel
theorem dX9_sung_5 : decode cX9_sung 5 = .ok (.istore 4, 2) := by decide +kernel
theorem dX9_sung_7 : decode cX9_sung 7 = .ok (.iload 4, 2) := by decide +kernel
theorem dX9_sung_9 : decode cX9_sung 9 = .ok (.aload_n 0, 1) := by decide +kernel
theorem dX9_sung_10 : decode cX9_sung 10 = .ok (.getfield 32, 3) := by decide +kernel
theorem dX9_sung_13 : decode cX9_sung 13 = .ok (.getfield 139, 3) := by decide +kernel
theorem dX9_sung_16 : decode cX9_sung 16 = .ok (.if_icmp .ge 51, 3) := by decide +kernel
theorem dX9_sung_19 : decode cX9_sung 19 = .ok (.aload_n 0, 1) := by decide +kernel
theorem dX9_sung_20 : decode cX9_sung 20 = .ok (.getfield 46, 3) := by decide +kernel
theorem dX9_sung_23 : decode cX9_sung 23 = .ok (.iload 4, 2) := by decide +kernel
theorem dX9_sung_25 : decode cX9_sung 25 = .ok (.invokevirtual 206, 3) := by decide +kernel
theorem dX9_sung_28 : decode cX9_sung 28 = .ok (.astore 5, 2) := by decide +kernel
theorem dX9_sung_30 : decode cX9_sung 30 = .ok (.aload 5, 2) := by decide +kernel
theorem dX9_sung_32 : decode cX9_sung 32 = .ok (.ifnull 29, 3) := by decide +kernel
theorem dX9_sung_35 : decode cX9_sung 35 = .ok (.aload 5, 2) := by decide +kernel
theorem dX9_sung_37 : decode cX9_sung 37 = .ok (.iload_n 1, 1) := by decide +kernel
theorem dX9_sung_38 : decode cX9_sung 38 = .ok (.invokevirtual 250, 3) := by decide +kernel
theorem dX9_sung_41 : decode cX9_sung 41 = .ok (.ifCond .eq 20, 3) := by decide +kernel
theorem dX9_sung_44 : decode cX9_sung 44 = .ok (.iload_n 2, 1) := by decide +kernel
theorem dX9_sung_45 : decode cX9_sung 45 = .ok (.aload 5, 2) := by decide +kernel
theorem dX9_sung_47 : decode cX9_sung 47 = .ok (.getfield 210, 3) := by decide +kernel
theorem dX9_sung_50 : decode cX9_sung 50 = .ok (.iadd, 1) := by decide +kernel
theorem dX9_sung_51 : decode cX9_sung 51 = .ok (.istore_n 2, 1) := by decide +kernel
theorem dX9_sung_52 : decode cX9_sung 52 = .ok (.iload_n 3, 1) := by decide +kernel
theorem dX9_sung_53 : decode cX9_sung 53 = .ok (.aload 5, 2) := by decide +kernel
theorem dX9_sung_55 : decode cX9_sung 55 = .ok (.iload_n 1, 1) := by decide +kernel
theorem dX9_sung_56 : decode cX9_sung 56 = .ok (.invokevirtual 267, 3) := by decide +kernel
theorem dX9_sung_59 : decode cX9_sung 59 = .ok (.iadd, 1) := by decide +kernel
theorem dX9_sung_60 : decode cX9_sung 60 = .ok (.istore_n 3, 1) := by decide +kernel
theorem dX9_sung_61 : decode cX9_sung 61 = .ok (.iinc 4 1, 3) := by decide +kernel
theorem dX9_sung_64 : decode cX9_sung 64 = .ok (.goto (-57), 3) := by decide +kernel
theorem dX9_sung_67 : decode cX9_sung 67 = .ok (.iload_n 2, 1) := by decide +kernel
theorem dX9_sung_68 : decode cX9_sung 68 = .ok (.ifCond .ne 7, 3) := by decide +kernel
theorem dX9_sung_71 : decode cX9_sung 71 = .ok (.fconst 0, 1) := by decide +kernel
theorem dX9_sung_72 : decode cX9_sung 72 = .ok (.goto 8, 3) := by decide +kernel
theorem dX9_sung_75 : decode cX9_sung 75 = .ok (.iload_n 3, 1) := by decide +kernel
theorem dX9_sung_76 : decode cX9_sung 76 = .ok (.i2f, 1) := by decide +kernel
theorem dX9_sung_77 : decode cX9_sung 77 = .ok (.iload_n 2, 1) := by decide +kernel
theorem dX9_sung_78 : decode cX9_sung 78 = .ok (.i2f, 1) := by decide +kernel
theorem dX9_sung_79 : decode cX9_sung 79 = .ok (.fdiv, 1) := by decide +kernel
theorem dX9_sung_80 : decode cX9_sung 80 = .ok (.freturn, 1) := by decide +kernel
theorem dX9_unlike_0 : decode cX9_unlike 0 = .ok (.aload_n 0, 1) := by decide +kernel
theorem dX9_unlike_1 : decode cX9_unlike 1 = .ok (.getfield 53, 3) := by decide +kernel
theorem dX9_unlike_4 : decode cX9_unlike 4 = .ok (.aload_n 0, 1) := by decide +kernel
theorem dX9_unlike_5 : decode cX9_unlike 5 = .ok (.getfield 32, 3) := by decide +kernel
theorem dX9_unlike_8 : decode cX9_unlike 8 = .ok (.getfield 64, 3) := by decide +kernel
theorem dX9_unlike_11 : decode cX9_unlike 11 = .ok (.invokevirtual 270, 3) := by decide +kernel
theorem dX9_unlike_14 : decode cX9_unlike 14 = .ok (.aload_n 0, 1) := by decide +kernel
theorem dX9_unlike_15 : decode cX9_unlike 15 = .ok (.getfield 53, 3) := by decide +kernel
theorem dX9_unlike_18 : decode cX9_unlike 18 = .ok (.invokevirtual 125, 3) := by decide +kernel
theorem dX9_unlike_21 : decode cX9_unlike 21 = .ok (.pop, 1) := by decide +kernel
theorem dX9_unlike_22 : decode cX9_unlike 22 = .ok (.iconst 0, 1) := by decide +kernel
theorem dX9_unlike_23 : decode cX9_unlike 23 = .ok (.istore_n 1, 1) := by decide +kernel
theorem dX9_unlike_24 : decode cX9_unlike 24 = .ok (.iconst 0, 1) := by decide +kernel
theorem dX9_unlike_25 : decode cX9_unlike 25 = .ok (.istore_n 2, 1) := by decide +kernel
theorem dX9_unlike_26 : decode cX9_unlike 26 = .ok (.iload_n 2, 1) := by decide +kernel
theorem dX9_unlike_27 : decode cX9_unlike 27 = .ok (.aload_n 0, 1) := by decide +kernel
theorem dX9_unlike_28 : decode cX9_unlike 28 = .ok (.getfield 32, 3) := by decide +kernel
theorem dX9_unlike_31 : decode cX9_unlike 31 = .ok (.getfield 139, 3) := by decide +kernel
theorem dX9_unlike_34 : decode cX9_unlike 34 = .ok (.if_icmp .ge 61, 3) := by decide +kernel
theorem dX9_unlike_37 : decode cX9_unlike 37 = .ok (.aload_n 0, 1) := by decide +kernel
theorem dX9_unlike_38 : decode cX9_unlike 38 = .ok (.getfield 32, 3) := by decide +kernel
theorem dX9_unlike_41 : decode cX9_unlike 41 = .ok (.iload_n 2, 1) := by decide +kernel
theorem dX9_unlike_42 : decode cX9_unlike 42 = .ok (.invokevirtual 167, 3) := by decide +kernel
theorem dX9_unlike_45 : decode cX9_unlike 45 = .ok (.astore_n 3, 1) := by decide +kernel
theorem dX9_unlike_46 : decode cX9_unlike 46 = .ok (.aload_n 0, 1) := by decide +kernel
theorem dX9_unlike_47 : decode cX9_unlike 47 = .ok (.getfield 46, 3) := by decide +kernel
theorem dX9_unlike_50 : decode cX9_unlike 50 = .ok (.iload_n 2, 1) := by decide +kernel
theorem dX9_unlike_51 : decode cX9_unlike 51 = .ok (.invokevirtual 206, 3) := by decide +kernel
theorem dX9_unlike_54 : decode cX9_unlike 54 = .ok (.astore 4, 2) := by decide +kernel
theorem dX9_unlike_56 : decode cX9_unlike 56 = .ok (.aload_n 3, 1) := by decide +kernel
theorem dX9_unlike_57 : decode cX9_unlike 57 = .ok (.ifnull 32, 3) := by decide +kernel
theorem dX9_unlike_60 : decode cX9_unlike 60 = .ok (.aload 4, 2) := by decide +kernel
theorem dX9_unlike_62 : decode cX9_unlike 62 = .ok (.ifnull 27, 3) := by decide +kernel
theorem dX9_unlike_65 : decode cX9_unlike 65 = .ok (.aload_n 0, 1) := by decide +kernel
theorem dX9_unlike_66 : decode cX9_unlike 66 = .ok (.getfield 60, 3) := by decide +kernel
theorem dX9_unlike_69 : decode cX9_unlike 69 = .ok (.aload_n 3, 1) := by decide +kernel
theorem dX9_unlike_70 : decode cX9_unlike 70 = .ok (.aload_n 0, 1) := by decide +kernel
theorem dX9_unlike_71 : decode cX9_unlike 71 = .ok (.getfield 53, 3) := by decide +kernel
theorem dX9_unlike_74 : decode cX9_unlike 74 = .ok (.invokevirtual 274, 3) := by decide +kernel
theorem dX9_unlike_77 : decode cX9_unlike 77 = .ok (.iload_n 1, 1) := by decide +kernel
theorem dX9_unlike_78 : decode cX9_unlike 78 = .ok (.aload 4, 2) := by decide +kernel
theorem dX9_unlike_80 : decode cX9_unlike 80 = .ok (.aload_n 0, 1) := by decide +kernel
theorem dX9_unlike_81 : decode cX9_unlike 81 = .ok (.getfield 60, 3) := by decide +kernel
theorem dX9_unlike_84 : decode cX9_unlike 84 = .ok (.invokevirtual 277, 3) := by decide +kernel
theorem dX9_unlike_87 : decode cX9_unlike 87 = .ok (.iadd, 1) := by decide +kernel
theorem dX9_unlike_88 : decode cX9_unlike 88 = .ok (.istore_n 1, 1) := by decide +kernel
theorem dX9_unlike_89 : decode cX9_unlike 89 = .ok (.iinc 2 1, 3) := by decide +kernel
theorem dX9_unlike_92 : decode cX9_unlike 92 = .ok (.goto (-66), 3) := by decide +kernel
theorem dX9_unlike_95 : decode cX9_unlike 95 = .ok (.iload_n 1, 1) := by decide +kernel
theorem dX9_unlike_96 : decode cX9_unlike 96 = .ok (.ireturn, 1) := by decide +kernel
theorem dX9_undo_0 : decode cX9_undo 0 = .ok (.aload_n 0, 1) := by decide +kernel
theorem dX9_undo_1 : decode cX9_undo 1 = .ok (.getfield 39, 3) := by decide +kernel
theorem dX9_undo_4 : decode cX9_undo 4 = .ok (.getfield 281, 3) := by decide +kernel
theorem dX9_undo_7 : decode cX9_undo 7 = .ok (.ifCond .gt 6, 3) := by decide +kernel
theorem dX9_undo_10 : decode cX9_undo 10 = .ok (.bipush (-9), 2) := by decide +kernel
theorem dX9_undo_12 : decode cX9_undo 12 = .ok (.ireturn, 1) := by decide +kernel
theorem dX9_undo_13 : decode cX9_undo 13 = .ok (.aload_n 0, 1) := by decide +kernel
theorem dX9_undo_14 : decode cX9_undo 14 = .ok (.getfield 39, 3) := by decide +kernel
theorem dX9_undo_17 : decode cX9_undo 17 = .ok (.aload_n 0, 1) := by decide +kernel
theorem dX9_undo_18 : decode cX9_undo 18 = .ok (.getfield 32, 3) := by decide +kernel
theorem dX9_undo_21 : decode cX9_undo 21 = .ok (.invokevirtual 282, 3) := by decide +kernel
theorem dX9_undo_24 : decode cX9_undo 24 = .ok (.aload_n 0, 1) := by decide +kernel
theorem dX9_undo_25 : decode cX9_undo 25 = .ok (.getfield 46, 3) := by decide +kernel
theorem dX9_undo_28 : decode cX9_undo 28 = .ok (.aload_n 0, 1) := by decide +kernel
theorem dX9_undo_29 : decode cX9_undo 29 = .ok (.getfield 32, 3) := by decide +kernel
theorem dX9_undo_32 : decode cX9_undo 32 = .ok (.invokevirtual 81, 3) := by decide +kernel
theorem dX9_undo_35 : decode cX9_undo 35 = .ok (.aload_n 0, 1) := by decide +kernel
theorem dX9_undo_36 : decode cX9_undo 36 = .ok (.getfield 39, 3) := by decide +kernel
theorem dX9_undo_39 : decode cX9_undo 39 = .ok (.getfield 281, 3) := by decide +kernel
theorem dX9_undo_42 : decode cX9_undo 42 = .ok (.ireturn, 1) := by decide +kernel
theorem dX9_fingerprint_0 : decode cX9_fingerprint 0 = .ok (.ldc2_w 285, 3) := by decide +kernel
theorem dX9_fingerprint_3 : decode cX9_fingerprint 3 = .ok (.aload_n 0, 1) := by decide +kernel
theorem dX9_fingerprint_4 : decode cX9_fingerprint 4 = .ok (.invokevirtual 287, 3) := by decide +kernel
theorem dX9_fingerprint_7 : decode cX9_fingerprint 7 = .ok (.invokestatic 290, 3) := by decide +kernel
theorem dX9_fingerprint_10 : decode cX9_fingerprint 10 = .ok (.lstore_n 1, 1) := by decide +kernel
theorem dX9_fingerprint_11 : decode cX9_fingerprint 11 = .ok (.iconst 0, 1) := by decide +kernel
theorem dX9_fingerprint_12 : decode cX9_fingerprint 12 = .ok (.istore_n 3, 1) := by decide +kernel
theorem dX9_fingerprint_13 : decode cX9_fingerprint 13 = .ok (.iload_n 3, 1) := by decide +kernel
theorem dX9_fingerprint_14 : decode cX9_fingerprint 14 = .ok (.aload_n 0, 1) := by decide +kernel
theorem dX9_fingerprint_15 : decode cX9_fingerprint 15 = .ok (.getfield 32, 3) := by decide +kernel
theorem dX9_fingerprint_18 : decode cX9_fingerprint 18 = .ok (.getfield 64, 3) := by decide +kernel
theorem dX9_fingerprint_21 : decode cX9_fingerprint 21 = .ok (.getfield 71, 3) := by decide +kernel
theorem dX9_fingerprint_24 : decode cX9_fingerprint 24 = .ok (.if_icmp .ge 16, 3) := by decide +kernel
theorem dX9_fingerprint_27 : decode cX9_fingerprint 27 = .ok (.aload_n 0, 1) := by decide +kernel
theorem dX9_fingerprint_28 : decode cX9_fingerprint 28 = .ok (.lload_n 1, 1) := by decide +kernel
theorem dX9_fingerprint_29 : decode cX9_fingerprint 29 = .ok (.iload_n 3, 1) := by decide +kernel
theorem dX9_fingerprint_30 : decode cX9_fingerprint 30 = .ok (.invokevirtual 294, 3) := by decide +kernel
theorem dX9_fingerprint_33 : decode cX9_fingerprint 33 = .ok (.lstore_n 1, 1) := by decide +kernel
theorem dX9_fingerprint_34 : decode cX9_fingerprint 34 = .ok (.iinc 3 1, 3) := by decide +kernel
theorem dX9_fingerprint_37 : decode cX9_fingerprint 37 = .ok (.goto (-24), 3) := by decide +kernel
theorem dX9_fingerprint_40 : decode cX9_fingerprint 40 = .ok (.lload_n 1, 1) := by decide +kernel
theorem dX9_fingerprint_41 : decode cX9_fingerprint 41 = .ok (.aload_n 0, 1) := by decide +kernel
theorem dX9_fingerprint_42 : decode cX9_fingerprint 42 = .ok (.invokevirtual 297, 3) := by decide +kernel
theorem dX9_fingerprint_45 : decode cX9_fingerprint 45 = .ok (.invokestatic 290, 3) := by decide +kernel
theorem dX9_fingerprint_48 : decode cX9_fingerprint 48 = .ok (.lstore_n 1, 1) := by decide +kernel
theorem dX9_fingerprint_49 : decode cX9_fingerprint 49 = .ok (.iconst 0, 1) := by decide +kernel
theorem dX9_fingerprint_50 : decode cX9_fingerprint 50 = .ok (.istore_n 3, 1) := by decide +kernel
theorem dX9_fingerprint_51 : decode cX9_fingerprint 51 = .ok (.iload_n 3, 1) := by decide +kernel
theorem dX9_fingerprint_52 : decode cX9_fingerprint 52 = .ok (.aload_n 0, 1) := by decide +kernel
theorem dX9_fingerprint_53 : decode cX9_fingerprint 53 = .ok (.getfield 32, 3) := by decide +kernel
theorem dX9_fingerprint_56 : decode cX9_fingerprint 56 = .ok (.getfield 139, 3) := by decide +kernel
theorem dX9_fingerprint_59 : decode cX9_fingerprint 59 = .ok (.if_icmp .ge 16, 3) := by decide +kernel
theorem dX9_fingerprint_62 : decode cX9_fingerprint 62 = .ok (.aload_n 0, 1) := by decide +kernel
theorem dX9_fingerprint_63 : decode cX9_fingerprint 63 = .ok (.lload_n 1, 1) := by decide +kernel
theorem dX9_fingerprint_64 : decode cX9_fingerprint 64 = .ok (.iload_n 3, 1) := by decide +kernel
theorem dX9_fingerprint_65 : decode cX9_fingerprint 65 = .ok (.invokevirtual 300, 3) := by decide +kernel
theorem dX9_fingerprint_68 : decode cX9_fingerprint 68 = .ok (.lstore_n 1, 1) := by decide +kernel
theorem dX9_fingerprint_69 : decode cX9_fingerprint 69 = .ok (.iinc 3 1, 3) := by decide +kernel
theorem dX9_fingerprint_72 : decode cX9_fingerprint 72 = .ok (.goto (-21), 3) := by decide +kernel
theorem dX9_fingerprint_75 : decode cX9_fingerprint 75 = .ok (.lload_n 1, 1) := by decide +kernel
theorem dX9_fingerprint_76 : decode cX9_fingerprint 76 = .ok (.aload_n 0, 1) := by decide +kernel
theorem dX9_fingerprint_77 : decode cX9_fingerprint 77 = .ok (.invokevirtual 303, 3) := by decide +kernel
theorem dX9_fingerprint_80 : decode cX9_fingerprint 80 = .ok (.invokestatic 290, 3) := by decide +kernel
theorem dX9_fingerprint_83 : decode cX9_fingerprint 83 = .ok (.lstore_n 1, 1) := by decide +kernel
theorem dX9_fingerprint_84 : decode cX9_fingerprint 84 = .ok (.lload_n 1, 1) := by decide +kernel
theorem dX9_fingerprint_85 : decode cX9_fingerprint 85 = .ok (.aload_n 0, 1) := by decide +kernel
theorem dX9_fingerprint_86 : decode cX9_fingerprint 86 = .ok (.invokevirtual 306, 3) := by decide +kernel
theorem dX9_fingerprint_89 : decode cX9_fingerprint 89 = .ok (.invokestatic 290, 3) := by decide +kernel
theorem dX9_fingerprint_92 : decode cX9_fingerprint 92 = .ok (.lreturn, 1) := by decide +kernel
theorem dX9_mix_0 : decode cX9_mix 0 = .ok (.ldc2_w 309, 3) := by decide +kernel
theorem dX9_mix_3 : decode cX9_mix 3 = .ok (.lload_n 0, 1) := by decide +kernel
theorem dX9_mix_4 : decode cX9_mix 4 = .ok (.lmul, 1) := by decide +kernel
theorem dX9_mix_5 : decode cX9_mix 5 = .ok (.iload_n 2, 1) := by decide +kernel
theorem dX9_mix_6 : decode cX9_mix 6 = .ok (.i2l, 1) := by decide +kernel
theorem dX9_mix_7 : decode cX9_mix 7 = .ok (.ladd, 1) := by decide +kernel
theorem dX9_mix_8 : decode cX9_mix 8 = .ok (.lreturn, 1) := by decide +kernel
theorem dX9_mixStyle_0 : decode cX9_mixStyle 0 = .ok (.lload_n 1, 1) := by decide +kernel
theorem dX9_mixStyle_1 : decode cX9_mixStyle 1 = .ok (.lstore 4, 2) := by decide +kernel
theorem dX9_mixStyle_3 : decode cX9_mixStyle 3 = .ok (.iconst 0, 1) := by decide +kernel
theorem dX9_mixStyle_4 : decode cX9_mixStyle 4 = .ok (.istore 6, 2) := by decide +kernel
theorem dX9_mixStyle_6 : decode cX9_mixStyle 6 = .ok (.iload 6, 2) := by decide +kernel
theorem dX9_mixStyle_8 : decode cX9_mixStyle 8 = .ok (.bipush 9, 2) := by decide +kernel
theorem dX9_mixStyle_10 : decode cX9_mixStyle 10 = .ok (.if_icmp .ge 23, 3) := by decide +kernel
theorem dX9_mixStyle_13 : decode cX9_mixStyle 13 = .ok (.lload 4, 2) := by decide +kernel
theorem dX9_mixStyle_15 : decode cX9_mixStyle 15 = .ok (.aload_n 0, 1) := by decide +kernel
theorem dX9_mixStyle_16 : decode cX9_mixStyle 16 = .ok (.iload_n 3, 1) := by decide +kernel
theorem dX9_mixStyle_17 : decode cX9_mixStyle 17 = .ok (.iload 6, 2) := by decide +kernel
theorem dX9_mixStyle_19 : decode cX9_mixStyle 19 = .ok (.invokevirtual 311, 3) := by decide +kernel
theorem dX9_mixStyle_22 : decode cX9_mixStyle 22 = .ok (.invokestatic 290, 3) := by decide +kernel
theorem dX9_mixStyle_25 : decode cX9_mixStyle 25 = .ok (.lstore 4, 2) := by decide +kernel
theorem dX9_mixStyle_27 : decode cX9_mixStyle 27 = .ok (.iinc 6 1, 3) := by decide +kernel
theorem dX9_mixStyle_30 : decode cX9_mixStyle 30 = .ok (.goto (-24), 3) := by decide +kernel
theorem dX9_mixStyle_33 : decode cX9_mixStyle 33 = .ok (.iconst 0, 1) := by decide +kernel
theorem dX9_mixStyle_34 : decode cX9_mixStyle 34 = .ok (.istore 6, 2) := by decide +kernel
theorem dX9_mixStyle_36 : decode cX9_mixStyle 36 = .ok (.iload 6, 2) := by decide +kernel
theorem dX9_mixStyle_38 : decode cX9_mixStyle 38 = .ok (.bipush 6, 2) := by decide +kernel
theorem dX9_mixStyle_40 : decode cX9_mixStyle 40 = .ok (.if_icmp .ge 23, 3) := by decide +kernel
theorem dX9_mixStyle_43 : decode cX9_mixStyle 43 = .ok (.lload 4, 2) := by decide +kernel
theorem dX9_mixStyle_45 : decode cX9_mixStyle 45 = .ok (.aload_n 0, 1) := by decide +kernel
theorem dX9_mixStyle_46 : decode cX9_mixStyle 46 = .ok (.iload_n 3, 1) := by decide +kernel
theorem dX9_mixStyle_47 : decode cX9_mixStyle 47 = .ok (.iload 6, 2) := by decide +kernel
theorem dX9_mixStyle_49 : decode cX9_mixStyle 49 = .ok (.invokevirtual 314, 3) := by decide +kernel
theorem dX9_mixStyle_52 : decode cX9_mixStyle 52 = .ok (.invokestatic 290, 3) := by decide +kernel
theorem dX9_mixStyle_55 : decode cX9_mixStyle 55 = .ok (.lstore 4, 2) := by decide +kernel
theorem dX9_mixStyle_57 : decode cX9_mixStyle 57 = .ok (.iinc 6 1, 3) := by decide +kernel
theorem dX9_mixStyle_60 : decode cX9_mixStyle 60 = .ok (.goto (-24), 3) := by decide +kernel
theorem dX9_mixStyle_63 : decode cX9_mixStyle 63 = .ok (.lload 4, 2) := by decide +kernel
theorem dX9_mixStyle_65 : decode cX9_mixStyle 65 = .ok (.lreturn, 1) := by decide +kernel
theorem dX9_mixLine_0 : decode cX9_mixLine 0 = .ok (.lload_n 1, 1) := by decide +kernel
theorem dX9_mixLine_1 : decode cX9_mixLine 1 = .ok (.lstore 4, 2) := by decide +kernel
theorem dX9_mixLine_3 : decode cX9_mixLine 3 = .ok (.iconst 0, 1) := by decide +kernel
theorem dX9_mixLine_4 : decode cX9_mixLine 4 = .ok (.istore 6, 2) := by decide +kernel
theorem dX9_mixLine_6 : decode cX9_mixLine 6 = .ok (.iload 6, 2) := by decide +kernel
theorem dX9_mixLine_8 : decode cX9_mixLine 8 = .ok (.bipush 12, 2) := by decide +kernel
theorem dX9_mixLine_10 : decode cX9_mixLine 10 = .ok (.if_icmp .ge 23, 3) := by decide +kernel
theorem dX9_mixLine_13 : decode cX9_mixLine 13 = .ok (.lload 4, 2) := by decide +kernel
theorem dX9_mixLine_15 : decode cX9_mixLine 15 = .ok (.aload_n 0, 1) := by decide +kernel
theorem dX9_mixLine_16 : decode cX9_mixLine 16 = .ok (.iload_n 3, 1) := by decide +kernel
theorem dX9_mixLine_17 : decode cX9_mixLine 17 = .ok (.iload 6, 2) := by decide +kernel
theorem dX9_mixLine_19 : decode cX9_mixLine 19 = .ok (.invokevirtual 317, 3) := by decide +kernel
theorem dX9_mixLine_22 : decode cX9_mixLine 22 = .ok (.invokestatic 290, 3) := by decide +kernel
theorem dX9_mixLine_25 : decode cX9_mixLine 25 = .ok (.lstore 4, 2) := by decide +kernel
theorem dX9_mixLine_27 : decode cX9_mixLine 27 = .ok (.iinc 6 1, 3) := by decide +kernel
theorem dX9_mixLine_30 : decode cX9_mixLine 30 = .ok (.goto (-24), 3) := by decide +kernel
theorem dX9_mixLine_33 : decode cX9_mixLine 33 = .ok (.aload_n 0, 1) := by decide +kernel
theorem dX9_mixLine_34 : decode cX9_mixLine 34 = .ok (.iload_n 3, 1) := by decide +kernel
theorem dX9_mixLine_35 : decode cX9_mixLine 35 = .ok (.iconst 4, 1) := by decide +kernel
theorem dX9_mixLine_36 : decode cX9_mixLine 36 = .ok (.invokevirtual 317, 3) := by decide +kernel
theorem dX9_mixLine_39 : decode cX9_mixLine 39 = .ok (.istore 6, 2) := by decide +kernel
theorem dX9_mixLine_41 : decode cX9_mixLine 41 = .ok (.iconst 0, 1) := by decide +kernel
theorem dX9_mixLine_42 : decode cX9_mixLine 42 = .ok (.istore 7, 2) := by decide +kernel
theorem dX9_mixLine_44 : decode cX9_mixLine 44 = .ok (.iload 7, 2) := by decide +kernel
theorem dX9_mixLine_46 : decode cX9_mixLine 46 = .ok (.iload 6, 2) := by decide +kernel
theorem dX9_mixLine_48 : decode cX9_mixLine 48 = .ok (.if_icmp .ge 41, 3) := by decide +kernel
theorem dX9_mixLine_51 : decode cX9_mixLine 51 = .ok (.iconst 0, 1) := by decide +kernel
theorem dX9_mixLine_52 : decode cX9_mixLine 52 = .ok (.istore 8, 2) := by decide +kernel
theorem dX9_mixLine_54 : decode cX9_mixLine 54 = .ok (.iload 8, 2) := by decide +kernel
theorem dX9_mixLine_56 : decode cX9_mixLine 56 = .ok (.bipush 6, 2) := by decide +kernel
theorem dX9_mixLine_58 : decode cX9_mixLine 58 = .ok (.if_icmp .ge 25, 3) := by decide +kernel
theorem dX9_mixLine_61 : decode cX9_mixLine 61 = .ok (.lload 4, 2) := by decide +kernel
theorem dX9_mixLine_63 : decode cX9_mixLine 63 = .ok (.aload_n 0, 1) := by decide +kernel
theorem dX9_mixLine_64 : decode cX9_mixLine 64 = .ok (.iload_n 3, 1) := by decide +kernel
theorem dX9_mixLine_65 : decode cX9_mixLine 65 = .ok (.iload 7, 2) := by decide +kernel
theorem dX9_mixLine_67 : decode cX9_mixLine 67 = .ok (.iload 8, 2) := by decide +kernel
theorem dX9_mixLine_69 : decode cX9_mixLine 69 = .ok (.invokevirtual 320, 3) := by decide +kernel
theorem dX9_mixLine_72 : decode cX9_mixLine 72 = .ok (.invokestatic 290, 3) := by decide +kernel
theorem dX9_mixLine_75 : decode cX9_mixLine 75 = .ok (.lstore 4, 2) := by decide +kernel
theorem dX9_mixLine_77 : decode cX9_mixLine 77 = .ok (.iinc 8 1, 3) := by decide +kernel
theorem dX9_mixLine_80 : decode cX9_mixLine 80 = .ok (.goto (-26), 3) := by decide +kernel
theorem dX9_mixLine_83 : decode cX9_mixLine 83 = .ok (.iinc 7 1, 3) := by decide +kernel
theorem dX9_mixLine_86 : decode cX9_mixLine 86 = .ok (.goto (-42), 3) := by decide +kernel
theorem dX9_mixLine_89 : decode cX9_mixLine 89 = .ok (.aload_n 0, 1) := by decide +kernel
theorem dX9_mixLine_90 : decode cX9_mixLine 90 = .ok (.iload_n 3, 1) := by decide +kernel
theorem dX9_mixLine_91 : decode cX9_mixLine 91 = .ok (.iconst 5, 1) := by decide +kernel
theorem dX9_mixLine_92 : decode cX9_mixLine 92 = .ok (.invokevirtual 317, 3) := by decide +kernel
theorem dX9_mixLine_95 : decode cX9_mixLine 95 = .ok (.istore 7, 2) := by decide +kernel
theorem dX9_mixLine_97 : decode cX9_mixLine 97 = .ok (.iconst 0, 1) := by decide +kernel
theorem dX9_mixLine_98 : decode cX9_mixLine 98 = .ok (.istore 8, 2) := by decide +kernel
theorem dX9_mixLine_100 : decode cX9_mixLine 100 = .ok (.iload 8, 2) := by decide +kernel
theorem dX9_mixLine_102 : decode cX9_mixLine 102 = .ok (.iload 7, 2) := by decide +kernel
theorem dX9_mixLine_104 : decode cX9_mixLine 104 = .ok (.if_icmp .ge 40, 3) := by decide +kernel
theorem dX9_mixLine_107 : decode cX9_mixLine 107 = .ok (.iconst 0, 1) := by decide +kernel
theorem dX9_mixLine_108 : decode cX9_mixLine 108 = .ok (.istore 9, 2) := by decide +kernel
theorem dX9_mixLine_110 : decode cX9_mixLine 110 = .ok (.iload 9, 2) := by decide +kernel
theorem dX9_mixLine_112 : decode cX9_mixLine 112 = .ok (.iconst 3, 1) := by decide +kernel
theorem dX9_mixLine_113 : decode cX9_mixLine 113 = .ok (.if_icmp .ge 25, 3) := by decide +kernel
theorem dX9_mixLine_116 : decode cX9_mixLine 116 = .ok (.lload 4, 2) := by decide +kernel
theorem dX9_mixLine_118 : decode cX9_mixLine 118 = .ok (.aload_n 0, 1) := by decide +kernel
theorem dX9_mixLine_119 : decode cX9_mixLine 119 = .ok (.iload_n 3, 1) := by decide +kernel
theorem dX9_mixLine_120 : decode cX9_mixLine 120 = .ok (.iload 8, 2) := by decide +kernel
theorem dX9_mixLine_122 : decode cX9_mixLine 122 = .ok (.iload 9, 2) := by decide +kernel
theorem dX9_mixLine_124 : decode cX9_mixLine 124 = .ok (.invokevirtual 324, 3) := by decide +kernel
theorem dX9_mixLine_127 : decode cX9_mixLine 127 = .ok (.invokestatic 290, 3) := by decide +kernel
theorem dX9_mixLine_130 : decode cX9_mixLine 130 = .ok (.lstore 4, 2) := by decide +kernel
theorem dX9_mixLine_132 : decode cX9_mixLine 132 = .ok (.iinc 9 1, 3) := by decide +kernel
theorem dX9_mixLine_135 : decode cX9_mixLine 135 = .ok (.goto (-25), 3) := by decide +kernel
theorem dX9_mixLine_138 : decode cX9_mixLine 138 = .ok (.iinc 8 1, 3) := by decide +kernel
theorem dX9_mixLine_141 : decode cX9_mixLine 141 = .ok (.goto (-41), 3) := by decide +kernel
theorem dX9_mixLine_144 : decode cX9_mixLine 144 = .ok (.lload 4, 2) := by decide +kernel
theorem dX9_mixLine_146 : decode cX9_mixLine 146 = .ok (.lreturn, 1) := by decide +kernel
theorem dX9_isProperty_0 : decode cX9_isProperty 0 = .ok (.iload_n 0, 1) := by decide +kernel
theorem dX9_isProperty_1 : decode cX9_isProperty 1 = .ok (.ifCond .lt 13, 3) := by decide +kernel
theorem dX9_isProperty_4 : decode cX9_isProperty 4 = .ok (.iload_n 0, 1) := by decide +kernel
theorem dX9_isProperty_5 : decode cX9_isProperty 5 = .ok (.bipush 6, 2) := by decide +kernel
theorem dX9_isProperty_7 : decode cX9_isProperty 7 = .ok (.if_icmp .ge 7, 3) := by decide +kernel
theorem dX9_isProperty_10 : decode cX9_isProperty 10 = .ok (.iconst 1, 1) := by decide +kernel
theorem dX9_isProperty_11 : decode cX9_isProperty 11 = .ok (.goto 4, 3) := by decide +kernel
theorem dX9_isProperty_14 : decode cX9_isProperty 14 = .ok (.iconst 0, 1) := by decide +kernel
theorem dX9_isProperty_15 : decode cX9_isProperty 15 = .ok (.ireturn, 1) := by decide +kernel
theorem dX9_allows_0 : decode cX9_allows 0 = .ok (.iload_n 0, 1) := by decide +kernel
theorem dX9_allows_1 : decode cX9_allows 1 = .ok (.ifCond .lt 41, 3) := by decide +kernel
theorem dX9_allows_4 : decode cX9_allows 4 = .ok (.iload_n 0, 1) := by decide +kernel
theorem dX9_allows_5 : decode cX9_allows 5 = .ok (.getstatic 327, 3) := by decide +kernel
theorem dX9_allows_8 : decode cX9_allows 8 = .ok (.arraylength, 1) := by decide +kernel
theorem dX9_allows_9 : decode cX9_allows 9 = .ok (.if_icmp .ge 33, 3) := by decide +kernel
theorem dX9_allows_12 : decode cX9_allows 12 = .ok (.iload_n 0, 1) := by decide +kernel
theorem dX9_allows_13 : decode cX9_allows 13 = .ok (.getstatic 331, 3) := by decide +kernel
theorem dX9_allows_16 : decode cX9_allows 16 = .ok (.arraylength, 1) := by decide +kernel
theorem dX9_allows_17 : decode cX9_allows 17 = .ok (.if_icmp .ge 25, 3) := by decide +kernel
theorem dX9_allows_20 : decode cX9_allows 20 = .ok (.iload_n 1, 1) := by decide +kernel
theorem dX9_allows_21 : decode cX9_allows 21 = .ok (.getstatic 327, 3) := by decide +kernel
theorem dX9_allows_24 : decode cX9_allows 24 = .ok (.iload_n 0, 1) := by decide +kernel
theorem dX9_allows_25 : decode cX9_allows 25 = .ok (.iaload, 1) := by decide +kernel
theorem dX9_allows_26 : decode cX9_allows 26 = .ok (.if_icmp .lt 16, 3) := by decide +kernel
theorem dX9_allows_29 : decode cX9_allows 29 = .ok (.iload_n 1, 1) := by decide +kernel
theorem dX9_allows_30 : decode cX9_allows 30 = .ok (.getstatic 331, 3) := by decide +kernel
theorem dX9_allows_33 : decode cX9_allows 33 = .ok (.iload_n 0, 1) := by decide +kernel
theorem dX9_allows_34 : decode cX9_allows 34 = .ok (.iaload, 1) := by decide +kernel
theorem dX9_allows_35 : decode cX9_allows 35 = .ok (.if_icmp .gt 7, 3) := by decide +kernel
theorem dX9_allows_38 : decode cX9_allows 38 = .ok (.iconst 1, 1) := by decide +kernel
theorem dX9_allows_39 : decode cX9_allows 39 = .ok (.goto 4, 3) := by decide +kernel
theorem dX9_allows_42 : decode cX9_allows 42 = .ok (.iconst 0, 1) := by decide +kernel
theorem dX9_allows_43 : decode cX9_allows 43 = .ok (.ireturn, 1) := by decide +kernel
theorem dX9_basicValue_0 : decode cX9_basicValue 0 = .ok (.iload_n 0, 1) := by decide +kernel
theorem dX9_basicValue_1 : decode cX9_basicValue 1 = .ok (.ifCond .lt 19, 3) := by decide +kernel
theorem dX9_basicValue_4 : decode cX9_basicValue 4 = .ok (.iload_n 0, 1) := by decide +kernel
theorem dX9_basicValue_5 : decode cX9_basicValue 5 = .ok (.getstatic 334, 3) := by decide +kernel
theorem dX9_basicValue_8 : decode cX9_basicValue 8 = .ok (.arraylength, 1) := by decide +kernel
theorem dX9_basicValue_9 : decode cX9_basicValue 9 = .ok (.if_icmp .ge 11, 3) := by decide +kernel
theorem dX9_basicValue_12 : decode cX9_basicValue 12 = .ok (.getstatic 334, 3) := by decide +kernel
theorem dX9_basicValue_15 : decode cX9_basicValue 15 = .ok (.iload_n 0, 1) := by decide +kernel
theorem dX9_basicValue_16 : decode cX9_basicValue 16 = .ok (.iaload, 1) := by decide +kernel
theorem dX9_basicValue_17 : decode cX9_basicValue 17 = .ok (.goto 4, 3) := by decide +kernel
theorem dX9_basicValue_20 : decode cX9_basicValue 20 = .ok (.iconst 0, 1) := by decide +kernel
theorem dX9_basicValue_21 : decode cX9_basicValue 21 = .ok (.ireturn, 1) := by decide +kernel
theorem dX9_propertyOfTag_0 : decode cX9_propertyOfTag 0 = .ok (.iload_n 0, 1) := by decide +kernel
theorem dX9_propertyOfTag_1 : decode cX9_propertyOfTag 1 = .ok (.lookupswitch 51 #[(98, 49), (99, 45), (115, 43), (116, 47)], 43) := by decide +kernel
theorem dX9_propertyOfTag_44 : decode cX9_propertyOfTag 44 = .ok (.iconst 0, 1) := by decide +kernel
theorem dX9_propertyOfTag_45 : decode cX9_propertyOfTag 45 = .ok (.ireturn, 1) := by decide +kernel
theorem dX9_propertyOfTag_46 : decode cX9_propertyOfTag 46 = .ok (.iconst 1, 1) := by decide +kernel
theorem dX9_propertyOfTag_47 : decode cX9_propertyOfTag 47 = .ok (.ireturn, 1) := by decide +kernel
theorem dX9_propertyOfTag_48 : decode cX9_propertyOfTag 48 = .ok (.iconst 2, 1) := by decide +kernel
theorem dX9_propertyOfTag_49 : decode cX9_propertyOfTag 49 = .ok (.ireturn, 1) := by decide +kernel
theorem dX9_propertyOfTag_50 : decode cX9_propertyOfTag 50 = .ok (.iconst 3, 1) := by decide +kernel
theorem dX9_propertyOfTag_51 : decode cX9_propertyOfTag 51 = .ok (.ireturn, 1) := by decide +kernel
theorem dX9_propertyOfTag_52 : decode cX9_propertyOfTag 52 = .ok (.iconst (-1), 1) := by decide +kernel
theorem dX9_propertyOfTag_53 : decode cX9_propertyOfTag 53 = .ok (.ireturn, 1) := by decide +kernel
theorem dX10_init_0 : decode cX10_init 0 = .ok (.aload_n 0, 1) := by decide +kernel
theorem dX10_init_1 : decode cX10_init 1 = .ok (.invokespecial 1, 3) := by decide +kernel
theorem dX10_init_4 : decode cX10_init 4 = .ok (.aload_n 0, 1) := by decide +kernel
theorem dX10_init_5 : decode cX10_init 5 = .ok (.sipush 2760, 3) := by decide +kernel
theorem dX10_init_8 : decode cX10_init 8 = .ok (.newarray .int, 2) := by decide +kernel
theorem dX10_init_10 : decode cX10_init 10 = .ok (.putfield 7, 3) := by decide +kernel
theorem dX10_init_13 : decode cX10_init 13 = .ok (.aload_n 0, 1) := by decide +kernel
theorem dX10_init_14 : decode cX10_init 14 = .ok (.sipush 13800, 3) := by decide +kernel
theorem dX10_init_17 : decode cX10_init 17 = .ok (.newarray .int, 2) := by decide +kernel
theorem dX10_init_19 : decode cX10_init 19 = .ok (.putfield 13, 3) := by decide +kernel
theorem dX10_init_22 : decode cX10_init 22 = .ok (.aload_n 0, 1) := by decide +kernel
theorem dX10_init_23 : decode cX10_init 23 = .ok (.bipush 60, 2) := by decide +kernel
theorem dX10_init_25 : decode cX10_init 25 = .ok (.newarray .int, 2) := by decide +kernel
theorem dX10_init_27 : decode cX10_init 27 = .ok (.putfield 16, 3) := by decide +kernel
theorem dX10_init_30 : decode cX10_init 30 = .ok (.aload_n 0, 1) := by decide +kernel
theorem dX10_init_31 : decode cX10_init 31 = .ok (.bipush 80, 2) := by decide +kernel
theorem dX10_init_33 : decode cX10_init 33 = .ok (.newarray .int, 2) := by decide +kernel
theorem dX10_init_35 : decode cX10_init 35 = .ok (.putfield 19, 3) := by decide +kernel
theorem dX10_init_38 : decode cX10_init 38 = .ok (.aload_n 0, 1) := by decide +kernel
theorem dX10_init_39 : decode cX10_init 39 = .ok (.sipush 160, 3) := by decide +kernel
theorem dX10_init_42 : decode cX10_init 42 = .ok (.newarray .int, 2) := by decide +kernel
theorem dX10_init_44 : decode cX10_init 44 = .ok (.putfield 22, 3) := by decide +kernel
theorem dX10_init_47 : decode cX10_init 47 = .ok (.aload_n 0, 1) := by decide +kernel
theorem dX10_init_48 : decode cX10_init 48 = .ok (.sipush 480, 3) := by decide +kernel
theorem dX10_init_51 : decode cX10_init 51 = .ok (.newarray .int, 2) := by decide +kernel
theorem dX10_init_53 : decode cX10_init 53 = .ok (.putfield 25, 3) := by decide +kernel
theorem dX10_init_56 : decode cX10_init 56 = .ok (.aload_n 0, 1) := by decide +kernel
theorem dX10_init_57 : decode cX10_init 57 = .ok (.bipush 80, 2) := by decide +kernel
theorem dX10_init_59 : decode cX10_init 59 = .ok (.newarray .int, 2) := by decide +kernel
theorem dX10_init_61 : decode cX10_init 61 = .ok (.putfield 28, 3) := by decide +kernel
theorem dX10_init_64 : decode cX10_init 64 = .ok (.aload_n 0, 1) := by decide +kernel
theorem dX10_init_65 : decode cX10_init 65 = .ok (.bipush 80, 2) := by decide +kernel
theorem dX10_init_67 : decode cX10_init 67 = .ok (.newarray .int, 2) := by decide +kernel
theorem dX10_init_69 : decode cX10_init 69 = .ok (.putfield 31, 3) := by decide +kernel
theorem dX10_init_72 : decode cX10_init 72 = .ok (.aload_n 0, 1) := by decide +kernel
theorem dX10_init_73 : decode cX10_init 73 = .ok (.iconst 4, 1) := by decide +kernel
theorem dX10_init_74 : decode cX10_init 74 = .ok (.newarray .int, 2) := by decide +kernel
theorem dX10_init_76 : decode cX10_init 76 = .ok (.putfield 34, 3) := by decide +kernel
theorem dX10_init_79 : decode cX10_init 79 = .ok (.aload_n 0, 1) := by decide +kernel
theorem dX10_init_80 : decode cX10_init 80 = .ok (.bipush 16, 2) := by decide +kernel
theorem dX10_init_82 : decode cX10_init 82 = .ok (.newarray .int, 2) := by decide +kernel
theorem dX10_init_84 : decode cX10_init 84 = .ok (.putfield 37, 3) := by decide +kernel
theorem dX10_init_87 : decode cX10_init 87 = .ok (.aload_n 0, 1) := by decide +kernel
theorem dX10_init_88 : decode cX10_init 88 = .ok (.bipush 16, 2) := by decide +kernel
theorem dX10_init_90 : decode cX10_init 90 = .ok (.newarray .int, 2) := by decide +kernel
theorem dX10_init_92 : decode cX10_init 92 = .ok (.putfield 40, 3) := by decide +kernel
theorem dX10_init_95 : decode cX10_init 95 = .ok (.aload_n 0, 1) := by decide +kernel
theorem dX10_init_96 : decode cX10_init 96 = .ok (.bipush 16, 2) := by decide +kernel
theorem dX10_init_98 : decode cX10_init 98 = .ok (.newarray .boolean, 2) := by decide +kernel
theorem dX10_init_100 : decode cX10_init 100 = .ok (.putfield 43, 3) := by decide +kernel
theorem dX10_init_103 : decode cX10_init 103 = .ok (.aload_n 0, 1) := by decide +kernel
theorem dX10_init_104 : decode cX10_init 104 = .ok (.sipush 2760, 3) := by decide +kernel
theorem dX10_init_107 : decode cX10_init 107 = .ok (.newarray .int, 2) := by decide +kernel
theorem dX10_init_109 : decode cX10_init 109 = .ok (.putfield 47, 3) := by decide +kernel
theorem dX10_init_112 : decode cX10_init 112 = .ok (.aload_n 0, 1) := by decide +kernel
theorem dX10_init_113 : decode cX10_init 113 = .ok (.sipush 320, 3) := by decide +kernel
theorem dX10_init_116 : decode cX10_init 116 = .ok (.newarray .int, 2) := by decide +kernel
theorem dX10_init_118 : decode cX10_init 118 = .ok (.putfield 50, 3) := by decide +kernel
theorem dX10_init_121 : decode cX10_init 121 = .ok (.aload_n 0, 1) := by decide +kernel
theorem dX10_init_122 : decode cX10_init 122 = .ok (.getfield 7, 3) := by decide +kernel
theorem dX10_init_125 : decode cX10_init 125 = .ok (.iconst 2, 1) := by decide +kernel
theorem dX10_init_126 : decode cX10_init 126 = .ok (.sipush 300, 3) := by decide +kernel
theorem dX10_init_129 : decode cX10_init 129 = .ok (.iastore, 1) := by decide +kernel
theorem dX10_init_130 : decode cX10_init 130 = .ok (.return_, 1) := by decide +kernel
theorem dX10_in_0 : decode cX10_in 0 = .ok (.iload_n 0, 1) := by decide +kernel
theorem dX10_in_1 : decode cX10_in 1 = .ok (.iload_n 1, 1) := by decide +kernel
theorem dX10_in_2 : decode cX10_in 2 = .ok (.if_icmp .lt 12, 3) := by decide +kernel
theorem dX10_in_5 : decode cX10_in 5 = .ok (.iload_n 0, 1) := by decide +kernel
theorem dX10_in_6 : decode cX10_in 6 = .ok (.iload_n 2, 1) := by decide +kernel
theorem dX10_in_7 : decode cX10_in 7 = .ok (.if_icmp .gt 7, 3) := by decide +kernel
theorem dX10_in_10 : decode cX10_in 10 = .ok (.iconst 1, 1) := by decide +kernel
theorem dX10_in_11 : decode cX10_in 11 = .ok (.goto 4, 3) := by decide +kernel
theorem dX10_in_14 : decode cX10_in 14 = .ok (.iconst 0, 1) := by decide +kernel
theorem dX10_in_15 : decode cX10_in 15 = .ok (.ireturn, 1) := by decide +kernel
theorem dX10_act_0 : decode cX10_act 0 = .ok (.aload_n 0, 1) := by decide +kernel
theorem dX10_act_1 : decode cX10_act 1 = .ok (.getfield 53, 3) := by decide +kernel
theorem dX10_act_4 : decode cX10_act 4 = .ok (.iconst 5, 1) := by decide +kernel
theorem dX10_act_5 : decode cX10_act 5 = .ok (.if_icmp .ne 44, 3) := by decide +kernel
theorem dX10_act_8 : decode cX10_act 8 = .ok (.iconst 0, 1) := by decide +kernel
theorem dX10_act_9 : decode cX10_act 9 = .ok (.istore_n 1, 1) := by decide +kernel
theorem dX10_act_10 : decode cX10_act 10 = .ok (.iload_n 1, 1) := by decide +kernel
theorem dX10_act_11 : decode cX10_act 11 = .ok (.sipush 11040, 3) := by decide +kernel
theorem dX10_act_14 : decode cX10_act 14 = .ok (.if_icmp .ge 25, 3) := by decide +kernel
theorem dX10_act_17 : decode cX10_act 17 = .ok (.aload_n 0, 1) := by decide +kernel
theorem dX10_act_18 : decode cX10_act 18 = .ok (.getfield 13, 3) := by decide +kernel
theorem dX10_act_21 : decode cX10_act 21 = .ok (.iload_n 1, 1) := by decide +kernel
theorem dX10_act_22 : decode cX10_act 22 = .ok (.aload_n 0, 1) := by decide +kernel
theorem dX10_act_23 : decode cX10_act 23 = .ok (.getfield 13, 3) := by decide +kernel
theorem dX10_act_26 : decode cX10_act 26 = .ok (.iload_n 1, 1) := by decide +kernel
theorem dX10_act_27 : decode cX10_act 27 = .ok (.sipush 2760, 3) := by decide +kernel
theorem dX10_act_30 : decode cX10_act 30 = .ok (.iadd, 1) := by decide +kernel
theorem dX10_act_31 : decode cX10_act 31 = .ok (.iaload, 1) := by decide +kernel
theorem dX10_act_32 : decode cX10_act 32 = .ok (.iastore, 1) := by decide +kernel
theorem dX10_act_33 : decode cX10_act 33 = .ok (.iinc 1 1, 3) := by decide +kernel
theorem dX10_act_36 : decode cX10_act 36 = .ok (.goto (-26), 3) := by decide +kernel
theorem dX10_act_39 : decode cX10_act 39 = .ok (.aload_n 0, 1) := by decide +kernel
theorem dX10_act_40 : decode cX10_act 40 = .ok (.dup, 1) := by decide +kernel
theorem dX10_act_41 : decode cX10_act 41 = .ok (.getfield 53, 3) := by decide +kernel
theorem dX10_act_44 : decode cX10_act 44 = .ok (.iconst 1, 1) := by decide +kernel
theorem dX10_act_45 : decode cX10_act 45 = .ok (.isub, 1) := by decide +kernel
theorem dX10_act_46 : decode cX10_act 46 = .ok (.putfield 53, 3) := by decide +kernel
theorem dX10_act_49 : decode cX10_act 49 = .ok (.iconst 0, 1) := by decide +kernel
theorem dX10_act_50 : decode cX10_act 50 = .ok (.istore_n 1, 1) := by decide +kernel
theorem dX10_act_51 : decode cX10_act 51 = .ok (.iload_n 1, 1) := by decide +kernel
theorem dX10_act_52 : decode cX10_act 52 = .ok (.sipush 2760, 3) := by decide +kernel
theorem dX10_act_55 : decode cX10_act 55 = .ok (.if_icmp .ge 30, 3) := by decide +kernel
theorem dX10_act_58 : decode cX10_act 58 = .ok (.aload_n 0, 1) := by decide +kernel
theorem dX10_act_59 : decode cX10_act 59 = .ok (.getfield 13, 3) := by decide +kernel
theorem dX10_act_62 : decode cX10_act 62 = .ok (.sipush 2760, 3) := by decide +kernel
theorem dX10_act_65 : decode cX10_act 65 = .ok (.aload_n 0, 1) := by decide +kernel
theorem dX10_act_66 : decode cX10_act 66 = .ok (.getfield 53, 3) := by decide +kernel
theorem dX10_act_69 : decode cX10_act 69 = .ok (.imul, 1) := by decide +kernel
theorem dX10_act_70 : decode cX10_act 70 = .ok (.iload_n 1, 1) := by decide +kernel
theorem dX10_act_71 : decode cX10_act 71 = .ok (.iadd, 1) := by decide +kernel
theorem dX10_act_72 : decode cX10_act 72 = .ok (.aload_n 0, 1) := by decide +kernel
theorem dX10_act_73 : decode cX10_act 73 = .ok (.getfield 7, 3) := by decide +kernel
theorem dX10_act_76 : decode cX10_act 76 = .ok (.iload_n 1, 1) := by decide +kernel
theorem dX10_act_77 : decode cX10_act 77 = .ok (.iaload, 1) := by decide +kernel
theorem dX10_act_78 : decode cX10_act 78 = .ok (.iastore, 1) := by decide +kernel
theorem dX10_act_79 : decode cX10_act 79 = .ok (.iinc 1 1, 3) := by decide +kernel
theorem dX10_act_82 : decode cX10_act 82 = .ok (.goto (-31), 3) := by decide +kernel
theorem dX10_act_85 : decode cX10_act 85 = .ok (.aload_n 0, 1) := by decide +kernel
theorem dX10_act_86 : decode cX10_act 86 = .ok (.dup, 1) := by decide +kernel
theorem dX10_act_87 : decode cX10_act 87 = .ok (.getfield 53, 3) := by decide +kernel
theorem dX10_act_90 : decode cX10_act 90 = .ok (.iconst 1, 1) := by decide +kernel
theorem dX10_act_91 : decode cX10_act 91 = .ok (.iadd, 1) := by decide +kernel
theorem dX10_act_92 : decode cX10_act 92 = .ok (.putfield 53, 3) := by decide +kernel
theorem dX10_act_95 : decode cX10_act 95 = .ok (.return_, 1) := by decide +kernel
theorem dX10_sets_0 : decode cX10_sets 0 = .ok (.aload_n 0, 1) := by decide +kernel
theorem dX10_sets_1 : decode cX10_sets 1 = .ok (.invokevirtual 57, 3) := by decide +kernel
theorem dX10_sets_4 : decode cX10_sets 4 = .ok (.aload_n 0, 1) := by decide +kernel
theorem dX10_sets_5 : decode cX10_sets 5 = .ok (.getfield 7, 3) := by decide +kernel
theorem dX10_sets_8 : decode cX10_sets 8 = .ok (.iload_n 1, 1) := by decide +kernel
theorem dX10_sets_9 : decode cX10_sets 9 = .ok (.iaload, 1) := by decide +kernel
theorem dX10_sets_10 : decode cX10_sets 10 = .ok (.istore_n 3, 1) := by decide +kernel
theorem dX10_sets_11 : decode cX10_sets 11 = .ok (.aload_n 0, 1) := by decide +kernel
theorem dX10_sets_12 : decode cX10_sets 12 = .ok (.getfield 7, 3) := by decide +kernel
theorem dX10_sets_15 : decode cX10_sets 15 = .ok (.iload_n 1, 1) := by decide +kernel
theorem dX10_sets_16 : decode cX10_sets 16 = .ok (.iload_n 2, 1) := by decide +kernel
theorem dX10_sets_17 : decode cX10_sets 17 = .ok (.iastore, 1) := by decide +kernel
theorem dX10_sets_18 : decode cX10_sets 18 = .ok (.iload_n 3, 1) := by decide +kernel
theorem dX10_sets_19 : decode cX10_sets 19 = .ok (.ireturn, 1) := by decide +kernel
theorem dX10_placeOf_0 : decode cX10_placeOf 0 = .ok (.bipush 10, 2) := by decide +kernel
theorem dX10_placeOf_2 : decode cX10_placeOf 2 = .ok (.bipush 7, 2) := by decide +kernel
theorem dX10_placeOf_4 : decode cX10_placeOf 4 = .ok (.iload_n 0, 1) := by decide +kernel
theorem dX10_placeOf_5 : decode cX10_placeOf 5 = .ok (.imul, 1) := by decide +kernel
theorem dX10_placeOf_6 : decode cX10_placeOf 6 = .ok (.iadd, 1) := by decide +kernel
theorem dX10_placeOf_7 : decode cX10_placeOf 7 = .ok (.ireturn, 1) := by decide +kernel
theorem dX10_isStyle_0 : decode cX10_isStyle 0 = .ok (.iload_n 1, 1) := by decide +kernel
theorem dX10_isStyle_1 : decode cX10_isStyle 1 = .ok (.iconst 0, 1) := by decide +kernel
theorem dX10_isStyle_2 : decode cX10_isStyle 2 = .ok (.aload_n 0, 1) := by decide +kernel
theorem dX10_isStyle_3 : decode cX10_isStyle 3 = .ok (.getfield 7, 3) := by decide +kernel
theorem dX10_isStyle_6 : decode cX10_isStyle 6 = .ok (.iconst 0, 1) := by decide +kernel
theorem dX10_isStyle_7 : decode cX10_isStyle 7 = .ok (.iaload, 1) := by decide +kernel
theorem dX10_isStyle_8 : decode cX10_isStyle 8 = .ok (.iconst 1, 1) := by decide +kernel
theorem dX10_isStyle_9 : decode cX10_isStyle 9 = .ok (.isub, 1) := by decide +kernel
theorem dX10_isStyle_10 : decode cX10_isStyle 10 = .ok (.invokestatic 60, 3) := by decide +kernel
theorem dX10_isStyle_13 : decode cX10_isStyle 13 = .ok (.ireturn, 1) := by decide +kernel
theorem dX10_isStyleOrNone_0 : decode cX10_isStyleOrNone 0 = .ok (.iload_n 1, 1) := by decide +kernel
theorem dX10_isStyleOrNone_1 : decode cX10_isStyleOrNone 1 = .ok (.iconst (-1), 1) := by decide +kernel
theorem dX10_isStyleOrNone_2 : decode cX10_isStyleOrNone 2 = .ok (.if_icmp .eq 11, 3) := by decide +kernel
theorem dX10_isStyleOrNone_5 : decode cX10_isStyleOrNone 5 = .ok (.aload_n 0, 1) := by decide +kernel
theorem dX10_isStyleOrNone_6 : decode cX10_isStyleOrNone 6 = .ok (.iload_n 1, 1) := by decide +kernel
theorem dX10_isStyleOrNone_7 : decode cX10_isStyleOrNone 7 = .ok (.invokevirtual 64, 3) := by decide +kernel
theorem dX10_isStyleOrNone_10 : decode cX10_isStyleOrNone 10 = .ok (.ifCond .eq 7, 3) := by decide +kernel
theorem dX10_isStyleOrNone_13 : decode cX10_isStyleOrNone 13 = .ok (.iconst 1, 1) := by decide +kernel
theorem dX10_isStyleOrNone_14 : decode cX10_isStyleOrNone 14 = .ok (.goto 4, 3) := by decide +kernel
theorem dX10_isStyleOrNone_17 : decode cX10_isStyleOrNone 17 = .ok (.iconst 0, 1) := by decide +kernel
theorem dX10_isStyleOrNone_18 : decode cX10_isStyleOrNone 18 = .ok (.ireturn, 1) := by decide +kernel
theorem dX10_basic_0 : decode cX10_basic 0 = .ok (.iload_n 0, 1) := by decide +kernel
theorem dX10_basic_1 : decode cX10_basic 1 = .ok (.ifCond .ne 8, 3) := by decide +kernel
theorem dX10_basic_4 : decode cX10_basic 4 = .ok (.bipush 20, 2) := by decide +kernel
theorem dX10_basic_6 : decode cX10_basic 6 = .ok (.goto 33, 3) := by decide +kernel
theorem dX10_basic_9 : decode cX10_basic 9 = .ok (.iload_n 0, 1) := by decide +kernel
theorem dX10_basic_10 : decode cX10_basic 10 = .ok (.iconst 1, 1) := by decide +kernel
theorem dX10_basic_11 : decode cX10_basic 11 = .ok (.if_icmp .ne 8, 3) := by decide +kernel
theorem dX10_basic_14 : decode cX10_basic 14 = .ok (.bipush 7, 2) := by decide +kernel
theorem dX10_basic_16 : decode cX10_basic 16 = .ok (.goto 23, 3) := by decide +kernel
theorem dX10_basic_19 : decode cX10_basic 19 = .ok (.iload_n 0, 1) := by decide +kernel
theorem dX10_basic_20 : decode cX10_basic 20 = .ok (.iconst 2, 1) := by decide +kernel
theorem dX10_basic_21 : decode cX10_basic 21 = .ok (.if_icmp .ne 7, 3) := by decide +kernel
theorem dX10_basic_24 : decode cX10_basic 24 = .ok (.iconst 1, 1) := by decide +kernel
theorem dX10_basic_25 : decode cX10_basic 25 = .ok (.goto 14, 3) := by decide +kernel
theorem dX10_basic_28 : decode cX10_basic 28 = .ok (.iload_n 0, 1) := by decide +kernel
theorem dX10_basic_29 : decode cX10_basic 29 = .ok (.iconst 5, 1) := by decide +kernel
theorem dX10_basic_30 : decode cX10_basic 30 = .ok (.if_icmp .ne 8, 3) := by decide +kernel
theorem dX10_basic_33 : decode cX10_basic 33 = .ok (.bipush 10, 2) := by decide +kernel
theorem dX10_basic_35 : decode cX10_basic 35 = .ok (.goto 4, 3) := by decide +kernel
theorem dX10_basic_38 : decode cX10_basic 38 = .ok (.iconst 0, 1) := by decide +kernel
theorem dX10_basic_39 : decode cX10_basic 39 = .ok (.ireturn, 1) := by decide +kernel
theorem dX10_isValue_0 : decode cX10_isValue 0 = .ok (.iload_n 0, 1) := by decide +kernel
theorem dX10_isValue_1 : decode cX10_isValue 1 = .ok (.tableswitch 73 0 4 #[35, 43, 51, 59, 66], 35) := by decide +kernel
theorem dX10_isValue_36 : decode cX10_isValue 36 = .ok (.iload_n 1, 1) := by decide +kernel
theorem dX10_isValue_37 : decode cX10_isValue 37 = .ok (.iconst 1, 1) := by decide +kernel
theorem dX10_isValue_38 : decode cX10_isValue 38 = .ok (.bipush 99, 2) := by decide +kernel
theorem dX10_isValue_40 : decode cX10_isValue 40 = .ok (.invokestatic 60, 3) := by decide +kernel
theorem dX10_isValue_43 : decode cX10_isValue 43 = .ok (.ireturn, 1) := by decide +kernel
theorem dX10_isValue_44 : decode cX10_isValue 44 = .ok (.iload_n 1, 1) := by decide +kernel
theorem dX10_isValue_45 : decode cX10_isValue 45 = .ok (.iconst 0, 1) := by decide +kernel
theorem dX10_isValue_46 : decode cX10_isValue 46 = .ok (.bipush 7, 2) := by decide +kernel
theorem dX10_isValue_48 : decode cX10_isValue 48 = .ok (.invokestatic 60, 3) := by decide +kernel
theorem dX10_isValue_51 : decode cX10_isValue 51 = .ok (.ireturn, 1) := by decide +kernel
theorem dX10_isValue_52 : decode cX10_isValue 52 = .ok (.iload_n 1, 1) := by decide +kernel
theorem dX10_isValue_53 : decode cX10_isValue 53 = .ok (.iconst 0, 1) := by decide +kernel
theorem dX10_isValue_54 : decode cX10_isValue 54 = .ok (.bipush 7, 2) := by decide +kernel
theorem dX10_isValue_56 : decode cX10_isValue 56 = .ok (.invokestatic 60, 3) := by decide +kernel
theorem dX10_isValue_59 : decode cX10_isValue 59 = .ok (.ireturn, 1) := by decide +kernel
theorem dX10_isValue_60 : decode cX10_isValue 60 = .ok (.iload_n 1, 1) := by decide +kernel
theorem dX10_isValue_61 : decode cX10_isValue 61 = .ok (.iconst 0, 1) := by decide +kernel
theorem dX10_isValue_62 : decode cX10_isValue 62 = .ok (.iconst 1, 1) := by decide +kernel
theorem dX10_isValue_63 : decode cX10_isValue 63 = .ok (.invokestatic 60, 3) := by decide +kernel
theorem dX10_isValue_66 : decode cX10_isValue 66 = .ok (.ireturn, 1) := by decide +kernel
theorem dX10_isValue_67 : decode cX10_isValue 67 = .ok (.iload_n 1, 1) := by decide +kernel
theorem dX10_isValue_68 : decode cX10_isValue 68 = .ok (.iconst 0, 1) := by decide +kernel
theorem dX10_isValue_69 : decode cX10_isValue 69 = .ok (.iconst 2, 1) := by decide +kernel
theorem dX10_isValue_70 : decode cX10_isValue 70 = .ok (.invokestatic 60, 3) := by decide +kernel
theorem dX10_isValue_73 : decode cX10_isValue 73 = .ok (.ireturn, 1) := by decide +kernel
theorem dX10_isValue_74 : decode cX10_isValue 74 = .ok (.iload_n 0, 1) := by decide +kernel
theorem dX10_isValue_75 : decode cX10_isValue 75 = .ok (.iconst 5, 1) := by decide +kernel
theorem dX10_isValue_76 : decode cX10_isValue 76 = .ok (.if_icmp .ne 18, 3) := by decide +kernel
theorem dX10_isValue_79 : decode cX10_isValue 79 = .ok (.iload_n 1, 1) := by decide +kernel
theorem dX10_isValue_80 : decode cX10_isValue 80 = .ok (.iconst 0, 1) := by decide +kernel
theorem dX10_isValue_81 : decode cX10_isValue 81 = .ok (.sipush 200, 3) := by decide +kernel
theorem dX10_isValue_84 : decode cX10_isValue 84 = .ok (.invokestatic 60, 3) := by decide +kernel
theorem dX10_isValue_87 : decode cX10_isValue 87 = .ok (.ifCond .eq 7, 3) := by decide +kernel
theorem dX10_isValue_90 : decode cX10_isValue 90 = .ok (.iconst 1, 1) := by decide +kernel
theorem dX10_isValue_91 : decode cX10_isValue 91 = .ok (.goto 4, 3) := by decide +kernel
theorem dX10_isValue_94 : decode cX10_isValue 94 = .ok (.iconst 0, 1) := by decide +kernel
theorem dX10_isValue_95 : decode cX10_isValue 95 = .ok (.ireturn, 1) := by decide +kernel
theorem dX10_style_0 : decode cX10_style 0 = .ok (.aload_n 0, 1) := by decide +kernel
theorem dX10_style_1 : decode cX10_style 1 = .ok (.iload_n 1, 1) := by decide +kernel
theorem dX10_style_2 : decode cX10_style 2 = .ok (.invokevirtual 68, 3) := by decide +kernel
theorem dX10_style_5 : decode cX10_style 5 = .ok (.ifCond .ne 5, 3) := by decide +kernel
theorem dX10_style_8 : decode cX10_style 8 = .ok (.iconst (-1), 1) := by decide +kernel
theorem dX10_style_9 : decode cX10_style 9 = .ok (.ireturn, 1) := by decide +kernel
theorem dX10_style_10 : decode cX10_style 10 = .ok (.aload_n 0, 1) := by decide +kernel
theorem dX10_style_11 : decode cX10_style 11 = .ok (.getfield 7, 3) := by decide +kernel
theorem dX10_style_14 : decode cX10_style 14 = .ok (.iconst 0, 1) := by decide +kernel
theorem dX10_style_15 : decode cX10_style 15 = .ok (.iaload, 1) := by decide +kernel
theorem dX10_style_16 : decode cX10_style 16 = .ok (.bipush 10, 2) := by decide +kernel
theorem dX10_style_18 : decode cX10_style 18 = .ok (.if_icmp .ne 6, 3) := by decide +kernel
theorem dX10_style_21 : decode cX10_style 21 = .ok (.bipush (-3), 2) := by decide +kernel
theorem dX10_style_23 : decode cX10_style 23 = .ok (.ireturn, 1) := by decide +kernel
theorem dX10_style_24 : decode cX10_style 24 = .ok (.aload_n 0, 1) := by decide +kernel
theorem dX10_style_25 : decode cX10_style 25 = .ok (.invokevirtual 57, 3) := by decide +kernel
theorem dX10_style_28 : decode cX10_style 28 = .ok (.aload_n 0, 1) := by decide +kernel
theorem dX10_style_29 : decode cX10_style 29 = .ok (.getfield 7, 3) := by decide +kernel
theorem dX10_style_32 : decode cX10_style 32 = .ok (.iconst 0, 1) := by decide +kernel
theorem dX10_style_33 : decode cX10_style 33 = .ok (.iaload, 1) := by decide +kernel
theorem dX10_style_34 : decode cX10_style 34 = .ok (.istore_n 2, 1) := by decide +kernel
theorem dX10_style_35 : decode cX10_style 35 = .ok (.iconst 0, 1) := by decide +kernel
theorem dX10_style_36 : decode cX10_style 36 = .ok (.istore_n 3, 1) := by decide +kernel
theorem dX10_style_37 : decode cX10_style 37 = .ok (.iload_n 3, 1) := by decide +kernel
theorem dX10_style_38 : decode cX10_style 38 = .ok (.bipush 6, 2) := by decide +kernel
theorem dX10_style_40 : decode cX10_style 40 = .ok (.if_icmp .ge 21, 3) := by decide +kernel
theorem dX10_style_43 : decode cX10_style 43 = .ok (.aload_n 0, 1) := by decide +kernel
theorem dX10_style_44 : decode cX10_style 44 = .ok (.getfield 7, 3) := by decide +kernel
theorem dX10_style_47 : decode cX10_style 47 = .ok (.iload_n 2, 1) := by decide +kernel
theorem dX10_style_48 : decode cX10_style 48 = .ok (.invokestatic 71, 3) := by decide +kernel
theorem dX10_style_51 : decode cX10_style 51 = .ok (.iload_n 3, 1) := by decide +kernel
theorem dX10_style_52 : decode cX10_style 52 = .ok (.iadd, 1) := by decide +kernel
theorem dX10_style_53 : decode cX10_style 53 = .ok (.iconst (-1), 1) := by decide +kernel
theorem dX10_style_54 : decode cX10_style 54 = .ok (.iastore, 1) := by decide +kernel
theorem dX10_style_55 : decode cX10_style 55 = .ok (.iinc 3 1, 3) := by decide +kernel
theorem dX10_style_58 : decode cX10_style 58 = .ok (.goto (-21), 3) := by decide +kernel
theorem dX10_style_61 : decode cX10_style 61 = .ok (.aload_n 0, 1) := by decide +kernel
theorem dX10_style_62 : decode cX10_style 62 = .ok (.getfield 7, 3) := by decide +kernel
theorem dX10_style_65 : decode cX10_style 65 = .ok (.iload_n 2, 1) := by decide +kernel
theorem dX10_style_66 : decode cX10_style 66 = .ok (.invokestatic 71, 3) := by decide +kernel
theorem dX10_style_69 : decode cX10_style 69 = .ok (.bipush 6, 2) := by decide +kernel
theorem dX10_style_71 : decode cX10_style 71 = .ok (.iadd, 1) := by decide +kernel
theorem dX10_style_72 : decode cX10_style 72 = .ok (.iload_n 1, 1) := by decide +kernel
theorem dX10_style_73 : decode cX10_style 73 = .ok (.iastore, 1) := by decide +kernel
theorem dX10_style_74 : decode cX10_style 74 = .ok (.aload_n 0, 1) := by decide +kernel
theorem dX10_style_75 : decode cX10_style 75 = .ok (.getfield 7, 3) := by decide +kernel
theorem dX10_style_78 : decode cX10_style 78 = .ok (.iconst 0, 1) := by decide +kernel
theorem dX10_style_79 : decode cX10_style 79 = .ok (.dup2, 1) := by decide +kernel
theorem dX10_style_80 : decode cX10_style 80 = .ok (.iaload, 1) := by decide +kernel
theorem dX10_style_81 : decode cX10_style 81 = .ok (.iconst 1, 1) := by decide +kernel
theorem dX10_style_82 : decode cX10_style 82 = .ok (.iadd, 1) := by decide +kernel
theorem dX10_style_83 : decode cX10_style 83 = .ok (.iastore, 1) := by decide +kernel
theorem dX10_style_84 : decode cX10_style 84 = .ok (.iload_n 2, 1) := by decide +kernel
theorem dX10_style_85 : decode cX10_style 85 = .ok (.ireturn, 1) := by decide +kernel
theorem dX10_setParent_0 : decode cX10_setParent 0 = .ok (.aload_n 0, 1) := by decide +kernel
theorem dX10_setParent_1 : decode cX10_setParent 1 = .ok (.iload_n 1, 1) := by decide +kernel
theorem dX10_setParent_2 : decode cX10_setParent 2 = .ok (.invokevirtual 64, 3) := by decide +kernel
theorem dX10_setParent_5 : decode cX10_setParent 5 = .ok (.ifCond .eq 11, 3) := by decide +kernel
theorem dX10_setParent_8 : decode cX10_setParent 8 = .ok (.aload_n 0, 1) := by decide +kernel
theorem dX10_setParent_9 : decode cX10_setParent 9 = .ok (.iload_n 2, 1) := by decide +kernel
theorem dX10_setParent_10 : decode cX10_setParent 10 = .ok (.invokevirtual 68, 3) := by decide +kernel
theorem dX10_setParent_13 : decode cX10_setParent 13 = .ok (.ifCond .ne 5, 3) := by decide +kernel
theorem dX10_setParent_16 : decode cX10_setParent 16 = .ok (.iconst (-1), 1) := by decide +kernel
theorem dX10_setParent_17 : decode cX10_setParent 17 = .ok (.ireturn, 1) := by decide +kernel
theorem dX10_setParent_18 : decode cX10_setParent 18 = .ok (.iload_n 2, 1) := by decide +kernel
theorem dX10_setParent_19 : decode cX10_setParent 19 = .ok (.istore_n 3, 1) := by decide +kernel
theorem dX10_setParent_20 : decode cX10_setParent 20 = .ok (.iload_n 3, 1) := by decide +kernel
theorem dX10_setParent_21 : decode cX10_setParent 21 = .ok (.ifCond .lt 24, 3) := by decide +kernel
theorem dX10_setParent_24 : decode cX10_setParent 24 = .ok (.iload_n 3, 1) := by decide +kernel
theorem dX10_setParent_25 : decode cX10_setParent 25 = .ok (.iload_n 1, 1) := by decide +kernel
theorem dX10_setParent_26 : decode cX10_setParent 26 = .ok (.if_icmp .eq 19, 3) := by decide +kernel
theorem dX10_setParent_29 : decode cX10_setParent 29 = .ok (.aload_n 0, 1) := by decide +kernel
theorem dX10_setParent_30 : decode cX10_setParent 30 = .ok (.getfield 7, 3) := by decide +kernel
theorem dX10_setParent_33 : decode cX10_setParent 33 = .ok (.iload_n 3, 1) := by decide +kernel
theorem dX10_setParent_34 : decode cX10_setParent 34 = .ok (.invokestatic 71, 3) := by decide +kernel
theorem dX10_setParent_37 : decode cX10_setParent 37 = .ok (.bipush 6, 2) := by decide +kernel
theorem dX10_setParent_39 : decode cX10_setParent 39 = .ok (.iadd, 1) := by decide +kernel
theorem dX10_setParent_40 : decode cX10_setParent 40 = .ok (.iaload, 1) := by decide +kernel
theorem dX10_setParent_41 : decode cX10_setParent 41 = .ok (.istore_n 3, 1) := by decide +kernel
theorem dX10_setParent_42 : decode cX10_setParent 42 = .ok (.goto (-22), 3) := by decide +kernel
theorem dX10_setParent_45 : decode cX10_setParent 45 = .ok (.iload_n 3, 1) := by decide +kernel
theorem dX10_setParent_46 : decode cX10_setParent 46 = .ok (.iload_n 1, 1) := by decide +kernel
theorem dX10_setParent_47 : decode cX10_setParent 47 = .ok (.if_icmp .ne 8, 3) := by decide +kernel
theorem dX10_setParent_50 : decode cX10_setParent 50 = .ok (.bipush (-2), 2) := by decide +kernel
theorem dX10_setParent_52 : decode cX10_setParent 52 = .ok (.goto 15, 3) := by decide +kernel
theorem dX10_setParent_55 : decode cX10_setParent 55 = .ok (.aload_n 0, 1) := by decide +kernel
theorem dX10_setParent_56 : decode cX10_setParent 56 = .ok (.iload_n 1, 1) := by decide +kernel
theorem dX10_setParent_57 : decode cX10_setParent 57 = .ok (.invokestatic 71, 3) := by decide +kernel
theorem dX10_setParent_60 : decode cX10_setParent 60 = .ok (.bipush 6, 2) := by decide +kernel
theorem dX10_setParent_62 : decode cX10_setParent 62 = .ok (.iadd, 1) := by decide +kernel
theorem dX10_setParent_63 : decode cX10_setParent 63 = .ok (.iload_n 2, 1) := by decide +kernel
theorem dX10_setParent_64 : decode cX10_setParent 64 = .ok (.invokevirtual 75, 3) := by decide +kernel
theorem dX10_setParent_67 : decode cX10_setParent 67 = .ok (.ireturn, 1) := by decide +kernel
theorem dX10_setStyle_0 : decode cX10_setStyle 0 = .ok (.iload_n 2, 1) := by decide +kernel
theorem dX10_setStyle_1 : decode cX10_setStyle 1 = .ok (.iconst 0, 1) := by decide +kernel
theorem dX10_setStyle_2 : decode cX10_setStyle 2 = .ok (.iconst 5, 1) := by decide +kernel
theorem dX10_setStyle_3 : decode cX10_setStyle 3 = .ok (.invokestatic 60, 3) := by decide +kernel
theorem dX10_setStyle_6 : decode cX10_setStyle 6 = .ok (.ifCond .eq 20, 3) := by decide +kernel
theorem dX10_setStyle_9 : decode cX10_setStyle 9 = .ok (.iload_n 3, 1) := by decide +kernel
theorem dX10_setStyle_10 : decode cX10_setStyle 10 = .ok (.iconst (-1), 1) := by decide +kernel
theorem dX10_setStyle_11 : decode cX10_setStyle 11 = .ok (.if_icmp .eq 11, 3) := by decide +kernel
theorem dX10_setStyle_14 : decode cX10_setStyle 14 = .ok (.iload_n 2, 1) := by decide +kernel
theorem dX10_setStyle_15 : decode cX10_setStyle 15 = .ok (.iload_n 3, 1) := by decide +kernel
theorem dX10_setStyle_16 : decode cX10_setStyle 16 = .ok (.invokestatic 79, 3) := by decide +kernel
theorem dX10_setStyle_19 : decode cX10_setStyle 19 = .ok (.ifCond .eq 7, 3) := by decide +kernel
theorem dX10_setStyle_22 : decode cX10_setStyle 22 = .ok (.iconst 1, 1) := by decide +kernel
theorem dX10_setStyle_23 : decode cX10_setStyle 23 = .ok (.goto 4, 3) := by decide +kernel
theorem dX10_setStyle_26 : decode cX10_setStyle 26 = .ok (.iconst 0, 1) := by decide +kernel
theorem dX10_setStyle_27 : decode cX10_setStyle 27 = .ok (.istore 4, 2) := by decide +kernel
theorem dX10_setStyle_29 : decode cX10_setStyle 29 = .ok (.aload_n 0, 1) := by decide +kernel
theorem dX10_setStyle_30 : decode cX10_setStyle 30 = .ok (.iload_n 1, 1) := by decide +kernel
theorem dX10_setStyle_31 : decode cX10_setStyle 31 = .ok (.invokevirtual 64, 3) := by decide +kernel
theorem dX10_setStyle_34 : decode cX10_setStyle 34 = .ok (.ifCond .eq 22, 3) := by decide +kernel
theorem dX10_setStyle_37 : decode cX10_setStyle 37 = .ok (.iload 4, 2) := by decide +kernel
theorem dX10_setStyle_39 : decode cX10_setStyle 39 = .ok (.ifCond .eq 17, 3) := by decide +kernel
theorem dX10_setStyle_42 : decode cX10_setStyle 42 = .ok (.aload_n 0, 1) := by decide +kernel
theorem dX10_setStyle_43 : decode cX10_setStyle 43 = .ok (.iload_n 1, 1) := by decide +kernel
theorem dX10_setStyle_44 : decode cX10_setStyle 44 = .ok (.invokestatic 71, 3) := by decide +kernel
theorem dX10_setStyle_47 : decode cX10_setStyle 47 = .ok (.iload_n 2, 1) := by decide +kernel
theorem dX10_setStyle_48 : decode cX10_setStyle 48 = .ok (.iadd, 1) := by decide +kernel
theorem dX10_setStyle_49 : decode cX10_setStyle 49 = .ok (.iload_n 3, 1) := by decide +kernel
theorem dX10_setStyle_50 : decode cX10_setStyle 50 = .ok (.invokevirtual 75, 3) := by decide +kernel
theorem dX10_setStyle_53 : decode cX10_setStyle 53 = .ok (.goto 4, 3) := by decide +kernel
theorem dX10_setStyle_56 : decode cX10_setStyle 56 = .ok (.iconst (-1), 1) := by decide +kernel
theorem dX10_setStyle_57 : decode cX10_setStyle 57 = .ok (.ireturn, 1) := by decide +kernel
theorem dX10_unstyle_0 : decode cX10_unstyle 0 = .ok (.aload_n 0, 1) := by decide +kernel
theorem dX10_unstyle_1 : decode cX10_unstyle 1 = .ok (.getfield 7, 3) := by decide +kernel
theorem dX10_unstyle_4 : decode cX10_unstyle 4 = .ok (.iconst 0, 1) := by decide +kernel
theorem dX10_unstyle_5 : decode cX10_unstyle 5 = .ok (.iaload, 1) := by decide +kernel
theorem dX10_unstyle_6 : decode cX10_unstyle 6 = .ok (.iconst 1, 1) := by decide +kernel
theorem dX10_unstyle_7 : decode cX10_unstyle 7 = .ok (.isub, 1) := by decide +kernel
theorem dX10_unstyle_8 : decode cX10_unstyle 8 = .ok (.istore_n 1, 1) := by decide +kernel
theorem dX10_unstyle_9 : decode cX10_unstyle 9 = .ok (.iload_n 1, 1) := by decide +kernel
theorem dX10_unstyle_10 : decode cX10_unstyle 10 = .ok (.ifCond .lt 7, 3) := by decide +kernel
theorem dX10_unstyle_13 : decode cX10_unstyle 13 = .ok (.iconst 1, 1) := by decide +kernel
theorem dX10_unstyle_14 : decode cX10_unstyle 14 = .ok (.goto 4, 3) := by decide +kernel
theorem dX10_unstyle_17 : decode cX10_unstyle 17 = .ok (.iconst 0, 1) := by decide +kernel
theorem dX10_unstyle_18 : decode cX10_unstyle 18 = .ok (.istore_n 2, 1) := by decide +kernel
theorem dX10_unstyle_19 : decode cX10_unstyle 19 = .ok (.iconst 0, 1) := by decide +kernel
theorem dX10_unstyle_20 : decode cX10_unstyle 20 = .ok (.istore_n 3, 1) := by decide +kernel
theorem dX10_unstyle_21 : decode cX10_unstyle 21 = .ok (.iload_n 3, 1) := by decide +kernel
theorem dX10_unstyle_22 : decode cX10_unstyle 22 = .ok (.aload_n 0, 1) := by decide +kernel
theorem dX10_unstyle_23 : decode cX10_unstyle 23 = .ok (.getfield 7, 3) := by decide +kernel
theorem dX10_unstyle_26 : decode cX10_unstyle 26 = .ok (.iconst 0, 1) := by decide +kernel
theorem dX10_unstyle_27 : decode cX10_unstyle 27 = .ok (.iaload, 1) := by decide +kernel
theorem dX10_unstyle_28 : decode cX10_unstyle 28 = .ok (.if_icmp .ge 35, 3) := by decide +kernel
theorem dX10_unstyle_31 : decode cX10_unstyle 31 = .ok (.iload_n 2, 1) := by decide +kernel
theorem dX10_unstyle_32 : decode cX10_unstyle 32 = .ok (.ifCond .eq 23, 3) := by decide +kernel
theorem dX10_unstyle_35 : decode cX10_unstyle 35 = .ok (.aload_n 0, 1) := by decide +kernel
theorem dX10_unstyle_36 : decode cX10_unstyle 36 = .ok (.getfield 7, 3) := by decide +kernel
theorem dX10_unstyle_39 : decode cX10_unstyle 39 = .ok (.iload_n 3, 1) := by decide +kernel
theorem dX10_unstyle_40 : decode cX10_unstyle 40 = .ok (.invokestatic 71, 3) := by decide +kernel
theorem dX10_unstyle_43 : decode cX10_unstyle 43 = .ok (.bipush 6, 2) := by decide +kernel
theorem dX10_unstyle_45 : decode cX10_unstyle 45 = .ok (.iadd, 1) := by decide +kernel
theorem dX10_unstyle_46 : decode cX10_unstyle 46 = .ok (.iaload, 1) := by decide +kernel
theorem dX10_unstyle_47 : decode cX10_unstyle 47 = .ok (.iload_n 1, 1) := by decide +kernel
theorem dX10_unstyle_48 : decode cX10_unstyle 48 = .ok (.if_icmp .eq 7, 3) := by decide +kernel
theorem dX10_unstyle_51 : decode cX10_unstyle 51 = .ok (.iconst 1, 1) := by decide +kernel
theorem dX10_unstyle_52 : decode cX10_unstyle 52 = .ok (.goto 4, 3) := by decide +kernel
theorem dX10_unstyle_55 : decode cX10_unstyle 55 = .ok (.iconst 0, 1) := by decide +kernel
theorem dX10_unstyle_56 : decode cX10_unstyle 56 = .ok (.istore_n 2, 1) := by decide +kernel
theorem dX10_unstyle_57 : decode cX10_unstyle 57 = .ok (.iinc 3 1, 3) := by decide +kernel
theorem dX10_unstyle_60 : decode cX10_unstyle 60 = .ok (.goto (-39), 3) := by decide +kernel
theorem dX10_unstyle_63 : decode cX10_unstyle 63 = .ok (.iconst 0, 1) := by decide +kernel
theorem dX10_unstyle_64 : decode cX10_unstyle 64 = .ok (.istore_n 3, 1) := by decide +kernel
theorem dX10_unstyle_65 : decode cX10_unstyle 65 = .ok (.iload_n 3, 1) := by decide +kernel
theorem dX10_unstyle_66 : decode cX10_unstyle 66 = .ok (.aload_n 0, 1) := by decide +kernel
theorem dX10_unstyle_67 : decode cX10_unstyle 67 = .ok (.getfield 7, 3) := by decide +kernel
theorem dX10_unstyle_70 : decode cX10_unstyle 70 = .ok (.iconst 1, 1) := by decide +kernel
theorem dX10_unstyle_71 : decode cX10_unstyle 71 = .ok (.iaload, 1) := by decide +kernel
theorem dX10_unstyle_72 : decode cX10_unstyle 72 = .ok (.if_icmp .ge 34, 3) := by decide +kernel
theorem dX10_unstyle_75 : decode cX10_unstyle 75 = .ok (.iload_n 2, 1) := by decide +kernel
theorem dX10_unstyle_76 : decode cX10_unstyle 76 = .ok (.ifCond .eq 22, 3) := by decide +kernel
theorem dX10_unstyle_79 : decode cX10_unstyle 79 = .ok (.aload_n 0, 1) := by decide +kernel
theorem dX10_unstyle_80 : decode cX10_unstyle 80 = .ok (.getfield 7, 3) := by decide +kernel
theorem dX10_unstyle_83 : decode cX10_unstyle 83 = .ok (.iload_n 3, 1) := by decide +kernel
theorem dX10_unstyle_84 : decode cX10_unstyle 84 = .ok (.invokestatic 83, 3) := by decide +kernel
theorem dX10_unstyle_87 : decode cX10_unstyle 87 = .ok (.iconst 2, 1) := by decide +kernel
theorem dX10_unstyle_88 : decode cX10_unstyle 88 = .ok (.iadd, 1) := by decide +kernel
theorem dX10_unstyle_89 : decode cX10_unstyle 89 = .ok (.iaload, 1) := by decide +kernel
theorem dX10_unstyle_90 : decode cX10_unstyle 90 = .ok (.iload_n 1, 1) := by decide +kernel
theorem dX10_unstyle_91 : decode cX10_unstyle 91 = .ok (.if_icmp .eq 7, 3) := by decide +kernel
theorem dX10_unstyle_94 : decode cX10_unstyle 94 = .ok (.iconst 1, 1) := by decide +kernel
theorem dX10_unstyle_95 : decode cX10_unstyle 95 = .ok (.goto 4, 3) := by decide +kernel
theorem dX10_unstyle_98 : decode cX10_unstyle 98 = .ok (.iconst 0, 1) := by decide +kernel
theorem dX10_unstyle_99 : decode cX10_unstyle 99 = .ok (.istore_n 2, 1) := by decide +kernel
theorem dX10_unstyle_100 : decode cX10_unstyle 100 = .ok (.iinc 3 1, 3) := by decide +kernel
theorem dX10_unstyle_103 : decode cX10_unstyle 103 = .ok (.goto (-38), 3) := by decide +kernel
theorem dX10_unstyle_106 : decode cX10_unstyle 106 = .ok (.iload_n 2, 1) := by decide +kernel
theorem dX10_unstyle_107 : decode cX10_unstyle 107 = .ok (.ifCond .ne 6, 3) := by decide +kernel
theorem dX10_unstyle_110 : decode cX10_unstyle 110 = .ok (.bipush (-2), 2) := by decide +kernel
theorem dX10_unstyle_112 : decode cX10_unstyle 112 = .ok (.ireturn, 1) := by decide +kernel
theorem dX10_unstyle_113 : decode cX10_unstyle 113 = .ok (.aload_n 0, 1) := by decide +kernel
theorem dX10_unstyle_114 : decode cX10_unstyle 114 = .ok (.invokevirtual 57, 3) := by decide +kernel
theorem dX10_unstyle_117 : decode cX10_unstyle 117 = .ok (.aload_n 0, 1) := by decide +kernel
theorem dX10_unstyle_118 : decode cX10_unstyle 118 = .ok (.getfield 7, 3) := by decide +kernel
theorem dX10_unstyle_121 : decode cX10_unstyle 121 = .ok (.iconst 0, 1) := by decide +kernel
theorem dX10_unstyle_122 : decode cX10_unstyle 122 = .ok (.dup2, 1) := by decide +kernel
theorem dX10_unstyle_123 : decode cX10_unstyle 123 = .ok (.iaload, 1) := by decide +kernel
theorem dX10_unstyle_124 : decode cX10_unstyle 124 = .ok (.iconst 1, 1) := by decide +kernel
theorem dX10_unstyle_125 : decode cX10_unstyle 125 = .ok (.isub, 1) := by decide +kernel
theorem dX10_unstyle_126 : decode cX10_unstyle 126 = .ok (.iastore, 1) := by decide +kernel
theorem dX10_unstyle_127 : decode cX10_unstyle 127 = .ok (.aload_n 0, 1) := by decide +kernel
theorem dX10_unstyle_128 : decode cX10_unstyle 128 = .ok (.getfield 7, 3) := by decide +kernel
theorem dX10_unstyle_131 : decode cX10_unstyle 131 = .ok (.iconst 0, 1) := by decide +kernel
theorem dX10_unstyle_132 : decode cX10_unstyle 132 = .ok (.iaload, 1) := by decide +kernel
theorem dX10_unstyle_133 : decode cX10_unstyle 133 = .ok (.ireturn, 1) := by decide +kernel
theorem dX10_owner_0 : decode cX10_owner 0 = .ok (.iload_n 1, 1) := by decide +kernel
theorem dX10_owner_1 : decode cX10_owner 1 = .ok (.istore_n 3, 1) := by decide +kernel
theorem dX10_owner_2 : decode cX10_owner 2 = .ok (.iload_n 3, 1) := by decide +kernel
theorem dX10_owner_3 : decode cX10_owner 3 = .ok (.ifCond .lt 33, 3) := by decide +kernel
theorem dX10_owner_6 : decode cX10_owner 6 = .ok (.aload_n 0, 1) := by decide +kernel
theorem dX10_owner_7 : decode cX10_owner 7 = .ok (.getfield 7, 3) := by decide +kernel
theorem dX10_owner_10 : decode cX10_owner 10 = .ok (.iload_n 3, 1) := by decide +kernel
theorem dX10_owner_11 : decode cX10_owner 11 = .ok (.invokestatic 71, 3) := by decide +kernel
theorem dX10_owner_14 : decode cX10_owner 14 = .ok (.iload_n 2, 1) := by decide +kernel
theorem dX10_owner_15 : decode cX10_owner 15 = .ok (.iadd, 1) := by decide +kernel
theorem dX10_owner_16 : decode cX10_owner 16 = .ok (.iaload, 1) := by decide +kernel
theorem dX10_owner_17 : decode cX10_owner 17 = .ok (.ifCond .ge 19, 3) := by decide +kernel
theorem dX10_owner_20 : decode cX10_owner 20 = .ok (.aload_n 0, 1) := by decide +kernel
theorem dX10_owner_21 : decode cX10_owner 21 = .ok (.getfield 7, 3) := by decide +kernel
theorem dX10_owner_24 : decode cX10_owner 24 = .ok (.iload_n 3, 1) := by decide +kernel
theorem dX10_owner_25 : decode cX10_owner 25 = .ok (.invokestatic 71, 3) := by decide +kernel
theorem dX10_owner_28 : decode cX10_owner 28 = .ok (.bipush 6, 2) := by decide +kernel
theorem dX10_owner_30 : decode cX10_owner 30 = .ok (.iadd, 1) := by decide +kernel
theorem dX10_owner_31 : decode cX10_owner 31 = .ok (.iaload, 1) := by decide +kernel
theorem dX10_owner_32 : decode cX10_owner 32 = .ok (.istore_n 3, 1) := by decide +kernel
theorem dX10_owner_33 : decode cX10_owner 33 = .ok (.goto (-31), 3) := by decide +kernel
theorem dX10_owner_36 : decode cX10_owner 36 = .ok (.iload_n 3, 1) := by decide +kernel
theorem dX10_owner_37 : decode cX10_owner 37 = .ok (.ireturn, 1) := by decide +kernel
theorem dX10_valued_0 : decode cX10_valued 0 = .ok (.aload_n 0, 1) := by decide +kernel
theorem dX10_valued_1 : decode cX10_valued 1 = .ok (.iload_n 1, 1) := by decide +kernel
theorem dX10_valued_2 : decode cX10_valued 2 = .ok (.iload_n 2, 1) := by decide +kernel
theorem dX10_valued_3 : decode cX10_valued 3 = .ok (.invokevirtual 86, 3) := by decide +kernel
theorem dX10_valued_6 : decode cX10_valued 6 = .ok (.istore_n 3, 1) := by decide +kernel
theorem dX10_valued_7 : decode cX10_valued 7 = .ok (.iload_n 3, 1) := by decide +kernel
theorem dX10_valued_8 : decode cX10_valued 8 = .ok (.ifCond .ge 10, 3) := by decide +kernel
theorem dX10_valued_11 : decode cX10_valued 11 = .ok (.iload_n 2, 1) := by decide +kernel
theorem dX10_valued_12 : decode cX10_valued 12 = .ok (.invokestatic 89, 3) := by decide +kernel
theorem dX10_valued_15 : decode cX10_valued 15 = .ok (.goto 14, 3) := by decide +kernel
theorem dX10_valued_18 : decode cX10_valued 18 = .ok (.aload_n 0, 1) := by decide +kernel
theorem dX10_valued_19 : decode cX10_valued 19 = .ok (.getfield 7, 3) := by decide +kernel
theorem dX10_valued_22 : decode cX10_valued 22 = .ok (.iload_n 3, 1) := by decide +kernel
theorem dX10_valued_23 : decode cX10_valued 23 = .ok (.invokestatic 71, 3) := by decide +kernel
theorem dX10_valued_26 : decode cX10_valued 26 = .ok (.iload_n 2, 1) := by decide +kernel
theorem dX10_valued_27 : decode cX10_valued 27 = .ok (.iadd, 1) := by decide +kernel
theorem dX10_valued_28 : decode cX10_valued 28 = .ok (.iaload, 1) := by decide +kernel
theorem dX10_valued_29 : decode cX10_valued 29 = .ok (.ireturn, 1) := by decide +kernel
theorem dX10_flattens_0 : decode cX10_flattens 0 = .ok (.iconst 0, 1) := by decide +kernel
theorem dX10_flattens_1 : decode cX10_flattens 1 = .ok (.istore_n 1, 1) := by decide +kernel
theorem dX10_flattens_2 : decode cX10_flattens 2 = .ok (.iconst 0, 1) := by decide +kernel
theorem dX10_flattens_3 : decode cX10_flattens 3 = .ok (.istore_n 2, 1) := by decide +kernel
theorem dX10_flattens_4 : decode cX10_flattens 4 = .ok (.iload_n 2, 1) := by decide +kernel
theorem dX10_flattens_5 : decode cX10_flattens 5 = .ok (.bipush 6, 2) := by decide +kernel
theorem dX10_flattens_7 : decode cX10_flattens 7 = .ok (.aload_n 0, 1) := by decide +kernel
theorem dX10_flattens_8 : decode cX10_flattens 8 = .ok (.getfield 7, 3) := by decide +kernel
theorem dX10_flattens_11 : decode cX10_flattens 11 = .ok (.iconst 0, 1) := by decide +kernel
theorem dX10_flattens_12 : decode cX10_flattens 12 = .ok (.iaload, 1) := by decide +kernel
theorem dX10_flattens_13 : decode cX10_flattens 13 = .ok (.imul, 1) := by decide +kernel
theorem dX10_flattens_14 : decode cX10_flattens 14 = .ok (.if_icmp .ge 55, 3) := by decide +kernel
theorem dX10_flattens_17 : decode cX10_flattens 17 = .ok (.aload_n 0, 1) := by decide +kernel
theorem dX10_flattens_18 : decode cX10_flattens 18 = .ok (.getfield 16, 3) := by decide +kernel
theorem dX10_flattens_21 : decode cX10_flattens 21 = .ok (.iload_n 2, 1) := by decide +kernel
theorem dX10_flattens_22 : decode cX10_flattens 22 = .ok (.aload_n 0, 1) := by decide +kernel
theorem dX10_flattens_23 : decode cX10_flattens 23 = .ok (.iload_n 2, 1) := by decide +kernel
theorem dX10_flattens_24 : decode cX10_flattens 24 = .ok (.bipush 6, 2) := by decide +kernel
theorem dX10_flattens_26 : decode cX10_flattens 26 = .ok (.idiv, 1) := by decide +kernel
theorem dX10_flattens_27 : decode cX10_flattens 27 = .ok (.iload_n 2, 1) := by decide +kernel
theorem dX10_flattens_28 : decode cX10_flattens 28 = .ok (.bipush 6, 2) := by decide +kernel
theorem dX10_flattens_30 : decode cX10_flattens 30 = .ok (.irem, 1) := by decide +kernel
theorem dX10_flattens_31 : decode cX10_flattens 31 = .ok (.invokevirtual 92, 3) := by decide +kernel
theorem dX10_flattens_34 : decode cX10_flattens 34 = .ok (.iastore, 1) := by decide +kernel
theorem dX10_flattens_35 : decode cX10_flattens 35 = .ok (.iload_n 1, 1) := by decide +kernel
theorem dX10_flattens_36 : decode cX10_flattens 36 = .ok (.aload_n 0, 1) := by decide +kernel
theorem dX10_flattens_37 : decode cX10_flattens 37 = .ok (.getfield 7, 3) := by decide +kernel
theorem dX10_flattens_40 : decode cX10_flattens 40 = .ok (.iload_n 2, 1) := by decide +kernel
theorem dX10_flattens_41 : decode cX10_flattens 41 = .ok (.bipush 6, 2) := by decide +kernel
theorem dX10_flattens_43 : decode cX10_flattens 43 = .ok (.idiv, 1) := by decide +kernel
theorem dX10_flattens_44 : decode cX10_flattens 44 = .ok (.invokestatic 71, 3) := by decide +kernel
theorem dX10_flattens_47 : decode cX10_flattens 47 = .ok (.iload_n 2, 1) := by decide +kernel
theorem dX10_flattens_48 : decode cX10_flattens 48 = .ok (.bipush 6, 2) := by decide +kernel
theorem dX10_flattens_50 : decode cX10_flattens 50 = .ok (.irem, 1) := by decide +kernel
theorem dX10_flattens_51 : decode cX10_flattens 51 = .ok (.iadd, 1) := by decide +kernel
theorem dX10_flattens_52 : decode cX10_flattens 52 = .ok (.iaload, 1) := by decide +kernel
theorem dX10_flattens_53 : decode cX10_flattens 53 = .ok (.ifCond .ge 7, 3) := by decide +kernel
theorem dX10_flattens_56 : decode cX10_flattens 56 = .ok (.iconst 1, 1) := by decide +kernel
theorem dX10_flattens_57 : decode cX10_flattens 57 = .ok (.goto 4, 3) := by decide +kernel
theorem dX10_flattens_60 : decode cX10_flattens 60 = .ok (.iconst 0, 1) := by decide +kernel
theorem dX10_flattens_61 : decode cX10_flattens 61 = .ok (.iadd, 1) := by decide +kernel
theorem dX10_flattens_62 : decode cX10_flattens 62 = .ok (.istore_n 1, 1) := by decide +kernel
theorem dX10_flattens_63 : decode cX10_flattens 63 = .ok (.iinc 2 1, 3) := by decide +kernel
theorem dX10_flattens_66 : decode cX10_flattens 66 = .ok (.goto (-62), 3) := by decide +kernel
theorem dX10_flattens_69 : decode cX10_flattens 69 = .ok (.iconst 0, 1) := by decide +kernel
theorem dX10_flattens_70 : decode cX10_flattens 70 = .ok (.istore_n 2, 1) := by decide +kernel
theorem dX10_flattens_71 : decode cX10_flattens 71 = .ok (.iload_n 2, 1) := by decide +kernel
theorem dX10_flattens_72 : decode cX10_flattens 72 = .ok (.bipush 6, 2) := by decide +kernel
theorem dX10_flattens_74 : decode cX10_flattens 74 = .ok (.aload_n 0, 1) := by decide +kernel
theorem dX10_flattens_75 : decode cX10_flattens 75 = .ok (.getfield 7, 3) := by decide +kernel
theorem dX10_flattens_78 : decode cX10_flattens 78 = .ok (.iconst 0, 1) := by decide +kernel
theorem dX10_flattens_79 : decode cX10_flattens 79 = .ok (.iaload, 1) := by decide +kernel
theorem dX10_flattens_80 : decode cX10_flattens 80 = .ok (.imul, 1) := by decide +kernel
theorem dX10_flattens_81 : decode cX10_flattens 81 = .ok (.if_icmp .ge 48, 3) := by decide +kernel
theorem dX10_flattens_84 : decode cX10_flattens 84 = .ok (.aload_n 0, 1) := by decide +kernel
theorem dX10_flattens_85 : decode cX10_flattens 85 = .ok (.getfield 7, 3) := by decide +kernel
theorem dX10_flattens_88 : decode cX10_flattens 88 = .ok (.iload_n 2, 1) := by decide +kernel
theorem dX10_flattens_89 : decode cX10_flattens 89 = .ok (.bipush 6, 2) := by decide +kernel
theorem dX10_flattens_91 : decode cX10_flattens 91 = .ok (.idiv, 1) := by decide +kernel
theorem dX10_flattens_92 : decode cX10_flattens 92 = .ok (.invokestatic 71, 3) := by decide +kernel
theorem dX10_flattens_95 : decode cX10_flattens 95 = .ok (.iload_n 2, 1) := by decide +kernel
theorem dX10_flattens_96 : decode cX10_flattens 96 = .ok (.bipush 6, 2) := by decide +kernel
theorem dX10_flattens_98 : decode cX10_flattens 98 = .ok (.irem, 1) := by decide +kernel
theorem dX10_flattens_99 : decode cX10_flattens 99 = .ok (.iadd, 1) := by decide +kernel
theorem dX10_flattens_100 : decode cX10_flattens 100 = .ok (.aload_n 0, 1) := by decide +kernel
theorem dX10_flattens_101 : decode cX10_flattens 101 = .ok (.getfield 16, 3) := by decide +kernel
theorem dX10_flattens_104 : decode cX10_flattens 104 = .ok (.iload_n 2, 1) := by decide +kernel
theorem dX10_flattens_105 : decode cX10_flattens 105 = .ok (.iaload, 1) := by decide +kernel
theorem dX10_flattens_106 : decode cX10_flattens 106 = .ok (.iastore, 1) := by decide +kernel
theorem dX10_flattens_107 : decode cX10_flattens 107 = .ok (.aload_n 0, 1) := by decide +kernel
theorem dX10_flattens_108 : decode cX10_flattens 108 = .ok (.getfield 7, 3) := by decide +kernel
theorem dX10_flattens_111 : decode cX10_flattens 111 = .ok (.iload_n 2, 1) := by decide +kernel
theorem dX10_flattens_112 : decode cX10_flattens 112 = .ok (.bipush 6, 2) := by decide +kernel
theorem dX10_flattens_114 : decode cX10_flattens 114 = .ok (.idiv, 1) := by decide +kernel
theorem dX10_flattens_115 : decode cX10_flattens 115 = .ok (.invokestatic 71, 3) := by decide +kernel
theorem dX10_flattens_118 : decode cX10_flattens 118 = .ok (.bipush 6, 2) := by decide +kernel
theorem dX10_flattens_120 : decode cX10_flattens 120 = .ok (.iadd, 1) := by decide +kernel
theorem dX10_flattens_121 : decode cX10_flattens 121 = .ok (.iconst (-1), 1) := by decide +kernel
theorem dX10_flattens_122 : decode cX10_flattens 122 = .ok (.iastore, 1) := by decide +kernel
theorem dX10_flattens_123 : decode cX10_flattens 123 = .ok (.iinc 2 1, 3) := by decide +kernel
theorem dX10_flattens_126 : decode cX10_flattens 126 = .ok (.goto (-55), 3) := by decide +kernel
theorem dX10_flattens_129 : decode cX10_flattens 129 = .ok (.iload_n 1, 1) := by decide +kernel
theorem dX10_flattens_130 : decode cX10_flattens 130 = .ok (.ireturn, 1) := by decide +kernel
theorem dX10_flatten_0 : decode cX10_flatten 0 = .ok (.aload_n 0, 1) := by decide +kernel
theorem dX10_flatten_1 : decode cX10_flatten 1 = .ok (.invokevirtual 57, 3) := by decide +kernel
theorem dX10_flatten_4 : decode cX10_flatten 4 = .ok (.aload_n 0, 1) := by decide +kernel
theorem dX10_flatten_5 : decode cX10_flatten 5 = .ok (.invokevirtual 95, 3) := by decide +kernel
theorem dX10_flatten_8 : decode cX10_flatten 8 = .ok (.ireturn, 1) := by decide +kernel
theorem dX10_styleTold_0 : decode cX10_styleTold 0 = .ok (.iload_n 2, 1) := by decide +kernel
theorem dX10_styleTold_1 : decode cX10_styleTold 1 = .ok (.bipush 7, 2) := by decide +kernel
theorem dX10_styleTold_3 : decode cX10_styleTold 3 = .ok (.if_icmp .ge 15, 3) := by decide +kernel
theorem dX10_styleTold_6 : decode cX10_styleTold 6 = .ok (.aload_n 0, 1) := by decide +kernel
theorem dX10_styleTold_7 : decode cX10_styleTold 7 = .ok (.getfield 7, 3) := by decide +kernel
theorem dX10_styleTold_10 : decode cX10_styleTold 10 = .ok (.iload_n 1, 1) := by decide +kernel
theorem dX10_styleTold_11 : decode cX10_styleTold 11 = .ok (.invokestatic 71, 3) := by decide +kernel
theorem dX10_styleTold_14 : decode cX10_styleTold 14 = .ok (.iload_n 2, 1) := by decide +kernel
theorem dX10_styleTold_15 : decode cX10_styleTold 15 = .ok (.iadd, 1) := by decide +kernel
theorem dX10_styleTold_16 : decode cX10_styleTold 16 = .ok (.iaload, 1) := by decide +kernel
theorem dX10_styleTold_17 : decode cX10_styleTold 17 = .ok (.ireturn, 1) := by decide +kernel
theorem dX10_styleTold_18 : decode cX10_styleTold 18 = .ok (.iconst 0, 1) := by decide +kernel
theorem dX10_styleTold_19 : decode cX10_styleTold 19 = .ok (.istore_n 3, 1) := by decide +kernel
theorem dX10_styleTold_20 : decode cX10_styleTold 20 = .ok (.iload_n 2, 1) := by decide +kernel
theorem dX10_styleTold_21 : decode cX10_styleTold 21 = .ok (.bipush 7, 2) := by decide +kernel
theorem dX10_styleTold_23 : decode cX10_styleTold 23 = .ok (.if_icmp .ne 45, 3) := by decide +kernel
theorem dX10_styleTold_26 : decode cX10_styleTold 26 = .ok (.aload_n 0, 1) := by decide +kernel
theorem dX10_styleTold_27 : decode cX10_styleTold 27 = .ok (.getfield 7, 3) := by decide +kernel
theorem dX10_styleTold_30 : decode cX10_styleTold 30 = .ok (.iload_n 1, 1) := by decide +kernel
theorem dX10_styleTold_31 : decode cX10_styleTold 31 = .ok (.invokestatic 71, 3) := by decide +kernel
theorem dX10_styleTold_34 : decode cX10_styleTold 34 = .ok (.bipush 6, 2) := by decide +kernel
theorem dX10_styleTold_36 : decode cX10_styleTold 36 = .ok (.iadd, 1) := by decide +kernel
theorem dX10_styleTold_37 : decode cX10_styleTold 37 = .ok (.iaload, 1) := by decide +kernel
theorem dX10_styleTold_38 : decode cX10_styleTold 38 = .ok (.istore 4, 2) := by decide +kernel
theorem dX10_styleTold_40 : decode cX10_styleTold 40 = .ok (.iload 4, 2) := by decide +kernel
theorem dX10_styleTold_42 : decode cX10_styleTold 42 = .ok (.ifCond .lt 24, 3) := by decide +kernel
theorem dX10_styleTold_45 : decode cX10_styleTold 45 = .ok (.iinc 3 1, 3) := by decide +kernel
theorem dX10_styleTold_48 : decode cX10_styleTold 48 = .ok (.aload_n 0, 1) := by decide +kernel
theorem dX10_styleTold_49 : decode cX10_styleTold 49 = .ok (.getfield 7, 3) := by decide +kernel
theorem dX10_styleTold_52 : decode cX10_styleTold 52 = .ok (.iload 4, 2) := by decide +kernel
theorem dX10_styleTold_54 : decode cX10_styleTold 54 = .ok (.invokestatic 71, 3) := by decide +kernel
theorem dX10_styleTold_57 : decode cX10_styleTold 57 = .ok (.bipush 6, 2) := by decide +kernel
theorem dX10_styleTold_59 : decode cX10_styleTold 59 = .ok (.iadd, 1) := by decide +kernel
theorem dX10_styleTold_60 : decode cX10_styleTold 60 = .ok (.iaload, 1) := by decide +kernel
theorem dX10_styleTold_61 : decode cX10_styleTold 61 = .ok (.istore 4, 2) := by decide +kernel
theorem dX10_styleTold_63 : decode cX10_styleTold 63 = .ok (.goto (-23), 3) := by decide +kernel
theorem dX10_styleTold_66 : decode cX10_styleTold 66 = .ok (.iload_n 3, 1) := by decide +kernel
theorem dX10_styleTold_67 : decode cX10_styleTold 67 = .ok (.ireturn, 1) := by decide +kernel
theorem dX10_styleTold_68 : decode cX10_styleTold 68 = .ok (.iconst 0, 1) := by decide +kernel
theorem dX10_styleTold_69 : decode cX10_styleTold 69 = .ok (.istore 4, 2) := by decide +kernel
theorem dX10_styleTold_71 : decode cX10_styleTold 71 = .ok (.iload 4, 2) := by decide +kernel
theorem dX10_styleTold_73 : decode cX10_styleTold 73 = .ok (.aload_n 0, 1) := by decide +kernel
theorem dX10_styleTold_74 : decode cX10_styleTold 74 = .ok (.getfield 7, 3) := by decide +kernel
theorem dX10_styleTold_77 : decode cX10_styleTold 77 = .ok (.iconst 0, 1) := by decide +kernel
theorem dX10_styleTold_78 : decode cX10_styleTold 78 = .ok (.iaload, 1) := by decide +kernel
theorem dX10_styleTold_79 : decode cX10_styleTold 79 = .ok (.if_icmp .ge 34, 3) := by decide +kernel
theorem dX10_styleTold_82 : decode cX10_styleTold 82 = .ok (.iload_n 3, 1) := by decide +kernel
theorem dX10_styleTold_83 : decode cX10_styleTold 83 = .ok (.aload_n 0, 1) := by decide +kernel
theorem dX10_styleTold_84 : decode cX10_styleTold 84 = .ok (.getfield 7, 3) := by decide +kernel
theorem dX10_styleTold_87 : decode cX10_styleTold 87 = .ok (.iload 4, 2) := by decide +kernel
theorem dX10_styleTold_89 : decode cX10_styleTold 89 = .ok (.invokestatic 71, 3) := by decide +kernel
theorem dX10_styleTold_92 : decode cX10_styleTold 92 = .ok (.bipush 6, 2) := by decide +kernel
theorem dX10_styleTold_94 : decode cX10_styleTold 94 = .ok (.iadd, 1) := by decide +kernel
theorem dX10_styleTold_95 : decode cX10_styleTold 95 = .ok (.iaload, 1) := by decide +kernel
theorem dX10_styleTold_96 : decode cX10_styleTold 96 = .ok (.iload_n 1, 1) := by decide +kernel
theorem dX10_styleTold_97 : decode cX10_styleTold 97 = .ok (.if_icmp .ne 7, 3) := by decide +kernel
theorem dX10_styleTold_100 : decode cX10_styleTold 100 = .ok (.iconst 1, 1) := by decide +kernel
theorem dX10_styleTold_101 : decode cX10_styleTold 101 = .ok (.goto 4, 3) := by decide +kernel
theorem dX10_styleTold_104 : decode cX10_styleTold 104 = .ok (.iconst 0, 1) := by decide +kernel
theorem dX10_styleTold_105 : decode cX10_styleTold 105 = .ok (.iadd, 1) := by decide +kernel
theorem dX10_styleTold_106 : decode cX10_styleTold 106 = .ok (.istore_n 3, 1) := by decide +kernel
theorem dX10_styleTold_107 : decode cX10_styleTold 107 = .ok (.iinc 4 1, 3) := by decide +kernel
theorem dX10_styleTold_110 : decode cX10_styleTold 110 = .ok (.goto (-39), 3) := by decide +kernel
theorem dX10_styleTold_113 : decode cX10_styleTold 113 = .ok (.iload_n 3, 1) := by decide +kernel
theorem dX10_styleTold_114 : decode cX10_styleTold 114 = .ok (.ireturn, 1) := by decide +kernel
theorem dX10_styleAt_0 : decode cX10_styleAt 0 = .ok (.aload_n 0, 1) := by decide +kernel
theorem dX10_styleAt_1 : decode cX10_styleAt 1 = .ok (.iload_n 1, 1) := by decide +kernel
theorem dX10_styleAt_2 : decode cX10_styleAt 2 = .ok (.invokevirtual 64, 3) := by decide +kernel
theorem dX10_styleAt_5 : decode cX10_styleAt 5 = .ok (.ifCond .eq 22, 3) := by decide +kernel
theorem dX10_styleAt_8 : decode cX10_styleAt 8 = .ok (.iload_n 2, 1) := by decide +kernel
theorem dX10_styleAt_9 : decode cX10_styleAt 9 = .ok (.iconst 0, 1) := by decide +kernel
theorem dX10_styleAt_10 : decode cX10_styleAt 10 = .ok (.bipush 8, 2) := by decide +kernel
theorem dX10_styleAt_12 : decode cX10_styleAt 12 = .ok (.invokestatic 60, 3) := by decide +kernel
theorem dX10_styleAt_15 : decode cX10_styleAt 15 = .ok (.ifCond .eq 12, 3) := by decide +kernel
theorem dX10_styleAt_18 : decode cX10_styleAt 18 = .ok (.aload_n 0, 1) := by decide +kernel
theorem dX10_styleAt_19 : decode cX10_styleAt 19 = .ok (.iload_n 1, 1) := by decide +kernel
theorem dX10_styleAt_20 : decode cX10_styleAt 20 = .ok (.iload_n 2, 1) := by decide +kernel
theorem dX10_styleAt_21 : decode cX10_styleAt 21 = .ok (.invokevirtual 99, 3) := by decide +kernel
theorem dX10_styleAt_24 : decode cX10_styleAt 24 = .ok (.goto 4, 3) := by decide +kernel
theorem dX10_styleAt_27 : decode cX10_styleAt 27 = .ok (.iconst (-1), 1) := by decide +kernel
theorem dX10_styleAt_28 : decode cX10_styleAt 28 = .ok (.ireturn, 1) := by decide +kernel
theorem dX10_valueOf_0 : decode cX10_valueOf 0 = .ok (.aload_n 0, 1) := by decide +kernel
theorem dX10_valueOf_1 : decode cX10_valueOf 1 = .ok (.iload_n 1, 1) := by decide +kernel
theorem dX10_valueOf_2 : decode cX10_valueOf 2 = .ok (.invokevirtual 68, 3) := by decide +kernel
theorem dX10_valueOf_5 : decode cX10_valueOf 5 = .ok (.ifCond .eq 21, 3) := by decide +kernel
theorem dX10_valueOf_8 : decode cX10_valueOf 8 = .ok (.iload_n 2, 1) := by decide +kernel
theorem dX10_valueOf_9 : decode cX10_valueOf 9 = .ok (.iconst 0, 1) := by decide +kernel
theorem dX10_valueOf_10 : decode cX10_valueOf 10 = .ok (.iconst 5, 1) := by decide +kernel
theorem dX10_valueOf_11 : decode cX10_valueOf 11 = .ok (.invokestatic 60, 3) := by decide +kernel
theorem dX10_valueOf_14 : decode cX10_valueOf 14 = .ok (.ifCond .eq 12, 3) := by decide +kernel
theorem dX10_valueOf_17 : decode cX10_valueOf 17 = .ok (.aload_n 0, 1) := by decide +kernel
theorem dX10_valueOf_18 : decode cX10_valueOf 18 = .ok (.iload_n 1, 1) := by decide +kernel
theorem dX10_valueOf_19 : decode cX10_valueOf 19 = .ok (.iload_n 2, 1) := by decide +kernel
theorem dX10_valueOf_20 : decode cX10_valueOf 20 = .ok (.invokevirtual 92, 3) := by decide +kernel
theorem dX10_valueOf_23 : decode cX10_valueOf 23 = .ok (.goto 4, 3) := by decide +kernel
theorem dX10_valueOf_26 : decode cX10_valueOf 26 = .ok (.iconst (-1), 1) := by decide +kernel
theorem dX10_valueOf_27 : decode cX10_valueOf 27 = .ok (.ireturn, 1) := by decide +kernel
theorem dX10_from_0 : decode cX10_from 0 = .ok (.aload_n 0, 1) := by decide +kernel
theorem dX10_from_1 : decode cX10_from 1 = .ok (.iload_n 1, 1) := by decide +kernel
theorem dX10_from_2 : decode cX10_from 2 = .ok (.invokevirtual 64, 3) := by decide +kernel
theorem dX10_from_5 : decode cX10_from 5 = .ok (.ifCond .eq 12, 3) := by decide +kernel
theorem dX10_from_8 : decode cX10_from 8 = .ok (.iload_n 2, 1) := by decide +kernel
theorem dX10_from_9 : decode cX10_from 9 = .ok (.iconst 0, 1) := by decide +kernel
theorem dX10_from_10 : decode cX10_from 10 = .ok (.iconst 5, 1) := by decide +kernel
theorem dX10_from_11 : decode cX10_from 11 = .ok (.invokestatic 60, 3) := by decide +kernel
theorem dX10_from_14 : decode cX10_from 14 = .ok (.ifCond .ne 5, 3) := by decide +kernel
theorem dX10_from_17 : decode cX10_from 17 = .ok (.iconst (-1), 1) := by decide +kernel
theorem dX10_from_18 : decode cX10_from 18 = .ok (.ireturn, 1) := by decide +kernel
theorem dX10_from_19 : decode cX10_from 19 = .ok (.aload_n 0, 1) := by decide +kernel
theorem dX10_from_20 : decode cX10_from 20 = .ok (.iload_n 1, 1) := by decide +kernel
theorem dX10_from_21 : decode cX10_from 21 = .ok (.iload_n 2, 1) := by decide +kernel
theorem dX10_from_22 : decode cX10_from 22 = .ok (.invokevirtual 86, 3) := by decide +kernel
theorem dX10_from_25 : decode cX10_from 25 = .ok (.istore_n 3, 1) := by decide +kernel
theorem dX10_from_26 : decode cX10_from 26 = .ok (.iload_n 3, 1) := by decide +kernel
theorem dX10_from_27 : decode cX10_from 27 = .ok (.ifCond .ge 8, 3) := by decide +kernel
theorem dX10_from_30 : decode cX10_from 30 = .ok (.bipush (-9), 2) := by decide +kernel
theorem dX10_from_32 : decode cX10_from 32 = .ok (.goto 4, 3) := by decide +kernel
theorem dX10_from_35 : decode cX10_from 35 = .ok (.iload_n 3, 1) := by decide +kernel
theorem dX10_from_36 : decode cX10_from 36 = .ok (.ireturn, 1) := by decide +kernel
theorem dX10_styles_0 : decode cX10_styles 0 = .ok (.aload_n 0, 1) := by decide +kernel
theorem dX10_styles_1 : decode cX10_styles 1 = .ok (.getfield 7, 3) := by decide +kernel
theorem dX10_styles_4 : decode cX10_styles 4 = .ok (.iconst 0, 1) := by decide +kernel
theorem dX10_styles_5 : decode cX10_styles 5 = .ok (.iaload, 1) := by decide +kernel
theorem dX10_styles_6 : decode cX10_styles 6 = .ok (.ireturn, 1) := by decide +kernel
theorem dX10_type_0 : decode cX10_type 0 = .ok (.iload_n 1, 1) := by decide +kernel
theorem dX10_type_1 : decode cX10_type 1 = .ok (.bipush 32, 2) := by decide +kernel
theorem dX10_type_3 : decode cX10_type 3 = .ok (.bipush 126, 2) := by decide +kernel
theorem dX10_type_5 : decode cX10_type 5 = .ok (.invokestatic 60, 3) := by decide +kernel
theorem dX10_type_8 : decode cX10_type 8 = .ok (.ifCond .ne 5, 3) := by decide +kernel
theorem dX10_type_11 : decode cX10_type 11 = .ok (.iconst (-1), 1) := by decide +kernel
theorem dX10_type_12 : decode cX10_type 12 = .ok (.ireturn, 1) := by decide +kernel
theorem dX10_type_13 : decode cX10_type 13 = .ok (.aload_n 0, 1) := by decide +kernel
theorem dX10_type_14 : decode cX10_type 14 = .ok (.getfield 102, 3) := by decide +kernel
theorem dX10_type_17 : decode cX10_type 17 = .ok (.bipush 80, 2) := by decide +kernel
theorem dX10_type_19 : decode cX10_type 19 = .ok (.if_icmp .ne 6, 3) := by decide +kernel
theorem dX10_type_22 : decode cX10_type 22 = .ok (.bipush (-3), 2) := by decide +kernel
theorem dX10_type_24 : decode cX10_type 24 = .ok (.ireturn, 1) := by decide +kernel
theorem dX10_type_25 : decode cX10_type 25 = .ok (.aload_n 0, 1) := by decide +kernel
theorem dX10_type_26 : decode cX10_type 26 = .ok (.getfield 19, 3) := by decide +kernel
theorem dX10_type_29 : decode cX10_type 29 = .ok (.aload_n 0, 1) := by decide +kernel
theorem dX10_type_30 : decode cX10_type 30 = .ok (.getfield 102, 3) := by decide +kernel
theorem dX10_type_33 : decode cX10_type 33 = .ok (.iload_n 1, 1) := by decide +kernel
theorem dX10_type_34 : decode cX10_type 34 = .ok (.iastore, 1) := by decide +kernel
theorem dX10_type_35 : decode cX10_type 35 = .ok (.aload_n 0, 1) := by decide +kernel
theorem dX10_type_36 : decode cX10_type 36 = .ok (.dup, 1) := by decide +kernel
theorem dX10_type_37 : decode cX10_type 37 = .ok (.getfield 102, 3) := by decide +kernel
theorem dX10_type_40 : decode cX10_type 40 = .ok (.iconst 1, 1) := by decide +kernel
theorem dX10_type_41 : decode cX10_type 41 = .ok (.iadd, 1) := by decide +kernel
theorem dX10_type_42 : decode cX10_type 42 = .ok (.putfield 102, 3) := by decide +kernel
theorem dX10_type_45 : decode cX10_type 45 = .ok (.aload_n 0, 1) := by decide +kernel
theorem dX10_type_46 : decode cX10_type 46 = .ok (.getfield 102, 3) := by decide +kernel
theorem dX10_type_49 : decode cX10_type 49 = .ok (.ireturn, 1) := by decide +kernel
theorem dX10_clear_0 : decode cX10_clear 0 = .ok (.aload_n 0, 1) := by decide +kernel
theorem dX10_clear_1 : decode cX10_clear 1 = .ok (.getfield 102, 3) := by decide +kernel
theorem dX10_clear_4 : decode cX10_clear 4 = .ok (.istore_n 1, 1) := by decide +kernel
theorem dX10_clear_5 : decode cX10_clear 5 = .ok (.aload_n 0, 1) := by decide +kernel
theorem dX10_clear_6 : decode cX10_clear 6 = .ok (.iconst 0, 1) := by decide +kernel
theorem dX10_clear_7 : decode cX10_clear 7 = .ok (.putfield 102, 3) := by decide +kernel
theorem dX10_clear_10 : decode cX10_clear 10 = .ok (.iload_n 1, 1) := by decide +kernel
theorem dX10_clear_11 : decode cX10_clear 11 = .ok (.ireturn, 1) := by decide +kernel
theorem dX10_next_0 : decode cX10_next 0 = .ok (.aload_n 0, 1) := by decide +kernel
theorem dX10_next_1 : decode cX10_next 1 = .ok (.getfield 105, 3) := by decide +kernel
theorem dX10_next_4 : decode cX10_next 4 = .ok (.aload_n 0, 1) := by decide +kernel
theorem dX10_next_5 : decode cX10_next 5 = .ok (.getfield 102, 3) := by decide +kernel
theorem dX10_next_8 : decode cX10_next 8 = .ok (.if_icmp .ge 15, 3) := by decide +kernel
theorem dX10_next_11 : decode cX10_next 11 = .ok (.aload_n 0, 1) := by decide +kernel
theorem dX10_next_12 : decode cX10_next 12 = .ok (.getfield 19, 3) := by decide +kernel
theorem dX10_next_15 : decode cX10_next 15 = .ok (.aload_n 0, 1) := by decide +kernel
theorem dX10_next_16 : decode cX10_next 16 = .ok (.getfield 105, 3) := by decide +kernel
theorem dX10_next_19 : decode cX10_next 19 = .ok (.iaload, 1) := by decide +kernel
theorem dX10_next_20 : decode cX10_next 20 = .ok (.goto 4, 3) := by decide +kernel
theorem dX10_next_23 : decode cX10_next 23 = .ok (.iconst (-1), 1) := by decide +kernel
theorem dX10_next_24 : decode cX10_next 24 = .ok (.ireturn, 1) := by decide +kernel
theorem dX10_reads_0 : decode cX10_reads 0 = .ok (.aload_n 0, 1) := by decide +kernel
theorem dX10_reads_1 : decode cX10_reads 1 = .ok (.getfield 22, 3) := by decide +kernel
theorem dX10_reads_4 : decode cX10_reads 4 = .ok (.iconst 2, 1) := by decide +kernel
theorem dX10_reads_5 : decode cX10_reads 5 = .ok (.aload_n 0, 1) := by decide +kernel
theorem dX10_reads_6 : decode cX10_reads 6 = .ok (.getfield 108, 3) := by decide +kernel
theorem dX10_reads_9 : decode cX10_reads 9 = .ok (.imul, 1) := by decide +kernel
theorem dX10_reads_10 : decode cX10_reads 10 = .ok (.iload_n 1, 1) := by decide +kernel
theorem dX10_reads_11 : decode cX10_reads 11 = .ok (.iastore, 1) := by decide +kernel
theorem dX10_reads_12 : decode cX10_reads 12 = .ok (.aload_n 0, 1) := by decide +kernel
theorem dX10_reads_13 : decode cX10_reads 13 = .ok (.getfield 22, 3) := by decide +kernel
theorem dX10_reads_16 : decode cX10_reads 16 = .ok (.iconst 2, 1) := by decide +kernel
theorem dX10_reads_17 : decode cX10_reads 17 = .ok (.aload_n 0, 1) := by decide +kernel
theorem dX10_reads_18 : decode cX10_reads 18 = .ok (.getfield 108, 3) := by decide +kernel
theorem dX10_reads_21 : decode cX10_reads 21 = .ok (.imul, 1) := by decide +kernel
theorem dX10_reads_22 : decode cX10_reads 22 = .ok (.iconst 1, 1) := by decide +kernel
theorem dX10_reads_23 : decode cX10_reads 23 = .ok (.iadd, 1) := by decide +kernel
theorem dX10_reads_24 : decode cX10_reads 24 = .ok (.iload_n 2, 1) := by decide +kernel
theorem dX10_reads_25 : decode cX10_reads 25 = .ok (.iastore, 1) := by decide +kernel
theorem dX10_reads_26 : decode cX10_reads 26 = .ok (.aload_n 0, 1) := by decide +kernel
theorem dX10_reads_27 : decode cX10_reads 27 = .ok (.dup, 1) := by decide +kernel
theorem dX10_reads_28 : decode cX10_reads 28 = .ok (.getfield 108, 3) := by decide +kernel
theorem dX10_reads_31 : decode cX10_reads 31 = .ok (.iconst 1, 1) := by decide +kernel
theorem dX10_reads_32 : decode cX10_reads 32 = .ok (.iadd, 1) := by decide +kernel
theorem dX10_reads_33 : decode cX10_reads 33 = .ok (.putfield 108, 3) := by decide +kernel
theorem dX10_reads_36 : decode cX10_reads 36 = .ok (.return_, 1) := by decide +kernel
theorem dX10_isRange_0 : decode cX10_isRange 0 = .ok (.iload_n 0, 1) := by decide +kernel
theorem dX10_isRange_1 : decode cX10_isRange 1 = .ok (.bipush 115, 2) := by decide +kernel
theorem dX10_isRange_3 : decode cX10_isRange 3 = .ok (.if_icmp .ne 13, 3) := by decide +kernel
theorem dX10_isRange_6 : decode cX10_isRange 6 = .ok (.iload_n 1, 1) := by decide +kernel
theorem dX10_isRange_7 : decode cX10_isRange 7 = .ok (.iconst 1, 1) := by decide +kernel
theorem dX10_isRange_8 : decode cX10_isRange 8 = .ok (.bipush 99, 2) := by decide +kernel
theorem dX10_isRange_10 : decode cX10_isRange 10 = .ok (.invokestatic 60, 3) := by decide +kernel
theorem dX10_isRange_13 : decode cX10_isRange 13 = .ok (.goto 65, 3) := by decide +kernel
theorem dX10_isRange_16 : decode cX10_isRange 16 = .ok (.iload_n 0, 1) := by decide +kernel
theorem dX10_isRange_17 : decode cX10_isRange 17 = .ok (.bipush 99, 2) := by decide +kernel
theorem dX10_isRange_19 : decode cX10_isRange 19 = .ok (.if_icmp .eq 9, 3) := by decide +kernel
theorem dX10_isRange_22 : decode cX10_isRange 22 = .ok (.iload_n 0, 1) := by decide +kernel
theorem dX10_isRange_23 : decode cX10_isRange 23 = .ok (.bipush 116, 2) := by decide +kernel
theorem dX10_isRange_25 : decode cX10_isRange 25 = .ok (.if_icmp .ne 17, 3) := by decide +kernel
theorem dX10_isRange_28 : decode cX10_isRange 28 = .ok (.iload_n 1, 1) := by decide +kernel
theorem dX10_isRange_29 : decode cX10_isRange 29 = .ok (.bipush 8, 2) := by decide +kernel
theorem dX10_isRange_31 : decode cX10_isRange 31 = .ok (.if_icmp .ge 7, 3) := by decide +kernel
theorem dX10_isRange_34 : decode cX10_isRange 34 = .ok (.iconst 1, 1) := by decide +kernel
theorem dX10_isRange_35 : decode cX10_isRange 35 = .ok (.goto 43, 3) := by decide +kernel
theorem dX10_isRange_38 : decode cX10_isRange 38 = .ok (.iconst 0, 1) := by decide +kernel
theorem dX10_isRange_39 : decode cX10_isRange 39 = .ok (.goto 39, 3) := by decide +kernel
theorem dX10_isRange_42 : decode cX10_isRange 42 = .ok (.iload_n 0, 1) := by decide +kernel
theorem dX10_isRange_43 : decode cX10_isRange 43 = .ok (.bipush 98, 2) := by decide +kernel
theorem dX10_isRange_45 : decode cX10_isRange 45 = .ok (.if_icmp .ne 16, 3) := by decide +kernel
theorem dX10_isRange_48 : decode cX10_isRange 48 = .ok (.iload_n 1, 1) := by decide +kernel
theorem dX10_isRange_49 : decode cX10_isRange 49 = .ok (.iconst 2, 1) := by decide +kernel
theorem dX10_isRange_50 : decode cX10_isRange 50 = .ok (.if_icmp .ge 7, 3) := by decide +kernel
theorem dX10_isRange_53 : decode cX10_isRange 53 = .ok (.iconst 1, 1) := by decide +kernel
theorem dX10_isRange_54 : decode cX10_isRange 54 = .ok (.goto 24, 3) := by decide +kernel
theorem dX10_isRange_57 : decode cX10_isRange 57 = .ok (.iconst 0, 1) := by decide +kernel
theorem dX10_isRange_58 : decode cX10_isRange 58 = .ok (.goto 20, 3) := by decide +kernel
theorem dX10_isRange_61 : decode cX10_isRange 61 = .ok (.iload_n 0, 1) := by decide +kernel
theorem dX10_isRange_62 : decode cX10_isRange 62 = .ok (.bipush 107, 2) := by decide +kernel
theorem dX10_isRange_64 : decode cX10_isRange 64 = .ok (.if_icmp .eq 9, 3) := by decide +kernel
theorem dX10_isRange_67 : decode cX10_isRange 67 = .ok (.iload_n 1, 1) := by decide +kernel
theorem dX10_isRange_68 : decode cX10_isRange 68 = .ok (.bipush 10, 2) := by decide +kernel
theorem dX10_isRange_70 : decode cX10_isRange 70 = .ok (.if_icmp .ge 7, 3) := by decide +kernel
theorem dX10_isRange_73 : decode cX10_isRange 73 = .ok (.iconst 1, 1) := by decide +kernel
theorem dX10_isRange_74 : decode cX10_isRange 74 = .ok (.goto 4, 3) := by decide +kernel
theorem dX10_isRange_77 : decode cX10_isRange 77 = .ok (.iconst 0, 1) := by decide +kernel
theorem dX10_isRange_78 : decode cX10_isRange 78 = .ok (.ireturn, 1) := by decide +kernel
theorem dX10_readsTag_0 : decode cX10_readsTag 0 = .ok (.aload_n 0, 1) := by decide +kernel
theorem dX10_readsTag_1 : decode cX10_readsTag 1 = .ok (.invokevirtual 111, 3) := by decide +kernel
theorem dX10_readsTag_4 : decode cX10_readsTag 4 = .ok (.istore_n 1, 1) := by decide +kernel
theorem dX10_readsTag_5 : decode cX10_readsTag 5 = .ok (.iload_n 1, 1) := by decide +kernel
theorem dX10_readsTag_6 : decode cX10_readsTag 6 = .ok (.bipush 115, 2) := by decide +kernel
theorem dX10_readsTag_8 : decode cX10_readsTag 8 = .ok (.if_icmp .eq 35, 3) := by decide +kernel
theorem dX10_readsTag_11 : decode cX10_readsTag 11 = .ok (.iload_n 1, 1) := by decide +kernel
theorem dX10_readsTag_12 : decode cX10_readsTag 12 = .ok (.bipush 99, 2) := by decide +kernel
theorem dX10_readsTag_14 : decode cX10_readsTag 14 = .ok (.if_icmp .eq 29, 3) := by decide +kernel
theorem dX10_readsTag_17 : decode cX10_readsTag 17 = .ok (.iload_n 1, 1) := by decide +kernel
theorem dX10_readsTag_18 : decode cX10_readsTag 18 = .ok (.bipush 116, 2) := by decide +kernel
theorem dX10_readsTag_20 : decode cX10_readsTag 20 = .ok (.if_icmp .eq 23, 3) := by decide +kernel
theorem dX10_readsTag_23 : decode cX10_readsTag 23 = .ok (.iload_n 1, 1) := by decide +kernel
theorem dX10_readsTag_24 : decode cX10_readsTag 24 = .ok (.bipush 98, 2) := by decide +kernel
theorem dX10_readsTag_26 : decode cX10_readsTag 26 = .ok (.if_icmp .eq 17, 3) := by decide +kernel
theorem dX10_readsTag_29 : decode cX10_readsTag 29 = .ok (.iload_n 1, 1) := by decide +kernel
theorem dX10_readsTag_30 : decode cX10_readsTag 30 = .ok (.bipush 114, 2) := by decide +kernel
theorem dX10_readsTag_32 : decode cX10_readsTag 32 = .ok (.if_icmp .eq 11, 3) := by decide +kernel
theorem dX10_readsTag_35 : decode cX10_readsTag 35 = .ok (.iload_n 1, 1) := by decide +kernel
theorem dX10_readsTag_36 : decode cX10_readsTag 36 = .ok (.bipush 107, 2) := by decide +kernel
theorem dX10_readsTag_38 : decode cX10_readsTag 38 = .ok (.if_icmp .eq 5, 3) := by decide +kernel
theorem dX10_readsTag_41 : decode cX10_readsTag 41 = .ok (.iconst 0, 1) := by decide +kernel
theorem dX10_readsTag_42 : decode cX10_readsTag 42 = .ok (.ireturn, 1) := by decide +kernel
theorem dX10_readsTag_43 : decode cX10_readsTag 43 = .ok (.aload_n 0, 1) := by decide +kernel
theorem dX10_readsTag_44 : decode cX10_readsTag 44 = .ok (.dup, 1) := by decide +kernel
theorem dX10_readsTag_45 : decode cX10_readsTag 45 = .ok (.getfield 105, 3) := by decide +kernel
theorem dX10_readsTag_48 : decode cX10_readsTag 48 = .ok (.iconst 1, 1) := by decide +kernel
theorem dX10_readsTag_49 : decode cX10_readsTag 49 = .ok (.iadd, 1) := by decide +kernel
theorem dX10_readsTag_50 : decode cX10_readsTag 50 = .ok (.putfield 105, 3) := by decide +kernel
theorem dX10_readsTag_53 : decode cX10_readsTag 53 = .ok (.aload_n 0, 1) := by decide +kernel
theorem dX10_readsTag_54 : decode cX10_readsTag 54 = .ok (.getfield 105, 3) := by decide +kernel
theorem dX10_readsTag_57 : decode cX10_readsTag 57 = .ok (.istore_n 2, 1) := by decide +kernel
theorem dX10_readsTag_58 : decode cX10_readsTag 58 = .ok (.iconst 0, 1) := by decide +kernel
theorem dX10_readsTag_59 : decode cX10_readsTag 59 = .ok (.istore_n 3, 1) := by decide +kernel
theorem dX10_readsTag_60 : decode cX10_readsTag 60 = .ok (.aload_n 0, 1) := by decide +kernel
theorem dX10_readsTag_61 : decode cX10_readsTag 61 = .ok (.getfield 105, 3) := by decide +kernel
theorem dX10_readsTag_64 : decode cX10_readsTag 64 = .ok (.iload_n 2, 1) := by decide +kernel
theorem dX10_readsTag_65 : decode cX10_readsTag 65 = .ok (.iconst 4, 1) := by decide +kernel
theorem dX10_readsTag_66 : decode cX10_readsTag 66 = .ok (.iadd, 1) := by decide +kernel
theorem dX10_readsTag_67 : decode cX10_readsTag 67 = .ok (.if_icmp .ge 43, 3) := by decide +kernel
theorem dX10_readsTag_70 : decode cX10_readsTag 70 = .ok (.aload_n 0, 1) := by decide +kernel
theorem dX10_readsTag_71 : decode cX10_readsTag 71 = .ok (.invokevirtual 111, 3) := by decide +kernel
theorem dX10_readsTag_74 : decode cX10_readsTag 74 = .ok (.bipush 48, 2) := by decide +kernel
theorem dX10_readsTag_76 : decode cX10_readsTag 76 = .ok (.bipush 57, 2) := by decide +kernel
theorem dX10_readsTag_78 : decode cX10_readsTag 78 = .ok (.invokestatic 60, 3) := by decide +kernel
theorem dX10_readsTag_81 : decode cX10_readsTag 81 = .ok (.ifCond .eq 29, 3) := by decide +kernel
theorem dX10_readsTag_84 : decode cX10_readsTag 84 = .ok (.bipush 10, 2) := by decide +kernel
theorem dX10_readsTag_86 : decode cX10_readsTag 86 = .ok (.iload_n 3, 1) := by decide +kernel
theorem dX10_readsTag_87 : decode cX10_readsTag 87 = .ok (.imul, 1) := by decide +kernel
theorem dX10_readsTag_88 : decode cX10_readsTag 88 = .ok (.aload_n 0, 1) := by decide +kernel
theorem dX10_readsTag_89 : decode cX10_readsTag 89 = .ok (.invokevirtual 111, 3) := by decide +kernel
theorem dX10_readsTag_92 : decode cX10_readsTag 92 = .ok (.iadd, 1) := by decide +kernel
theorem dX10_readsTag_93 : decode cX10_readsTag 93 = .ok (.bipush 48, 2) := by decide +kernel
theorem dX10_readsTag_95 : decode cX10_readsTag 95 = .ok (.isub, 1) := by decide +kernel
theorem dX10_readsTag_96 : decode cX10_readsTag 96 = .ok (.istore_n 3, 1) := by decide +kernel
theorem dX10_readsTag_97 : decode cX10_readsTag 97 = .ok (.aload_n 0, 1) := by decide +kernel
theorem dX10_readsTag_98 : decode cX10_readsTag 98 = .ok (.dup, 1) := by decide +kernel
theorem dX10_readsTag_99 : decode cX10_readsTag 99 = .ok (.getfield 105, 3) := by decide +kernel
theorem dX10_readsTag_102 : decode cX10_readsTag 102 = .ok (.iconst 1, 1) := by decide +kernel
theorem dX10_readsTag_103 : decode cX10_readsTag 103 = .ok (.iadd, 1) := by decide +kernel
theorem dX10_readsTag_104 : decode cX10_readsTag 104 = .ok (.putfield 105, 3) := by decide +kernel
theorem dX10_readsTag_107 : decode cX10_readsTag 107 = .ok (.goto (-47), 3) := by decide +kernel
theorem dX10_readsTag_110 : decode cX10_readsTag 110 = .ok (.aload_n 0, 1) := by decide +kernel
theorem dX10_readsTag_111 : decode cX10_readsTag 111 = .ok (.getfield 105, 3) := by decide +kernel
theorem dX10_readsTag_114 : decode cX10_readsTag 114 = .ok (.iload_n 2, 1) := by decide +kernel
theorem dX10_readsTag_115 : decode cX10_readsTag 115 = .ok (.if_icmp .ne 7, 3) := by decide +kernel
theorem dX10_readsTag_118 : decode cX10_readsTag 118 = .ok (.iconst 1, 1) := by decide +kernel
theorem dX10_readsTag_119 : decode cX10_readsTag 119 = .ok (.goto 4, 3) := by decide +kernel
theorem dX10_readsTag_122 : decode cX10_readsTag 122 = .ok (.iconst 0, 1) := by decide +kernel
theorem dX10_readsTag_123 : decode cX10_readsTag 123 = .ok (.istore 4, 2) := by decide +kernel
theorem dX10_readsTag_125 : decode cX10_readsTag 125 = .ok (.iload 4, 2) := by decide +kernel
theorem dX10_readsTag_127 : decode cX10_readsTag 127 = .ok (.ifCond .eq 9, 3) := by decide +kernel
theorem dX10_readsTag_130 : decode cX10_readsTag 130 = .ok (.iload_n 1, 1) := by decide +kernel
theorem dX10_readsTag_131 : decode cX10_readsTag 131 = .ok (.bipush 114, 2) := by decide +kernel
theorem dX10_readsTag_133 : decode cX10_readsTag 133 = .ok (.if_icmp .ne 12, 3) := by decide +kernel
theorem dX10_readsTag_136 : decode cX10_readsTag 136 = .ok (.aload_n 0, 1) := by decide +kernel
theorem dX10_readsTag_137 : decode cX10_readsTag 137 = .ok (.invokevirtual 111, 3) := by decide +kernel
theorem dX10_readsTag_140 : decode cX10_readsTag 140 = .ok (.bipush 125, 2) := by decide +kernel
theorem dX10_readsTag_142 : decode cX10_readsTag 142 = .ok (.if_icmp .eq 5, 3) := by decide +kernel
theorem dX10_readsTag_145 : decode cX10_readsTag 145 = .ok (.iconst 0, 1) := by decide +kernel
theorem dX10_readsTag_146 : decode cX10_readsTag 146 = .ok (.ireturn, 1) := by decide +kernel
theorem dX10_readsTag_147 : decode cX10_readsTag 147 = .ok (.aload_n 0, 1) := by decide +kernel
theorem dX10_readsTag_148 : decode cX10_readsTag 148 = .ok (.dup, 1) := by decide +kernel
theorem dX10_readsTag_149 : decode cX10_readsTag 149 = .ok (.getfield 105, 3) := by decide +kernel
theorem dX10_readsTag_152 : decode cX10_readsTag 152 = .ok (.iconst 1, 1) := by decide +kernel
theorem dX10_readsTag_153 : decode cX10_readsTag 153 = .ok (.iadd, 1) := by decide +kernel
theorem dX10_readsTag_154 : decode cX10_readsTag 154 = .ok (.putfield 105, 3) := by decide +kernel
theorem dX10_readsTag_157 : decode cX10_readsTag 157 = .ok (.aload_n 0, 1) := by decide +kernel
theorem dX10_readsTag_158 : decode cX10_readsTag 158 = .ok (.aload_n 0, 1) := by decide +kernel
theorem dX10_readsTag_159 : decode cX10_readsTag 159 = .ok (.getfield 114, 3) := by decide +kernel
theorem dX10_readsTag_162 : decode cX10_readsTag 162 = .ok (.ifCond .ge 20, 3) := by decide +kernel
theorem dX10_readsTag_165 : decode cX10_readsTag 165 = .ok (.iload 4, 2) := by decide +kernel
theorem dX10_readsTag_167 : decode cX10_readsTag 167 = .ok (.ifCond .ne 15, 3) := by decide +kernel
theorem dX10_readsTag_170 : decode cX10_readsTag 170 = .ok (.iload_n 1, 1) := by decide +kernel
theorem dX10_readsTag_171 : decode cX10_readsTag 171 = .ok (.iload_n 3, 1) := by decide +kernel
theorem dX10_readsTag_172 : decode cX10_readsTag 172 = .ok (.invokestatic 117, 3) := by decide +kernel
theorem dX10_readsTag_175 : decode cX10_readsTag 175 = .ok (.ifCond .ne 7, 3) := by decide +kernel
theorem dX10_readsTag_178 : decode cX10_readsTag 178 = .ok (.iload_n 2, 1) := by decide +kernel
theorem dX10_readsTag_179 : decode cX10_readsTag 179 = .ok (.goto 7, 3) := by decide +kernel
theorem dX10_readsTag_182 : decode cX10_readsTag 182 = .ok (.aload_n 0, 1) := by decide +kernel
theorem dX10_readsTag_183 : decode cX10_readsTag 183 = .ok (.getfield 114, 3) := by decide +kernel
theorem dX10_readsTag_186 : decode cX10_readsTag 186 = .ok (.putfield 114, 3) := by decide +kernel
theorem dX10_readsTag_189 : decode cX10_readsTag 189 = .ok (.aload_n 0, 1) := by decide +kernel
theorem dX10_readsTag_190 : decode cX10_readsTag 190 = .ok (.iload_n 1, 1) := by decide +kernel
theorem dX10_readsTag_191 : decode cX10_readsTag 191 = .ok (.iload 4, 2) := by decide +kernel
theorem dX10_readsTag_193 : decode cX10_readsTag 193 = .ok (.ifCond .eq 7, 3) := by decide +kernel
theorem dX10_readsTag_196 : decode cX10_readsTag 196 = .ok (.iconst (-1), 1) := by decide +kernel
theorem dX10_readsTag_197 : decode cX10_readsTag 197 = .ok (.goto 4, 3) := by decide +kernel
theorem dX10_readsTag_200 : decode cX10_readsTag 200 = .ok (.iload_n 3, 1) := by decide +kernel
theorem dX10_readsTag_201 : decode cX10_readsTag 201 = .ok (.invokevirtual 120, 3) := by decide +kernel
theorem dX10_readsTag_204 : decode cX10_readsTag 204 = .ok (.iconst 1, 1) := by decide +kernel
theorem dX10_readsTag_205 : decode cX10_readsTag 205 = .ok (.ireturn, 1) := by decide +kernel
theorem dX10_wrongAt_0 : decode cX10_wrongAt 0 = .ok (.aload_n 0, 1) := by decide +kernel
theorem dX10_wrongAt_1 : decode cX10_wrongAt 1 = .ok (.iconst 0, 1) := by decide +kernel
theorem dX10_wrongAt_2 : decode cX10_wrongAt 2 = .ok (.putfield 105, 3) := by decide +kernel
theorem dX10_wrongAt_5 : decode cX10_wrongAt 5 = .ok (.aload_n 0, 1) := by decide +kernel
theorem dX10_wrongAt_6 : decode cX10_wrongAt 6 = .ok (.iconst (-1), 1) := by decide +kernel
theorem dX10_wrongAt_7 : decode cX10_wrongAt 7 = .ok (.putfield 114, 3) := by decide +kernel
theorem dX10_wrongAt_10 : decode cX10_wrongAt 10 = .ok (.aload_n 0, 1) := by decide +kernel
theorem dX10_wrongAt_11 : decode cX10_wrongAt 11 = .ok (.iconst 0, 1) := by decide +kernel
theorem dX10_wrongAt_12 : decode cX10_wrongAt 12 = .ok (.putfield 108, 3) := by decide +kernel
theorem dX10_wrongAt_15 : decode cX10_wrongAt 15 = .ok (.aload_n 0, 1) := by decide +kernel
theorem dX10_wrongAt_16 : decode cX10_wrongAt 16 = .ok (.getfield 105, 3) := by decide +kernel
theorem dX10_wrongAt_19 : decode cX10_wrongAt 19 = .ok (.aload_n 0, 1) := by decide +kernel
theorem dX10_wrongAt_20 : decode cX10_wrongAt 20 = .ok (.getfield 102, 3) := by decide +kernel
theorem dX10_wrongAt_23 : decode cX10_wrongAt 23 = .ok (.if_icmp .ge 49, 3) := by decide +kernel
theorem dX10_wrongAt_26 : decode cX10_wrongAt 26 = .ok (.aload_n 0, 1) := by decide +kernel
theorem dX10_wrongAt_27 : decode cX10_wrongAt 27 = .ok (.invokevirtual 111, 3) := by decide +kernel
theorem dX10_wrongAt_30 : decode cX10_wrongAt 30 = .ok (.istore_n 1, 1) := by decide +kernel
theorem dX10_wrongAt_31 : decode cX10_wrongAt 31 = .ok (.aload_n 0, 1) := by decide +kernel
theorem dX10_wrongAt_32 : decode cX10_wrongAt 32 = .ok (.dup, 1) := by decide +kernel
theorem dX10_wrongAt_33 : decode cX10_wrongAt 33 = .ok (.getfield 105, 3) := by decide +kernel
theorem dX10_wrongAt_36 : decode cX10_wrongAt 36 = .ok (.iconst 1, 1) := by decide +kernel
theorem dX10_wrongAt_37 : decode cX10_wrongAt 37 = .ok (.iadd, 1) := by decide +kernel
theorem dX10_wrongAt_38 : decode cX10_wrongAt 38 = .ok (.putfield 105, 3) := by decide +kernel
theorem dX10_wrongAt_41 : decode cX10_wrongAt 41 = .ok (.iload_n 1, 1) := by decide +kernel
theorem dX10_wrongAt_42 : decode cX10_wrongAt 42 = .ok (.bipush 123, 2) := by decide +kernel
theorem dX10_wrongAt_44 : decode cX10_wrongAt 44 = .ok (.if_icmp .eq 13, 3) := by decide +kernel
theorem dX10_wrongAt_47 : decode cX10_wrongAt 47 = .ok (.aload_n 0, 1) := by decide +kernel
theorem dX10_wrongAt_48 : decode cX10_wrongAt 48 = .ok (.iload_n 1, 1) := by decide +kernel
theorem dX10_wrongAt_49 : decode cX10_wrongAt 49 = .ok (.bipush (-2), 2) := by decide +kernel
theorem dX10_wrongAt_51 : decode cX10_wrongAt 51 = .ok (.invokevirtual 120, 3) := by decide +kernel
theorem dX10_wrongAt_54 : decode cX10_wrongAt 54 = .ok (.goto 15, 3) := by decide +kernel
theorem dX10_wrongAt_57 : decode cX10_wrongAt 57 = .ok (.aload_n 0, 1) := by decide +kernel
theorem dX10_wrongAt_58 : decode cX10_wrongAt 58 = .ok (.invokevirtual 124, 3) := by decide +kernel
theorem dX10_wrongAt_61 : decode cX10_wrongAt 61 = .ok (.ifCond .ne 8, 3) := by decide +kernel
theorem dX10_wrongAt_64 : decode cX10_wrongAt 64 = .ok (.aload_n 0, 1) := by decide +kernel
theorem dX10_wrongAt_65 : decode cX10_wrongAt 65 = .ok (.getfield 105, 3) := by decide +kernel
theorem dX10_wrongAt_68 : decode cX10_wrongAt 68 = .ok (.ireturn, 1) := by decide +kernel
theorem dX10_wrongAt_69 : decode cX10_wrongAt 69 = .ok (.goto (-54), 3) := by decide +kernel
theorem dX10_wrongAt_72 : decode cX10_wrongAt 72 = .ok (.aload_n 0, 1) := by decide +kernel
theorem dX10_wrongAt_73 : decode cX10_wrongAt 73 = .ok (.getfield 114, 3) := by decide +kernel
theorem dX10_wrongAt_76 : decode cX10_wrongAt 76 = .ok (.ireturn, 1) := by decide +kernel
theorem dX10_lineAt_0 : decode cX10_lineAt 0 = .ok (.bipush 100, 2) := by decide +kernel
theorem dX10_lineAt_2 : decode cX10_lineAt 2 = .ok (.sipush 166, 3) := by decide +kernel
theorem dX10_lineAt_5 : decode cX10_lineAt 5 = .ok (.iload_n 0, 1) := by decide +kernel
theorem dX10_lineAt_6 : decode cX10_lineAt 6 = .ok (.imul, 1) := by decide +kernel
theorem dX10_lineAt_7 : decode cX10_lineAt 7 = .ok (.iadd, 1) := by decide +kernel
theorem dX10_lineAt_8 : decode cX10_lineAt 8 = .ok (.ireturn, 1) := by decide +kernel
theorem dX10_isLine_0 : decode cX10_isLine 0 = .ok (.iload_n 1, 1) := by decide +kernel
theorem dX10_isLine_1 : decode cX10_isLine 1 = .ok (.iconst 0, 1) := by decide +kernel
theorem dX10_isLine_2 : decode cX10_isLine 2 = .ok (.aload_n 0, 1) := by decide +kernel
theorem dX10_isLine_3 : decode cX10_isLine 3 = .ok (.getfield 7, 3) := by decide +kernel
theorem dX10_isLine_6 : decode cX10_isLine 6 = .ok (.iconst 1, 1) := by decide +kernel
theorem dX10_isLine_7 : decode cX10_isLine 7 = .ok (.iaload, 1) := by decide +kernel
theorem dX10_isLine_8 : decode cX10_isLine 8 = .ok (.iconst 1, 1) := by decide +kernel
theorem dX10_isLine_9 : decode cX10_isLine 9 = .ok (.isub, 1) := by decide +kernel
theorem dX10_isLine_10 : decode cX10_isLine 10 = .ok (.invokestatic 60, 3) := by decide +kernel
theorem dX10_isLine_13 : decode cX10_isLine 13 = .ok (.ireturn, 1) := by decide +kernel
theorem dX10_line_0 : decode cX10_line 0 = .ok (.iload_n 1, 1) := by decide +kernel
theorem dX10_line_1 : decode cX10_line 1 = .ok (.iconst 0, 1) := by decide +kernel
theorem dX10_line_2 : decode cX10_line 2 = .ok (.ldc 128, 2) := by decide +kernel
theorem dX10_line_4 : decode cX10_line 4 = .ok (.invokestatic 60, 3) := by decide +kernel
theorem dX10_line_7 : decode cX10_line 7 = .ok (.ifCond .eq 22, 3) := by decide +kernel
theorem dX10_line_10 : decode cX10_line 10 = .ok (.iload_n 2, 1) := by decide +kernel
theorem dX10_line_11 : decode cX10_line 11 = .ok (.iload_n 1, 1) := by decide +kernel
theorem dX10_line_12 : decode cX10_line 12 = .ok (.if_icmp .le 17, 3) := by decide +kernel
theorem dX10_line_15 : decode cX10_line 15 = .ok (.iload_n 2, 1) := by decide +kernel
theorem dX10_line_16 : decode cX10_line 16 = .ok (.ldc 129, 2) := by decide +kernel
theorem dX10_line_18 : decode cX10_line 18 = .ok (.if_icmp .gt 11, 3) := by decide +kernel
theorem dX10_line_21 : decode cX10_line 21 = .ok (.aload_n 0, 1) := by decide +kernel
theorem dX10_line_22 : decode cX10_line 22 = .ok (.iload_n 3, 1) := by decide +kernel
theorem dX10_line_23 : decode cX10_line 23 = .ok (.invokevirtual 68, 3) := by decide +kernel
theorem dX10_line_26 : decode cX10_line 26 = .ok (.ifCond .ne 5, 3) := by decide +kernel
theorem dX10_line_29 : decode cX10_line 29 = .ok (.iconst (-1), 1) := by decide +kernel
theorem dX10_line_30 : decode cX10_line 30 = .ok (.ireturn, 1) := by decide +kernel
theorem dX10_line_31 : decode cX10_line 31 = .ok (.aload_n 0, 1) := by decide +kernel
theorem dX10_line_32 : decode cX10_line 32 = .ok (.getfield 7, 3) := by decide +kernel
theorem dX10_line_35 : decode cX10_line 35 = .ok (.iconst 1, 1) := by decide +kernel
theorem dX10_line_36 : decode cX10_line 36 = .ok (.iaload, 1) := by decide +kernel
theorem dX10_line_37 : decode cX10_line 37 = .ok (.bipush 16, 2) := by decide +kernel
theorem dX10_line_39 : decode cX10_line 39 = .ok (.if_icmp .ne 6, 3) := by decide +kernel
theorem dX10_line_42 : decode cX10_line 42 = .ok (.bipush (-3), 2) := by decide +kernel
theorem dX10_line_44 : decode cX10_line 44 = .ok (.ireturn, 1) := by decide +kernel
theorem dX10_line_45 : decode cX10_line 45 = .ok (.aload_n 0, 1) := by decide +kernel
theorem dX10_line_46 : decode cX10_line 46 = .ok (.invokevirtual 130, 3) := by decide +kernel
theorem dX10_line_49 : decode cX10_line 49 = .ok (.istore 4, 2) := by decide +kernel
theorem dX10_line_51 : decode cX10_line 51 = .ok (.iload 4, 2) := by decide +kernel
theorem dX10_line_53 : decode cX10_line 53 = .ok (.ifCond .lt 9, 3) := by decide +kernel
theorem dX10_line_56 : decode cX10_line 56 = .ok (.bipush (-100), 2) := by decide +kernel
theorem dX10_line_58 : decode cX10_line 58 = .ok (.iload 4, 2) := by decide +kernel
theorem dX10_line_60 : decode cX10_line 60 = .ok (.isub, 1) := by decide +kernel
theorem dX10_line_61 : decode cX10_line 61 = .ok (.ireturn, 1) := by decide +kernel
theorem dX10_line_62 : decode cX10_line 62 = .ok (.aload_n 0, 1) := by decide +kernel
theorem dX10_line_63 : decode cX10_line 63 = .ok (.invokevirtual 57, 3) := by decide +kernel
theorem dX10_line_66 : decode cX10_line 66 = .ok (.aload_n 0, 1) := by decide +kernel
theorem dX10_line_67 : decode cX10_line 67 = .ok (.getfield 7, 3) := by decide +kernel
theorem dX10_line_70 : decode cX10_line 70 = .ok (.iconst 1, 1) := by decide +kernel
theorem dX10_line_71 : decode cX10_line 71 = .ok (.iaload, 1) := by decide +kernel
theorem dX10_line_72 : decode cX10_line 72 = .ok (.invokestatic 83, 3) := by decide +kernel
theorem dX10_line_75 : decode cX10_line 75 = .ok (.istore 5, 2) := by decide +kernel
theorem dX10_line_77 : decode cX10_line 77 = .ok (.aload_n 0, 1) := by decide +kernel
theorem dX10_line_78 : decode cX10_line 78 = .ok (.getfield 7, 3) := by decide +kernel
theorem dX10_line_81 : decode cX10_line 81 = .ok (.iload 5, 2) := by decide +kernel
theorem dX10_line_83 : decode cX10_line 83 = .ok (.iconst 0, 1) := by decide +kernel
theorem dX10_line_84 : decode cX10_line 84 = .ok (.iadd, 1) := by decide +kernel
theorem dX10_line_85 : decode cX10_line 85 = .ok (.iload_n 1, 1) := by decide +kernel
theorem dX10_line_86 : decode cX10_line 86 = .ok (.iastore, 1) := by decide +kernel
theorem dX10_line_87 : decode cX10_line 87 = .ok (.aload_n 0, 1) := by decide +kernel
theorem dX10_line_88 : decode cX10_line 88 = .ok (.getfield 7, 3) := by decide +kernel
theorem dX10_line_91 : decode cX10_line 91 = .ok (.iload 5, 2) := by decide +kernel
theorem dX10_line_93 : decode cX10_line 93 = .ok (.iconst 1, 1) := by decide +kernel
theorem dX10_line_94 : decode cX10_line 94 = .ok (.iadd, 1) := by decide +kernel
theorem dX10_line_95 : decode cX10_line 95 = .ok (.iload_n 2, 1) := by decide +kernel
theorem dX10_line_96 : decode cX10_line 96 = .ok (.iastore, 1) := by decide +kernel
theorem dX10_line_97 : decode cX10_line 97 = .ok (.aload_n 0, 1) := by decide +kernel
theorem dX10_line_98 : decode cX10_line 98 = .ok (.getfield 7, 3) := by decide +kernel
theorem dX10_line_101 : decode cX10_line 101 = .ok (.iload 5, 2) := by decide +kernel
theorem dX10_line_103 : decode cX10_line 103 = .ok (.iconst 2, 1) := by decide +kernel
theorem dX10_line_104 : decode cX10_line 104 = .ok (.iadd, 1) := by decide +kernel
theorem dX10_line_105 : decode cX10_line 105 = .ok (.iload_n 3, 1) := by decide +kernel
theorem dX10_line_106 : decode cX10_line 106 = .ok (.iastore, 1) := by decide +kernel
theorem dX10_line_107 : decode cX10_line 107 = .ok (.aload_n 0, 1) := by decide +kernel
theorem dX10_line_108 : decode cX10_line 108 = .ok (.getfield 7, 3) := by decide +kernel
theorem dX10_line_111 : decode cX10_line 111 = .ok (.iload 5, 2) := by decide +kernel
theorem dX10_line_113 : decode cX10_line 113 = .ok (.iconst 3, 1) := by decide +kernel
theorem dX10_line_114 : decode cX10_line 114 = .ok (.iadd, 1) := by decide +kernel
theorem dX10_line_115 : decode cX10_line 115 = .ok (.iconst (-1), 1) := by decide +kernel
theorem dX10_line_116 : decode cX10_line 116 = .ok (.iastore, 1) := by decide +kernel
theorem dX10_line_117 : decode cX10_line 117 = .ok (.aload_n 0, 1) := by decide +kernel
theorem dX10_line_118 : decode cX10_line 118 = .ok (.getfield 7, 3) := by decide +kernel
theorem dX10_line_121 : decode cX10_line 121 = .ok (.iload 5, 2) := by decide +kernel
theorem dX10_line_123 : decode cX10_line 123 = .ok (.iconst 4, 1) := by decide +kernel
theorem dX10_line_124 : decode cX10_line 124 = .ok (.iadd, 1) := by decide +kernel
theorem dX10_line_125 : decode cX10_line 125 = .ok (.aload_n 0, 1) := by decide +kernel
theorem dX10_line_126 : decode cX10_line 126 = .ok (.getfield 108, 3) := by decide +kernel
theorem dX10_line_129 : decode cX10_line 129 = .ok (.iastore, 1) := by decide +kernel
theorem dX10_line_130 : decode cX10_line 130 = .ok (.iconst 0, 1) := by decide +kernel
theorem dX10_line_131 : decode cX10_line 131 = .ok (.istore 6, 2) := by decide +kernel
theorem dX10_line_133 : decode cX10_line 133 = .ok (.iload 6, 2) := by decide +kernel
theorem dX10_line_135 : decode cX10_line 135 = .ok (.iconst 2, 1) := by decide +kernel
theorem dX10_line_136 : decode cX10_line 136 = .ok (.aload_n 0, 1) := by decide +kernel
theorem dX10_line_137 : decode cX10_line 137 = .ok (.getfield 108, 3) := by decide +kernel
theorem dX10_line_140 : decode cX10_line 140 = .ok (.imul, 1) := by decide +kernel
theorem dX10_line_141 : decode cX10_line 141 = .ok (.if_icmp .ge 28, 3) := by decide +kernel
theorem dX10_line_144 : decode cX10_line 144 = .ok (.aload_n 0, 1) := by decide +kernel
theorem dX10_line_145 : decode cX10_line 145 = .ok (.getfield 7, 3) := by decide +kernel
theorem dX10_line_148 : decode cX10_line 148 = .ok (.iload 5, 2) := by decide +kernel
theorem dX10_line_150 : decode cX10_line 150 = .ok (.iconst 5, 1) := by decide +kernel
theorem dX10_line_151 : decode cX10_line 151 = .ok (.iadd, 1) := by decide +kernel
theorem dX10_line_152 : decode cX10_line 152 = .ok (.iload 6, 2) := by decide +kernel
theorem dX10_line_154 : decode cX10_line 154 = .ok (.iadd, 1) := by decide +kernel
theorem dX10_line_155 : decode cX10_line 155 = .ok (.aload_n 0, 1) := by decide +kernel
theorem dX10_line_156 : decode cX10_line 156 = .ok (.getfield 22, 3) := by decide +kernel
theorem dX10_line_159 : decode cX10_line 159 = .ok (.iload 6, 2) := by decide +kernel
theorem dX10_line_161 : decode cX10_line 161 = .ok (.iaload, 1) := by decide +kernel
theorem dX10_line_162 : decode cX10_line 162 = .ok (.iastore, 1) := by decide +kernel
theorem dX10_line_163 : decode cX10_line 163 = .ok (.iinc 6 1, 3) := by decide +kernel
theorem dX10_line_166 : decode cX10_line 166 = .ok (.goto (-33), 3) := by decide +kernel
theorem dX10_line_169 : decode cX10_line 169 = .ok (.aload_n 0, 1) := by decide +kernel
theorem dX10_line_170 : decode cX10_line 170 = .ok (.getfield 7, 3) := by decide +kernel
theorem dX10_line_173 : decode cX10_line 173 = .ok (.iconst 1, 1) := by decide +kernel
theorem dX10_line_174 : decode cX10_line 174 = .ok (.dup2, 1) := by decide +kernel
theorem dX10_line_175 : decode cX10_line 175 = .ok (.iaload, 1) := by decide +kernel
theorem dX10_line_176 : decode cX10_line 176 = .ok (.iconst 1, 1) := by decide +kernel
theorem dX10_line_177 : decode cX10_line 177 = .ok (.iadd, 1) := by decide +kernel
theorem dX10_line_178 : decode cX10_line 178 = .ok (.iastore, 1) := by decide +kernel
theorem dX10_line_179 : decode cX10_line 179 = .ok (.aload_n 0, 1) := by decide +kernel
theorem dX10_line_180 : decode cX10_line 180 = .ok (.iconst 0, 1) := by decide +kernel
theorem dX10_line_181 : decode cX10_line 181 = .ok (.putfield 102, 3) := by decide +kernel
theorem dX10_line_184 : decode cX10_line 184 = .ok (.aload_n 0, 1) := by decide +kernel
theorem dX10_line_185 : decode cX10_line 185 = .ok (.getfield 7, 3) := by decide +kernel
theorem dX10_line_188 : decode cX10_line 188 = .ok (.iconst 1, 1) := by decide +kernel
theorem dX10_line_189 : decode cX10_line 189 = .ok (.iaload, 1) := by decide +kernel
theorem dX10_line_190 : decode cX10_line 190 = .ok (.iconst 1, 1) := by decide +kernel
theorem dX10_line_191 : decode cX10_line 191 = .ok (.isub, 1) := by decide +kernel
theorem dX10_line_192 : decode cX10_line 192 = .ok (.ireturn, 1) := by decide +kernel
theorem dX10_remove_0 : decode cX10_remove 0 = .ok (.aload_n 0, 1) := by decide +kernel
theorem dX10_remove_1 : decode cX10_remove 1 = .ok (.iload_n 1, 1) := by decide +kernel
theorem dX10_remove_2 : decode cX10_remove 2 = .ok (.invokevirtual 133, 3) := by decide +kernel
theorem dX10_remove_5 : decode cX10_remove 5 = .ok (.ifCond .ne 5, 3) := by decide +kernel
theorem dX10_remove_8 : decode cX10_remove 8 = .ok (.iconst (-1), 1) := by decide +kernel
theorem dX10_remove_9 : decode cX10_remove 9 = .ok (.ireturn, 1) := by decide +kernel
theorem dX10_remove_10 : decode cX10_remove 10 = .ok (.aload_n 0, 1) := by decide +kernel
theorem dX10_remove_11 : decode cX10_remove 11 = .ok (.invokevirtual 57, 3) := by decide +kernel
theorem dX10_remove_14 : decode cX10_remove 14 = .ok (.aload_n 0, 1) := by decide +kernel
theorem dX10_remove_15 : decode cX10_remove 15 = .ok (.getfield 7, 3) := by decide +kernel
theorem dX10_remove_18 : decode cX10_remove 18 = .ok (.iconst 1, 1) := by decide +kernel
theorem dX10_remove_19 : decode cX10_remove 19 = .ok (.dup2, 1) := by decide +kernel
theorem dX10_remove_20 : decode cX10_remove 20 = .ok (.iaload, 1) := by decide +kernel
theorem dX10_remove_21 : decode cX10_remove 21 = .ok (.iconst 1, 1) := by decide +kernel
theorem dX10_remove_22 : decode cX10_remove 22 = .ok (.isub, 1) := by decide +kernel
theorem dX10_remove_23 : decode cX10_remove 23 = .ok (.iastore, 1) := by decide +kernel
theorem dX10_remove_24 : decode cX10_remove 24 = .ok (.iload_n 1, 1) := by decide +kernel
theorem dX10_remove_25 : decode cX10_remove 25 = .ok (.invokestatic 83, 3) := by decide +kernel
theorem dX10_remove_28 : decode cX10_remove 28 = .ok (.istore_n 2, 1) := by decide +kernel
theorem dX10_remove_29 : decode cX10_remove 29 = .ok (.iload_n 2, 1) := by decide +kernel
theorem dX10_remove_30 : decode cX10_remove 30 = .ok (.aload_n 0, 1) := by decide +kernel
theorem dX10_remove_31 : decode cX10_remove 31 = .ok (.getfield 7, 3) := by decide +kernel
theorem dX10_remove_34 : decode cX10_remove 34 = .ok (.iconst 1, 1) := by decide +kernel
theorem dX10_remove_35 : decode cX10_remove 35 = .ok (.iaload, 1) := by decide +kernel
theorem dX10_remove_36 : decode cX10_remove 36 = .ok (.invokestatic 83, 3) := by decide +kernel
theorem dX10_remove_39 : decode cX10_remove 39 = .ok (.if_icmp .ge 25, 3) := by decide +kernel
theorem dX10_remove_42 : decode cX10_remove 42 = .ok (.aload_n 0, 1) := by decide +kernel
theorem dX10_remove_43 : decode cX10_remove 43 = .ok (.getfield 7, 3) := by decide +kernel
theorem dX10_remove_46 : decode cX10_remove 46 = .ok (.iload_n 2, 1) := by decide +kernel
theorem dX10_remove_47 : decode cX10_remove 47 = .ok (.aload_n 0, 1) := by decide +kernel
theorem dX10_remove_48 : decode cX10_remove 48 = .ok (.getfield 7, 3) := by decide +kernel
theorem dX10_remove_51 : decode cX10_remove 51 = .ok (.iload_n 2, 1) := by decide +kernel
theorem dX10_remove_52 : decode cX10_remove 52 = .ok (.sipush 166, 3) := by decide +kernel
theorem dX10_remove_55 : decode cX10_remove 55 = .ok (.iadd, 1) := by decide +kernel
theorem dX10_remove_56 : decode cX10_remove 56 = .ok (.iaload, 1) := by decide +kernel
theorem dX10_remove_57 : decode cX10_remove 57 = .ok (.iastore, 1) := by decide +kernel
theorem dX10_remove_58 : decode cX10_remove 58 = .ok (.iinc 2 1, 3) := by decide +kernel
theorem dX10_remove_61 : decode cX10_remove 61 = .ok (.goto (-32), 3) := by decide +kernel
theorem dX10_remove_64 : decode cX10_remove 64 = .ok (.aload_n 0, 1) := by decide +kernel
theorem dX10_remove_65 : decode cX10_remove 65 = .ok (.getfield 7, 3) := by decide +kernel
theorem dX10_remove_68 : decode cX10_remove 68 = .ok (.iconst 1, 1) := by decide +kernel
theorem dX10_remove_69 : decode cX10_remove 69 = .ok (.iaload, 1) := by decide +kernel
theorem dX10_remove_70 : decode cX10_remove 70 = .ok (.ireturn, 1) := by decide +kernel
theorem dX10_change_0 : decode cX10_change 0 = .ok (.iload_n 2, 1) := by decide +kernel
theorem dX10_change_1 : decode cX10_change 1 = .ok (.ifCond .ne 11, 3) := by decide +kernel
theorem dX10_change_4 : decode cX10_change 4 = .ok (.aload_n 0, 1) := by decide +kernel
theorem dX10_change_5 : decode cX10_change 5 = .ok (.iload_n 3, 1) := by decide +kernel
theorem dX10_change_6 : decode cX10_change 6 = .ok (.invokevirtual 68, 3) := by decide +kernel
theorem dX10_change_9 : decode cX10_change 9 = .ok (.goto 24, 3) := by decide +kernel
theorem dX10_change_12 : decode cX10_change 12 = .ok (.iload_n 2, 1) := by decide +kernel
theorem dX10_change_13 : decode cX10_change 13 = .ok (.iconst 1, 1) := by decide +kernel
theorem dX10_change_14 : decode cX10_change 14 = .ok (.if_icmp .ne 18, 3) := by decide +kernel
theorem dX10_change_17 : decode cX10_change 17 = .ok (.iload_n 3, 1) := by decide +kernel
theorem dX10_change_18 : decode cX10_change 18 = .ok (.iconst (-1), 1) := by decide +kernel
theorem dX10_change_19 : decode cX10_change 19 = .ok (.sipush 200, 3) := by decide +kernel
theorem dX10_change_22 : decode cX10_change 22 = .ok (.invokestatic 60, 3) := by decide +kernel
theorem dX10_change_25 : decode cX10_change 25 = .ok (.ifCond .eq 7, 3) := by decide +kernel
theorem dX10_change_28 : decode cX10_change 28 = .ok (.iconst 1, 1) := by decide +kernel
theorem dX10_change_29 : decode cX10_change 29 = .ok (.goto 4, 3) := by decide +kernel
theorem dX10_change_32 : decode cX10_change 32 = .ok (.iconst 0, 1) := by decide +kernel
theorem dX10_change_33 : decode cX10_change 33 = .ok (.istore 4, 2) := by decide +kernel
theorem dX10_change_35 : decode cX10_change 35 = .ok (.aload_n 0, 1) := by decide +kernel
theorem dX10_change_36 : decode cX10_change 36 = .ok (.iload_n 1, 1) := by decide +kernel
theorem dX10_change_37 : decode cX10_change 37 = .ok (.invokevirtual 133, 3) := by decide +kernel
theorem dX10_change_40 : decode cX10_change 40 = .ok (.ifCond .eq 24, 3) := by decide +kernel
theorem dX10_change_43 : decode cX10_change 43 = .ok (.iload 4, 2) := by decide +kernel
theorem dX10_change_45 : decode cX10_change 45 = .ok (.ifCond .eq 19, 3) := by decide +kernel
theorem dX10_change_48 : decode cX10_change 48 = .ok (.aload_n 0, 1) := by decide +kernel
theorem dX10_change_49 : decode cX10_change 49 = .ok (.iload_n 1, 1) := by decide +kernel
theorem dX10_change_50 : decode cX10_change 50 = .ok (.invokestatic 83, 3) := by decide +kernel
theorem dX10_change_53 : decode cX10_change 53 = .ok (.iconst 2, 1) := by decide +kernel
theorem dX10_change_54 : decode cX10_change 54 = .ok (.iadd, 1) := by decide +kernel
theorem dX10_change_55 : decode cX10_change 55 = .ok (.iload_n 2, 1) := by decide +kernel
theorem dX10_change_56 : decode cX10_change 56 = .ok (.iadd, 1) := by decide +kernel
theorem dX10_change_57 : decode cX10_change 57 = .ok (.iload_n 3, 1) := by decide +kernel
theorem dX10_change_58 : decode cX10_change 58 = .ok (.invokevirtual 75, 3) := by decide +kernel
theorem dX10_change_61 : decode cX10_change 61 = .ok (.goto 4, 3) := by decide +kernel
theorem dX10_change_64 : decode cX10_change 64 = .ok (.iconst (-1), 1) := by decide +kernel
theorem dX10_change_65 : decode cX10_change 65 = .ok (.ireturn, 1) := by decide +kernel
theorem dX10_shift_0 : decode cX10_shift 0 = .ok (.aload_n 0, 1) := by decide +kernel
theorem dX10_shift_1 : decode cX10_shift 1 = .ok (.iload_n 1, 1) := by decide +kernel
theorem dX10_shift_2 : decode cX10_shift 2 = .ok (.invokevirtual 133, 3) := by decide +kernel
theorem dX10_shift_5 : decode cX10_shift 5 = .ok (.ifCond .eq 14, 3) := by decide +kernel
theorem dX10_shift_8 : decode cX10_shift 8 = .ok (.iload_n 2, 1) := by decide +kernel
theorem dX10_shift_9 : decode cX10_shift 9 = .ok (.ldc 136, 2) := by decide +kernel
theorem dX10_shift_11 : decode cX10_shift 11 = .ok (.ldc 129, 2) := by decide +kernel
theorem dX10_shift_13 : decode cX10_shift 13 = .ok (.invokestatic 60, 3) := by decide +kernel
theorem dX10_shift_16 : decode cX10_shift 16 = .ok (.ifCond .ne 5, 3) := by decide +kernel
theorem dX10_shift_19 : decode cX10_shift 19 = .ok (.iconst (-1), 1) := by decide +kernel
theorem dX10_shift_20 : decode cX10_shift 20 = .ok (.ireturn, 1) := by decide +kernel
theorem dX10_shift_21 : decode cX10_shift 21 = .ok (.iload_n 1, 1) := by decide +kernel
theorem dX10_shift_22 : decode cX10_shift 22 = .ok (.invokestatic 83, 3) := by decide +kernel
theorem dX10_shift_25 : decode cX10_shift 25 = .ok (.istore_n 3, 1) := by decide +kernel
theorem dX10_shift_26 : decode cX10_shift 26 = .ok (.aload_n 0, 1) := by decide +kernel
theorem dX10_shift_27 : decode cX10_shift 27 = .ok (.getfield 7, 3) := by decide +kernel
theorem dX10_shift_30 : decode cX10_shift 30 = .ok (.iload_n 3, 1) := by decide +kernel
theorem dX10_shift_31 : decode cX10_shift 31 = .ok (.iconst 0, 1) := by decide +kernel
theorem dX10_shift_32 : decode cX10_shift 32 = .ok (.iadd, 1) := by decide +kernel
theorem dX10_shift_33 : decode cX10_shift 33 = .ok (.iaload, 1) := by decide +kernel
theorem dX10_shift_34 : decode cX10_shift 34 = .ok (.iload_n 2, 1) := by decide +kernel
theorem dX10_shift_35 : decode cX10_shift 35 = .ok (.iadd, 1) := by decide +kernel
theorem dX10_shift_36 : decode cX10_shift 36 = .ok (.ifCond .lt 18, 3) := by decide +kernel
theorem dX10_shift_39 : decode cX10_shift 39 = .ok (.aload_n 0, 1) := by decide +kernel
theorem dX10_shift_40 : decode cX10_shift 40 = .ok (.getfield 7, 3) := by decide +kernel
theorem dX10_shift_43 : decode cX10_shift 43 = .ok (.iload_n 3, 1) := by decide +kernel
theorem dX10_shift_44 : decode cX10_shift 44 = .ok (.iconst 1, 1) := by decide +kernel
theorem dX10_shift_45 : decode cX10_shift 45 = .ok (.iadd, 1) := by decide +kernel
theorem dX10_shift_46 : decode cX10_shift 46 = .ok (.iaload, 1) := by decide +kernel
theorem dX10_shift_47 : decode cX10_shift 47 = .ok (.iload_n 2, 1) := by decide +kernel
theorem dX10_shift_48 : decode cX10_shift 48 = .ok (.iadd, 1) := by decide +kernel
theorem dX10_shift_49 : decode cX10_shift 49 = .ok (.ldc 129, 2) := by decide +kernel
theorem dX10_shift_51 : decode cX10_shift 51 = .ok (.if_icmp .le 6, 3) := by decide +kernel
theorem dX10_shift_54 : decode cX10_shift 54 = .ok (.bipush (-2), 2) := by decide +kernel
theorem dX10_shift_56 : decode cX10_shift 56 = .ok (.ireturn, 1) := by decide +kernel
theorem dX10_shift_57 : decode cX10_shift 57 = .ok (.aload_n 0, 1) := by decide +kernel
theorem dX10_shift_58 : decode cX10_shift 58 = .ok (.invokevirtual 57, 3) := by decide +kernel
theorem dX10_shift_61 : decode cX10_shift 61 = .ok (.aload_n 0, 1) := by decide +kernel
theorem dX10_shift_62 : decode cX10_shift 62 = .ok (.getfield 7, 3) := by decide +kernel
theorem dX10_shift_65 : decode cX10_shift 65 = .ok (.iload_n 3, 1) := by decide +kernel
theorem dX10_shift_66 : decode cX10_shift 66 = .ok (.iconst 0, 1) := by decide +kernel
theorem dX10_shift_67 : decode cX10_shift 67 = .ok (.iadd, 1) := by decide +kernel
theorem dX10_shift_68 : decode cX10_shift 68 = .ok (.dup2, 1) := by decide +kernel
theorem dX10_shift_69 : decode cX10_shift 69 = .ok (.iaload, 1) := by decide +kernel
theorem dX10_shift_70 : decode cX10_shift 70 = .ok (.iload_n 2, 1) := by decide +kernel
theorem dX10_shift_71 : decode cX10_shift 71 = .ok (.iadd, 1) := by decide +kernel
theorem dX10_shift_72 : decode cX10_shift 72 = .ok (.iastore, 1) := by decide +kernel
theorem dX10_shift_73 : decode cX10_shift 73 = .ok (.aload_n 0, 1) := by decide +kernel
theorem dX10_shift_74 : decode cX10_shift 74 = .ok (.getfield 7, 3) := by decide +kernel
theorem dX10_shift_77 : decode cX10_shift 77 = .ok (.iload_n 3, 1) := by decide +kernel
theorem dX10_shift_78 : decode cX10_shift 78 = .ok (.iconst 1, 1) := by decide +kernel
theorem dX10_shift_79 : decode cX10_shift 79 = .ok (.iadd, 1) := by decide +kernel
theorem dX10_shift_80 : decode cX10_shift 80 = .ok (.dup2, 1) := by decide +kernel
theorem dX10_shift_81 : decode cX10_shift 81 = .ok (.iaload, 1) := by decide +kernel
theorem dX10_shift_82 : decode cX10_shift 82 = .ok (.iload_n 2, 1) := by decide +kernel
theorem dX10_shift_83 : decode cX10_shift 83 = .ok (.iadd, 1) := by decide +kernel
theorem dX10_shift_84 : decode cX10_shift 84 = .ok (.iastore, 1) := by decide +kernel
theorem dX10_shift_85 : decode cX10_shift 85 = .ok (.aload_n 0, 1) := by decide +kernel
theorem dX10_shift_86 : decode cX10_shift 86 = .ok (.getfield 7, 3) := by decide +kernel
theorem dX10_shift_89 : decode cX10_shift 89 = .ok (.iload_n 3, 1) := by decide +kernel
theorem dX10_shift_90 : decode cX10_shift 90 = .ok (.iconst 0, 1) := by decide +kernel
theorem dX10_shift_91 : decode cX10_shift 91 = .ok (.iadd, 1) := by decide +kernel
theorem dX10_shift_92 : decode cX10_shift 92 = .ok (.iaload, 1) := by decide +kernel
theorem dX10_shift_93 : decode cX10_shift 93 = .ok (.ireturn, 1) := by decide +kernel
theorem dX10_setHeight_0 : decode cX10_setHeight 0 = .ok (.iload_n 1, 1) := by decide +kernel
theorem dX10_setHeight_1 : decode cX10_setHeight 1 = .ok (.bipush 50, 2) := by decide +kernel
theorem dX10_setHeight_3 : decode cX10_setHeight 3 = .ok (.sipush 2000, 3) := by decide +kernel
theorem dX10_setHeight_6 : decode cX10_setHeight 6 = .ok (.invokestatic 60, 3) := by decide +kernel
theorem dX10_setHeight_9 : decode cX10_setHeight 9 = .ok (.ifCond .eq 12, 3) := by decide +kernel
theorem dX10_setHeight_12 : decode cX10_setHeight 12 = .ok (.aload_n 0, 1) := by decide +kernel
theorem dX10_setHeight_13 : decode cX10_setHeight 13 = .ok (.iconst 2, 1) := by decide +kernel
theorem dX10_setHeight_14 : decode cX10_setHeight 14 = .ok (.iload_n 1, 1) := by decide +kernel
theorem dX10_setHeight_15 : decode cX10_setHeight 15 = .ok (.invokevirtual 75, 3) := by decide +kernel
theorem dX10_setHeight_18 : decode cX10_setHeight 18 = .ok (.goto 4, 3) := by decide +kernel
theorem dX10_setHeight_21 : decode cX10_setHeight 21 = .ok (.iconst (-1), 1) := by decide +kernel
theorem dX10_setHeight_22 : decode cX10_setHeight 22 = .ok (.ireturn, 1) := by decide +kernel
theorem dX10_restyles_0 : decode cX10_restyles 0 = .ok (.iconst 0, 1) := by decide +kernel
theorem dX10_restyles_1 : decode cX10_restyles 1 = .ok (.istore_n 2, 1) := by decide +kernel
theorem dX10_restyles_2 : decode cX10_restyles 2 = .ok (.iload_n 2, 1) := by decide +kernel
theorem dX10_restyles_3 : decode cX10_restyles 3 = .ok (.iconst 4, 1) := by decide +kernel
theorem dX10_restyles_4 : decode cX10_restyles 4 = .ok (.if_icmp .ge 21, 3) := by decide +kernel
theorem dX10_restyles_7 : decode cX10_restyles 7 = .ok (.aload_n 0, 1) := by decide +kernel
theorem dX10_restyles_8 : decode cX10_restyles 8 = .ok (.getfield 34, 3) := by decide +kernel
theorem dX10_restyles_11 : decode cX10_restyles 11 = .ok (.iload_n 2, 1) := by decide +kernel
theorem dX10_restyles_12 : decode cX10_restyles 12 = .ok (.aload_n 0, 1) := by decide +kernel
theorem dX10_restyles_13 : decode cX10_restyles 13 = .ok (.iload_n 1, 1) := by decide +kernel
theorem dX10_restyles_14 : decode cX10_restyles 14 = .ok (.iload_n 2, 1) := by decide +kernel
theorem dX10_restyles_15 : decode cX10_restyles 15 = .ok (.invokevirtual 92, 3) := by decide +kernel
theorem dX10_restyles_18 : decode cX10_restyles 18 = .ok (.iastore, 1) := by decide +kernel
theorem dX10_restyles_19 : decode cX10_restyles 19 = .ok (.iinc 2 1, 3) := by decide +kernel
theorem dX10_restyles_22 : decode cX10_restyles 22 = .ok (.goto (-20), 3) := by decide +kernel
theorem dX10_restyles_25 : decode cX10_restyles 25 = .ok (.return_, 1) := by decide +kernel
theorem dX10_tags_0 : decode cX10_tags 0 = .ok (.iload_n 2, 1) := by decide +kernel
theorem dX10_tags_1 : decode cX10_tags 1 = .ok (.lookupswitch 119 #[(98, 81), (99, 61), (114, 91), (115, 51), (116, 71)], 51) := by decide +kernel
theorem dX10_tags_52 : decode cX10_tags 52 = .ok (.aload_n 0, 1) := by decide +kernel
theorem dX10_tags_53 : decode cX10_tags 53 = .ok (.getfield 34, 3) := by decide +kernel
theorem dX10_tags_56 : decode cX10_tags 56 = .ok (.iconst 0, 1) := by decide +kernel
theorem dX10_tags_57 : decode cX10_tags 57 = .ok (.iload_n 3, 1) := by decide +kernel
theorem dX10_tags_58 : decode cX10_tags 58 = .ok (.iastore, 1) := by decide +kernel
theorem dX10_tags_59 : decode cX10_tags 59 = .ok (.goto 91, 3) := by decide +kernel
theorem dX10_tags_62 : decode cX10_tags 62 = .ok (.aload_n 0, 1) := by decide +kernel
theorem dX10_tags_63 : decode cX10_tags 63 = .ok (.getfield 34, 3) := by decide +kernel
theorem dX10_tags_66 : decode cX10_tags 66 = .ok (.iconst 1, 1) := by decide +kernel
theorem dX10_tags_67 : decode cX10_tags 67 = .ok (.iload_n 3, 1) := by decide +kernel
theorem dX10_tags_68 : decode cX10_tags 68 = .ok (.iastore, 1) := by decide +kernel
theorem dX10_tags_69 : decode cX10_tags 69 = .ok (.goto 81, 3) := by decide +kernel
theorem dX10_tags_72 : decode cX10_tags 72 = .ok (.aload_n 0, 1) := by decide +kernel
theorem dX10_tags_73 : decode cX10_tags 73 = .ok (.getfield 34, 3) := by decide +kernel
theorem dX10_tags_76 : decode cX10_tags 76 = .ok (.iconst 2, 1) := by decide +kernel
theorem dX10_tags_77 : decode cX10_tags 77 = .ok (.iload_n 3, 1) := by decide +kernel
theorem dX10_tags_78 : decode cX10_tags 78 = .ok (.iastore, 1) := by decide +kernel
theorem dX10_tags_79 : decode cX10_tags 79 = .ok (.goto 71, 3) := by decide +kernel
theorem dX10_tags_82 : decode cX10_tags 82 = .ok (.aload_n 0, 1) := by decide +kernel
theorem dX10_tags_83 : decode cX10_tags 83 = .ok (.getfield 34, 3) := by decide +kernel
theorem dX10_tags_86 : decode cX10_tags 86 = .ok (.iconst 3, 1) := by decide +kernel
theorem dX10_tags_87 : decode cX10_tags 87 = .ok (.iload_n 3, 1) := by decide +kernel
theorem dX10_tags_88 : decode cX10_tags 88 = .ok (.iastore, 1) := by decide +kernel
theorem dX10_tags_89 : decode cX10_tags 89 = .ok (.goto 61, 3) := by decide +kernel
theorem dX10_tags_92 : decode cX10_tags 92 = .ok (.aload_n 0, 1) := by decide +kernel
theorem dX10_tags_93 : decode cX10_tags 93 = .ok (.iload_n 3, 1) := by decide +kernel
theorem dX10_tags_94 : decode cX10_tags 94 = .ok (.ifCond .ge 7, 3) := by decide +kernel
theorem dX10_tags_97 : decode cX10_tags 97 = .ok (.iload_n 1, 1) := by decide +kernel
theorem dX10_tags_98 : decode cX10_tags 98 = .ok (.goto 16, 3) := by decide +kernel
theorem dX10_tags_101 : decode cX10_tags 101 = .ok (.aload_n 0, 1) := by decide +kernel
theorem dX10_tags_102 : decode cX10_tags 102 = .ok (.iload_n 3, 1) := by decide +kernel
theorem dX10_tags_103 : decode cX10_tags 103 = .ok (.invokevirtual 64, 3) := by decide +kernel
theorem dX10_tags_106 : decode cX10_tags 106 = .ok (.ifCond .eq 7, 3) := by decide +kernel
theorem dX10_tags_109 : decode cX10_tags 109 = .ok (.iload_n 3, 1) := by decide +kernel
theorem dX10_tags_110 : decode cX10_tags 110 = .ok (.goto 4, 3) := by decide +kernel
theorem dX10_tags_113 : decode cX10_tags 113 = .ok (.iconst (-1), 1) := by decide +kernel
theorem dX10_tags_114 : decode cX10_tags 114 = .ok (.invokevirtual 137, 3) := by decide +kernel
theorem dX10_tags_117 : decode cX10_tags 117 = .ok (.goto 33, 3) := by decide +kernel
theorem dX10_tags_120 : decode cX10_tags 120 = .ok (.aload_n 0, 1) := by decide +kernel
theorem dX10_tags_121 : decode cX10_tags 121 = .ok (.getfield 28, 3) := by decide +kernel
theorem dX10_tags_124 : decode cX10_tags 124 = .ok (.aload_n 0, 1) := by decide +kernel
theorem dX10_tags_125 : decode cX10_tags 125 = .ok (.getfield 141, 3) := by decide +kernel
theorem dX10_tags_128 : decode cX10_tags 128 = .ok (.iload_n 3, 1) := by decide +kernel
theorem dX10_tags_129 : decode cX10_tags 129 = .ok (.iastore, 1) := by decide +kernel
theorem dX10_tags_130 : decode cX10_tags 130 = .ok (.aload_n 0, 1) := by decide +kernel
theorem dX10_tags_131 : decode cX10_tags 131 = .ok (.getfield 31, 3) := by decide +kernel
theorem dX10_tags_134 : decode cX10_tags 134 = .ok (.aload_n 0, 1) := by decide +kernel
theorem dX10_tags_135 : decode cX10_tags 135 = .ok (.getfield 141, 3) := by decide +kernel
theorem dX10_tags_138 : decode cX10_tags 138 = .ok (.iconst 0, 1) := by decide +kernel
theorem dX10_tags_139 : decode cX10_tags 139 = .ok (.iastore, 1) := by decide +kernel
theorem dX10_tags_140 : decode cX10_tags 140 = .ok (.aload_n 0, 1) := by decide +kernel
theorem dX10_tags_141 : decode cX10_tags 141 = .ok (.dup, 1) := by decide +kernel
theorem dX10_tags_142 : decode cX10_tags 142 = .ok (.getfield 141, 3) := by decide +kernel
theorem dX10_tags_145 : decode cX10_tags 145 = .ok (.iconst 1, 1) := by decide +kernel
theorem dX10_tags_146 : decode cX10_tags 146 = .ok (.iadd, 1) := by decide +kernel
theorem dX10_tags_147 : decode cX10_tags 147 = .ok (.putfield 141, 3) := by decide +kernel
theorem dX10_tags_150 : decode cX10_tags 150 = .ok (.return_, 1) := by decide +kernel
theorem dX10_goes_0 : decode cX10_goes 0 = .ok (.iload_n 1, 1) := by decide +kernel
theorem dX10_goes_1 : decode cX10_goes 1 = .ok (.invokestatic 83, 3) := by decide +kernel
theorem dX10_goes_4 : decode cX10_goes 4 = .ok (.istore_n 2, 1) := by decide +kernel
theorem dX10_goes_5 : decode cX10_goes 5 = .ok (.aload_n 0, 1) := by decide +kernel
theorem dX10_goes_6 : decode cX10_goes 6 = .ok (.iconst 0, 1) := by decide +kernel
theorem dX10_goes_7 : decode cX10_goes 7 = .ok (.putfield 144, 3) := by decide +kernel
theorem dX10_goes_10 : decode cX10_goes 10 = .ok (.aload_n 0, 1) := by decide +kernel
theorem dX10_goes_11 : decode cX10_goes 11 = .ok (.iconst 0, 1) := by decide +kernel
theorem dX10_goes_12 : decode cX10_goes 12 = .ok (.putfield 141, 3) := by decide +kernel
theorem dX10_goes_15 : decode cX10_goes 15 = .ok (.aload_n 0, 1) := by decide +kernel
theorem dX10_goes_16 : decode cX10_goes 16 = .ok (.aload_n 0, 1) := by decide +kernel
theorem dX10_goes_17 : decode cX10_goes 17 = .ok (.getfield 7, 3) := by decide +kernel
theorem dX10_goes_20 : decode cX10_goes 20 = .ok (.iload_n 2, 1) := by decide +kernel
theorem dX10_goes_21 : decode cX10_goes 21 = .ok (.iconst 2, 1) := by decide +kernel
theorem dX10_goes_22 : decode cX10_goes 22 = .ok (.iadd, 1) := by decide +kernel
theorem dX10_goes_23 : decode cX10_goes 23 = .ok (.iaload, 1) := by decide +kernel
theorem dX10_goes_24 : decode cX10_goes 24 = .ok (.invokevirtual 137, 3) := by decide +kernel
theorem dX10_goes_27 : decode cX10_goes 27 = .ok (.iconst 0, 1) := by decide +kernel
theorem dX10_goes_28 : decode cX10_goes 28 = .ok (.istore_n 3, 1) := by decide +kernel
theorem dX10_goes_29 : decode cX10_goes 29 = .ok (.iload_n 3, 1) := by decide +kernel
theorem dX10_goes_30 : decode cX10_goes 30 = .ok (.aload_n 0, 1) := by decide +kernel
theorem dX10_goes_31 : decode cX10_goes 31 = .ok (.getfield 7, 3) := by decide +kernel
theorem dX10_goes_34 : decode cX10_goes 34 = .ok (.iload_n 2, 1) := by decide +kernel
theorem dX10_goes_35 : decode cX10_goes 35 = .ok (.iconst 4, 1) := by decide +kernel
theorem dX10_goes_36 : decode cX10_goes 36 = .ok (.iadd, 1) := by decide +kernel
theorem dX10_goes_37 : decode cX10_goes 37 = .ok (.iaload, 1) := by decide +kernel
theorem dX10_goes_38 : decode cX10_goes 38 = .ok (.if_icmp .ge 176, 3) := by decide +kernel
theorem dX10_goes_41 : decode cX10_goes 41 = .ok (.aload_n 0, 1) := by decide +kernel
theorem dX10_goes_42 : decode cX10_goes 42 = .ok (.getfield 7, 3) := by decide +kernel
theorem dX10_goes_45 : decode cX10_goes 45 = .ok (.iload_n 2, 1) := by decide +kernel
theorem dX10_goes_46 : decode cX10_goes 46 = .ok (.iconst 5, 1) := by decide +kernel
theorem dX10_goes_47 : decode cX10_goes 47 = .ok (.iadd, 1) := by decide +kernel
theorem dX10_goes_48 : decode cX10_goes 48 = .ok (.iconst 2, 1) := by decide +kernel
theorem dX10_goes_49 : decode cX10_goes 49 = .ok (.iload_n 3, 1) := by decide +kernel
theorem dX10_goes_50 : decode cX10_goes 50 = .ok (.imul, 1) := by decide +kernel
theorem dX10_goes_51 : decode cX10_goes 51 = .ok (.iadd, 1) := by decide +kernel
theorem dX10_goes_52 : decode cX10_goes 52 = .ok (.iaload, 1) := by decide +kernel
theorem dX10_goes_53 : decode cX10_goes 53 = .ok (.istore 4, 2) := by decide +kernel
theorem dX10_goes_55 : decode cX10_goes 55 = .ok (.aload_n 0, 1) := by decide +kernel
theorem dX10_goes_56 : decode cX10_goes 56 = .ok (.getfield 7, 3) := by decide +kernel
theorem dX10_goes_59 : decode cX10_goes 59 = .ok (.iload_n 2, 1) := by decide +kernel
theorem dX10_goes_60 : decode cX10_goes 60 = .ok (.iconst 5, 1) := by decide +kernel
theorem dX10_goes_61 : decode cX10_goes 61 = .ok (.iadd, 1) := by decide +kernel
theorem dX10_goes_62 : decode cX10_goes 62 = .ok (.iconst 2, 1) := by decide +kernel
theorem dX10_goes_63 : decode cX10_goes 63 = .ok (.iload_n 3, 1) := by decide +kernel
theorem dX10_goes_64 : decode cX10_goes 64 = .ok (.imul, 1) := by decide +kernel
theorem dX10_goes_65 : decode cX10_goes 65 = .ok (.iadd, 1) := by decide +kernel
theorem dX10_goes_66 : decode cX10_goes 66 = .ok (.iconst 1, 1) := by decide +kernel
theorem dX10_goes_67 : decode cX10_goes 67 = .ok (.iadd, 1) := by decide +kernel
theorem dX10_goes_68 : decode cX10_goes 68 = .ok (.iaload, 1) := by decide +kernel
theorem dX10_goes_69 : decode cX10_goes 69 = .ok (.istore 5, 2) := by decide +kernel
theorem dX10_goes_71 : decode cX10_goes 71 = .ok (.iload 5, 2) := by decide +kernel
theorem dX10_goes_73 : decode cX10_goes 73 = .ok (.bipush (-2), 2) := by decide +kernel
theorem dX10_goes_75 : decode cX10_goes 75 = .ok (.if_icmp .le 22, 3) := by decide +kernel
theorem dX10_goes_78 : decode cX10_goes 78 = .ok (.aload_n 0, 1) := by decide +kernel
theorem dX10_goes_79 : decode cX10_goes 79 = .ok (.aload_n 0, 1) := by decide +kernel
theorem dX10_goes_80 : decode cX10_goes 80 = .ok (.getfield 7, 3) := by decide +kernel
theorem dX10_goes_83 : decode cX10_goes 83 = .ok (.iload_n 2, 1) := by decide +kernel
theorem dX10_goes_84 : decode cX10_goes 84 = .ok (.iconst 2, 1) := by decide +kernel
theorem dX10_goes_85 : decode cX10_goes 85 = .ok (.iadd, 1) := by decide +kernel
theorem dX10_goes_86 : decode cX10_goes 86 = .ok (.iaload, 1) := by decide +kernel
theorem dX10_goes_87 : decode cX10_goes 87 = .ok (.iload 4, 2) := by decide +kernel
theorem dX10_goes_89 : decode cX10_goes 89 = .ok (.iload 5, 2) := by decide +kernel
theorem dX10_goes_91 : decode cX10_goes 91 = .ok (.invokevirtual 147, 3) := by decide +kernel
theorem dX10_goes_94 : decode cX10_goes 94 = .ok (.goto 114, 3) := by decide +kernel
theorem dX10_goes_97 : decode cX10_goes 97 = .ok (.bipush 6, 2) := by decide +kernel
theorem dX10_goes_99 : decode cX10_goes 99 = .ok (.aload_n 0, 1) := by decide +kernel
theorem dX10_goes_100 : decode cX10_goes 100 = .ok (.getfield 144, 3) := by decide +kernel
theorem dX10_goes_103 : decode cX10_goes 103 = .ok (.imul, 1) := by decide +kernel
theorem dX10_goes_104 : decode cX10_goes 104 = .ok (.istore 6, 2) := by decide +kernel
theorem dX10_goes_106 : decode cX10_goes 106 = .ok (.aload_n 0, 1) := by decide +kernel
theorem dX10_goes_107 : decode cX10_goes 107 = .ok (.getfield 25, 3) := by decide +kernel
theorem dX10_goes_110 : decode cX10_goes 110 = .ok (.iload 6, 2) := by decide +kernel
theorem dX10_goes_112 : decode cX10_goes 112 = .ok (.iload 4, 2) := by decide +kernel
theorem dX10_goes_114 : decode cX10_goes 114 = .ok (.iastore, 1) := by decide +kernel
theorem dX10_goes_115 : decode cX10_goes 115 = .ok (.iconst 0, 1) := by decide +kernel
theorem dX10_goes_116 : decode cX10_goes 116 = .ok (.istore 7, 2) := by decide +kernel
theorem dX10_goes_118 : decode cX10_goes 118 = .ok (.iload 7, 2) := by decide +kernel
theorem dX10_goes_120 : decode cX10_goes 120 = .ok (.iconst 4, 1) := by decide +kernel
theorem dX10_goes_121 : decode cX10_goes 121 = .ok (.if_icmp .ge 28, 3) := by decide +kernel
theorem dX10_goes_124 : decode cX10_goes 124 = .ok (.aload_n 0, 1) := by decide +kernel
theorem dX10_goes_125 : decode cX10_goes 125 = .ok (.getfield 25, 3) := by decide +kernel
theorem dX10_goes_128 : decode cX10_goes 128 = .ok (.iload 6, 2) := by decide +kernel
theorem dX10_goes_130 : decode cX10_goes 130 = .ok (.iconst 1, 1) := by decide +kernel
theorem dX10_goes_131 : decode cX10_goes 131 = .ok (.iadd, 1) := by decide +kernel
theorem dX10_goes_132 : decode cX10_goes 132 = .ok (.iload 7, 2) := by decide +kernel
theorem dX10_goes_134 : decode cX10_goes 134 = .ok (.iadd, 1) := by decide +kernel
theorem dX10_goes_135 : decode cX10_goes 135 = .ok (.aload_n 0, 1) := by decide +kernel
theorem dX10_goes_136 : decode cX10_goes 136 = .ok (.getfield 34, 3) := by decide +kernel
theorem dX10_goes_139 : decode cX10_goes 139 = .ok (.iload 7, 2) := by decide +kernel
theorem dX10_goes_141 : decode cX10_goes 141 = .ok (.iaload, 1) := by decide +kernel
theorem dX10_goes_142 : decode cX10_goes 142 = .ok (.iastore, 1) := by decide +kernel
theorem dX10_goes_143 : decode cX10_goes 143 = .ok (.iinc 7 1, 3) := by decide +kernel
theorem dX10_goes_146 : decode cX10_goes 146 = .ok (.goto (-28), 3) := by decide +kernel
theorem dX10_goes_149 : decode cX10_goes 149 = .ok (.aload_n 0, 1) := by decide +kernel
theorem dX10_goes_150 : decode cX10_goes 150 = .ok (.getfield 25, 3) := by decide +kernel
theorem dX10_goes_153 : decode cX10_goes 153 = .ok (.iload 6, 2) := by decide +kernel
theorem dX10_goes_155 : decode cX10_goes 155 = .ok (.iconst 5, 1) := by decide +kernel
theorem dX10_goes_156 : decode cX10_goes 156 = .ok (.iadd, 1) := by decide +kernel
theorem dX10_goes_157 : decode cX10_goes 157 = .ok (.aload_n 0, 1) := by decide +kernel
theorem dX10_goes_158 : decode cX10_goes 158 = .ok (.getfield 141, 3) := by decide +kernel
theorem dX10_goes_161 : decode cX10_goes 161 = .ok (.ifCond .ne 8, 3) := by decide +kernel
theorem dX10_goes_164 : decode cX10_goes 164 = .ok (.bipush (-9), 2) := by decide +kernel
theorem dX10_goes_166 : decode cX10_goes 166 = .ok (.goto 9, 3) := by decide +kernel
theorem dX10_goes_169 : decode cX10_goes 169 = .ok (.aload_n 0, 1) := by decide +kernel
theorem dX10_goes_170 : decode cX10_goes 170 = .ok (.getfield 141, 3) := by decide +kernel
theorem dX10_goes_173 : decode cX10_goes 173 = .ok (.iconst 1, 1) := by decide +kernel
theorem dX10_goes_174 : decode cX10_goes 174 = .ok (.isub, 1) := by decide +kernel
theorem dX10_goes_175 : decode cX10_goes 175 = .ok (.iastore, 1) := by decide +kernel
theorem dX10_goes_176 : decode cX10_goes 176 = .ok (.aload_n 0, 1) := by decide +kernel
theorem dX10_goes_177 : decode cX10_goes 177 = .ok (.getfield 141, 3) := by decide +kernel
theorem dX10_goes_180 : decode cX10_goes 180 = .ok (.ifCond .le 18, 3) := by decide +kernel
theorem dX10_goes_183 : decode cX10_goes 183 = .ok (.aload_n 0, 1) := by decide +kernel
theorem dX10_goes_184 : decode cX10_goes 184 = .ok (.getfield 31, 3) := by decide +kernel
theorem dX10_goes_187 : decode cX10_goes 187 = .ok (.aload_n 0, 1) := by decide +kernel
theorem dX10_goes_188 : decode cX10_goes 188 = .ok (.getfield 141, 3) := by decide +kernel
theorem dX10_goes_191 : decode cX10_goes 191 = .ok (.iconst 1, 1) := by decide +kernel
theorem dX10_goes_192 : decode cX10_goes 192 = .ok (.isub, 1) := by decide +kernel
theorem dX10_goes_193 : decode cX10_goes 193 = .ok (.dup2, 1) := by decide +kernel
theorem dX10_goes_194 : decode cX10_goes 194 = .ok (.iaload, 1) := by decide +kernel
theorem dX10_goes_195 : decode cX10_goes 195 = .ok (.iconst 1, 1) := by decide +kernel
theorem dX10_goes_196 : decode cX10_goes 196 = .ok (.iadd, 1) := by decide +kernel
theorem dX10_goes_197 : decode cX10_goes 197 = .ok (.iastore, 1) := by decide +kernel
theorem dX10_goes_198 : decode cX10_goes 198 = .ok (.aload_n 0, 1) := by decide +kernel
theorem dX10_goes_199 : decode cX10_goes 199 = .ok (.dup, 1) := by decide +kernel
theorem dX10_goes_200 : decode cX10_goes 200 = .ok (.getfield 144, 3) := by decide +kernel
theorem dX10_goes_203 : decode cX10_goes 203 = .ok (.iconst 1, 1) := by decide +kernel
theorem dX10_goes_204 : decode cX10_goes 204 = .ok (.iadd, 1) := by decide +kernel
theorem dX10_goes_205 : decode cX10_goes 205 = .ok (.putfield 144, 3) := by decide +kernel
theorem dX10_goes_208 : decode cX10_goes 208 = .ok (.iinc 3 1, 3) := by decide +kernel
theorem dX10_goes_211 : decode cX10_goes 211 = .ok (.goto (-182), 3) := by decide +kernel
theorem dX10_goes_214 : decode cX10_goes 214 = .ok (.return_, 1) := by decide +kernel
theorem dX10_lasting_0 : decode cX10_lasting 0 = .ok (.iconst 0, 1) := by decide +kernel
theorem dX10_lasting_1 : decode cX10_lasting 1 = .ok (.istore_n 1, 1) := by decide +kernel
theorem dX10_lasting_2 : decode cX10_lasting 2 = .ok (.iconst 0, 1) := by decide +kernel
theorem dX10_lasting_3 : decode cX10_lasting 3 = .ok (.istore_n 2, 1) := by decide +kernel
theorem dX10_lasting_4 : decode cX10_lasting 4 = .ok (.iload_n 2, 1) := by decide +kernel
theorem dX10_lasting_5 : decode cX10_lasting 5 = .ok (.aload_n 0, 1) := by decide +kernel
theorem dX10_lasting_6 : decode cX10_lasting 6 = .ok (.getfield 141, 3) := by decide +kernel
theorem dX10_lasting_9 : decode cX10_lasting 9 = .ok (.if_icmp .ge 18, 3) := by decide +kernel
theorem dX10_lasting_12 : decode cX10_lasting 12 = .ok (.iload_n 1, 1) := by decide +kernel
theorem dX10_lasting_13 : decode cX10_lasting 13 = .ok (.aload_n 0, 1) := by decide +kernel
theorem dX10_lasting_14 : decode cX10_lasting 14 = .ok (.getfield 28, 3) := by decide +kernel
theorem dX10_lasting_17 : decode cX10_lasting 17 = .ok (.iload_n 2, 1) := by decide +kernel
theorem dX10_lasting_18 : decode cX10_lasting 18 = .ok (.iaload, 1) := by decide +kernel
theorem dX10_lasting_19 : decode cX10_lasting 19 = .ok (.iadd, 1) := by decide +kernel
theorem dX10_lasting_20 : decode cX10_lasting 20 = .ok (.istore_n 1, 1) := by decide +kernel
theorem dX10_lasting_21 : decode cX10_lasting 21 = .ok (.iinc 2 1, 3) := by decide +kernel
theorem dX10_lasting_24 : decode cX10_lasting 24 = .ok (.goto (-20), 3) := by decide +kernel
theorem dX10_lasting_27 : decode cX10_lasting 27 = .ok (.iload_n 1, 1) := by decide +kernel
theorem dX10_lasting_28 : decode cX10_lasting 28 = .ok (.ireturn, 1) := by decide +kernel
theorem dX10_tall_0 : decode cX10_tall 0 = .ok (.aload_n 0, 1) := by decide +kernel
theorem dX10_tall_1 : decode cX10_tall 1 = .ok (.getfield 144, 3) := by decide +kernel
theorem dX10_tall_4 : decode cX10_tall 4 = .ok (.ifCond .ne 22, 3) := by decide +kernel
theorem dX10_tall_7 : decode cX10_tall 7 = .ok (.aload_n 0, 1) := by decide +kernel
theorem dX10_tall_8 : decode cX10_tall 8 = .ok (.aload_n 0, 1) := by decide +kernel
theorem dX10_tall_9 : decode cX10_tall 9 = .ok (.getfield 7, 3) := by decide +kernel
theorem dX10_tall_12 : decode cX10_tall 12 = .ok (.iload_n 1, 1) := by decide +kernel
theorem dX10_tall_13 : decode cX10_tall 13 = .ok (.invokestatic 83, 3) := by decide +kernel
theorem dX10_tall_16 : decode cX10_tall 16 = .ok (.iconst 2, 1) := by decide +kernel
theorem dX10_tall_17 : decode cX10_tall 17 = .ok (.iadd, 1) := by decide +kernel
theorem dX10_tall_18 : decode cX10_tall 18 = .ok (.iaload, 1) := by decide +kernel
theorem dX10_tall_19 : decode cX10_tall 19 = .ok (.iconst 0, 1) := by decide +kernel
theorem dX10_tall_20 : decode cX10_tall 20 = .ok (.invokevirtual 92, 3) := by decide +kernel
theorem dX10_tall_23 : decode cX10_tall 23 = .ok (.goto 4, 3) := by decide +kernel
theorem dX10_tall_26 : decode cX10_tall 26 = .ok (.iconst 0, 1) := by decide +kernel
theorem dX10_tall_27 : decode cX10_tall 27 = .ok (.istore_n 2, 1) := by decide +kernel
theorem dX10_tall_28 : decode cX10_tall 28 = .ok (.iconst 0, 1) := by decide +kernel
theorem dX10_tall_29 : decode cX10_tall 29 = .ok (.istore_n 3, 1) := by decide +kernel
theorem dX10_tall_30 : decode cX10_tall 30 = .ok (.iload_n 3, 1) := by decide +kernel
theorem dX10_tall_31 : decode cX10_tall 31 = .ok (.aload_n 0, 1) := by decide +kernel
theorem dX10_tall_32 : decode cX10_tall 32 = .ok (.getfield 144, 3) := by decide +kernel
theorem dX10_tall_35 : decode cX10_tall 35 = .ok (.if_icmp .ge 40, 3) := by decide +kernel
theorem dX10_tall_38 : decode cX10_tall 38 = .ok (.aload_n 0, 1) := by decide +kernel
theorem dX10_tall_39 : decode cX10_tall 39 = .ok (.getfield 25, 3) := by decide +kernel
theorem dX10_tall_42 : decode cX10_tall 42 = .ok (.bipush 6, 2) := by decide +kernel
theorem dX10_tall_44 : decode cX10_tall 44 = .ok (.iload_n 3, 1) := by decide +kernel
theorem dX10_tall_45 : decode cX10_tall 45 = .ok (.imul, 1) := by decide +kernel
theorem dX10_tall_46 : decode cX10_tall 46 = .ok (.iconst 1, 1) := by decide +kernel
theorem dX10_tall_47 : decode cX10_tall 47 = .ok (.iadd, 1) := by decide +kernel
theorem dX10_tall_48 : decode cX10_tall 48 = .ok (.iaload, 1) := by decide +kernel
theorem dX10_tall_49 : decode cX10_tall 49 = .ok (.iload_n 2, 1) := by decide +kernel
theorem dX10_tall_50 : decode cX10_tall 50 = .ok (.if_icmp .le 17, 3) := by decide +kernel
theorem dX10_tall_53 : decode cX10_tall 53 = .ok (.aload_n 0, 1) := by decide +kernel
theorem dX10_tall_54 : decode cX10_tall 54 = .ok (.getfield 25, 3) := by decide +kernel
theorem dX10_tall_57 : decode cX10_tall 57 = .ok (.bipush 6, 2) := by decide +kernel
theorem dX10_tall_59 : decode cX10_tall 59 = .ok (.iload_n 3, 1) := by decide +kernel
theorem dX10_tall_60 : decode cX10_tall 60 = .ok (.imul, 1) := by decide +kernel
theorem dX10_tall_61 : decode cX10_tall 61 = .ok (.iconst 1, 1) := by decide +kernel
theorem dX10_tall_62 : decode cX10_tall 62 = .ok (.iadd, 1) := by decide +kernel
theorem dX10_tall_63 : decode cX10_tall 63 = .ok (.iaload, 1) := by decide +kernel
theorem dX10_tall_64 : decode cX10_tall 64 = .ok (.goto 4, 3) := by decide +kernel
theorem dX10_tall_67 : decode cX10_tall 67 = .ok (.iload_n 2, 1) := by decide +kernel
theorem dX10_tall_68 : decode cX10_tall 68 = .ok (.istore_n 2, 1) := by decide +kernel
theorem dX10_tall_69 : decode cX10_tall 69 = .ok (.iinc 3 1, 3) := by decide +kernel
theorem dX10_tall_72 : decode cX10_tall 72 = .ok (.goto (-42), 3) := by decide +kernel
theorem dX10_tall_75 : decode cX10_tall 75 = .ok (.iload_n 2, 1) := by decide +kernel
theorem dX10_tall_76 : decode cX10_tall 76 = .ok (.ireturn, 1) := by decide +kernel
theorem dX10_group_0 : decode cX10_group 0 = .ok (.aload_n 0, 1) := by decide +kernel
theorem dX10_group_1 : decode cX10_group 1 = .ok (.aload_n 0, 1) := by decide +kernel
theorem dX10_group_2 : decode cX10_group 2 = .ok (.getfield 7, 3) := by decide +kernel
theorem dX10_group_5 : decode cX10_group 5 = .ok (.iload_n 1, 1) := by decide +kernel
theorem dX10_group_6 : decode cX10_group 6 = .ok (.invokestatic 83, 3) := by decide +kernel
theorem dX10_group_9 : decode cX10_group 9 = .ok (.iconst 2, 1) := by decide +kernel
theorem dX10_group_10 : decode cX10_group 10 = .ok (.iadd, 1) := by decide +kernel
theorem dX10_group_11 : decode cX10_group 11 = .ok (.iaload, 1) := by decide +kernel
theorem dX10_group_12 : decode cX10_group 12 = .ok (.iconst 4, 1) := by decide +kernel
theorem dX10_group_13 : decode cX10_group 13 = .ok (.invokevirtual 92, 3) := by decide +kernel
theorem dX10_group_16 : decode cX10_group 16 = .ok (.ireturn, 1) := by decide +kernel
theorem dX10_margin_0 : decode cX10_margin 0 = .ok (.aload_n 0, 1) := by decide +kernel
theorem dX10_margin_1 : decode cX10_margin 1 = .ok (.getfield 7, 3) := by decide +kernel
theorem dX10_margin_4 : decode cX10_margin 4 = .ok (.iload_n 1, 1) := by decide +kernel
theorem dX10_margin_5 : decode cX10_margin 5 = .ok (.invokestatic 83, 3) := by decide +kernel
theorem dX10_margin_8 : decode cX10_margin 8 = .ok (.iconst 3, 1) := by decide +kernel
theorem dX10_margin_9 : decode cX10_margin 9 = .ok (.iadd, 1) := by decide +kernel
theorem dX10_margin_10 : decode cX10_margin 10 = .ok (.iaload, 1) := by decide +kernel
theorem dX10_margin_11 : decode cX10_margin 11 = .ok (.istore_n 2, 1) := by decide +kernel
theorem dX10_margin_12 : decode cX10_margin 12 = .ok (.iload_n 2, 1) := by decide +kernel
theorem dX10_margin_13 : decode cX10_margin 13 = .ok (.ifCond .ge 22, 3) := by decide +kernel
theorem dX10_margin_16 : decode cX10_margin 16 = .ok (.aload_n 0, 1) := by decide +kernel
theorem dX10_margin_17 : decode cX10_margin 17 = .ok (.aload_n 0, 1) := by decide +kernel
theorem dX10_margin_18 : decode cX10_margin 18 = .ok (.getfield 7, 3) := by decide +kernel
theorem dX10_margin_21 : decode cX10_margin 21 = .ok (.iload_n 1, 1) := by decide +kernel
theorem dX10_margin_22 : decode cX10_margin 22 = .ok (.invokestatic 83, 3) := by decide +kernel
theorem dX10_margin_25 : decode cX10_margin 25 = .ok (.iconst 2, 1) := by decide +kernel
theorem dX10_margin_26 : decode cX10_margin 26 = .ok (.iadd, 1) := by decide +kernel
theorem dX10_margin_27 : decode cX10_margin 27 = .ok (.iaload, 1) := by decide +kernel
theorem dX10_margin_28 : decode cX10_margin 28 = .ok (.iconst 5, 1) := by decide +kernel
theorem dX10_margin_29 : decode cX10_margin 29 = .ok (.invokevirtual 92, 3) := by decide +kernel
theorem dX10_margin_32 : decode cX10_margin 32 = .ok (.goto 4, 3) := by decide +kernel
theorem dX10_margin_35 : decode cX10_margin 35 = .ok (.iload_n 2, 1) := by decide +kernel
theorem dX10_margin_36 : decode cX10_margin 36 = .ok (.ireturn, 1) := by decide +kernel
theorem dX10_isShown_0 : decode cX10_isShown 0 = .ok (.aload_n 0, 1) := by decide +kernel
theorem dX10_isShown_1 : decode cX10_isShown 1 = .ok (.getfield 7, 3) := by decide +kernel
theorem dX10_isShown_4 : decode cX10_isShown 4 = .ok (.iload_n 1, 1) := by decide +kernel
theorem dX10_isShown_5 : decode cX10_isShown 5 = .ok (.invokestatic 83, 3) := by decide +kernel
theorem dX10_isShown_8 : decode cX10_isShown 8 = .ok (.iconst 0, 1) := by decide +kernel
theorem dX10_isShown_9 : decode cX10_isShown 9 = .ok (.iadd, 1) := by decide +kernel
theorem dX10_isShown_10 : decode cX10_isShown 10 = .ok (.iaload, 1) := by decide +kernel
theorem dX10_isShown_11 : decode cX10_isShown 11 = .ok (.iload_n 2, 1) := by decide +kernel
theorem dX10_isShown_12 : decode cX10_isShown 12 = .ok (.if_icmp .gt 22, 3) := by decide +kernel
theorem dX10_isShown_15 : decode cX10_isShown 15 = .ok (.iload_n 2, 1) := by decide +kernel
theorem dX10_isShown_16 : decode cX10_isShown 16 = .ok (.aload_n 0, 1) := by decide +kernel
theorem dX10_isShown_17 : decode cX10_isShown 17 = .ok (.getfield 7, 3) := by decide +kernel
theorem dX10_isShown_20 : decode cX10_isShown 20 = .ok (.iload_n 1, 1) := by decide +kernel
theorem dX10_isShown_21 : decode cX10_isShown 21 = .ok (.invokestatic 83, 3) := by decide +kernel
theorem dX10_isShown_24 : decode cX10_isShown 24 = .ok (.iconst 1, 1) := by decide +kernel
theorem dX10_isShown_25 : decode cX10_isShown 25 = .ok (.iadd, 1) := by decide +kernel
theorem dX10_isShown_26 : decode cX10_isShown 26 = .ok (.iaload, 1) := by decide +kernel
theorem dX10_isShown_27 : decode cX10_isShown 27 = .ok (.if_icmp .ge 7, 3) := by decide +kernel
theorem dX10_isShown_30 : decode cX10_isShown 30 = .ok (.iconst 1, 1) := by decide +kernel
theorem dX10_isShown_31 : decode cX10_isShown 31 = .ok (.goto 4, 3) := by decide +kernel
theorem dX10_isShown_34 : decode cX10_isShown 34 = .ok (.iconst 0, 1) := by decide +kernel
theorem dX10_isShown_35 : decode cX10_isShown 35 = .ok (.ireturn, 1) := by decide +kernel
theorem dX10_inTheWay_0 : decode cX10_inTheWay 0 = .ok (.iconst 0, 1) := by decide +kernel
theorem dX10_inTheWay_1 : decode cX10_inTheWay 1 = .ok (.istore_n 3, 1) := by decide +kernel
theorem dX10_inTheWay_2 : decode cX10_inTheWay 2 = .ok (.iconst 0, 1) := by decide +kernel
theorem dX10_inTheWay_3 : decode cX10_inTheWay 3 = .ok (.istore 4, 2) := by decide +kernel
theorem dX10_inTheWay_5 : decode cX10_inTheWay 5 = .ok (.iload 4, 2) := by decide +kernel
theorem dX10_inTheWay_7 : decode cX10_inTheWay 7 = .ok (.aload_n 0, 1) := by decide +kernel
theorem dX10_inTheWay_8 : decode cX10_inTheWay 8 = .ok (.getfield 7, 3) := by decide +kernel
theorem dX10_inTheWay_11 : decode cX10_inTheWay 11 = .ok (.iconst 1, 1) := by decide +kernel
theorem dX10_inTheWay_12 : decode cX10_inTheWay 12 = .ok (.iaload, 1) := by decide +kernel
theorem dX10_inTheWay_13 : decode cX10_inTheWay 13 = .ok (.if_icmp .ge 124, 3) := by decide +kernel
theorem dX10_inTheWay_16 : decode cX10_inTheWay 16 = .ok (.iload 4, 2) := by decide +kernel
theorem dX10_inTheWay_18 : decode cX10_inTheWay 18 = .ok (.iload_n 1, 1) := by decide +kernel
theorem dX10_inTheWay_19 : decode cX10_inTheWay 19 = .ok (.if_icmp .eq 51, 3) := by decide +kernel
theorem dX10_inTheWay_22 : decode cX10_inTheWay 22 = .ok (.aload_n 0, 1) := by decide +kernel
theorem dX10_inTheWay_23 : decode cX10_inTheWay 23 = .ok (.getfield 43, 3) := by decide +kernel
theorem dX10_inTheWay_26 : decode cX10_inTheWay 26 = .ok (.iload 4, 2) := by decide +kernel
theorem dX10_inTheWay_28 : decode cX10_inTheWay 28 = .ok (.baload, 1) := by decide +kernel
theorem dX10_inTheWay_29 : decode cX10_inTheWay 29 = .ok (.ifCond .eq 41, 3) := by decide +kernel
theorem dX10_inTheWay_32 : decode cX10_inTheWay 32 = .ok (.aload_n 0, 1) := by decide +kernel
theorem dX10_inTheWay_33 : decode cX10_inTheWay 33 = .ok (.iload 4, 2) := by decide +kernel
theorem dX10_inTheWay_35 : decode cX10_inTheWay 35 = .ok (.invokevirtual 151, 3) := by decide +kernel
theorem dX10_inTheWay_38 : decode cX10_inTheWay 38 = .ok (.aload_n 0, 1) := by decide +kernel
theorem dX10_inTheWay_39 : decode cX10_inTheWay 39 = .ok (.iload_n 1, 1) := by decide +kernel
theorem dX10_inTheWay_40 : decode cX10_inTheWay 40 = .ok (.invokevirtual 151, 3) := by decide +kernel
theorem dX10_inTheWay_43 : decode cX10_inTheWay 43 = .ok (.if_icmp .ne 27, 3) := by decide +kernel
theorem dX10_inTheWay_46 : decode cX10_inTheWay 46 = .ok (.aload_n 0, 1) := by decide +kernel
theorem dX10_inTheWay_47 : decode cX10_inTheWay 47 = .ok (.iload 4, 2) := by decide +kernel
theorem dX10_inTheWay_49 : decode cX10_inTheWay 49 = .ok (.aload_n 0, 1) := by decide +kernel
theorem dX10_inTheWay_50 : decode cX10_inTheWay 50 = .ok (.getfield 7, 3) := by decide +kernel
theorem dX10_inTheWay_53 : decode cX10_inTheWay 53 = .ok (.iload_n 1, 1) := by decide +kernel
theorem dX10_inTheWay_54 : decode cX10_inTheWay 54 = .ok (.invokestatic 83, 3) := by decide +kernel
theorem dX10_inTheWay_57 : decode cX10_inTheWay 57 = .ok (.iconst 0, 1) := by decide +kernel
theorem dX10_inTheWay_58 : decode cX10_inTheWay 58 = .ok (.iadd, 1) := by decide +kernel
theorem dX10_inTheWay_59 : decode cX10_inTheWay 59 = .ok (.iaload, 1) := by decide +kernel
theorem dX10_inTheWay_60 : decode cX10_inTheWay 60 = .ok (.invokevirtual 154, 3) := by decide +kernel
theorem dX10_inTheWay_63 : decode cX10_inTheWay 63 = .ok (.ifCond .eq 7, 3) := by decide +kernel
theorem dX10_inTheWay_66 : decode cX10_inTheWay 66 = .ok (.iconst 1, 1) := by decide +kernel
theorem dX10_inTheWay_67 : decode cX10_inTheWay 67 = .ok (.goto 4, 3) := by decide +kernel
theorem dX10_inTheWay_70 : decode cX10_inTheWay 70 = .ok (.iconst 0, 1) := by decide +kernel
theorem dX10_inTheWay_71 : decode cX10_inTheWay 71 = .ok (.istore 5, 2) := by decide +kernel
theorem dX10_inTheWay_73 : decode cX10_inTheWay 73 = .ok (.iload 5, 2) := by decide +kernel
theorem dX10_inTheWay_75 : decode cX10_inTheWay 75 = .ok (.ifCond .eq 56, 3) := by decide +kernel
theorem dX10_inTheWay_78 : decode cX10_inTheWay 78 = .ok (.aload_n 0, 1) := by decide +kernel
theorem dX10_inTheWay_79 : decode cX10_inTheWay 79 = .ok (.getfield 37, 3) := by decide +kernel
theorem dX10_inTheWay_82 : decode cX10_inTheWay 82 = .ok (.iload 4, 2) := by decide +kernel
theorem dX10_inTheWay_84 : decode cX10_inTheWay 84 = .ok (.iaload, 1) := by decide +kernel
theorem dX10_inTheWay_85 : decode cX10_inTheWay 85 = .ok (.iload_n 2, 1) := by decide +kernel
theorem dX10_inTheWay_86 : decode cX10_inTheWay 86 = .ok (.aload_n 0, 1) := by decide +kernel
theorem dX10_inTheWay_87 : decode cX10_inTheWay 87 = .ok (.getfield 40, 3) := by decide +kernel
theorem dX10_inTheWay_90 : decode cX10_inTheWay 90 = .ok (.iload_n 1, 1) := by decide +kernel
theorem dX10_inTheWay_91 : decode cX10_inTheWay 91 = .ok (.iaload, 1) := by decide +kernel
theorem dX10_inTheWay_92 : decode cX10_inTheWay 92 = .ok (.iadd, 1) := by decide +kernel
theorem dX10_inTheWay_93 : decode cX10_inTheWay 93 = .ok (.if_icmp .ge 38, 3) := by decide +kernel
theorem dX10_inTheWay_96 : decode cX10_inTheWay 96 = .ok (.iload_n 2, 1) := by decide +kernel
theorem dX10_inTheWay_97 : decode cX10_inTheWay 97 = .ok (.aload_n 0, 1) := by decide +kernel
theorem dX10_inTheWay_98 : decode cX10_inTheWay 98 = .ok (.getfield 37, 3) := by decide +kernel
theorem dX10_inTheWay_101 : decode cX10_inTheWay 101 = .ok (.iload 4, 2) := by decide +kernel
theorem dX10_inTheWay_103 : decode cX10_inTheWay 103 = .ok (.iaload, 1) := by decide +kernel
theorem dX10_inTheWay_104 : decode cX10_inTheWay 104 = .ok (.aload_n 0, 1) := by decide +kernel
theorem dX10_inTheWay_105 : decode cX10_inTheWay 105 = .ok (.getfield 40, 3) := by decide +kernel
theorem dX10_inTheWay_108 : decode cX10_inTheWay 108 = .ok (.iload 4, 2) := by decide +kernel
theorem dX10_inTheWay_110 : decode cX10_inTheWay 110 = .ok (.iaload, 1) := by decide +kernel
theorem dX10_inTheWay_111 : decode cX10_inTheWay 111 = .ok (.iadd, 1) := by decide +kernel
theorem dX10_inTheWay_112 : decode cX10_inTheWay 112 = .ok (.if_icmp .ge 19, 3) := by decide +kernel
theorem dX10_inTheWay_115 : decode cX10_inTheWay 115 = .ok (.aload_n 0, 1) := by decide +kernel
theorem dX10_inTheWay_116 : decode cX10_inTheWay 116 = .ok (.getfield 37, 3) := by decide +kernel
theorem dX10_inTheWay_119 : decode cX10_inTheWay 119 = .ok (.iload 4, 2) := by decide +kernel
theorem dX10_inTheWay_121 : decode cX10_inTheWay 121 = .ok (.iaload, 1) := by decide +kernel
theorem dX10_inTheWay_122 : decode cX10_inTheWay 122 = .ok (.aload_n 0, 1) := by decide +kernel
theorem dX10_inTheWay_123 : decode cX10_inTheWay 123 = .ok (.getfield 40, 3) := by decide +kernel
theorem dX10_inTheWay_126 : decode cX10_inTheWay 126 = .ok (.iload 4, 2) := by decide +kernel
theorem dX10_inTheWay_128 : decode cX10_inTheWay 128 = .ok (.iaload, 1) := by decide +kernel
theorem dX10_inTheWay_129 : decode cX10_inTheWay 129 = .ok (.iadd, 1) := by decide +kernel
theorem dX10_inTheWay_130 : decode cX10_inTheWay 130 = .ok (.istore_n 3, 1) := by decide +kernel
theorem dX10_inTheWay_131 : decode cX10_inTheWay 131 = .ok (.iinc 4 1, 3) := by decide +kernel
theorem dX10_inTheWay_134 : decode cX10_inTheWay 134 = .ok (.goto (-129), 3) := by decide +kernel
theorem dX10_inTheWay_137 : decode cX10_inTheWay 137 = .ok (.iload_n 3, 1) := by decide +kernel
theorem dX10_inTheWay_138 : decode cX10_inTheWay 138 = .ok (.ireturn, 1) := by decide +kernel
theorem dX10_places_0 : decode cX10_places 0 = .ok (.iconst 0, 1) := by decide +kernel
theorem dX10_places_1 : decode cX10_places 1 = .ok (.istore_n 1, 1) := by decide +kernel
theorem dX10_places_2 : decode cX10_places 2 = .ok (.iload_n 1, 1) := by decide +kernel
theorem dX10_places_3 : decode cX10_places 3 = .ok (.aload_n 0, 1) := by decide +kernel
theorem dX10_places_4 : decode cX10_places 4 = .ok (.getfield 7, 3) := by decide +kernel
theorem dX10_places_7 : decode cX10_places 7 = .ok (.iconst 1, 1) := by decide +kernel
theorem dX10_places_8 : decode cX10_places 8 = .ok (.iaload, 1) := by decide +kernel
theorem dX10_places_9 : decode cX10_places 9 = .ok (.if_icmp .ge 32, 3) := by decide +kernel
theorem dX10_places_12 : decode cX10_places 12 = .ok (.aload_n 0, 1) := by decide +kernel
theorem dX10_places_13 : decode cX10_places 13 = .ok (.iload_n 1, 1) := by decide +kernel
theorem dX10_places_14 : decode cX10_places 14 = .ok (.invokevirtual 157, 3) := by decide +kernel
theorem dX10_places_17 : decode cX10_places 17 = .ok (.aload_n 0, 1) := by decide +kernel
theorem dX10_places_18 : decode cX10_places 18 = .ok (.getfield 40, 3) := by decide +kernel
theorem dX10_places_21 : decode cX10_places 21 = .ok (.iload_n 1, 1) := by decide +kernel
theorem dX10_places_22 : decode cX10_places 22 = .ok (.aload_n 0, 1) := by decide +kernel
theorem dX10_places_23 : decode cX10_places 23 = .ok (.iload_n 1, 1) := by decide +kernel
theorem dX10_places_24 : decode cX10_places 24 = .ok (.invokevirtual 160, 3) := by decide +kernel
theorem dX10_places_27 : decode cX10_places 27 = .ok (.iastore, 1) := by decide +kernel
theorem dX10_places_28 : decode cX10_places 28 = .ok (.aload_n 0, 1) := by decide +kernel
theorem dX10_places_29 : decode cX10_places 29 = .ok (.getfield 43, 3) := by decide +kernel
theorem dX10_places_32 : decode cX10_places 32 = .ok (.iload_n 1, 1) := by decide +kernel
theorem dX10_places_33 : decode cX10_places 33 = .ok (.iconst 0, 1) := by decide +kernel
theorem dX10_places_34 : decode cX10_places 34 = .ok (.bastore, 1) := by decide +kernel
theorem dX10_places_35 : decode cX10_places 35 = .ok (.iinc 1 1, 3) := by decide +kernel
theorem dX10_places_38 : decode cX10_places 38 = .ok (.goto (-36), 3) := by decide +kernel
theorem dX10_places_41 : decode cX10_places 41 = .ok (.iconst 0, 1) := by decide +kernel
theorem dX10_places_42 : decode cX10_places 42 = .ok (.istore_n 1, 1) := by decide +kernel
theorem dX10_places_43 : decode cX10_places 43 = .ok (.iload_n 1, 1) := by decide +kernel
theorem dX10_places_44 : decode cX10_places 44 = .ok (.aload_n 0, 1) := by decide +kernel
theorem dX10_places_45 : decode cX10_places 45 = .ok (.getfield 7, 3) := by decide +kernel
theorem dX10_places_48 : decode cX10_places 48 = .ok (.iconst 1, 1) := by decide +kernel
theorem dX10_places_49 : decode cX10_places 49 = .ok (.iaload, 1) := by decide +kernel
theorem dX10_places_50 : decode cX10_places 50 = .ok (.if_icmp .ge 109, 3) := by decide +kernel
theorem dX10_places_53 : decode cX10_places 53 = .ok (.bipush (-9), 2) := by decide +kernel
theorem dX10_places_55 : decode cX10_places 55 = .ok (.istore_n 2, 1) := by decide +kernel
theorem dX10_places_56 : decode cX10_places 56 = .ok (.iconst 0, 1) := by decide +kernel
theorem dX10_places_57 : decode cX10_places 57 = .ok (.istore_n 3, 1) := by decide +kernel
theorem dX10_places_58 : decode cX10_places 58 = .ok (.iload_n 3, 1) := by decide +kernel
theorem dX10_places_59 : decode cX10_places 59 = .ok (.aload_n 0, 1) := by decide +kernel
theorem dX10_places_60 : decode cX10_places 60 = .ok (.getfield 7, 3) := by decide +kernel
theorem dX10_places_63 : decode cX10_places 63 = .ok (.iconst 1, 1) := by decide +kernel
theorem dX10_places_64 : decode cX10_places 64 = .ok (.iaload, 1) := by decide +kernel
theorem dX10_places_65 : decode cX10_places 65 = .ok (.if_icmp .ge 53, 3) := by decide +kernel
theorem dX10_places_68 : decode cX10_places 68 = .ok (.aload_n 0, 1) := by decide +kernel
theorem dX10_places_69 : decode cX10_places 69 = .ok (.getfield 43, 3) := by decide +kernel
theorem dX10_places_72 : decode cX10_places 72 = .ok (.iload_n 3, 1) := by decide +kernel
theorem dX10_places_73 : decode cX10_places 73 = .ok (.baload, 1) := by decide +kernel
theorem dX10_places_74 : decode cX10_places 74 = .ok (.ifCond .ne 36, 3) := by decide +kernel
theorem dX10_places_77 : decode cX10_places 77 = .ok (.iload_n 2, 1) := by decide +kernel
theorem dX10_places_78 : decode cX10_places 78 = .ok (.ifCond .lt 28, 3) := by decide +kernel
theorem dX10_places_81 : decode cX10_places 81 = .ok (.aload_n 0, 1) := by decide +kernel
theorem dX10_places_82 : decode cX10_places 82 = .ok (.getfield 7, 3) := by decide +kernel
theorem dX10_places_85 : decode cX10_places 85 = .ok (.iload_n 3, 1) := by decide +kernel
theorem dX10_places_86 : decode cX10_places 86 = .ok (.invokestatic 83, 3) := by decide +kernel
theorem dX10_places_89 : decode cX10_places 89 = .ok (.iconst 0, 1) := by decide +kernel
theorem dX10_places_90 : decode cX10_places 90 = .ok (.iadd, 1) := by decide +kernel
theorem dX10_places_91 : decode cX10_places 91 = .ok (.iaload, 1) := by decide +kernel
theorem dX10_places_92 : decode cX10_places 92 = .ok (.aload_n 0, 1) := by decide +kernel
theorem dX10_places_93 : decode cX10_places 93 = .ok (.getfield 7, 3) := by decide +kernel
theorem dX10_places_96 : decode cX10_places 96 = .ok (.iload_n 2, 1) := by decide +kernel
theorem dX10_places_97 : decode cX10_places 97 = .ok (.invokestatic 83, 3) := by decide +kernel
theorem dX10_places_100 : decode cX10_places 100 = .ok (.iconst 0, 1) := by decide +kernel
theorem dX10_places_101 : decode cX10_places 101 = .ok (.iadd, 1) := by decide +kernel
theorem dX10_places_102 : decode cX10_places 102 = .ok (.iaload, 1) := by decide +kernel
theorem dX10_places_103 : decode cX10_places 103 = .ok (.if_icmp .ge 7, 3) := by decide +kernel
theorem dX10_places_106 : decode cX10_places 106 = .ok (.iload_n 3, 1) := by decide +kernel
theorem dX10_places_107 : decode cX10_places 107 = .ok (.goto 4, 3) := by decide +kernel
theorem dX10_places_110 : decode cX10_places 110 = .ok (.iload_n 2, 1) := by decide +kernel
theorem dX10_places_111 : decode cX10_places 111 = .ok (.istore_n 2, 1) := by decide +kernel
theorem dX10_places_112 : decode cX10_places 112 = .ok (.iinc 3 1, 3) := by decide +kernel
theorem dX10_places_115 : decode cX10_places 115 = .ok (.goto (-57), 3) := by decide +kernel
theorem dX10_places_118 : decode cX10_places 118 = .ok (.aload_n 0, 1) := by decide +kernel
theorem dX10_places_119 : decode cX10_places 119 = .ok (.iload_n 2, 1) := by decide +kernel
theorem dX10_places_120 : decode cX10_places 120 = .ok (.invokevirtual 163, 3) := by decide +kernel
theorem dX10_places_123 : decode cX10_places 123 = .ok (.istore_n 3, 1) := by decide +kernel
theorem dX10_places_124 : decode cX10_places 124 = .ok (.aload_n 0, 1) := by decide +kernel
theorem dX10_places_125 : decode cX10_places 125 = .ok (.iload_n 2, 1) := by decide +kernel
theorem dX10_places_126 : decode cX10_places 126 = .ok (.iload_n 3, 1) := by decide +kernel
theorem dX10_places_127 : decode cX10_places 127 = .ok (.invokevirtual 166, 3) := by decide +kernel
theorem dX10_places_130 : decode cX10_places 130 = .ok (.ifCond .le 9, 3) := by decide +kernel
theorem dX10_places_133 : decode cX10_places 133 = .ok (.iinc 3 1, 3) := by decide +kernel
theorem dX10_places_136 : decode cX10_places 136 = .ok (.goto (-12), 3) := by decide +kernel
theorem dX10_places_139 : decode cX10_places 139 = .ok (.aload_n 0, 1) := by decide +kernel
theorem dX10_places_140 : decode cX10_places 140 = .ok (.getfield 37, 3) := by decide +kernel
theorem dX10_places_143 : decode cX10_places 143 = .ok (.iload_n 2, 1) := by decide +kernel
theorem dX10_places_144 : decode cX10_places 144 = .ok (.iload_n 3, 1) := by decide +kernel
theorem dX10_places_145 : decode cX10_places 145 = .ok (.iastore, 1) := by decide +kernel
theorem dX10_places_146 : decode cX10_places 146 = .ok (.aload_n 0, 1) := by decide +kernel
theorem dX10_places_147 : decode cX10_places 147 = .ok (.getfield 43, 3) := by decide +kernel
theorem dX10_places_150 : decode cX10_places 150 = .ok (.iload_n 2, 1) := by decide +kernel
theorem dX10_places_151 : decode cX10_places 151 = .ok (.iconst 1, 1) := by decide +kernel
theorem dX10_places_152 : decode cX10_places 152 = .ok (.bastore, 1) := by decide +kernel
theorem dX10_places_153 : decode cX10_places 153 = .ok (.iinc 1 1, 3) := by decide +kernel
theorem dX10_places_156 : decode cX10_places 156 = .ok (.goto (-113), 3) := by decide +kernel
theorem dX10_places_159 : decode cX10_places 159 = .ok (.return_, 1) := by decide +kernel
theorem dX10_told_0 : decode cX10_told 0 = .ok (.aload_n 0, 1) := by decide +kernel
theorem dX10_told_1 : decode cX10_told 1 = .ok (.invokevirtual 169, 3) := by decide +kernel
theorem dX10_told_4 : decode cX10_told 4 = .ok (.aload_n 0, 1) := by decide +kernel
theorem dX10_told_5 : decode cX10_told 5 = .ok (.iload_n 1, 1) := by decide +kernel
theorem dX10_told_6 : decode cX10_told 6 = .ok (.invokevirtual 157, 3) := by decide +kernel
theorem dX10_told_9 : decode cX10_told 9 = .ok (.iload_n 1, 1) := by decide +kernel
theorem dX10_told_10 : decode cX10_told 10 = .ok (.invokestatic 83, 3) := by decide +kernel
theorem dX10_told_13 : decode cX10_told 13 = .ok (.istore_n 3, 1) := by decide +kernel
theorem dX10_told_14 : decode cX10_told 14 = .ok (.iload_n 2, 1) := by decide +kernel
theorem dX10_told_15 : decode cX10_told 15 = .ok (.tableswitch 138 4 11 #[45, 50, 55, 60, 90, 97, 104, 110], 45) := by decide +kernel
theorem dX10_told_60 : decode cX10_told 60 = .ok (.aload_n 0, 1) := by decide +kernel
theorem dX10_told_61 : decode cX10_told 61 = .ok (.getfield 144, 3) := by decide +kernel
theorem dX10_told_64 : decode cX10_told 64 = .ok (.ireturn, 1) := by decide +kernel
theorem dX10_told_65 : decode cX10_told 65 = .ok (.aload_n 0, 1) := by decide +kernel
theorem dX10_told_66 : decode cX10_told 66 = .ok (.getfield 141, 3) := by decide +kernel
theorem dX10_told_69 : decode cX10_told 69 = .ok (.ireturn, 1) := by decide +kernel
theorem dX10_told_70 : decode cX10_told 70 = .ok (.aload_n 0, 1) := by decide +kernel
theorem dX10_told_71 : decode cX10_told 71 = .ok (.invokevirtual 172, 3) := by decide +kernel
theorem dX10_told_74 : decode cX10_told 74 = .ok (.ireturn, 1) := by decide +kernel
theorem dX10_told_75 : decode cX10_told 75 = .ok (.aload_n 0, 1) := by decide +kernel
theorem dX10_told_76 : decode cX10_told 76 = .ok (.invokevirtual 172, 3) := by decide +kernel
theorem dX10_told_79 : decode cX10_told 79 = .ok (.aload_n 0, 1) := by decide +kernel
theorem dX10_told_80 : decode cX10_told 80 = .ok (.getfield 7, 3) := by decide +kernel
theorem dX10_told_83 : decode cX10_told 83 = .ok (.iload_n 3, 1) := by decide +kernel
theorem dX10_told_84 : decode cX10_told 84 = .ok (.iconst 1, 1) := by decide +kernel
theorem dX10_told_85 : decode cX10_told 85 = .ok (.iadd, 1) := by decide +kernel
theorem dX10_told_86 : decode cX10_told 86 = .ok (.iaload, 1) := by decide +kernel
theorem dX10_told_87 : decode cX10_told 87 = .ok (.aload_n 0, 1) := by decide +kernel
theorem dX10_told_88 : decode cX10_told 88 = .ok (.getfield 7, 3) := by decide +kernel
theorem dX10_told_91 : decode cX10_told 91 = .ok (.iload_n 3, 1) := by decide +kernel
theorem dX10_told_92 : decode cX10_told 92 = .ok (.iconst 0, 1) := by decide +kernel
theorem dX10_told_93 : decode cX10_told 93 = .ok (.iadd, 1) := by decide +kernel
theorem dX10_told_94 : decode cX10_told 94 = .ok (.iaload, 1) := by decide +kernel
theorem dX10_told_95 : decode cX10_told 95 = .ok (.isub, 1) := by decide +kernel
theorem dX10_told_96 : decode cX10_told 96 = .ok (.if_icmp .gt 7, 3) := by decide +kernel
theorem dX10_told_99 : decode cX10_told 99 = .ok (.iconst 1, 1) := by decide +kernel
theorem dX10_told_100 : decode cX10_told 100 = .ok (.goto 4, 3) := by decide +kernel
theorem dX10_told_103 : decode cX10_told 103 = .ok (.iconst 0, 1) := by decide +kernel
theorem dX10_told_104 : decode cX10_told 104 = .ok (.ireturn, 1) := by decide +kernel
theorem dX10_told_105 : decode cX10_told 105 = .ok (.aload_n 0, 1) := by decide +kernel
theorem dX10_told_106 : decode cX10_told 106 = .ok (.getfield 40, 3) := by decide +kernel
theorem dX10_told_109 : decode cX10_told 109 = .ok (.iload_n 1, 1) := by decide +kernel
theorem dX10_told_110 : decode cX10_told 110 = .ok (.iaload, 1) := by decide +kernel
theorem dX10_told_111 : decode cX10_told 111 = .ok (.ireturn, 1) := by decide +kernel
theorem dX10_told_112 : decode cX10_told 112 = .ok (.aload_n 0, 1) := by decide +kernel
theorem dX10_told_113 : decode cX10_told 113 = .ok (.getfield 37, 3) := by decide +kernel
theorem dX10_told_116 : decode cX10_told 116 = .ok (.iload_n 1, 1) := by decide +kernel
theorem dX10_told_117 : decode cX10_told 117 = .ok (.iaload, 1) := by decide +kernel
theorem dX10_told_118 : decode cX10_told 118 = .ok (.ireturn, 1) := by decide +kernel
theorem dX10_told_119 : decode cX10_told 119 = .ok (.aload_n 0, 1) := by decide +kernel
theorem dX10_told_120 : decode cX10_told 120 = .ok (.iload_n 1, 1) := by decide +kernel
theorem dX10_told_121 : decode cX10_told 121 = .ok (.invokevirtual 151, 3) := by decide +kernel
theorem dX10_told_124 : decode cX10_told 124 = .ok (.ireturn, 1) := by decide +kernel
theorem dX10_told_125 : decode cX10_told 125 = .ok (.aload_n 0, 1) := by decide +kernel
theorem dX10_told_126 : decode cX10_told 126 = .ok (.getfield 37, 3) := by decide +kernel
theorem dX10_told_129 : decode cX10_told 129 = .ok (.iload_n 1, 1) := by decide +kernel
theorem dX10_told_130 : decode cX10_told 130 = .ok (.iaload, 1) := by decide +kernel
theorem dX10_told_131 : decode cX10_told 131 = .ok (.aload_n 0, 1) := by decide +kernel
theorem dX10_told_132 : decode cX10_told 132 = .ok (.getfield 40, 3) := by decide +kernel
theorem dX10_told_135 : decode cX10_told 135 = .ok (.iload_n 1, 1) := by decide +kernel
theorem dX10_told_136 : decode cX10_told 136 = .ok (.iaload, 1) := by decide +kernel
theorem dX10_told_137 : decode cX10_told 137 = .ok (.iadd, 1) := by decide +kernel
theorem dX10_told_138 : decode cX10_told 138 = .ok (.aload_n 0, 1) := by decide +kernel
theorem dX10_told_139 : decode cX10_told 139 = .ok (.getfield 7, 3) := by decide +kernel
theorem dX10_told_142 : decode cX10_told 142 = .ok (.iconst 2, 1) := by decide +kernel
theorem dX10_told_143 : decode cX10_told 143 = .ok (.iaload, 1) := by decide +kernel
theorem dX10_told_144 : decode cX10_told 144 = .ok (.if_icmp .le 7, 3) := by decide +kernel
theorem dX10_told_147 : decode cX10_told 147 = .ok (.iconst 1, 1) := by decide +kernel
theorem dX10_told_148 : decode cX10_told 148 = .ok (.goto 4, 3) := by decide +kernel
theorem dX10_told_151 : decode cX10_told 151 = .ok (.iconst 0, 1) := by decide +kernel
theorem dX10_told_152 : decode cX10_told 152 = .ok (.ireturn, 1) := by decide +kernel
theorem dX10_told_153 : decode cX10_told 153 = .ok (.aload_n 0, 1) := by decide +kernel
theorem dX10_told_154 : decode cX10_told 154 = .ok (.getfield 7, 3) := by decide +kernel
theorem dX10_told_157 : decode cX10_told 157 = .ok (.iload_n 3, 1) := by decide +kernel
theorem dX10_told_158 : decode cX10_told 158 = .ok (.iload_n 2, 1) := by decide +kernel
theorem dX10_told_159 : decode cX10_told 159 = .ok (.iadd, 1) := by decide +kernel
theorem dX10_told_160 : decode cX10_told 160 = .ok (.iaload, 1) := by decide +kernel
theorem dX10_told_161 : decode cX10_told 161 = .ok (.ireturn, 1) := by decide +kernel
theorem dX10_about_0 : decode cX10_about 0 = .ok (.aload_n 0, 1) := by decide +kernel
theorem dX10_about_1 : decode cX10_about 1 = .ok (.iload_n 1, 1) := by decide +kernel
theorem dX10_about_2 : decode cX10_about 2 = .ok (.invokevirtual 133, 3) := by decide +kernel
theorem dX10_about_5 : decode cX10_about 5 = .ok (.ifCond .eq 22, 3) := by decide +kernel
theorem dX10_about_8 : decode cX10_about 8 = .ok (.iload_n 2, 1) := by decide +kernel
theorem dX10_about_9 : decode cX10_about 9 = .ok (.iconst 0, 1) := by decide +kernel
theorem dX10_about_10 : decode cX10_about 10 = .ok (.bipush 11, 2) := by decide +kernel
theorem dX10_about_12 : decode cX10_about 12 = .ok (.invokestatic 60, 3) := by decide +kernel
theorem dX10_about_15 : decode cX10_about 15 = .ok (.ifCond .eq 12, 3) := by decide +kernel
theorem dX10_about_18 : decode cX10_about 18 = .ok (.aload_n 0, 1) := by decide +kernel
theorem dX10_about_19 : decode cX10_about 19 = .ok (.iload_n 1, 1) := by decide +kernel
theorem dX10_about_20 : decode cX10_about 20 = .ok (.iload_n 2, 1) := by decide +kernel
theorem dX10_about_21 : decode cX10_about 21 = .ok (.invokevirtual 175, 3) := by decide +kernel
theorem dX10_about_24 : decode cX10_about 24 = .ok (.goto 4, 3) := by decide +kernel
theorem dX10_about_27 : decode cX10_about 27 = .ok (.iconst (-1), 1) := by decide +kernel
theorem dX10_about_28 : decode cX10_about 28 = .ok (.ireturn, 1) := by decide +kernel
theorem dX10_lines_0 : decode cX10_lines 0 = .ok (.aload_n 0, 1) := by decide +kernel
theorem dX10_lines_1 : decode cX10_lines 1 = .ok (.getfield 7, 3) := by decide +kernel
theorem dX10_lines_4 : decode cX10_lines 4 = .ok (.iconst 1, 1) := by decide +kernel
theorem dX10_lines_5 : decode cX10_lines 5 = .ok (.iaload, 1) := by decide +kernel
theorem dX10_lines_6 : decode cX10_lines 6 = .ok (.ireturn, 1) := by decide +kernel
theorem dX10_sign_0 : decode cX10_sign 0 = .ok (.aload_n 0, 1) := by decide +kernel
theorem dX10_sign_1 : decode cX10_sign 1 = .ok (.iload_n 1, 1) := by decide +kernel
theorem dX10_sign_2 : decode cX10_sign 2 = .ok (.invokevirtual 133, 3) := by decide +kernel
theorem dX10_sign_5 : decode cX10_sign 5 = .ok (.ifCond .eq 12, 3) := by decide +kernel
theorem dX10_sign_8 : decode cX10_sign 8 = .ok (.iload_n 3, 1) := by decide +kernel
theorem dX10_sign_9 : decode cX10_sign 9 = .ok (.iconst 0, 1) := by decide +kernel
theorem dX10_sign_10 : decode cX10_sign 10 = .ok (.iconst 5, 1) := by decide +kernel
theorem dX10_sign_11 : decode cX10_sign 11 = .ok (.invokestatic 60, 3) := by decide +kernel
theorem dX10_sign_14 : decode cX10_sign 14 = .ok (.ifCond .ne 5, 3) := by decide +kernel
theorem dX10_sign_17 : decode cX10_sign 17 = .ok (.iconst (-1), 1) := by decide +kernel
theorem dX10_sign_18 : decode cX10_sign 18 = .ok (.ireturn, 1) := by decide +kernel
theorem dX10_sign_19 : decode cX10_sign 19 = .ok (.aload_n 0, 1) := by decide +kernel
theorem dX10_sign_20 : decode cX10_sign 20 = .ok (.iload_n 1, 1) := by decide +kernel
theorem dX10_sign_21 : decode cX10_sign 21 = .ok (.invokevirtual 157, 3) := by decide +kernel
theorem dX10_sign_24 : decode cX10_sign 24 = .ok (.iload_n 2, 1) := by decide +kernel
theorem dX10_sign_25 : decode cX10_sign 25 = .ok (.iconst 0, 1) := by decide +kernel
theorem dX10_sign_26 : decode cX10_sign 26 = .ok (.aload_n 0, 1) := by decide +kernel
theorem dX10_sign_27 : decode cX10_sign 27 = .ok (.getfield 144, 3) := by decide +kernel
theorem dX10_sign_30 : decode cX10_sign 30 = .ok (.iconst 1, 1) := by decide +kernel
theorem dX10_sign_31 : decode cX10_sign 31 = .ok (.isub, 1) := by decide +kernel
theorem dX10_sign_32 : decode cX10_sign 32 = .ok (.invokestatic 60, 3) := by decide +kernel
theorem dX10_sign_35 : decode cX10_sign 35 = .ok (.ifCond .eq 17, 3) := by decide +kernel
theorem dX10_sign_38 : decode cX10_sign 38 = .ok (.aload_n 0, 1) := by decide +kernel
theorem dX10_sign_39 : decode cX10_sign 39 = .ok (.getfield 25, 3) := by decide +kernel
theorem dX10_sign_42 : decode cX10_sign 42 = .ok (.bipush 6, 2) := by decide +kernel
theorem dX10_sign_44 : decode cX10_sign 44 = .ok (.iload_n 2, 1) := by decide +kernel
theorem dX10_sign_45 : decode cX10_sign 45 = .ok (.imul, 1) := by decide +kernel
theorem dX10_sign_46 : decode cX10_sign 46 = .ok (.iload_n 3, 1) := by decide +kernel
theorem dX10_sign_47 : decode cX10_sign 47 = .ok (.iadd, 1) := by decide +kernel
theorem dX10_sign_48 : decode cX10_sign 48 = .ok (.iaload, 1) := by decide +kernel
theorem dX10_sign_49 : decode cX10_sign 49 = .ok (.goto 4, 3) := by decide +kernel
theorem dX10_sign_52 : decode cX10_sign 52 = .ok (.iconst (-1), 1) := by decide +kernel
theorem dX10_sign_53 : decode cX10_sign 53 = .ok (.ireturn, 1) := by decide +kernel
theorem dX10_beginsAt_0 : decode cX10_beginsAt 0 = .ok (.aload_n 0, 1) := by decide +kernel
theorem dX10_beginsAt_1 : decode cX10_beginsAt 1 = .ok (.getfield 7, 3) := by decide +kernel
theorem dX10_beginsAt_4 : decode cX10_beginsAt 4 = .ok (.iload_n 1, 1) := by decide +kernel
theorem dX10_beginsAt_5 : decode cX10_beginsAt 5 = .ok (.invokestatic 83, 3) := by decide +kernel
theorem dX10_beginsAt_8 : decode cX10_beginsAt 8 = .ok (.iconst 0, 1) := by decide +kernel
theorem dX10_beginsAt_9 : decode cX10_beginsAt 9 = .ok (.iadd, 1) := by decide +kernel
theorem dX10_beginsAt_10 : decode cX10_beginsAt 10 = .ok (.iaload, 1) := by decide +kernel
theorem dX10_beginsAt_11 : decode cX10_beginsAt 11 = .ok (.istore_n 3, 1) := by decide +kernel
theorem dX10_beginsAt_12 : decode cX10_beginsAt 12 = .ok (.iconst 0, 1) := by decide +kernel
theorem dX10_beginsAt_13 : decode cX10_beginsAt 13 = .ok (.istore 4, 2) := by decide +kernel
theorem dX10_beginsAt_15 : decode cX10_beginsAt 15 = .ok (.iload 4, 2) := by decide +kernel
theorem dX10_beginsAt_17 : decode cX10_beginsAt 17 = .ok (.iload_n 2, 1) := by decide +kernel
theorem dX10_beginsAt_18 : decode cX10_beginsAt 18 = .ok (.if_icmp .ge 19, 3) := by decide +kernel
theorem dX10_beginsAt_21 : decode cX10_beginsAt 21 = .ok (.iload_n 3, 1) := by decide +kernel
theorem dX10_beginsAt_22 : decode cX10_beginsAt 22 = .ok (.aload_n 0, 1) := by decide +kernel
theorem dX10_beginsAt_23 : decode cX10_beginsAt 23 = .ok (.getfield 28, 3) := by decide +kernel
theorem dX10_beginsAt_26 : decode cX10_beginsAt 26 = .ok (.iload 4, 2) := by decide +kernel
theorem dX10_beginsAt_28 : decode cX10_beginsAt 28 = .ok (.iaload, 1) := by decide +kernel
theorem dX10_beginsAt_29 : decode cX10_beginsAt 29 = .ok (.iadd, 1) := by decide +kernel
theorem dX10_beginsAt_30 : decode cX10_beginsAt 30 = .ok (.istore_n 3, 1) := by decide +kernel
theorem dX10_beginsAt_31 : decode cX10_beginsAt 31 = .ok (.iinc 4 1, 3) := by decide +kernel
theorem dX10_beginsAt_34 : decode cX10_beginsAt 34 = .ok (.goto (-19), 3) := by decide +kernel
theorem dX10_beginsAt_37 : decode cX10_beginsAt 37 = .ok (.iload_n 3, 1) := by decide +kernel
theorem dX10_beginsAt_38 : decode cX10_beginsAt 38 = .ok (.ireturn, 1) := by decide +kernel
theorem dX10_syllableTold_0 : decode cX10_syllableTold 0 = .ok (.iload_n 3, 1) := by decide +kernel
theorem dX10_syllableTold_1 : decode cX10_syllableTold 1 = .ok (.ifCond .ne 12, 3) := by decide +kernel
theorem dX10_syllableTold_4 : decode cX10_syllableTold 4 = .ok (.aload_n 0, 1) := by decide +kernel
theorem dX10_syllableTold_5 : decode cX10_syllableTold 5 = .ok (.iload_n 1, 1) := by decide +kernel
theorem dX10_syllableTold_6 : decode cX10_syllableTold 6 = .ok (.iload_n 2, 1) := by decide +kernel
theorem dX10_syllableTold_7 : decode cX10_syllableTold 7 = .ok (.invokevirtual 178, 3) := by decide +kernel
theorem dX10_syllableTold_10 : decode cX10_syllableTold 10 = .ok (.goto 23, 3) := by decide +kernel
theorem dX10_syllableTold_13 : decode cX10_syllableTold 13 = .ok (.iload_n 3, 1) := by decide +kernel
theorem dX10_syllableTold_14 : decode cX10_syllableTold 14 = .ok (.iconst 1, 1) := by decide +kernel
theorem dX10_syllableTold_15 : decode cX10_syllableTold 15 = .ok (.if_icmp .ne 12, 3) := by decide +kernel
theorem dX10_syllableTold_18 : decode cX10_syllableTold 18 = .ok (.aload_n 0, 1) := by decide +kernel
theorem dX10_syllableTold_19 : decode cX10_syllableTold 19 = .ok (.getfield 28, 3) := by decide +kernel
theorem dX10_syllableTold_22 : decode cX10_syllableTold 22 = .ok (.iload_n 2, 1) := by decide +kernel
theorem dX10_syllableTold_23 : decode cX10_syllableTold 23 = .ok (.iaload, 1) := by decide +kernel
theorem dX10_syllableTold_24 : decode cX10_syllableTold 24 = .ok (.goto 9, 3) := by decide +kernel
theorem dX10_syllableTold_27 : decode cX10_syllableTold 27 = .ok (.aload_n 0, 1) := by decide +kernel
theorem dX10_syllableTold_28 : decode cX10_syllableTold 28 = .ok (.getfield 31, 3) := by decide +kernel
theorem dX10_syllableTold_31 : decode cX10_syllableTold 31 = .ok (.iload_n 2, 1) := by decide +kernel
theorem dX10_syllableTold_32 : decode cX10_syllableTold 32 = .ok (.iaload, 1) := by decide +kernel
theorem dX10_syllableTold_33 : decode cX10_syllableTold 33 = .ok (.ireturn, 1) := by decide +kernel
theorem dX10_syllable_0 : decode cX10_syllable 0 = .ok (.aload_n 0, 1) := by decide +kernel
theorem dX10_syllable_1 : decode cX10_syllable 1 = .ok (.iload_n 1, 1) := by decide +kernel
theorem dX10_syllable_2 : decode cX10_syllable 2 = .ok (.invokevirtual 133, 3) := by decide +kernel
theorem dX10_syllable_5 : decode cX10_syllable 5 = .ok (.ifCond .eq 12, 3) := by decide +kernel
theorem dX10_syllable_8 : decode cX10_syllable 8 = .ok (.iload_n 3, 1) := by decide +kernel
theorem dX10_syllable_9 : decode cX10_syllable 9 = .ok (.iconst 0, 1) := by decide +kernel
theorem dX10_syllable_10 : decode cX10_syllable 10 = .ok (.iconst 2, 1) := by decide +kernel
theorem dX10_syllable_11 : decode cX10_syllable 11 = .ok (.invokestatic 60, 3) := by decide +kernel
theorem dX10_syllable_14 : decode cX10_syllable 14 = .ok (.ifCond .ne 5, 3) := by decide +kernel
theorem dX10_syllable_17 : decode cX10_syllable 17 = .ok (.iconst (-1), 1) := by decide +kernel
theorem dX10_syllable_18 : decode cX10_syllable 18 = .ok (.ireturn, 1) := by decide +kernel
theorem dX10_syllable_19 : decode cX10_syllable 19 = .ok (.aload_n 0, 1) := by decide +kernel
theorem dX10_syllable_20 : decode cX10_syllable 20 = .ok (.iload_n 1, 1) := by decide +kernel
theorem dX10_syllable_21 : decode cX10_syllable 21 = .ok (.invokevirtual 157, 3) := by decide +kernel
theorem dX10_syllable_24 : decode cX10_syllable 24 = .ok (.iload_n 2, 1) := by decide +kernel
theorem dX10_syllable_25 : decode cX10_syllable 25 = .ok (.iconst 0, 1) := by decide +kernel
theorem dX10_syllable_26 : decode cX10_syllable 26 = .ok (.aload_n 0, 1) := by decide +kernel
theorem dX10_syllable_27 : decode cX10_syllable 27 = .ok (.getfield 141, 3) := by decide +kernel
theorem dX10_syllable_30 : decode cX10_syllable 30 = .ok (.iconst 1, 1) := by decide +kernel
theorem dX10_syllable_31 : decode cX10_syllable 31 = .ok (.isub, 1) := by decide +kernel
theorem dX10_syllable_32 : decode cX10_syllable 32 = .ok (.invokestatic 60, 3) := by decide +kernel
theorem dX10_syllable_35 : decode cX10_syllable 35 = .ok (.ifCond .eq 13, 3) := by decide +kernel
theorem dX10_syllable_38 : decode cX10_syllable 38 = .ok (.aload_n 0, 1) := by decide +kernel
theorem dX10_syllable_39 : decode cX10_syllable 39 = .ok (.iload_n 1, 1) := by decide +kernel
theorem dX10_syllable_40 : decode cX10_syllable 40 = .ok (.iload_n 2, 1) := by decide +kernel
theorem dX10_syllable_41 : decode cX10_syllable 41 = .ok (.iload_n 3, 1) := by decide +kernel
theorem dX10_syllable_42 : decode cX10_syllable 42 = .ok (.invokevirtual 181, 3) := by decide +kernel
theorem dX10_syllable_45 : decode cX10_syllable 45 = .ok (.goto 4, 3) := by decide +kernel
theorem dX10_syllable_48 : decode cX10_syllable 48 = .ok (.iconst (-1), 1) := by decide +kernel
theorem dX10_syllable_49 : decode cX10_syllable 49 = .ok (.ireturn, 1) := by decide +kernel
theorem dX10_fit_0 : decode cX10_fit 0 = .ok (.aload_n 0, 1) := by decide +kernel
theorem dX10_fit_1 : decode cX10_fit 1 = .ok (.iload_n 1, 1) := by decide +kernel
theorem dX10_fit_2 : decode cX10_fit 2 = .ok (.invokevirtual 133, 3) := by decide +kernel
theorem dX10_fit_5 : decode cX10_fit 5 = .ok (.ifCond .ne 5, 3) := by decide +kernel
theorem dX10_fit_8 : decode cX10_fit 8 = .ok (.iconst (-1), 1) := by decide +kernel
theorem dX10_fit_9 : decode cX10_fit 9 = .ok (.ireturn, 1) := by decide +kernel
theorem dX10_fit_10 : decode cX10_fit 10 = .ok (.aload_n 0, 1) := by decide +kernel
theorem dX10_fit_11 : decode cX10_fit 11 = .ok (.iload_n 1, 1) := by decide +kernel
theorem dX10_fit_12 : decode cX10_fit 12 = .ok (.invokevirtual 157, 3) := by decide +kernel
theorem dX10_fit_15 : decode cX10_fit 15 = .ok (.iload_n 1, 1) := by decide +kernel
theorem dX10_fit_16 : decode cX10_fit 16 = .ok (.invokestatic 83, 3) := by decide +kernel
theorem dX10_fit_19 : decode cX10_fit 19 = .ok (.istore_n 2, 1) := by decide +kernel
theorem dX10_fit_20 : decode cX10_fit 20 = .ok (.aload_n 0, 1) := by decide +kernel
theorem dX10_fit_21 : decode cX10_fit 21 = .ok (.getfield 141, 3) := by decide +kernel
theorem dX10_fit_24 : decode cX10_fit 24 = .ok (.ifCond .ne 7, 3) := by decide +kernel
theorem dX10_fit_27 : decode cX10_fit 27 = .ok (.iconst (-1), 1) := by decide +kernel
theorem dX10_fit_28 : decode cX10_fit 28 = .ok (.goto 37, 3) := by decide +kernel
theorem dX10_fit_31 : decode cX10_fit 31 = .ok (.aload_n 0, 1) := by decide +kernel
theorem dX10_fit_32 : decode cX10_fit 32 = .ok (.getfield 7, 3) := by decide +kernel
theorem dX10_fit_35 : decode cX10_fit 35 = .ok (.iload_n 2, 1) := by decide +kernel
theorem dX10_fit_36 : decode cX10_fit 36 = .ok (.iconst 1, 1) := by decide +kernel
theorem dX10_fit_37 : decode cX10_fit 37 = .ok (.iadd, 1) := by decide +kernel
theorem dX10_fit_38 : decode cX10_fit 38 = .ok (.iaload, 1) := by decide +kernel
theorem dX10_fit_39 : decode cX10_fit 39 = .ok (.aload_n 0, 1) := by decide +kernel
theorem dX10_fit_40 : decode cX10_fit 40 = .ok (.getfield 7, 3) := by decide +kernel
theorem dX10_fit_43 : decode cX10_fit 43 = .ok (.iload_n 2, 1) := by decide +kernel
theorem dX10_fit_44 : decode cX10_fit 44 = .ok (.iconst 0, 1) := by decide +kernel
theorem dX10_fit_45 : decode cX10_fit 45 = .ok (.iadd, 1) := by decide +kernel
theorem dX10_fit_46 : decode cX10_fit 46 = .ok (.iaload, 1) := by decide +kernel
theorem dX10_fit_47 : decode cX10_fit 47 = .ok (.isub, 1) := by decide +kernel
theorem dX10_fit_48 : decode cX10_fit 48 = .ok (.aload_n 0, 1) := by decide +kernel
theorem dX10_fit_49 : decode cX10_fit 49 = .ok (.invokevirtual 172, 3) := by decide +kernel
theorem dX10_fit_52 : decode cX10_fit 52 = .ok (.isub, 1) := by decide +kernel
theorem dX10_fit_53 : decode cX10_fit 53 = .ok (.aload_n 0, 1) := by decide +kernel
theorem dX10_fit_54 : decode cX10_fit 54 = .ok (.getfield 28, 3) := by decide +kernel
theorem dX10_fit_57 : decode cX10_fit 57 = .ok (.aload_n 0, 1) := by decide +kernel
theorem dX10_fit_58 : decode cX10_fit 58 = .ok (.getfield 141, 3) := by decide +kernel
theorem dX10_fit_61 : decode cX10_fit 61 = .ok (.iconst 1, 1) := by decide +kernel
theorem dX10_fit_62 : decode cX10_fit 62 = .ok (.isub, 1) := by decide +kernel
theorem dX10_fit_63 : decode cX10_fit 63 = .ok (.iaload, 1) := by decide +kernel
theorem dX10_fit_64 : decode cX10_fit 64 = .ok (.iadd, 1) := by decide +kernel
theorem dX10_fit_65 : decode cX10_fit 65 = .ok (.istore_n 3, 1) := by decide +kernel
theorem dX10_fit_66 : decode cX10_fit 66 = .ok (.iload_n 3, 1) := by decide +kernel
theorem dX10_fit_67 : decode cX10_fit 67 = .ok (.iconst 0, 1) := by decide +kernel
theorem dX10_fit_68 : decode cX10_fit 68 = .ok (.sipush 9999, 3) := by decide +kernel
theorem dX10_fit_71 : decode cX10_fit 71 = .ok (.invokestatic 60, 3) := by decide +kernel
theorem dX10_fit_74 : decode cX10_fit 74 = .ok (.ifCond .ne 6, 3) := by decide +kernel
theorem dX10_fit_77 : decode cX10_fit 77 = .ok (.bipush (-2), 2) := by decide +kernel
theorem dX10_fit_79 : decode cX10_fit 79 = .ok (.ireturn, 1) := by decide +kernel
theorem dX10_fit_80 : decode cX10_fit 80 = .ok (.aload_n 0, 1) := by decide +kernel
theorem dX10_fit_81 : decode cX10_fit 81 = .ok (.invokevirtual 57, 3) := by decide +kernel
theorem dX10_fit_84 : decode cX10_fit 84 = .ok (.aload_n 0, 1) := by decide +kernel
theorem dX10_fit_85 : decode cX10_fit 85 = .ok (.getfield 7, 3) := by decide +kernel
theorem dX10_fit_88 : decode cX10_fit 88 = .ok (.iload_n 2, 1) := by decide +kernel
theorem dX10_fit_89 : decode cX10_fit 89 = .ok (.iconst 4, 1) := by decide +kernel
theorem dX10_fit_90 : decode cX10_fit 90 = .ok (.iadd, 1) := by decide +kernel
theorem dX10_fit_91 : decode cX10_fit 91 = .ok (.iaload, 1) := by decide +kernel
theorem dX10_fit_92 : decode cX10_fit 92 = .ok (.iconst 1, 1) := by decide +kernel
theorem dX10_fit_93 : decode cX10_fit 93 = .ok (.isub, 1) := by decide +kernel
theorem dX10_fit_94 : decode cX10_fit 94 = .ok (.istore 4, 2) := by decide +kernel
theorem dX10_fit_96 : decode cX10_fit 96 = .ok (.aload_n 0, 1) := by decide +kernel
theorem dX10_fit_97 : decode cX10_fit 97 = .ok (.getfield 7, 3) := by decide +kernel
theorem dX10_fit_100 : decode cX10_fit 100 = .ok (.iload_n 2, 1) := by decide +kernel
theorem dX10_fit_101 : decode cX10_fit 101 = .ok (.iconst 5, 1) := by decide +kernel
theorem dX10_fit_102 : decode cX10_fit 102 = .ok (.iadd, 1) := by decide +kernel
theorem dX10_fit_103 : decode cX10_fit 103 = .ok (.iconst 2, 1) := by decide +kernel
theorem dX10_fit_104 : decode cX10_fit 104 = .ok (.iload 4, 2) := by decide +kernel
theorem dX10_fit_106 : decode cX10_fit 106 = .ok (.imul, 1) := by decide +kernel
theorem dX10_fit_107 : decode cX10_fit 107 = .ok (.iadd, 1) := by decide +kernel
theorem dX10_fit_108 : decode cX10_fit 108 = .ok (.iaload, 1) := by decide +kernel
theorem dX10_fit_109 : decode cX10_fit 109 = .ok (.bipush 107, 2) := by decide +kernel
theorem dX10_fit_111 : decode cX10_fit 111 = .ok (.if_icmp .ne 22, 3) := by decide +kernel
theorem dX10_fit_114 : decode cX10_fit 114 = .ok (.aload_n 0, 1) := by decide +kernel
theorem dX10_fit_115 : decode cX10_fit 115 = .ok (.getfield 7, 3) := by decide +kernel
theorem dX10_fit_118 : decode cX10_fit 118 = .ok (.iload_n 2, 1) := by decide +kernel
theorem dX10_fit_119 : decode cX10_fit 119 = .ok (.iconst 5, 1) := by decide +kernel
theorem dX10_fit_120 : decode cX10_fit 120 = .ok (.iadd, 1) := by decide +kernel
theorem dX10_fit_121 : decode cX10_fit 121 = .ok (.iconst 2, 1) := by decide +kernel
theorem dX10_fit_122 : decode cX10_fit 122 = .ok (.iload 4, 2) := by decide +kernel
theorem dX10_fit_124 : decode cX10_fit 124 = .ok (.imul, 1) := by decide +kernel
theorem dX10_fit_125 : decode cX10_fit 125 = .ok (.iadd, 1) := by decide +kernel
theorem dX10_fit_126 : decode cX10_fit 126 = .ok (.iconst 1, 1) := by decide +kernel
theorem dX10_fit_127 : decode cX10_fit 127 = .ok (.iadd, 1) := by decide +kernel
theorem dX10_fit_128 : decode cX10_fit 128 = .ok (.iaload, 1) := by decide +kernel
theorem dX10_fit_129 : decode cX10_fit 129 = .ok (.iconst (-1), 1) := by decide +kernel
theorem dX10_fit_130 : decode cX10_fit 130 = .ok (.if_icmp .ge 9, 3) := by decide +kernel
theorem dX10_fit_133 : decode cX10_fit 133 = .ok (.iinc 4 (-1), 3) := by decide +kernel
theorem dX10_fit_136 : decode cX10_fit 136 = .ok (.goto (-40), 3) := by decide +kernel
theorem dX10_fit_139 : decode cX10_fit 139 = .ok (.aload_n 0, 1) := by decide +kernel
theorem dX10_fit_140 : decode cX10_fit 140 = .ok (.getfield 7, 3) := by decide +kernel
theorem dX10_fit_143 : decode cX10_fit 143 = .ok (.iload_n 2, 1) := by decide +kernel
theorem dX10_fit_144 : decode cX10_fit 144 = .ok (.iconst 5, 1) := by decide +kernel
theorem dX10_fit_145 : decode cX10_fit 145 = .ok (.iadd, 1) := by decide +kernel
theorem dX10_fit_146 : decode cX10_fit 146 = .ok (.iconst 2, 1) := by decide +kernel
theorem dX10_fit_147 : decode cX10_fit 147 = .ok (.iload 4, 2) := by decide +kernel
theorem dX10_fit_149 : decode cX10_fit 149 = .ok (.imul, 1) := by decide +kernel
theorem dX10_fit_150 : decode cX10_fit 150 = .ok (.iadd, 1) := by decide +kernel
theorem dX10_fit_151 : decode cX10_fit 151 = .ok (.iconst 1, 1) := by decide +kernel
theorem dX10_fit_152 : decode cX10_fit 152 = .ok (.iadd, 1) := by decide +kernel
theorem dX10_fit_153 : decode cX10_fit 153 = .ok (.iload_n 3, 1) := by decide +kernel
theorem dX10_fit_154 : decode cX10_fit 154 = .ok (.iastore, 1) := by decide +kernel
theorem dX10_fit_155 : decode cX10_fit 155 = .ok (.iload_n 3, 1) := by decide +kernel
theorem dX10_fit_156 : decode cX10_fit 156 = .ok (.ireturn, 1) := by decide +kernel
theorem dX10_isSung_0 : decode cX10_isSung 0 = .ok (.aload_n 0, 1) := by decide +kernel
theorem dX10_isSung_1 : decode cX10_isSung 1 = .ok (.getfield 25, 3) := by decide +kernel
theorem dX10_isSung_4 : decode cX10_isSung 4 = .ok (.bipush 6, 2) := by decide +kernel
theorem dX10_isSung_6 : decode cX10_isSung 6 = .ok (.iload_n 2, 1) := by decide +kernel
theorem dX10_isSung_7 : decode cX10_isSung 7 = .ok (.imul, 1) := by decide +kernel
theorem dX10_isSung_8 : decode cX10_isSung 8 = .ok (.iconst 5, 1) := by decide +kernel
theorem dX10_isSung_9 : decode cX10_isSung 9 = .ok (.iadd, 1) := by decide +kernel
theorem dX10_isSung_10 : decode cX10_isSung 10 = .ok (.iaload, 1) := by decide +kernel
theorem dX10_isSung_11 : decode cX10_isSung 11 = .ok (.istore 4, 2) := by decide +kernel
theorem dX10_isSung_13 : decode cX10_isSung 13 = .ok (.iload 4, 2) := by decide +kernel
theorem dX10_isSung_15 : decode cX10_isSung 15 = .ok (.ifCond .lt 18, 3) := by decide +kernel
theorem dX10_isSung_18 : decode cX10_isSung 18 = .ok (.aload_n 0, 1) := by decide +kernel
theorem dX10_isSung_19 : decode cX10_isSung 19 = .ok (.iload_n 1, 1) := by decide +kernel
theorem dX10_isSung_20 : decode cX10_isSung 20 = .ok (.iload 4, 2) := by decide +kernel
theorem dX10_isSung_22 : decode cX10_isSung 22 = .ok (.invokevirtual 178, 3) := by decide +kernel
theorem dX10_isSung_25 : decode cX10_isSung 25 = .ok (.iload_n 3, 1) := by decide +kernel
theorem dX10_isSung_26 : decode cX10_isSung 26 = .ok (.if_icmp .gt 7, 3) := by decide +kernel
theorem dX10_isSung_29 : decode cX10_isSung 29 = .ok (.iconst 1, 1) := by decide +kernel
theorem dX10_isSung_30 : decode cX10_isSung 30 = .ok (.goto 4, 3) := by decide +kernel
theorem dX10_isSung_33 : decode cX10_isSung 33 = .ok (.iconst 0, 1) := by decide +kernel
theorem dX10_isSung_34 : decode cX10_isSung 34 = .ok (.ireturn, 1) := by decide +kernel
theorem dX10_shows_0 : decode cX10_shows 0 = .ok (.aload_n 0, 1) := by decide +kernel
theorem dX10_shows_1 : decode cX10_shows 1 = .ok (.iload_n 1, 1) := by decide +kernel
theorem dX10_shows_2 : decode cX10_shows 2 = .ok (.invokevirtual 133, 3) := by decide +kernel
theorem dX10_shows_5 : decode cX10_shows 5 = .ok (.ifCond .ne 5, 3) := by decide +kernel
theorem dX10_shows_8 : decode cX10_shows 8 = .ok (.iconst (-1), 1) := by decide +kernel
theorem dX10_shows_9 : decode cX10_shows 9 = .ok (.ireturn, 1) := by decide +kernel
theorem dX10_shows_10 : decode cX10_shows 10 = .ok (.aload_n 0, 1) := by decide +kernel
theorem dX10_shows_11 : decode cX10_shows 11 = .ok (.iload_n 1, 1) := by decide +kernel
theorem dX10_shows_12 : decode cX10_shows 12 = .ok (.invokevirtual 157, 3) := by decide +kernel
theorem dX10_shows_15 : decode cX10_shows 15 = .ok (.iload_n 2, 1) := by decide +kernel
theorem dX10_shows_16 : decode cX10_shows 16 = .ok (.iconst 0, 1) := by decide +kernel
theorem dX10_shows_17 : decode cX10_shows 17 = .ok (.aload_n 0, 1) := by decide +kernel
theorem dX10_shows_18 : decode cX10_shows 18 = .ok (.getfield 144, 3) := by decide +kernel
theorem dX10_shows_21 : decode cX10_shows 21 = .ok (.iconst 1, 1) := by decide +kernel
theorem dX10_shows_22 : decode cX10_shows 22 = .ok (.isub, 1) := by decide +kernel
theorem dX10_shows_23 : decode cX10_shows 23 = .ok (.invokestatic 60, 3) := by decide +kernel
theorem dX10_shows_26 : decode cX10_shows 26 = .ok (.ifCond .ne 5, 3) := by decide +kernel
theorem dX10_shows_29 : decode cX10_shows 29 = .ok (.iconst (-1), 1) := by decide +kernel
theorem dX10_shows_30 : decode cX10_shows 30 = .ok (.ireturn, 1) := by decide +kernel
theorem dX10_shows_31 : decode cX10_shows 31 = .ok (.aload_n 0, 1) := by decide +kernel
theorem dX10_shows_32 : decode cX10_shows 32 = .ok (.iload_n 1, 1) := by decide +kernel
theorem dX10_shows_33 : decode cX10_shows 33 = .ok (.iload_n 3, 1) := by decide +kernel
theorem dX10_shows_34 : decode cX10_shows 34 = .ok (.invokevirtual 154, 3) := by decide +kernel
theorem dX10_shows_37 : decode cX10_shows 37 = .ok (.ifCond .ne 8, 3) := by decide +kernel
theorem dX10_shows_40 : decode cX10_shows 40 = .ok (.bipush (-9), 2) := by decide +kernel
theorem dX10_shows_42 : decode cX10_shows 42 = .ok (.goto 28, 3) := by decide +kernel
theorem dX10_shows_45 : decode cX10_shows 45 = .ok (.aload_n 0, 1) := by decide +kernel
theorem dX10_shows_46 : decode cX10_shows 46 = .ok (.getfield 25, 3) := by decide +kernel
theorem dX10_shows_49 : decode cX10_shows 49 = .ok (.bipush 6, 2) := by decide +kernel
theorem dX10_shows_51 : decode cX10_shows 51 = .ok (.iload_n 2, 1) := by decide +kernel
theorem dX10_shows_52 : decode cX10_shows 52 = .ok (.imul, 1) := by decide +kernel
theorem dX10_shows_53 : decode cX10_shows 53 = .ok (.aload_n 0, 1) := by decide +kernel
theorem dX10_shows_54 : decode cX10_shows 54 = .ok (.iload_n 1, 1) := by decide +kernel
theorem dX10_shows_55 : decode cX10_shows 55 = .ok (.iload_n 2, 1) := by decide +kernel
theorem dX10_shows_56 : decode cX10_shows 56 = .ok (.iload_n 3, 1) := by decide +kernel
theorem dX10_shows_57 : decode cX10_shows 57 = .ok (.invokevirtual 185, 3) := by decide +kernel
theorem dX10_shows_60 : decode cX10_shows 60 = .ok (.ifCond .eq 7, 3) := by decide +kernel
theorem dX10_shows_63 : decode cX10_shows 63 = .ok (.iconst 3, 1) := by decide +kernel
theorem dX10_shows_64 : decode cX10_shows 64 = .ok (.goto 4, 3) := by decide +kernel
theorem dX10_shows_67 : decode cX10_shows 67 = .ok (.iconst 2, 1) := by decide +kernel
theorem dX10_shows_68 : decode cX10_shows 68 = .ok (.iadd, 1) := by decide +kernel
theorem dX10_shows_69 : decode cX10_shows 69 = .ok (.iaload, 1) := by decide +kernel
theorem dX10_shows_70 : decode cX10_shows 70 = .ok (.ireturn, 1) := by decide +kernel
theorem dX10_isAhead_0 : decode cX10_isAhead 0 = .ok (.aload_n 0, 1) := by decide +kernel
theorem dX10_isAhead_1 : decode cX10_isAhead 1 = .ok (.iload_n 1, 1) := by decide +kernel
theorem dX10_isAhead_2 : decode cX10_isAhead 2 = .ok (.invokevirtual 151, 3) := by decide +kernel
theorem dX10_isAhead_5 : decode cX10_isAhead 5 = .ok (.aload_n 0, 1) := by decide +kernel
theorem dX10_isAhead_6 : decode cX10_isAhead 6 = .ok (.iload_n 2, 1) := by decide +kernel
theorem dX10_isAhead_7 : decode cX10_isAhead 7 = .ok (.invokevirtual 151, 3) := by decide +kernel
theorem dX10_isAhead_10 : decode cX10_isAhead 10 = .ok (.isub, 1) := by decide +kernel
theorem dX10_isAhead_11 : decode cX10_isAhead 11 = .ok (.istore_n 3, 1) := by decide +kernel
theorem dX10_isAhead_12 : decode cX10_isAhead 12 = .ok (.iload_n 3, 1) := by decide +kernel
theorem dX10_isAhead_13 : decode cX10_isAhead 13 = .ok (.ifCond .ne 19, 3) := by decide +kernel
theorem dX10_isAhead_16 : decode cX10_isAhead 16 = .ok (.aload_n 0, 1) := by decide +kernel
theorem dX10_isAhead_17 : decode cX10_isAhead 17 = .ok (.getfield 37, 3) := by decide +kernel
theorem dX10_isAhead_20 : decode cX10_isAhead 20 = .ok (.iload_n 1, 1) := by decide +kernel
theorem dX10_isAhead_21 : decode cX10_isAhead 21 = .ok (.iaload, 1) := by decide +kernel
theorem dX10_isAhead_22 : decode cX10_isAhead 22 = .ok (.aload_n 0, 1) := by decide +kernel
theorem dX10_isAhead_23 : decode cX10_isAhead 23 = .ok (.getfield 37, 3) := by decide +kernel
theorem dX10_isAhead_26 : decode cX10_isAhead 26 = .ok (.iload_n 2, 1) := by decide +kernel
theorem dX10_isAhead_27 : decode cX10_isAhead 27 = .ok (.iaload, 1) := by decide +kernel
theorem dX10_isAhead_28 : decode cX10_isAhead 28 = .ok (.isub, 1) := by decide +kernel
theorem dX10_isAhead_29 : decode cX10_isAhead 29 = .ok (.goto 4, 3) := by decide +kernel
theorem dX10_isAhead_32 : decode cX10_isAhead 32 = .ok (.iload_n 3, 1) := by decide +kernel
theorem dX10_isAhead_33 : decode cX10_isAhead 33 = .ok (.istore_n 3, 1) := by decide +kernel
theorem dX10_isAhead_34 : decode cX10_isAhead 34 = .ok (.iload_n 3, 1) := by decide +kernel
theorem dX10_isAhead_35 : decode cX10_isAhead 35 = .ok (.ifCond .ne 16, 3) := by decide +kernel
theorem dX10_isAhead_38 : decode cX10_isAhead 38 = .ok (.iload_n 1, 1) := by decide +kernel
theorem dX10_isAhead_39 : decode cX10_isAhead 39 = .ok (.iload_n 2, 1) := by decide +kernel
theorem dX10_isAhead_40 : decode cX10_isAhead 40 = .ok (.if_icmp .ge 7, 3) := by decide +kernel
theorem dX10_isAhead_43 : decode cX10_isAhead 43 = .ok (.iconst 1, 1) := by decide +kernel
theorem dX10_isAhead_44 : decode cX10_isAhead 44 = .ok (.goto 16, 3) := by decide +kernel
theorem dX10_isAhead_47 : decode cX10_isAhead 47 = .ok (.iconst 0, 1) := by decide +kernel
theorem dX10_isAhead_48 : decode cX10_isAhead 48 = .ok (.goto 12, 3) := by decide +kernel
theorem dX10_isAhead_51 : decode cX10_isAhead 51 = .ok (.iload_n 3, 1) := by decide +kernel
theorem dX10_isAhead_52 : decode cX10_isAhead 52 = .ok (.ifCond .ge 7, 3) := by decide +kernel
theorem dX10_isAhead_55 : decode cX10_isAhead 55 = .ok (.iconst 1, 1) := by decide +kernel
theorem dX10_isAhead_56 : decode cX10_isAhead 56 = .ok (.goto 4, 3) := by decide +kernel
theorem dX10_isAhead_59 : decode cX10_isAhead 59 = .ok (.iconst 0, 1) := by decide +kernel
theorem dX10_isAhead_60 : decode cX10_isAhead 60 = .ok (.ireturn, 1) := by decide +kernel
theorem dX10_shown_0 : decode cX10_shown 0 = .ok (.iload_n 2, 1) := by decide +kernel
theorem dX10_shown_1 : decode cX10_shown 1 = .ok (.ifCond .ge 5, 3) := by decide +kernel
theorem dX10_shown_4 : decode cX10_shown 4 = .ok (.iconst (-1), 1) := by decide +kernel
theorem dX10_shown_5 : decode cX10_shown 5 = .ok (.ireturn, 1) := by decide +kernel
theorem dX10_shown_6 : decode cX10_shown 6 = .ok (.aload_n 0, 1) := by decide +kernel
theorem dX10_shown_7 : decode cX10_shown 7 = .ok (.invokevirtual 169, 3) := by decide +kernel
theorem dX10_shown_10 : decode cX10_shown 10 = .ok (.iconst 0, 1) := by decide +kernel
theorem dX10_shown_11 : decode cX10_shown 11 = .ok (.istore_n 3, 1) := by decide +kernel
theorem dX10_shown_12 : decode cX10_shown 12 = .ok (.iload_n 3, 1) := by decide +kernel
theorem dX10_shown_13 : decode cX10_shown 13 = .ok (.aload_n 0, 1) := by decide +kernel
theorem dX10_shown_14 : decode cX10_shown 14 = .ok (.getfield 7, 3) := by decide +kernel
theorem dX10_shown_17 : decode cX10_shown 17 = .ok (.iconst 1, 1) := by decide +kernel
theorem dX10_shown_18 : decode cX10_shown 18 = .ok (.iaload, 1) := by decide +kernel
theorem dX10_shown_19 : decode cX10_shown 19 = .ok (.if_icmp .ge 85, 3) := by decide +kernel
theorem dX10_shown_22 : decode cX10_shown 22 = .ok (.iconst 0, 1) := by decide +kernel
theorem dX10_shown_23 : decode cX10_shown 23 = .ok (.istore 4, 2) := by decide +kernel
theorem dX10_shown_25 : decode cX10_shown 25 = .ok (.iconst 0, 1) := by decide +kernel
theorem dX10_shown_26 : decode cX10_shown 26 = .ok (.istore 5, 2) := by decide +kernel
theorem dX10_shown_28 : decode cX10_shown 28 = .ok (.iload 5, 2) := by decide +kernel
theorem dX10_shown_30 : decode cX10_shown 30 = .ok (.aload_n 0, 1) := by decide +kernel
theorem dX10_shown_31 : decode cX10_shown 31 = .ok (.getfield 7, 3) := by decide +kernel
theorem dX10_shown_34 : decode cX10_shown 34 = .ok (.iconst 1, 1) := by decide +kernel
theorem dX10_shown_35 : decode cX10_shown 35 = .ok (.iaload, 1) := by decide +kernel
theorem dX10_shown_36 : decode cX10_shown 36 = .ok (.if_icmp .ge 45, 3) := by decide +kernel
theorem dX10_shown_39 : decode cX10_shown 39 = .ok (.iload 4, 2) := by decide +kernel
theorem dX10_shown_41 : decode cX10_shown 41 = .ok (.iload 5, 2) := by decide +kernel
theorem dX10_shown_43 : decode cX10_shown 43 = .ok (.iload_n 3, 1) := by decide +kernel
theorem dX10_shown_44 : decode cX10_shown 44 = .ok (.if_icmp .eq 27, 3) := by decide +kernel
theorem dX10_shown_47 : decode cX10_shown 47 = .ok (.aload_n 0, 1) := by decide +kernel
theorem dX10_shown_48 : decode cX10_shown 48 = .ok (.iload 5, 2) := by decide +kernel
theorem dX10_shown_50 : decode cX10_shown 50 = .ok (.iload_n 1, 1) := by decide +kernel
theorem dX10_shown_51 : decode cX10_shown 51 = .ok (.invokevirtual 154, 3) := by decide +kernel
theorem dX10_shown_54 : decode cX10_shown 54 = .ok (.ifCond .eq 17, 3) := by decide +kernel
theorem dX10_shown_57 : decode cX10_shown 57 = .ok (.aload_n 0, 1) := by decide +kernel
theorem dX10_shown_58 : decode cX10_shown 58 = .ok (.iload 5, 2) := by decide +kernel
theorem dX10_shown_60 : decode cX10_shown 60 = .ok (.iload_n 3, 1) := by decide +kernel
theorem dX10_shown_61 : decode cX10_shown 61 = .ok (.invokevirtual 188, 3) := by decide +kernel
theorem dX10_shown_64 : decode cX10_shown 64 = .ok (.ifCond .eq 7, 3) := by decide +kernel
theorem dX10_shown_67 : decode cX10_shown 67 = .ok (.iconst 1, 1) := by decide +kernel
theorem dX10_shown_68 : decode cX10_shown 68 = .ok (.goto 4, 3) := by decide +kernel
theorem dX10_shown_71 : decode cX10_shown 71 = .ok (.iconst 0, 1) := by decide +kernel
theorem dX10_shown_72 : decode cX10_shown 72 = .ok (.iadd, 1) := by decide +kernel
theorem dX10_shown_73 : decode cX10_shown 73 = .ok (.istore 4, 2) := by decide +kernel
theorem dX10_shown_75 : decode cX10_shown 75 = .ok (.iinc 5 1, 3) := by decide +kernel
theorem dX10_shown_78 : decode cX10_shown 78 = .ok (.goto (-50), 3) := by decide +kernel
theorem dX10_shown_81 : decode cX10_shown 81 = .ok (.aload_n 0, 1) := by decide +kernel
theorem dX10_shown_82 : decode cX10_shown 82 = .ok (.iload_n 3, 1) := by decide +kernel
theorem dX10_shown_83 : decode cX10_shown 83 = .ok (.iload_n 1, 1) := by decide +kernel
theorem dX10_shown_84 : decode cX10_shown 84 = .ok (.invokevirtual 154, 3) := by decide +kernel
theorem dX10_shown_87 : decode cX10_shown 87 = .ok (.ifCond .eq 11, 3) := by decide +kernel
theorem dX10_shown_90 : decode cX10_shown 90 = .ok (.iload 4, 2) := by decide +kernel
theorem dX10_shown_92 : decode cX10_shown 92 = .ok (.iload_n 2, 1) := by decide +kernel
theorem dX10_shown_93 : decode cX10_shown 93 = .ok (.if_icmp .ne 5, 3) := by decide +kernel
theorem dX10_shown_96 : decode cX10_shown 96 = .ok (.iload_n 3, 1) := by decide +kernel
theorem dX10_shown_97 : decode cX10_shown 97 = .ok (.ireturn, 1) := by decide +kernel
theorem dX10_shown_98 : decode cX10_shown 98 = .ok (.iinc 3 1, 3) := by decide +kernel
theorem dX10_shown_101 : decode cX10_shown 101 = .ok (.goto (-89), 3) := by decide +kernel
theorem dX10_shown_104 : decode cX10_shown 104 = .ok (.bipush (-9), 2) := by decide +kernel
theorem dX10_shown_106 : decode cX10_shown 106 = .ok (.ireturn, 1) := by decide +kernel
theorem dX10_crowded_0 : decode cX10_crowded 0 = .ok (.bipush (-9), 2) := by decide +kernel
theorem dX10_crowded_2 : decode cX10_crowded 2 = .ok (.istore_n 1, 1) := by decide +kernel
theorem dX10_crowded_3 : decode cX10_crowded 3 = .ok (.iconst 0, 1) := by decide +kernel
theorem dX10_crowded_4 : decode cX10_crowded 4 = .ok (.istore_n 2, 1) := by decide +kernel
theorem dX10_crowded_5 : decode cX10_crowded 5 = .ok (.iconst 0, 1) := by decide +kernel
theorem dX10_crowded_6 : decode cX10_crowded 6 = .ok (.istore_n 3, 1) := by decide +kernel
theorem dX10_crowded_7 : decode cX10_crowded 7 = .ok (.iload_n 3, 1) := by decide +kernel
theorem dX10_crowded_8 : decode cX10_crowded 8 = .ok (.aload_n 0, 1) := by decide +kernel
theorem dX10_crowded_9 : decode cX10_crowded 9 = .ok (.getfield 7, 3) := by decide +kernel
theorem dX10_crowded_12 : decode cX10_crowded 12 = .ok (.iconst 1, 1) := by decide +kernel
theorem dX10_crowded_13 : decode cX10_crowded 13 = .ok (.iaload, 1) := by decide +kernel
theorem dX10_crowded_14 : decode cX10_crowded 14 = .ok (.if_icmp .ge 116, 3) := by decide +kernel
theorem dX10_crowded_17 : decode cX10_crowded 17 = .ok (.aload_n 0, 1) := by decide +kernel
theorem dX10_crowded_18 : decode cX10_crowded 18 = .ok (.getfield 7, 3) := by decide +kernel
theorem dX10_crowded_21 : decode cX10_crowded 21 = .ok (.iload_n 3, 1) := by decide +kernel
theorem dX10_crowded_22 : decode cX10_crowded 22 = .ok (.invokestatic 83, 3) := by decide +kernel
theorem dX10_crowded_25 : decode cX10_crowded 25 = .ok (.iconst 0, 1) := by decide +kernel
theorem dX10_crowded_26 : decode cX10_crowded 26 = .ok (.iadd, 1) := by decide +kernel
theorem dX10_crowded_27 : decode cX10_crowded 27 = .ok (.iaload, 1) := by decide +kernel
theorem dX10_crowded_28 : decode cX10_crowded 28 = .ok (.istore 4, 2) := by decide +kernel
theorem dX10_crowded_30 : decode cX10_crowded 30 = .ok (.iconst 0, 1) := by decide +kernel
theorem dX10_crowded_31 : decode cX10_crowded 31 = .ok (.istore 5, 2) := by decide +kernel
theorem dX10_crowded_33 : decode cX10_crowded 33 = .ok (.iconst 0, 1) := by decide +kernel
theorem dX10_crowded_34 : decode cX10_crowded 34 = .ok (.istore 6, 2) := by decide +kernel
theorem dX10_crowded_36 : decode cX10_crowded 36 = .ok (.iload 6, 2) := by decide +kernel
theorem dX10_crowded_38 : decode cX10_crowded 38 = .ok (.aload_n 0, 1) := by decide +kernel
theorem dX10_crowded_39 : decode cX10_crowded 39 = .ok (.getfield 7, 3) := by decide +kernel
theorem dX10_crowded_42 : decode cX10_crowded 42 = .ok (.iconst 1, 1) := by decide +kernel
theorem dX10_crowded_43 : decode cX10_crowded 43 = .ok (.iaload, 1) := by decide +kernel
theorem dX10_crowded_44 : decode cX10_crowded 44 = .ok (.if_icmp .ge 30, 3) := by decide +kernel
theorem dX10_crowded_47 : decode cX10_crowded 47 = .ok (.iload 5, 2) := by decide +kernel
theorem dX10_crowded_49 : decode cX10_crowded 49 = .ok (.aload_n 0, 1) := by decide +kernel
theorem dX10_crowded_50 : decode cX10_crowded 50 = .ok (.iload 6, 2) := by decide +kernel
theorem dX10_crowded_52 : decode cX10_crowded 52 = .ok (.iload 4, 2) := by decide +kernel
theorem dX10_crowded_54 : decode cX10_crowded 54 = .ok (.invokevirtual 154, 3) := by decide +kernel
theorem dX10_crowded_57 : decode cX10_crowded 57 = .ok (.ifCond .eq 7, 3) := by decide +kernel
theorem dX10_crowded_60 : decode cX10_crowded 60 = .ok (.iconst 1, 1) := by decide +kernel
theorem dX10_crowded_61 : decode cX10_crowded 61 = .ok (.goto 4, 3) := by decide +kernel
theorem dX10_crowded_64 : decode cX10_crowded 64 = .ok (.iconst 0, 1) := by decide +kernel
theorem dX10_crowded_65 : decode cX10_crowded 65 = .ok (.iadd, 1) := by decide +kernel
theorem dX10_crowded_66 : decode cX10_crowded 66 = .ok (.istore 5, 2) := by decide +kernel
theorem dX10_crowded_68 : decode cX10_crowded 68 = .ok (.iinc 6 1, 3) := by decide +kernel
theorem dX10_crowded_71 : decode cX10_crowded 71 = .ok (.goto (-35), 3) := by decide +kernel
theorem dX10_crowded_74 : decode cX10_crowded 74 = .ok (.iload 5, 2) := by decide +kernel
theorem dX10_crowded_76 : decode cX10_crowded 76 = .ok (.iload_n 2, 1) := by decide +kernel
theorem dX10_crowded_77 : decode cX10_crowded 77 = .ok (.if_icmp .gt 15, 3) := by decide +kernel
theorem dX10_crowded_80 : decode cX10_crowded 80 = .ok (.iload 5, 2) := by decide +kernel
theorem dX10_crowded_82 : decode cX10_crowded 82 = .ok (.iload_n 2, 1) := by decide +kernel
theorem dX10_crowded_83 : decode cX10_crowded 83 = .ok (.if_icmp .ne 13, 3) := by decide +kernel
theorem dX10_crowded_86 : decode cX10_crowded 86 = .ok (.iload 4, 2) := by decide +kernel
theorem dX10_crowded_88 : decode cX10_crowded 88 = .ok (.iload_n 1, 1) := by decide +kernel
theorem dX10_crowded_89 : decode cX10_crowded 89 = .ok (.if_icmp .ge 7, 3) := by decide +kernel
theorem dX10_crowded_92 : decode cX10_crowded 92 = .ok (.iconst 1, 1) := by decide +kernel
theorem dX10_crowded_93 : decode cX10_crowded 93 = .ok (.goto 4, 3) := by decide +kernel
theorem dX10_crowded_96 : decode cX10_crowded 96 = .ok (.iconst 0, 1) := by decide +kernel
theorem dX10_crowded_97 : decode cX10_crowded 97 = .ok (.istore 6, 2) := by decide +kernel
theorem dX10_crowded_99 : decode cX10_crowded 99 = .ok (.iload 6, 2) := by decide +kernel
theorem dX10_crowded_101 : decode cX10_crowded 101 = .ok (.ifCond .eq 8, 3) := by decide +kernel
theorem dX10_crowded_104 : decode cX10_crowded 104 = .ok (.iload 4, 2) := by decide +kernel
theorem dX10_crowded_106 : decode cX10_crowded 106 = .ok (.goto 4, 3) := by decide +kernel
theorem dX10_crowded_109 : decode cX10_crowded 109 = .ok (.iload_n 1, 1) := by decide +kernel
theorem dX10_crowded_110 : decode cX10_crowded 110 = .ok (.istore_n 1, 1) := by decide +kernel
theorem dX10_crowded_111 : decode cX10_crowded 111 = .ok (.iload 5, 2) := by decide +kernel
theorem dX10_crowded_113 : decode cX10_crowded 113 = .ok (.iload_n 2, 1) := by decide +kernel
theorem dX10_crowded_114 : decode cX10_crowded 114 = .ok (.if_icmp .le 8, 3) := by decide +kernel
theorem dX10_crowded_117 : decode cX10_crowded 117 = .ok (.iload 5, 2) := by decide +kernel
theorem dX10_crowded_119 : decode cX10_crowded 119 = .ok (.goto 4, 3) := by decide +kernel
theorem dX10_crowded_122 : decode cX10_crowded 122 = .ok (.iload_n 2, 1) := by decide +kernel
theorem dX10_crowded_123 : decode cX10_crowded 123 = .ok (.istore_n 2, 1) := by decide +kernel
theorem dX10_crowded_124 : decode cX10_crowded 124 = .ok (.iinc 3 1, 3) := by decide +kernel
theorem dX10_crowded_127 : decode cX10_crowded 127 = .ok (.goto (-120), 3) := by decide +kernel
theorem dX10_crowded_130 : decode cX10_crowded 130 = .ok (.iload_n 1, 1) := by decide +kernel
theorem dX10_crowded_131 : decode cX10_crowded 131 = .ok (.ireturn, 1) := by decide +kernel
theorem dX10_crowd_0 : decode cX10_crowd 0 = .ok (.aload_n 0, 1) := by decide +kernel
theorem dX10_crowd_1 : decode cX10_crowd 1 = .ok (.invokevirtual 191, 3) := by decide +kernel
theorem dX10_crowd_4 : decode cX10_crowd 4 = .ok (.ireturn, 1) := by decide +kernel
theorem dX10_sung_0 : decode cX10_sung 0 = .ok (.iconst 0, 1) := by decide +kernel
theorem dX10_sung_1 : decode cX10_sung 1 = .ok (.istore_n 2, 1) := by decide +kernel
theorem dX10_sung_2 : decode cX10_sung 2 = .ok (.iconst 0, 1) := by decide +kernel
theorem dX10_sung_3 : decode cX10_sung 3 = .ok (.istore_n 3, 1) := by decide +kernel
theorem dX10_sung_4 : decode cX10_sung 4 = .ok (.iconst 0, 1) := by decide +kernel
theorem dX10_sung_5 : decode cX10_sung 5 = .ok (.istore 4, 2) := by decide +kernel
theorem dX10_sung_7 : decode cX10_sung 7 = .ok (.iload 4, 2) := by decide +kernel
theorem dX10_sung_9 : decode cX10_sung 9 = .ok (.aload_n 0, 1) := by decide +kernel
theorem dX10_sung_10 : decode cX10_sung 10 = .ok (.getfield 7, 3) := by decide +kernel
theorem dX10_sung_13 : decode cX10_sung 13 = .ok (.iconst 1, 1) := by decide +kernel
theorem dX10_sung_14 : decode cX10_sung 14 = .ok (.iaload, 1) := by decide +kernel
theorem dX10_sung_15 : decode cX10_sung 15 = .ok (.if_icmp .ge 70, 3) := by decide +kernel
theorem dX10_sung_18 : decode cX10_sung 18 = .ok (.aload_n 0, 1) := by decide +kernel
theorem dX10_sung_19 : decode cX10_sung 19 = .ok (.iload 4, 2) := by decide +kernel
theorem dX10_sung_21 : decode cX10_sung 21 = .ok (.iload_n 1, 1) := by decide +kernel
theorem dX10_sung_22 : decode cX10_sung 22 = .ok (.invokevirtual 154, 3) := by decide +kernel
theorem dX10_sung_25 : decode cX10_sung 25 = .ok (.ifCond .eq 54, 3) := by decide +kernel
theorem dX10_sung_28 : decode cX10_sung 28 = .ok (.aload_n 0, 1) := by decide +kernel
theorem dX10_sung_29 : decode cX10_sung 29 = .ok (.iload 4, 2) := by decide +kernel
theorem dX10_sung_31 : decode cX10_sung 31 = .ok (.invokevirtual 157, 3) := by decide +kernel
theorem dX10_sung_34 : decode cX10_sung 34 = .ok (.iload_n 2, 1) := by decide +kernel
theorem dX10_sung_35 : decode cX10_sung 35 = .ok (.aload_n 0, 1) := by decide +kernel
theorem dX10_sung_36 : decode cX10_sung 36 = .ok (.getfield 144, 3) := by decide +kernel
theorem dX10_sung_39 : decode cX10_sung 39 = .ok (.iadd, 1) := by decide +kernel
theorem dX10_sung_40 : decode cX10_sung 40 = .ok (.istore_n 2, 1) := by decide +kernel
theorem dX10_sung_41 : decode cX10_sung 41 = .ok (.iconst 0, 1) := by decide +kernel
theorem dX10_sung_42 : decode cX10_sung 42 = .ok (.istore 5, 2) := by decide +kernel
theorem dX10_sung_44 : decode cX10_sung 44 = .ok (.iload 5, 2) := by decide +kernel
theorem dX10_sung_46 : decode cX10_sung 46 = .ok (.aload_n 0, 1) := by decide +kernel
theorem dX10_sung_47 : decode cX10_sung 47 = .ok (.getfield 144, 3) := by decide +kernel
theorem dX10_sung_50 : decode cX10_sung 50 = .ok (.if_icmp .ge 29, 3) := by decide +kernel
theorem dX10_sung_53 : decode cX10_sung 53 = .ok (.iload_n 3, 1) := by decide +kernel
theorem dX10_sung_54 : decode cX10_sung 54 = .ok (.aload_n 0, 1) := by decide +kernel
theorem dX10_sung_55 : decode cX10_sung 55 = .ok (.iload 4, 2) := by decide +kernel
theorem dX10_sung_57 : decode cX10_sung 57 = .ok (.iload 5, 2) := by decide +kernel
theorem dX10_sung_59 : decode cX10_sung 59 = .ok (.iload_n 1, 1) := by decide +kernel
theorem dX10_sung_60 : decode cX10_sung 60 = .ok (.invokevirtual 185, 3) := by decide +kernel
theorem dX10_sung_63 : decode cX10_sung 63 = .ok (.ifCond .eq 7, 3) := by decide +kernel
theorem dX10_sung_66 : decode cX10_sung 66 = .ok (.iconst 1, 1) := by decide +kernel
theorem dX10_sung_67 : decode cX10_sung 67 = .ok (.goto 4, 3) := by decide +kernel
theorem dX10_sung_70 : decode cX10_sung 70 = .ok (.iconst 0, 1) := by decide +kernel
theorem dX10_sung_71 : decode cX10_sung 71 = .ok (.iadd, 1) := by decide +kernel
theorem dX10_sung_72 : decode cX10_sung 72 = .ok (.istore_n 3, 1) := by decide +kernel
theorem dX10_sung_73 : decode cX10_sung 73 = .ok (.iinc 5 1, 3) := by decide +kernel
theorem dX10_sung_76 : decode cX10_sung 76 = .ok (.goto (-32), 3) := by decide +kernel
theorem dX10_sung_79 : decode cX10_sung 79 = .ok (.iinc 4 1, 3) := by decide +kernel
theorem dX10_sung_82 : decode cX10_sung 82 = .ok (.goto (-75), 3) := by decide +kernel
theorem dX10_sung_85 : decode cX10_sung 85 = .ok (.iload_n 2, 1) := by decide +kernel
theorem dX10_sung_86 : decode cX10_sung 86 = .ok (.ifCond .ne 7, 3) := by decide +kernel
theorem dX10_sung_89 : decode cX10_sung 89 = .ok (.fconst 0, 1) := by decide +kernel
theorem dX10_sung_90 : decode cX10_sung 90 = .ok (.goto 8, 3) := by decide +kernel
theorem dX10_sung_93 : decode cX10_sung 93 = .ok (.iload_n 3, 1) := by decide +kernel
theorem dX10_sung_94 : decode cX10_sung 94 = .ok (.i2f, 1) := by decide +kernel
theorem dX10_sung_95 : decode cX10_sung 95 = .ok (.iload_n 2, 1) := by decide +kernel
theorem dX10_sung_96 : decode cX10_sung 96 = .ok (.i2f, 1) := by decide +kernel
theorem dX10_sung_97 : decode cX10_sung 97 = .ok (.fdiv, 1) := by decide +kernel
theorem dX10_sung_98 : decode cX10_sung 98 = .ok (.freturn, 1) := by decide +kernel
theorem dX10_unlikeMany_0 : decode cX10_unlikeMany 0 = .ok (.iconst 0, 1) := by decide +kernel
theorem dX10_unlikeMany_1 : decode cX10_unlikeMany 1 = .ok (.istore_n 1, 1) := by decide +kernel
theorem dX10_unlikeMany_2 : decode cX10_unlikeMany 2 = .ok (.iload_n 1, 1) := by decide +kernel
theorem dX10_unlikeMany_3 : decode cX10_unlikeMany 3 = .ok (.sipush 2760, 3) := by decide +kernel
theorem dX10_unlikeMany_6 : decode cX10_unlikeMany 6 = .ok (.if_icmp .ge 21, 3) := by decide +kernel
theorem dX10_unlikeMany_9 : decode cX10_unlikeMany 9 = .ok (.aload_n 0, 1) := by decide +kernel
theorem dX10_unlikeMany_10 : decode cX10_unlikeMany 10 = .ok (.getfield 47, 3) := by decide +kernel
theorem dX10_unlikeMany_13 : decode cX10_unlikeMany 13 = .ok (.iload_n 1, 1) := by decide +kernel
theorem dX10_unlikeMany_14 : decode cX10_unlikeMany 14 = .ok (.aload_n 0, 1) := by decide +kernel
theorem dX10_unlikeMany_15 : decode cX10_unlikeMany 15 = .ok (.getfield 7, 3) := by decide +kernel
theorem dX10_unlikeMany_18 : decode cX10_unlikeMany 18 = .ok (.iload_n 1, 1) := by decide +kernel
theorem dX10_unlikeMany_19 : decode cX10_unlikeMany 19 = .ok (.iaload, 1) := by decide +kernel
theorem dX10_unlikeMany_20 : decode cX10_unlikeMany 20 = .ok (.iastore, 1) := by decide +kernel
theorem dX10_unlikeMany_21 : decode cX10_unlikeMany 21 = .ok (.iinc 1 1, 3) := by decide +kernel
theorem dX10_unlikeMany_24 : decode cX10_unlikeMany 24 = .ok (.goto (-22), 3) := by decide +kernel
theorem dX10_unlikeMany_27 : decode cX10_unlikeMany 27 = .ok (.iconst 0, 1) := by decide +kernel
theorem dX10_unlikeMany_28 : decode cX10_unlikeMany 28 = .ok (.istore_n 1, 1) := by decide +kernel
theorem dX10_unlikeMany_29 : decode cX10_unlikeMany 29 = .ok (.iconst 0, 1) := by decide +kernel
theorem dX10_unlikeMany_30 : decode cX10_unlikeMany 30 = .ok (.istore_n 2, 1) := by decide +kernel
theorem dX10_unlikeMany_31 : decode cX10_unlikeMany 31 = .ok (.iload_n 2, 1) := by decide +kernel
theorem dX10_unlikeMany_32 : decode cX10_unlikeMany 32 = .ok (.aload_n 0, 1) := by decide +kernel
theorem dX10_unlikeMany_33 : decode cX10_unlikeMany 33 = .ok (.getfield 7, 3) := by decide +kernel
theorem dX10_unlikeMany_36 : decode cX10_unlikeMany 36 = .ok (.iconst 1, 1) := by decide +kernel
theorem dX10_unlikeMany_37 : decode cX10_unlikeMany 37 = .ok (.iaload, 1) := by decide +kernel
theorem dX10_unlikeMany_38 : decode cX10_unlikeMany 38 = .ok (.if_icmp .ge 187, 3) := by decide +kernel
theorem dX10_unlikeMany_41 : decode cX10_unlikeMany 41 = .ok (.aload_n 0, 1) := by decide +kernel
theorem dX10_unlikeMany_42 : decode cX10_unlikeMany 42 = .ok (.iload_n 2, 1) := by decide +kernel
theorem dX10_unlikeMany_43 : decode cX10_unlikeMany 43 = .ok (.invokevirtual 157, 3) := by decide +kernel
theorem dX10_unlikeMany_46 : decode cX10_unlikeMany 46 = .ok (.iconst 0, 1) := by decide +kernel
theorem dX10_unlikeMany_47 : decode cX10_unlikeMany 47 = .ok (.istore_n 3, 1) := by decide +kernel
theorem dX10_unlikeMany_48 : decode cX10_unlikeMany 48 = .ok (.iload_n 3, 1) := by decide +kernel
theorem dX10_unlikeMany_49 : decode cX10_unlikeMany 49 = .ok (.iconst 4, 1) := by decide +kernel
theorem dX10_unlikeMany_50 : decode cX10_unlikeMany 50 = .ok (.aload_n 0, 1) := by decide +kernel
theorem dX10_unlikeMany_51 : decode cX10_unlikeMany 51 = .ok (.getfield 144, 3) := by decide +kernel
theorem dX10_unlikeMany_54 : decode cX10_unlikeMany 54 = .ok (.imul, 1) := by decide +kernel
theorem dX10_unlikeMany_55 : decode cX10_unlikeMany 55 = .ok (.if_icmp .ge 32, 3) := by decide +kernel
theorem dX10_unlikeMany_58 : decode cX10_unlikeMany 58 = .ok (.aload_n 0, 1) := by decide +kernel
theorem dX10_unlikeMany_59 : decode cX10_unlikeMany 59 = .ok (.getfield 50, 3) := by decide +kernel
theorem dX10_unlikeMany_62 : decode cX10_unlikeMany 62 = .ok (.iload_n 3, 1) := by decide +kernel
theorem dX10_unlikeMany_63 : decode cX10_unlikeMany 63 = .ok (.aload_n 0, 1) := by decide +kernel
theorem dX10_unlikeMany_64 : decode cX10_unlikeMany 64 = .ok (.getfield 25, 3) := by decide +kernel
theorem dX10_unlikeMany_67 : decode cX10_unlikeMany 67 = .ok (.bipush 6, 2) := by decide +kernel
theorem dX10_unlikeMany_69 : decode cX10_unlikeMany 69 = .ok (.iload_n 3, 1) := by decide +kernel
theorem dX10_unlikeMany_70 : decode cX10_unlikeMany 70 = .ok (.iconst 4, 1) := by decide +kernel
theorem dX10_unlikeMany_71 : decode cX10_unlikeMany 71 = .ok (.idiv, 1) := by decide +kernel
theorem dX10_unlikeMany_72 : decode cX10_unlikeMany 72 = .ok (.imul, 1) := by decide +kernel
theorem dX10_unlikeMany_73 : decode cX10_unlikeMany 73 = .ok (.iconst 1, 1) := by decide +kernel
theorem dX10_unlikeMany_74 : decode cX10_unlikeMany 74 = .ok (.iadd, 1) := by decide +kernel
theorem dX10_unlikeMany_75 : decode cX10_unlikeMany 75 = .ok (.iload_n 3, 1) := by decide +kernel
theorem dX10_unlikeMany_76 : decode cX10_unlikeMany 76 = .ok (.iconst 4, 1) := by decide +kernel
theorem dX10_unlikeMany_77 : decode cX10_unlikeMany 77 = .ok (.irem, 1) := by decide +kernel
theorem dX10_unlikeMany_78 : decode cX10_unlikeMany 78 = .ok (.iadd, 1) := by decide +kernel
theorem dX10_unlikeMany_79 : decode cX10_unlikeMany 79 = .ok (.iaload, 1) := by decide +kernel
theorem dX10_unlikeMany_80 : decode cX10_unlikeMany 80 = .ok (.iastore, 1) := by decide +kernel
theorem dX10_unlikeMany_81 : decode cX10_unlikeMany 81 = .ok (.iinc 3 1, 3) := by decide +kernel
theorem dX10_unlikeMany_84 : decode cX10_unlikeMany 84 = .ok (.goto (-36), 3) := by decide +kernel
theorem dX10_unlikeMany_87 : decode cX10_unlikeMany 87 = .ok (.aload_n 0, 1) := by decide +kernel
theorem dX10_unlikeMany_88 : decode cX10_unlikeMany 88 = .ok (.invokevirtual 95, 3) := by decide +kernel
theorem dX10_unlikeMany_91 : decode cX10_unlikeMany 91 = .ok (.istore_n 3, 1) := by decide +kernel
theorem dX10_unlikeMany_92 : decode cX10_unlikeMany 92 = .ok (.aload_n 0, 1) := by decide +kernel
theorem dX10_unlikeMany_93 : decode cX10_unlikeMany 93 = .ok (.iload_n 2, 1) := by decide +kernel
theorem dX10_unlikeMany_94 : decode cX10_unlikeMany 94 = .ok (.invokevirtual 157, 3) := by decide +kernel
theorem dX10_unlikeMany_97 : decode cX10_unlikeMany 97 = .ok (.iconst 0, 1) := by decide +kernel
theorem dX10_unlikeMany_98 : decode cX10_unlikeMany 98 = .ok (.istore 4, 2) := by decide +kernel
theorem dX10_unlikeMany_100 : decode cX10_unlikeMany 100 = .ok (.iload 4, 2) := by decide +kernel
theorem dX10_unlikeMany_102 : decode cX10_unlikeMany 102 = .ok (.aload_n 0, 1) := by decide +kernel
theorem dX10_unlikeMany_103 : decode cX10_unlikeMany 103 = .ok (.getfield 144, 3) := by decide +kernel
theorem dX10_unlikeMany_106 : decode cX10_unlikeMany 106 = .ok (.if_icmp .ge 82, 3) := by decide +kernel
theorem dX10_unlikeMany_109 : decode cX10_unlikeMany 109 = .ok (.iconst 0, 1) := by decide +kernel
theorem dX10_unlikeMany_110 : decode cX10_unlikeMany 110 = .ok (.istore 5, 2) := by decide +kernel
theorem dX10_unlikeMany_112 : decode cX10_unlikeMany 112 = .ok (.iconst 0, 1) := by decide +kernel
theorem dX10_unlikeMany_113 : decode cX10_unlikeMany 113 = .ok (.istore 6, 2) := by decide +kernel
theorem dX10_unlikeMany_115 : decode cX10_unlikeMany 115 = .ok (.iload 6, 2) := by decide +kernel
theorem dX10_unlikeMany_117 : decode cX10_unlikeMany 117 = .ok (.iconst 4, 1) := by decide +kernel
theorem dX10_unlikeMany_118 : decode cX10_unlikeMany 118 = .ok (.if_icmp .ge 51, 3) := by decide +kernel
theorem dX10_unlikeMany_121 : decode cX10_unlikeMany 121 = .ok (.iload 5, 2) := by decide +kernel
theorem dX10_unlikeMany_123 : decode cX10_unlikeMany 123 = .ok (.ifCond .ne 33, 3) := by decide +kernel
theorem dX10_unlikeMany_126 : decode cX10_unlikeMany 126 = .ok (.aload_n 0, 1) := by decide +kernel
theorem dX10_unlikeMany_127 : decode cX10_unlikeMany 127 = .ok (.getfield 50, 3) := by decide +kernel
theorem dX10_unlikeMany_130 : decode cX10_unlikeMany 130 = .ok (.iconst 4, 1) := by decide +kernel
theorem dX10_unlikeMany_131 : decode cX10_unlikeMany 131 = .ok (.iload 4, 2) := by decide +kernel
theorem dX10_unlikeMany_133 : decode cX10_unlikeMany 133 = .ok (.imul, 1) := by decide +kernel
theorem dX10_unlikeMany_134 : decode cX10_unlikeMany 134 = .ok (.iload 6, 2) := by decide +kernel
theorem dX10_unlikeMany_136 : decode cX10_unlikeMany 136 = .ok (.iadd, 1) := by decide +kernel
theorem dX10_unlikeMany_137 : decode cX10_unlikeMany 137 = .ok (.iaload, 1) := by decide +kernel
theorem dX10_unlikeMany_138 : decode cX10_unlikeMany 138 = .ok (.aload_n 0, 1) := by decide +kernel
theorem dX10_unlikeMany_139 : decode cX10_unlikeMany 139 = .ok (.getfield 25, 3) := by decide +kernel
theorem dX10_unlikeMany_142 : decode cX10_unlikeMany 142 = .ok (.bipush 6, 2) := by decide +kernel
theorem dX10_unlikeMany_144 : decode cX10_unlikeMany 144 = .ok (.iload 4, 2) := by decide +kernel
theorem dX10_unlikeMany_146 : decode cX10_unlikeMany 146 = .ok (.imul, 1) := by decide +kernel
theorem dX10_unlikeMany_147 : decode cX10_unlikeMany 147 = .ok (.iconst 1, 1) := by decide +kernel
theorem dX10_unlikeMany_148 : decode cX10_unlikeMany 148 = .ok (.iadd, 1) := by decide +kernel
theorem dX10_unlikeMany_149 : decode cX10_unlikeMany 149 = .ok (.iload 6, 2) := by decide +kernel
theorem dX10_unlikeMany_151 : decode cX10_unlikeMany 151 = .ok (.iadd, 1) := by decide +kernel
theorem dX10_unlikeMany_152 : decode cX10_unlikeMany 152 = .ok (.iaload, 1) := by decide +kernel
theorem dX10_unlikeMany_153 : decode cX10_unlikeMany 153 = .ok (.if_icmp .eq 7, 3) := by decide +kernel
theorem dX10_unlikeMany_156 : decode cX10_unlikeMany 156 = .ok (.iconst 1, 1) := by decide +kernel
theorem dX10_unlikeMany_157 : decode cX10_unlikeMany 157 = .ok (.goto 4, 3) := by decide +kernel
theorem dX10_unlikeMany_160 : decode cX10_unlikeMany 160 = .ok (.iconst 0, 1) := by decide +kernel
theorem dX10_unlikeMany_161 : decode cX10_unlikeMany 161 = .ok (.istore 5, 2) := by decide +kernel
theorem dX10_unlikeMany_163 : decode cX10_unlikeMany 163 = .ok (.iinc 6 1, 3) := by decide +kernel
theorem dX10_unlikeMany_166 : decode cX10_unlikeMany 166 = .ok (.goto (-51), 3) := by decide +kernel
theorem dX10_unlikeMany_169 : decode cX10_unlikeMany 169 = .ok (.iload_n 1, 1) := by decide +kernel
theorem dX10_unlikeMany_170 : decode cX10_unlikeMany 170 = .ok (.iload 5, 2) := by decide +kernel
theorem dX10_unlikeMany_172 : decode cX10_unlikeMany 172 = .ok (.ifCond .eq 7, 3) := by decide +kernel
theorem dX10_unlikeMany_175 : decode cX10_unlikeMany 175 = .ok (.iconst 1, 1) := by decide +kernel
theorem dX10_unlikeMany_176 : decode cX10_unlikeMany 176 = .ok (.goto 4, 3) := by decide +kernel
theorem dX10_unlikeMany_179 : decode cX10_unlikeMany 179 = .ok (.iconst 0, 1) := by decide +kernel
theorem dX10_unlikeMany_180 : decode cX10_unlikeMany 180 = .ok (.iadd, 1) := by decide +kernel
theorem dX10_unlikeMany_181 : decode cX10_unlikeMany 181 = .ok (.istore_n 1, 1) := by decide +kernel
theorem dX10_unlikeMany_182 : decode cX10_unlikeMany 182 = .ok (.iinc 4 1, 3) := by decide +kernel
theorem dX10_unlikeMany_185 : decode cX10_unlikeMany 185 = .ok (.goto (-85), 3) := by decide +kernel
theorem dX10_unlikeMany_188 : decode cX10_unlikeMany 188 = .ok (.iconst 0, 1) := by decide +kernel
theorem dX10_unlikeMany_189 : decode cX10_unlikeMany 189 = .ok (.istore 4, 2) := by decide +kernel
theorem dX10_unlikeMany_191 : decode cX10_unlikeMany 191 = .ok (.iload 4, 2) := by decide +kernel
theorem dX10_unlikeMany_193 : decode cX10_unlikeMany 193 = .ok (.sipush 2760, 3) := by decide +kernel
theorem dX10_unlikeMany_196 : decode cX10_unlikeMany 196 = .ok (.if_icmp .ge 23, 3) := by decide +kernel
theorem dX10_unlikeMany_199 : decode cX10_unlikeMany 199 = .ok (.aload_n 0, 1) := by decide +kernel
theorem dX10_unlikeMany_200 : decode cX10_unlikeMany 200 = .ok (.getfield 7, 3) := by decide +kernel
theorem dX10_unlikeMany_203 : decode cX10_unlikeMany 203 = .ok (.iload 4, 2) := by decide +kernel
theorem dX10_unlikeMany_205 : decode cX10_unlikeMany 205 = .ok (.aload_n 0, 1) := by decide +kernel
theorem dX10_unlikeMany_206 : decode cX10_unlikeMany 206 = .ok (.getfield 47, 3) := by decide +kernel
theorem dX10_unlikeMany_209 : decode cX10_unlikeMany 209 = .ok (.iload 4, 2) := by decide +kernel
theorem dX10_unlikeMany_211 : decode cX10_unlikeMany 211 = .ok (.iaload, 1) := by decide +kernel
theorem dX10_unlikeMany_212 : decode cX10_unlikeMany 212 = .ok (.iastore, 1) := by decide +kernel
theorem dX10_unlikeMany_213 : decode cX10_unlikeMany 213 = .ok (.iinc 4 1, 3) := by decide +kernel
theorem dX10_unlikeMany_216 : decode cX10_unlikeMany 216 = .ok (.goto (-25), 3) := by decide +kernel
theorem dX10_unlikeMany_219 : decode cX10_unlikeMany 219 = .ok (.iinc 2 1, 3) := by decide +kernel
theorem dX10_unlikeMany_222 : decode cX10_unlikeMany 222 = .ok (.goto (-191), 3) := by decide +kernel
theorem dX10_unlikeMany_225 : decode cX10_unlikeMany 225 = .ok (.iload_n 1, 1) := by decide +kernel
theorem dX10_unlikeMany_226 : decode cX10_unlikeMany 226 = .ok (.ireturn, 1) := by decide +kernel
theorem dX10_unlike_0 : decode cX10_unlike 0 = .ok (.aload_n 0, 1) := by decide +kernel
theorem dX10_unlike_1 : decode cX10_unlike 1 = .ok (.invokevirtual 194, 3) := by decide +kernel
theorem dX10_unlike_4 : decode cX10_unlike 4 = .ok (.ireturn, 1) := by decide +kernel
theorem dX10_undo_0 : decode cX10_undo 0 = .ok (.aload_n 0, 1) := by decide +kernel
theorem dX10_undo_1 : decode cX10_undo 1 = .ok (.getfield 53, 3) := by decide +kernel
theorem dX10_undo_4 : decode cX10_undo 4 = .ok (.ifCond .ne 6, 3) := by decide +kernel
theorem dX10_undo_7 : decode cX10_undo 7 = .ok (.bipush (-9), 2) := by decide +kernel
theorem dX10_undo_9 : decode cX10_undo 9 = .ok (.ireturn, 1) := by decide +kernel
theorem dX10_undo_10 : decode cX10_undo 10 = .ok (.aload_n 0, 1) := by decide +kernel
theorem dX10_undo_11 : decode cX10_undo 11 = .ok (.dup, 1) := by decide +kernel
theorem dX10_undo_12 : decode cX10_undo 12 = .ok (.getfield 53, 3) := by decide +kernel
theorem dX10_undo_15 : decode cX10_undo 15 = .ok (.iconst 1, 1) := by decide +kernel
theorem dX10_undo_16 : decode cX10_undo 16 = .ok (.isub, 1) := by decide +kernel
theorem dX10_undo_17 : decode cX10_undo 17 = .ok (.putfield 53, 3) := by decide +kernel
theorem dX10_undo_20 : decode cX10_undo 20 = .ok (.iconst 0, 1) := by decide +kernel
theorem dX10_undo_21 : decode cX10_undo 21 = .ok (.istore_n 1, 1) := by decide +kernel
theorem dX10_undo_22 : decode cX10_undo 22 = .ok (.iload_n 1, 1) := by decide +kernel
theorem dX10_undo_23 : decode cX10_undo 23 = .ok (.sipush 2760, 3) := by decide +kernel
theorem dX10_undo_26 : decode cX10_undo 26 = .ok (.if_icmp .ge 30, 3) := by decide +kernel
theorem dX10_undo_29 : decode cX10_undo 29 = .ok (.aload_n 0, 1) := by decide +kernel
theorem dX10_undo_30 : decode cX10_undo 30 = .ok (.getfield 7, 3) := by decide +kernel
theorem dX10_undo_33 : decode cX10_undo 33 = .ok (.iload_n 1, 1) := by decide +kernel
theorem dX10_undo_34 : decode cX10_undo 34 = .ok (.aload_n 0, 1) := by decide +kernel
theorem dX10_undo_35 : decode cX10_undo 35 = .ok (.getfield 13, 3) := by decide +kernel
theorem dX10_undo_38 : decode cX10_undo 38 = .ok (.sipush 2760, 3) := by decide +kernel
theorem dX10_undo_41 : decode cX10_undo 41 = .ok (.aload_n 0, 1) := by decide +kernel
theorem dX10_undo_42 : decode cX10_undo 42 = .ok (.getfield 53, 3) := by decide +kernel
theorem dX10_undo_45 : decode cX10_undo 45 = .ok (.imul, 1) := by decide +kernel
theorem dX10_undo_46 : decode cX10_undo 46 = .ok (.iload_n 1, 1) := by decide +kernel
theorem dX10_undo_47 : decode cX10_undo 47 = .ok (.iadd, 1) := by decide +kernel
theorem dX10_undo_48 : decode cX10_undo 48 = .ok (.iaload, 1) := by decide +kernel
theorem dX10_undo_49 : decode cX10_undo 49 = .ok (.iastore, 1) := by decide +kernel
theorem dX10_undo_50 : decode cX10_undo 50 = .ok (.iinc 1 1, 3) := by decide +kernel
theorem dX10_undo_53 : decode cX10_undo 53 = .ok (.goto (-31), 3) := by decide +kernel
theorem dX10_undo_56 : decode cX10_undo 56 = .ok (.aload_n 0, 1) := by decide +kernel
theorem dX10_undo_57 : decode cX10_undo 57 = .ok (.getfield 53, 3) := by decide +kernel
theorem dX10_undo_60 : decode cX10_undo 60 = .ok (.ireturn, 1) := by decide +kernel
theorem dX10_fingerprint_0 : decode cX10_fingerprint 0 = .ok (.ldc2_w 197, 3) := by decide +kernel
theorem dX10_fingerprint_3 : decode cX10_fingerprint 3 = .ok (.aload_n 0, 1) := by decide +kernel
theorem dX10_fingerprint_4 : decode cX10_fingerprint 4 = .ok (.getfield 7, 3) := by decide +kernel
theorem dX10_fingerprint_7 : decode cX10_fingerprint 7 = .ok (.iconst 0, 1) := by decide +kernel
theorem dX10_fingerprint_8 : decode cX10_fingerprint 8 = .ok (.iaload, 1) := by decide +kernel
theorem dX10_fingerprint_9 : decode cX10_fingerprint 9 = .ok (.i2l, 1) := by decide +kernel
theorem dX10_fingerprint_10 : decode cX10_fingerprint 10 = .ok (.ladd, 1) := by decide +kernel
theorem dX10_fingerprint_11 : decode cX10_fingerprint 11 = .ok (.lstore_n 1, 1) := by decide +kernel
theorem dX10_fingerprint_12 : decode cX10_fingerprint 12 = .ok (.iconst 0, 1) := by decide +kernel
theorem dX10_fingerprint_13 : decode cX10_fingerprint 13 = .ok (.istore_n 3, 1) := by decide +kernel
theorem dX10_fingerprint_14 : decode cX10_fingerprint 14 = .ok (.iload_n 3, 1) := by decide +kernel
theorem dX10_fingerprint_15 : decode cX10_fingerprint 15 = .ok (.aload_n 0, 1) := by decide +kernel
theorem dX10_fingerprint_16 : decode cX10_fingerprint 16 = .ok (.getfield 7, 3) := by decide +kernel
theorem dX10_fingerprint_19 : decode cX10_fingerprint 19 = .ok (.iconst 0, 1) := by decide +kernel
theorem dX10_fingerprint_20 : decode cX10_fingerprint 20 = .ok (.iaload, 1) := by decide +kernel
theorem dX10_fingerprint_21 : decode cX10_fingerprint 21 = .ok (.if_icmp .ge 71, 3) := by decide +kernel
theorem dX10_fingerprint_24 : decode cX10_fingerprint 24 = .ok (.iconst 0, 1) := by decide +kernel
theorem dX10_fingerprint_25 : decode cX10_fingerprint 25 = .ok (.istore 4, 2) := by decide +kernel
theorem dX10_fingerprint_27 : decode cX10_fingerprint 27 = .ok (.iload 4, 2) := by decide +kernel
theorem dX10_fingerprint_29 : decode cX10_fingerprint 29 = .ok (.bipush 9, 2) := by decide +kernel
theorem dX10_fingerprint_31 : decode cX10_fingerprint 31 = .ok (.if_icmp .ge 24, 3) := by decide +kernel
theorem dX10_fingerprint_34 : decode cX10_fingerprint 34 = .ok (.ldc2_w 199, 3) := by decide +kernel
theorem dX10_fingerprint_37 : decode cX10_fingerprint 37 = .ok (.lload_n 1, 1) := by decide +kernel
theorem dX10_fingerprint_38 : decode cX10_fingerprint 38 = .ok (.lmul, 1) := by decide +kernel
theorem dX10_fingerprint_39 : decode cX10_fingerprint 39 = .ok (.aload_n 0, 1) := by decide +kernel
theorem dX10_fingerprint_40 : decode cX10_fingerprint 40 = .ok (.iload_n 3, 1) := by decide +kernel
theorem dX10_fingerprint_41 : decode cX10_fingerprint 41 = .ok (.iload 4, 2) := by decide +kernel
theorem dX10_fingerprint_43 : decode cX10_fingerprint 43 = .ok (.invokevirtual 99, 3) := by decide +kernel
theorem dX10_fingerprint_46 : decode cX10_fingerprint 46 = .ok (.i2l, 1) := by decide +kernel
theorem dX10_fingerprint_47 : decode cX10_fingerprint 47 = .ok (.ladd, 1) := by decide +kernel
theorem dX10_fingerprint_48 : decode cX10_fingerprint 48 = .ok (.lstore_n 1, 1) := by decide +kernel
theorem dX10_fingerprint_49 : decode cX10_fingerprint 49 = .ok (.iinc 4 1, 3) := by decide +kernel
theorem dX10_fingerprint_52 : decode cX10_fingerprint 52 = .ok (.goto (-25), 3) := by decide +kernel
theorem dX10_fingerprint_55 : decode cX10_fingerprint 55 = .ok (.iconst 0, 1) := by decide +kernel
theorem dX10_fingerprint_56 : decode cX10_fingerprint 56 = .ok (.istore 4, 2) := by decide +kernel
theorem dX10_fingerprint_58 : decode cX10_fingerprint 58 = .ok (.iload 4, 2) := by decide +kernel
theorem dX10_fingerprint_60 : decode cX10_fingerprint 60 = .ok (.bipush 6, 2) := by decide +kernel
theorem dX10_fingerprint_62 : decode cX10_fingerprint 62 = .ok (.if_icmp .ge 24, 3) := by decide +kernel
theorem dX10_fingerprint_65 : decode cX10_fingerprint 65 = .ok (.ldc2_w 199, 3) := by decide +kernel
theorem dX10_fingerprint_68 : decode cX10_fingerprint 68 = .ok (.lload_n 1, 1) := by decide +kernel
theorem dX10_fingerprint_69 : decode cX10_fingerprint 69 = .ok (.lmul, 1) := by decide +kernel
theorem dX10_fingerprint_70 : decode cX10_fingerprint 70 = .ok (.aload_n 0, 1) := by decide +kernel
theorem dX10_fingerprint_71 : decode cX10_fingerprint 71 = .ok (.iload_n 3, 1) := by decide +kernel
theorem dX10_fingerprint_72 : decode cX10_fingerprint 72 = .ok (.iload 4, 2) := by decide +kernel
theorem dX10_fingerprint_74 : decode cX10_fingerprint 74 = .ok (.invokevirtual 92, 3) := by decide +kernel
theorem dX10_fingerprint_77 : decode cX10_fingerprint 77 = .ok (.i2l, 1) := by decide +kernel
theorem dX10_fingerprint_78 : decode cX10_fingerprint 78 = .ok (.ladd, 1) := by decide +kernel
theorem dX10_fingerprint_79 : decode cX10_fingerprint 79 = .ok (.lstore_n 1, 1) := by decide +kernel
theorem dX10_fingerprint_80 : decode cX10_fingerprint 80 = .ok (.iinc 4 1, 3) := by decide +kernel
theorem dX10_fingerprint_83 : decode cX10_fingerprint 83 = .ok (.goto (-25), 3) := by decide +kernel
theorem dX10_fingerprint_86 : decode cX10_fingerprint 86 = .ok (.iinc 3 1, 3) := by decide +kernel
theorem dX10_fingerprint_89 : decode cX10_fingerprint 89 = .ok (.goto (-75), 3) := by decide +kernel
theorem dX10_fingerprint_92 : decode cX10_fingerprint 92 = .ok (.ldc2_w 199, 3) := by decide +kernel
theorem dX10_fingerprint_95 : decode cX10_fingerprint 95 = .ok (.lload_n 1, 1) := by decide +kernel
theorem dX10_fingerprint_96 : decode cX10_fingerprint 96 = .ok (.lmul, 1) := by decide +kernel
theorem dX10_fingerprint_97 : decode cX10_fingerprint 97 = .ok (.aload_n 0, 1) := by decide +kernel
theorem dX10_fingerprint_98 : decode cX10_fingerprint 98 = .ok (.getfield 7, 3) := by decide +kernel
theorem dX10_fingerprint_101 : decode cX10_fingerprint 101 = .ok (.iconst 1, 1) := by decide +kernel
theorem dX10_fingerprint_102 : decode cX10_fingerprint 102 = .ok (.iaload, 1) := by decide +kernel
theorem dX10_fingerprint_103 : decode cX10_fingerprint 103 = .ok (.i2l, 1) := by decide +kernel
theorem dX10_fingerprint_104 : decode cX10_fingerprint 104 = .ok (.ladd, 1) := by decide +kernel
theorem dX10_fingerprint_105 : decode cX10_fingerprint 105 = .ok (.lstore_n 1, 1) := by decide +kernel
theorem dX10_fingerprint_106 : decode cX10_fingerprint 106 = .ok (.iconst 0, 1) := by decide +kernel
theorem dX10_fingerprint_107 : decode cX10_fingerprint 107 = .ok (.istore_n 3, 1) := by decide +kernel
theorem dX10_fingerprint_108 : decode cX10_fingerprint 108 = .ok (.iload_n 3, 1) := by decide +kernel
theorem dX10_fingerprint_109 : decode cX10_fingerprint 109 = .ok (.aload_n 0, 1) := by decide +kernel
theorem dX10_fingerprint_110 : decode cX10_fingerprint 110 = .ok (.getfield 7, 3) := by decide +kernel
theorem dX10_fingerprint_113 : decode cX10_fingerprint 113 = .ok (.iconst 1, 1) := by decide +kernel
theorem dX10_fingerprint_114 : decode cX10_fingerprint 114 = .ok (.iaload, 1) := by decide +kernel
theorem dX10_fingerprint_115 : decode cX10_fingerprint 115 = .ok (.if_icmp .ge 126, 3) := by decide +kernel
theorem dX10_fingerprint_118 : decode cX10_fingerprint 118 = .ok (.iconst 0, 1) := by decide +kernel
theorem dX10_fingerprint_119 : decode cX10_fingerprint 119 = .ok (.istore 4, 2) := by decide +kernel
theorem dX10_fingerprint_121 : decode cX10_fingerprint 121 = .ok (.iload 4, 2) := by decide +kernel
theorem dX10_fingerprint_123 : decode cX10_fingerprint 123 = .ok (.bipush 12, 2) := by decide +kernel
theorem dX10_fingerprint_125 : decode cX10_fingerprint 125 = .ok (.if_icmp .ge 24, 3) := by decide +kernel
theorem dX10_fingerprint_128 : decode cX10_fingerprint 128 = .ok (.ldc2_w 199, 3) := by decide +kernel
theorem dX10_fingerprint_131 : decode cX10_fingerprint 131 = .ok (.lload_n 1, 1) := by decide +kernel
theorem dX10_fingerprint_132 : decode cX10_fingerprint 132 = .ok (.lmul, 1) := by decide +kernel
theorem dX10_fingerprint_133 : decode cX10_fingerprint 133 = .ok (.aload_n 0, 1) := by decide +kernel
theorem dX10_fingerprint_134 : decode cX10_fingerprint 134 = .ok (.iload_n 3, 1) := by decide +kernel
theorem dX10_fingerprint_135 : decode cX10_fingerprint 135 = .ok (.iload 4, 2) := by decide +kernel
theorem dX10_fingerprint_137 : decode cX10_fingerprint 137 = .ok (.invokevirtual 175, 3) := by decide +kernel
theorem dX10_fingerprint_140 : decode cX10_fingerprint 140 = .ok (.i2l, 1) := by decide +kernel
theorem dX10_fingerprint_141 : decode cX10_fingerprint 141 = .ok (.ladd, 1) := by decide +kernel
theorem dX10_fingerprint_142 : decode cX10_fingerprint 142 = .ok (.lstore_n 1, 1) := by decide +kernel
theorem dX10_fingerprint_143 : decode cX10_fingerprint 143 = .ok (.iinc 4 1, 3) := by decide +kernel
theorem dX10_fingerprint_146 : decode cX10_fingerprint 146 = .ok (.goto (-25), 3) := by decide +kernel
theorem dX10_fingerprint_149 : decode cX10_fingerprint 149 = .ok (.iconst 0, 1) := by decide +kernel
theorem dX10_fingerprint_150 : decode cX10_fingerprint 150 = .ok (.istore 4, 2) := by decide +kernel
theorem dX10_fingerprint_152 : decode cX10_fingerprint 152 = .ok (.iload 4, 2) := by decide +kernel
theorem dX10_fingerprint_154 : decode cX10_fingerprint 154 = .ok (.bipush 6, 2) := by decide +kernel
theorem dX10_fingerprint_156 : decode cX10_fingerprint 156 = .ok (.aload_n 0, 1) := by decide +kernel
theorem dX10_fingerprint_157 : decode cX10_fingerprint 157 = .ok (.getfield 144, 3) := by decide +kernel
theorem dX10_fingerprint_160 : decode cX10_fingerprint 160 = .ok (.imul, 1) := by decide +kernel
theorem dX10_fingerprint_161 : decode cX10_fingerprint 161 = .ok (.if_icmp .ge 24, 3) := by decide +kernel
theorem dX10_fingerprint_164 : decode cX10_fingerprint 164 = .ok (.ldc2_w 199, 3) := by decide +kernel
theorem dX10_fingerprint_167 : decode cX10_fingerprint 167 = .ok (.lload_n 1, 1) := by decide +kernel
theorem dX10_fingerprint_168 : decode cX10_fingerprint 168 = .ok (.lmul, 1) := by decide +kernel
theorem dX10_fingerprint_169 : decode cX10_fingerprint 169 = .ok (.aload_n 0, 1) := by decide +kernel
theorem dX10_fingerprint_170 : decode cX10_fingerprint 170 = .ok (.getfield 25, 3) := by decide +kernel
theorem dX10_fingerprint_173 : decode cX10_fingerprint 173 = .ok (.iload 4, 2) := by decide +kernel
theorem dX10_fingerprint_175 : decode cX10_fingerprint 175 = .ok (.iaload, 1) := by decide +kernel
theorem dX10_fingerprint_176 : decode cX10_fingerprint 176 = .ok (.i2l, 1) := by decide +kernel
theorem dX10_fingerprint_177 : decode cX10_fingerprint 177 = .ok (.ladd, 1) := by decide +kernel
theorem dX10_fingerprint_178 : decode cX10_fingerprint 178 = .ok (.lstore_n 1, 1) := by decide +kernel
theorem dX10_fingerprint_179 : decode cX10_fingerprint 179 = .ok (.iinc 4 1, 3) := by decide +kernel
theorem dX10_fingerprint_182 : decode cX10_fingerprint 182 = .ok (.goto (-30), 3) := by decide +kernel
theorem dX10_fingerprint_185 : decode cX10_fingerprint 185 = .ok (.iconst 0, 1) := by decide +kernel
theorem dX10_fingerprint_186 : decode cX10_fingerprint 186 = .ok (.istore 4, 2) := by decide +kernel
theorem dX10_fingerprint_188 : decode cX10_fingerprint 188 = .ok (.iload 4, 2) := by decide +kernel
theorem dX10_fingerprint_190 : decode cX10_fingerprint 190 = .ok (.aload_n 0, 1) := by decide +kernel
theorem dX10_fingerprint_191 : decode cX10_fingerprint 191 = .ok (.getfield 141, 3) := by decide +kernel
theorem dX10_fingerprint_194 : decode cX10_fingerprint 194 = .ok (.if_icmp .ge 41, 3) := by decide +kernel
theorem dX10_fingerprint_197 : decode cX10_fingerprint 197 = .ok (.iconst 0, 1) := by decide +kernel
theorem dX10_fingerprint_198 : decode cX10_fingerprint 198 = .ok (.istore 5, 2) := by decide +kernel
theorem dX10_fingerprint_200 : decode cX10_fingerprint 200 = .ok (.iload 5, 2) := by decide +kernel
theorem dX10_fingerprint_202 : decode cX10_fingerprint 202 = .ok (.iconst 3, 1) := by decide +kernel
theorem dX10_fingerprint_203 : decode cX10_fingerprint 203 = .ok (.if_icmp .ge 26, 3) := by decide +kernel
theorem dX10_fingerprint_206 : decode cX10_fingerprint 206 = .ok (.ldc2_w 199, 3) := by decide +kernel
theorem dX10_fingerprint_209 : decode cX10_fingerprint 209 = .ok (.lload_n 1, 1) := by decide +kernel
theorem dX10_fingerprint_210 : decode cX10_fingerprint 210 = .ok (.lmul, 1) := by decide +kernel
theorem dX10_fingerprint_211 : decode cX10_fingerprint 211 = .ok (.aload_n 0, 1) := by decide +kernel
theorem dX10_fingerprint_212 : decode cX10_fingerprint 212 = .ok (.iload_n 3, 1) := by decide +kernel
theorem dX10_fingerprint_213 : decode cX10_fingerprint 213 = .ok (.iload 4, 2) := by decide +kernel
theorem dX10_fingerprint_215 : decode cX10_fingerprint 215 = .ok (.iload 5, 2) := by decide +kernel
theorem dX10_fingerprint_217 : decode cX10_fingerprint 217 = .ok (.invokevirtual 181, 3) := by decide +kernel
theorem dX10_fingerprint_220 : decode cX10_fingerprint 220 = .ok (.i2l, 1) := by decide +kernel
theorem dX10_fingerprint_221 : decode cX10_fingerprint 221 = .ok (.ladd, 1) := by decide +kernel
theorem dX10_fingerprint_222 : decode cX10_fingerprint 222 = .ok (.lstore_n 1, 1) := by decide +kernel
theorem dX10_fingerprint_223 : decode cX10_fingerprint 223 = .ok (.iinc 5 1, 3) := by decide +kernel
theorem dX10_fingerprint_226 : decode cX10_fingerprint 226 = .ok (.goto (-26), 3) := by decide +kernel
theorem dX10_fingerprint_229 : decode cX10_fingerprint 229 = .ok (.iinc 4 1, 3) := by decide +kernel
theorem dX10_fingerprint_232 : decode cX10_fingerprint 232 = .ok (.goto (-44), 3) := by decide +kernel
theorem dX10_fingerprint_235 : decode cX10_fingerprint 235 = .ok (.iinc 3 1, 3) := by decide +kernel
theorem dX10_fingerprint_238 : decode cX10_fingerprint 238 = .ok (.goto (-130), 3) := by decide +kernel
theorem dX10_fingerprint_241 : decode cX10_fingerprint 241 = .ok (.ldc2_w 199, 3) := by decide +kernel
theorem dX10_fingerprint_244 : decode cX10_fingerprint 244 = .ok (.lload_n 1, 1) := by decide +kernel
theorem dX10_fingerprint_245 : decode cX10_fingerprint 245 = .ok (.lmul, 1) := by decide +kernel
theorem dX10_fingerprint_246 : decode cX10_fingerprint 246 = .ok (.aload_n 0, 1) := by decide +kernel
theorem dX10_fingerprint_247 : decode cX10_fingerprint 247 = .ok (.invokevirtual 191, 3) := by decide +kernel
theorem dX10_fingerprint_250 : decode cX10_fingerprint 250 = .ok (.i2l, 1) := by decide +kernel
theorem dX10_fingerprint_251 : decode cX10_fingerprint 251 = .ok (.ladd, 1) := by decide +kernel
theorem dX10_fingerprint_252 : decode cX10_fingerprint 252 = .ok (.lstore_n 1, 1) := by decide +kernel
theorem dX10_fingerprint_253 : decode cX10_fingerprint 253 = .ok (.ldc2_w 199, 3) := by decide +kernel
theorem dX10_fingerprint_256 : decode cX10_fingerprint 256 = .ok (.lload_n 1, 1) := by decide +kernel
theorem dX10_fingerprint_257 : decode cX10_fingerprint 257 = .ok (.lmul, 1) := by decide +kernel
theorem dX10_fingerprint_258 : decode cX10_fingerprint 258 = .ok (.aload_n 0, 1) := by decide +kernel
theorem dX10_fingerprint_259 : decode cX10_fingerprint 259 = .ok (.invokevirtual 194, 3) := by decide +kernel
theorem dX10_fingerprint_262 : decode cX10_fingerprint 262 = .ok (.i2l, 1) := by decide +kernel
theorem dX10_fingerprint_263 : decode cX10_fingerprint 263 = .ok (.ladd, 1) := by decide +kernel
theorem dX10_fingerprint_264 : decode cX10_fingerprint 264 = .ok (.lreturn, 1) := by decide +kernel
theorem dL_law_0 : decode cL_law 0 = .ok (.new 7, 3) := by decide +kernel
theorem dL_law_3 : decode cL_law 3 = .ok (.dup, 1) := by decide +kernel
theorem dL_law_4 : decode cL_law 4 = .ok (.invokespecial 9, 3) := by decide +kernel
theorem dL_law_7 : decode cL_law 7 = .ok (.astore_n 1, 1) := by decide +kernel
theorem dL_law_8 : decode cL_law 8 = .ok (.new 10, 3) := by decide +kernel
theorem dL_law_11 : decode cL_law 11 = .ok (.dup, 1) := by decide +kernel
theorem dL_law_12 : decode cL_law 12 = .ok (.invokespecial 12, 3) := by decide +kernel
theorem dL_law_15 : decode cL_law 15 = .ok (.astore_n 2, 1) := by decide +kernel
theorem dL_law_16 : decode cL_law 16 = .ok (.iconst 0, 1) := by decide +kernel
theorem dL_law_17 : decode cL_law 17 = .ok (.istore_n 3, 1) := by decide +kernel
theorem dL_law_18 : decode cL_law 18 = .ok (.iload_n 3, 1) := by decide +kernel
theorem dL_law_19 : decode cL_law 19 = .ok (.aload_n 0, 1) := by decide +kernel
theorem dL_law_20 : decode cL_law 20 = .ok (.arraylength, 1) := by decide +kernel
theorem dL_law_21 : decode cL_law 21 = .ok (.iconst 4, 1) := by decide +kernel
theorem dL_law_22 : decode cL_law 22 = .ok (.isub, 1) := by decide +kernel
theorem dL_law_23 : decode cL_law 23 = .ok (.if_icmp .gt 918, 3) := by decide +kernel
theorem dL_law_26 : decode cL_law 26 = .ok (.aload_n 0, 1) := by decide +kernel
theorem dL_law_27 : decode cL_law 27 = .ok (.iload_n 3, 1) := by decide +kernel
theorem dL_law_28 : decode cL_law 28 = .ok (.iaload, 1) := by decide +kernel
theorem dL_law_29 : decode cL_law 29 = .ok (.bipush 31, 2) := by decide +kernel
theorem dL_law_31 : decode cL_law 31 = .ok (.iand, 1) := by decide +kernel
theorem dL_law_32 : decode cL_law 32 = .ok (.tableswitch 903 0 27 #[128, 151, 184, 227, 240, 253, 286, 319, 352, 365, 388, 401, 444, 467, 510, 543, 566, 599, 612, 655, 698, 721, 764, 797, 810, 863, 876, 889], 128) := by decide +kernel
theorem dL_law_160 : decode cL_law 160 = .ok (.aload_n 1, 1) := by decide +kernel
theorem dL_law_161 : decode cL_law 161 = .ok (.aload_n 0, 1) := by decide +kernel
theorem dL_law_162 : decode cL_law 162 = .ok (.iload_n 3, 1) := by decide +kernel
theorem dL_law_163 : decode cL_law 163 = .ok (.iconst 1, 1) := by decide +kernel
theorem dL_law_164 : decode cL_law 164 = .ok (.iadd, 1) := by decide +kernel
theorem dL_law_165 : decode cL_law 165 = .ok (.iaload, 1) := by decide +kernel
theorem dL_law_166 : decode cL_law 166 = .ok (.invokevirtual 13, 3) := by decide +kernel
theorem dL_law_169 : decode cL_law 169 = .ok (.aload_n 2, 1) := by decide +kernel
theorem dL_law_170 : decode cL_law 170 = .ok (.aload_n 0, 1) := by decide +kernel
theorem dL_law_171 : decode cL_law 171 = .ok (.iload_n 3, 1) := by decide +kernel
theorem dL_law_172 : decode cL_law 172 = .ok (.iconst 1, 1) := by decide +kernel
theorem dL_law_173 : decode cL_law 173 = .ok (.iadd, 1) := by decide +kernel
theorem dL_law_174 : decode cL_law 174 = .ok (.iaload, 1) := by decide +kernel
theorem dL_law_175 : decode cL_law 175 = .ok (.invokevirtual 17, 3) := by decide +kernel
theorem dL_law_178 : decode cL_law 178 = .ok (.if_icmp .eq 757, 3) := by decide +kernel
theorem dL_law_181 : decode cL_law 181 = .ok (.iconst 0, 1) := by decide +kernel
theorem dL_law_182 : decode cL_law 182 = .ok (.ireturn, 1) := by decide +kernel
theorem dL_law_183 : decode cL_law 183 = .ok (.aload_n 1, 1) := by decide +kernel
theorem dL_law_184 : decode cL_law 184 = .ok (.aload_n 0, 1) := by decide +kernel
theorem dL_law_185 : decode cL_law 185 = .ok (.iload_n 3, 1) := by decide +kernel
theorem dL_law_186 : decode cL_law 186 = .ok (.iconst 1, 1) := by decide +kernel
theorem dL_law_187 : decode cL_law 187 = .ok (.iadd, 1) := by decide +kernel
theorem dL_law_188 : decode cL_law 188 = .ok (.iaload, 1) := by decide +kernel
theorem dL_law_189 : decode cL_law 189 = .ok (.aload_n 0, 1) := by decide +kernel
theorem dL_law_190 : decode cL_law 190 = .ok (.iload_n 3, 1) := by decide +kernel
theorem dL_law_191 : decode cL_law 191 = .ok (.iconst 2, 1) := by decide +kernel
theorem dL_law_192 : decode cL_law 192 = .ok (.iadd, 1) := by decide +kernel
theorem dL_law_193 : decode cL_law 193 = .ok (.iaload, 1) := by decide +kernel
theorem dL_law_194 : decode cL_law 194 = .ok (.invokevirtual 18, 3) := by decide +kernel
theorem dL_law_197 : decode cL_law 197 = .ok (.aload_n 2, 1) := by decide +kernel
theorem dL_law_198 : decode cL_law 198 = .ok (.aload_n 0, 1) := by decide +kernel
theorem dL_law_199 : decode cL_law 199 = .ok (.iload_n 3, 1) := by decide +kernel
theorem dL_law_200 : decode cL_law 200 = .ok (.iconst 1, 1) := by decide +kernel
theorem dL_law_201 : decode cL_law 201 = .ok (.iadd, 1) := by decide +kernel
theorem dL_law_202 : decode cL_law 202 = .ok (.iaload, 1) := by decide +kernel
theorem dL_law_203 : decode cL_law 203 = .ok (.aload_n 0, 1) := by decide +kernel
theorem dL_law_204 : decode cL_law 204 = .ok (.iload_n 3, 1) := by decide +kernel
theorem dL_law_205 : decode cL_law 205 = .ok (.iconst 2, 1) := by decide +kernel
theorem dL_law_206 : decode cL_law 206 = .ok (.iadd, 1) := by decide +kernel
theorem dL_law_207 : decode cL_law 207 = .ok (.iaload, 1) := by decide +kernel
theorem dL_law_208 : decode cL_law 208 = .ok (.invokevirtual 22, 3) := by decide +kernel
theorem dL_law_211 : decode cL_law 211 = .ok (.if_icmp .eq 724, 3) := by decide +kernel
theorem dL_law_214 : decode cL_law 214 = .ok (.iconst 0, 1) := by decide +kernel
theorem dL_law_215 : decode cL_law 215 = .ok (.ireturn, 1) := by decide +kernel
theorem dL_law_216 : decode cL_law 216 = .ok (.aload_n 1, 1) := by decide +kernel
theorem dL_law_217 : decode cL_law 217 = .ok (.aload_n 0, 1) := by decide +kernel
theorem dL_law_218 : decode cL_law 218 = .ok (.iload_n 3, 1) := by decide +kernel
theorem dL_law_219 : decode cL_law 219 = .ok (.iconst 1, 1) := by decide +kernel
theorem dL_law_220 : decode cL_law 220 = .ok (.iadd, 1) := by decide +kernel
theorem dL_law_221 : decode cL_law 221 = .ok (.iaload, 1) := by decide +kernel
theorem dL_law_222 : decode cL_law 222 = .ok (.aload_n 0, 1) := by decide +kernel
theorem dL_law_223 : decode cL_law 223 = .ok (.iload_n 3, 1) := by decide +kernel
theorem dL_law_224 : decode cL_law 224 = .ok (.iconst 2, 1) := by decide +kernel
theorem dL_law_225 : decode cL_law 225 = .ok (.iadd, 1) := by decide +kernel
theorem dL_law_226 : decode cL_law 226 = .ok (.iaload, 1) := by decide +kernel
theorem dL_law_227 : decode cL_law 227 = .ok (.aload_n 0, 1) := by decide +kernel
theorem dL_law_228 : decode cL_law 228 = .ok (.iload_n 3, 1) := by decide +kernel
theorem dL_law_229 : decode cL_law 229 = .ok (.iconst 3, 1) := by decide +kernel
theorem dL_law_230 : decode cL_law 230 = .ok (.iadd, 1) := by decide +kernel
theorem dL_law_231 : decode cL_law 231 = .ok (.iaload, 1) := by decide +kernel
theorem dL_law_232 : decode cL_law 232 = .ok (.invokevirtual 23, 3) := by decide +kernel
theorem dL_law_235 : decode cL_law 235 = .ok (.aload_n 2, 1) := by decide +kernel
theorem dL_law_236 : decode cL_law 236 = .ok (.aload_n 0, 1) := by decide +kernel
theorem dL_law_237 : decode cL_law 237 = .ok (.iload_n 3, 1) := by decide +kernel
theorem dL_law_238 : decode cL_law 238 = .ok (.iconst 1, 1) := by decide +kernel
theorem dL_law_239 : decode cL_law 239 = .ok (.iadd, 1) := by decide +kernel
theorem dL_law_240 : decode cL_law 240 = .ok (.iaload, 1) := by decide +kernel
theorem dL_law_241 : decode cL_law 241 = .ok (.aload_n 0, 1) := by decide +kernel
theorem dL_law_242 : decode cL_law 242 = .ok (.iload_n 3, 1) := by decide +kernel
theorem dL_law_243 : decode cL_law 243 = .ok (.iconst 2, 1) := by decide +kernel
theorem dL_law_244 : decode cL_law 244 = .ok (.iadd, 1) := by decide +kernel
theorem dL_law_245 : decode cL_law 245 = .ok (.iaload, 1) := by decide +kernel
theorem dL_law_246 : decode cL_law 246 = .ok (.aload_n 0, 1) := by decide +kernel
theorem dL_law_247 : decode cL_law 247 = .ok (.iload_n 3, 1) := by decide +kernel
theorem dL_law_248 : decode cL_law 248 = .ok (.iconst 3, 1) := by decide +kernel
theorem dL_law_249 : decode cL_law 249 = .ok (.iadd, 1) := by decide +kernel
theorem dL_law_250 : decode cL_law 250 = .ok (.iaload, 1) := by decide +kernel
theorem dL_law_251 : decode cL_law 251 = .ok (.invokevirtual 27, 3) := by decide +kernel
theorem dL_law_254 : decode cL_law 254 = .ok (.if_icmp .eq 681, 3) := by decide +kernel
theorem dL_law_257 : decode cL_law 257 = .ok (.iconst 0, 1) := by decide +kernel
theorem dL_law_258 : decode cL_law 258 = .ok (.ireturn, 1) := by decide +kernel
theorem dL_law_259 : decode cL_law 259 = .ok (.aload_n 1, 1) := by decide +kernel
theorem dL_law_260 : decode cL_law 260 = .ok (.invokevirtual 28, 3) := by decide +kernel
theorem dL_law_263 : decode cL_law 263 = .ok (.aload_n 2, 1) := by decide +kernel
theorem dL_law_264 : decode cL_law 264 = .ok (.invokevirtual 32, 3) := by decide +kernel
theorem dL_law_267 : decode cL_law 267 = .ok (.if_icmp .eq 668, 3) := by decide +kernel
theorem dL_law_270 : decode cL_law 270 = .ok (.iconst 0, 1) := by decide +kernel
theorem dL_law_271 : decode cL_law 271 = .ok (.ireturn, 1) := by decide +kernel
theorem dL_law_272 : decode cL_law 272 = .ok (.aload_n 1, 1) := by decide +kernel
theorem dL_law_273 : decode cL_law 273 = .ok (.invokevirtual 33, 3) := by decide +kernel
theorem dL_law_276 : decode cL_law 276 = .ok (.aload_n 2, 1) := by decide +kernel
theorem dL_law_277 : decode cL_law 277 = .ok (.invokevirtual 36, 3) := by decide +kernel
theorem dL_law_280 : decode cL_law 280 = .ok (.if_icmp .eq 655, 3) := by decide +kernel
theorem dL_law_283 : decode cL_law 283 = .ok (.iconst 0, 1) := by decide +kernel
theorem dL_law_284 : decode cL_law 284 = .ok (.ireturn, 1) := by decide +kernel
theorem dL_law_285 : decode cL_law 285 = .ok (.aload_n 1, 1) := by decide +kernel
theorem dL_law_286 : decode cL_law 286 = .ok (.aload_n 0, 1) := by decide +kernel
theorem dL_law_287 : decode cL_law 287 = .ok (.iload_n 3, 1) := by decide +kernel
theorem dL_law_288 : decode cL_law 288 = .ok (.iconst 1, 1) := by decide +kernel
theorem dL_law_289 : decode cL_law 289 = .ok (.iadd, 1) := by decide +kernel
theorem dL_law_290 : decode cL_law 290 = .ok (.iaload, 1) := by decide +kernel
theorem dL_law_291 : decode cL_law 291 = .ok (.aload_n 0, 1) := by decide +kernel
theorem dL_law_292 : decode cL_law 292 = .ok (.iload_n 3, 1) := by decide +kernel
theorem dL_law_293 : decode cL_law 293 = .ok (.iconst 2, 1) := by decide +kernel
theorem dL_law_294 : decode cL_law 294 = .ok (.iadd, 1) := by decide +kernel
theorem dL_law_295 : decode cL_law 295 = .ok (.iaload, 1) := by decide +kernel
theorem dL_law_296 : decode cL_law 296 = .ok (.invokevirtual 37, 3) := by decide +kernel
theorem dL_law_299 : decode cL_law 299 = .ok (.aload_n 2, 1) := by decide +kernel
theorem dL_law_300 : decode cL_law 300 = .ok (.aload_n 0, 1) := by decide +kernel
theorem dL_law_301 : decode cL_law 301 = .ok (.iload_n 3, 1) := by decide +kernel
theorem dL_law_302 : decode cL_law 302 = .ok (.iconst 1, 1) := by decide +kernel
theorem dL_law_303 : decode cL_law 303 = .ok (.iadd, 1) := by decide +kernel
theorem dL_law_304 : decode cL_law 304 = .ok (.iaload, 1) := by decide +kernel
theorem dL_law_305 : decode cL_law 305 = .ok (.aload_n 0, 1) := by decide +kernel
theorem dL_law_306 : decode cL_law 306 = .ok (.iload_n 3, 1) := by decide +kernel
theorem dL_law_307 : decode cL_law 307 = .ok (.iconst 2, 1) := by decide +kernel
theorem dL_law_308 : decode cL_law 308 = .ok (.iadd, 1) := by decide +kernel
theorem dL_law_309 : decode cL_law 309 = .ok (.iaload, 1) := by decide +kernel
theorem dL_law_310 : decode cL_law 310 = .ok (.invokevirtual 40, 3) := by decide +kernel
theorem dL_law_313 : decode cL_law 313 = .ok (.if_icmp .eq 622, 3) := by decide +kernel
theorem dL_law_316 : decode cL_law 316 = .ok (.iconst 0, 1) := by decide +kernel
theorem dL_law_317 : decode cL_law 317 = .ok (.ireturn, 1) := by decide +kernel
theorem dL_law_318 : decode cL_law 318 = .ok (.aload_n 1, 1) := by decide +kernel
theorem dL_law_319 : decode cL_law 319 = .ok (.aload_n 0, 1) := by decide +kernel
theorem dL_law_320 : decode cL_law 320 = .ok (.iload_n 3, 1) := by decide +kernel
theorem dL_law_321 : decode cL_law 321 = .ok (.iconst 1, 1) := by decide +kernel
theorem dL_law_322 : decode cL_law 322 = .ok (.iadd, 1) := by decide +kernel
theorem dL_law_323 : decode cL_law 323 = .ok (.iaload, 1) := by decide +kernel
theorem dL_law_324 : decode cL_law 324 = .ok (.aload_n 0, 1) := by decide +kernel
theorem dL_law_325 : decode cL_law 325 = .ok (.iload_n 3, 1) := by decide +kernel
theorem dL_law_326 : decode cL_law 326 = .ok (.iconst 2, 1) := by decide +kernel
theorem dL_law_327 : decode cL_law 327 = .ok (.iadd, 1) := by decide +kernel
theorem dL_law_328 : decode cL_law 328 = .ok (.iaload, 1) := by decide +kernel
theorem dL_law_329 : decode cL_law 329 = .ok (.invokevirtual 41, 3) := by decide +kernel
theorem dL_law_332 : decode cL_law 332 = .ok (.aload_n 2, 1) := by decide +kernel
theorem dL_law_333 : decode cL_law 333 = .ok (.aload_n 0, 1) := by decide +kernel
theorem dL_law_334 : decode cL_law 334 = .ok (.iload_n 3, 1) := by decide +kernel
theorem dL_law_335 : decode cL_law 335 = .ok (.iconst 1, 1) := by decide +kernel
theorem dL_law_336 : decode cL_law 336 = .ok (.iadd, 1) := by decide +kernel
theorem dL_law_337 : decode cL_law 337 = .ok (.iaload, 1) := by decide +kernel
theorem dL_law_338 : decode cL_law 338 = .ok (.aload_n 0, 1) := by decide +kernel
theorem dL_law_339 : decode cL_law 339 = .ok (.iload_n 3, 1) := by decide +kernel
theorem dL_law_340 : decode cL_law 340 = .ok (.iconst 2, 1) := by decide +kernel
theorem dL_law_341 : decode cL_law 341 = .ok (.iadd, 1) := by decide +kernel
theorem dL_law_342 : decode cL_law 342 = .ok (.iaload, 1) := by decide +kernel
theorem dL_law_343 : decode cL_law 343 = .ok (.invokevirtual 44, 3) := by decide +kernel
theorem dL_law_346 : decode cL_law 346 = .ok (.if_icmp .eq 589, 3) := by decide +kernel
theorem dL_law_349 : decode cL_law 349 = .ok (.iconst 0, 1) := by decide +kernel
theorem dL_law_350 : decode cL_law 350 = .ok (.ireturn, 1) := by decide +kernel
theorem dL_law_351 : decode cL_law 351 = .ok (.aload_n 1, 1) := by decide +kernel
theorem dL_law_352 : decode cL_law 352 = .ok (.aload_n 0, 1) := by decide +kernel
theorem dL_law_353 : decode cL_law 353 = .ok (.iload_n 3, 1) := by decide +kernel
theorem dL_law_354 : decode cL_law 354 = .ok (.iconst 1, 1) := by decide +kernel
theorem dL_law_355 : decode cL_law 355 = .ok (.iadd, 1) := by decide +kernel
theorem dL_law_356 : decode cL_law 356 = .ok (.iaload, 1) := by decide +kernel
theorem dL_law_357 : decode cL_law 357 = .ok (.aload_n 0, 1) := by decide +kernel
theorem dL_law_358 : decode cL_law 358 = .ok (.iload_n 3, 1) := by decide +kernel
theorem dL_law_359 : decode cL_law 359 = .ok (.iconst 2, 1) := by decide +kernel
theorem dL_law_360 : decode cL_law 360 = .ok (.iadd, 1) := by decide +kernel
theorem dL_law_361 : decode cL_law 361 = .ok (.iaload, 1) := by decide +kernel
theorem dL_law_362 : decode cL_law 362 = .ok (.invokevirtual 45, 3) := by decide +kernel
theorem dL_law_365 : decode cL_law 365 = .ok (.aload_n 2, 1) := by decide +kernel
theorem dL_law_366 : decode cL_law 366 = .ok (.aload_n 0, 1) := by decide +kernel
theorem dL_law_367 : decode cL_law 367 = .ok (.iload_n 3, 1) := by decide +kernel
theorem dL_law_368 : decode cL_law 368 = .ok (.iconst 1, 1) := by decide +kernel
theorem dL_law_369 : decode cL_law 369 = .ok (.iadd, 1) := by decide +kernel
theorem dL_law_370 : decode cL_law 370 = .ok (.iaload, 1) := by decide +kernel
theorem dL_law_371 : decode cL_law 371 = .ok (.aload_n 0, 1) := by decide +kernel
theorem dL_law_372 : decode cL_law 372 = .ok (.iload_n 3, 1) := by decide +kernel
theorem dL_law_373 : decode cL_law 373 = .ok (.iconst 2, 1) := by decide +kernel
theorem dL_law_374 : decode cL_law 374 = .ok (.iadd, 1) := by decide +kernel
theorem dL_law_375 : decode cL_law 375 = .ok (.iaload, 1) := by decide +kernel
theorem dL_law_376 : decode cL_law 376 = .ok (.invokevirtual 48, 3) := by decide +kernel
theorem dL_law_379 : decode cL_law 379 = .ok (.if_icmp .eq 556, 3) := by decide +kernel
theorem dL_law_382 : decode cL_law 382 = .ok (.iconst 0, 1) := by decide +kernel
theorem dL_law_383 : decode cL_law 383 = .ok (.ireturn, 1) := by decide +kernel
theorem dL_law_384 : decode cL_law 384 = .ok (.aload_n 1, 1) := by decide +kernel
theorem dL_law_385 : decode cL_law 385 = .ok (.invokevirtual 49, 3) := by decide +kernel
theorem dL_law_388 : decode cL_law 388 = .ok (.aload_n 2, 1) := by decide +kernel
theorem dL_law_389 : decode cL_law 389 = .ok (.invokevirtual 52, 3) := by decide +kernel
theorem dL_law_392 : decode cL_law 392 = .ok (.if_icmp .eq 543, 3) := by decide +kernel
theorem dL_law_395 : decode cL_law 395 = .ok (.iconst 0, 1) := by decide +kernel
theorem dL_law_396 : decode cL_law 396 = .ok (.ireturn, 1) := by decide +kernel
theorem dL_law_397 : decode cL_law 397 = .ok (.aload_n 1, 1) := by decide +kernel
theorem dL_law_398 : decode cL_law 398 = .ok (.aload_n 0, 1) := by decide +kernel
theorem dL_law_399 : decode cL_law 399 = .ok (.iload_n 3, 1) := by decide +kernel
theorem dL_law_400 : decode cL_law 400 = .ok (.iconst 1, 1) := by decide +kernel
theorem dL_law_401 : decode cL_law 401 = .ok (.iadd, 1) := by decide +kernel
theorem dL_law_402 : decode cL_law 402 = .ok (.iaload, 1) := by decide +kernel
theorem dL_law_403 : decode cL_law 403 = .ok (.invokevirtual 53, 3) := by decide +kernel
theorem dL_law_406 : decode cL_law 406 = .ok (.aload_n 2, 1) := by decide +kernel
theorem dL_law_407 : decode cL_law 407 = .ok (.aload_n 0, 1) := by decide +kernel
theorem dL_law_408 : decode cL_law 408 = .ok (.iload_n 3, 1) := by decide +kernel
theorem dL_law_409 : decode cL_law 409 = .ok (.iconst 1, 1) := by decide +kernel
theorem dL_law_410 : decode cL_law 410 = .ok (.iadd, 1) := by decide +kernel
theorem dL_law_411 : decode cL_law 411 = .ok (.iaload, 1) := by decide +kernel
theorem dL_law_412 : decode cL_law 412 = .ok (.invokevirtual 56, 3) := by decide +kernel
theorem dL_law_415 : decode cL_law 415 = .ok (.if_icmp .eq 520, 3) := by decide +kernel
theorem dL_law_418 : decode cL_law 418 = .ok (.iconst 0, 1) := by decide +kernel
theorem dL_law_419 : decode cL_law 419 = .ok (.ireturn, 1) := by decide +kernel
theorem dL_law_420 : decode cL_law 420 = .ok (.aload_n 1, 1) := by decide +kernel
theorem dL_law_421 : decode cL_law 421 = .ok (.invokevirtual 57, 3) := by decide +kernel
theorem dL_law_424 : decode cL_law 424 = .ok (.aload_n 2, 1) := by decide +kernel
theorem dL_law_425 : decode cL_law 425 = .ok (.invokevirtual 60, 3) := by decide +kernel
theorem dL_law_428 : decode cL_law 428 = .ok (.if_icmp .eq 507, 3) := by decide +kernel
theorem dL_law_431 : decode cL_law 431 = .ok (.iconst 0, 1) := by decide +kernel
theorem dL_law_432 : decode cL_law 432 = .ok (.ireturn, 1) := by decide +kernel
theorem dL_law_433 : decode cL_law 433 = .ok (.aload_n 1, 1) := by decide +kernel
theorem dL_law_434 : decode cL_law 434 = .ok (.aload_n 0, 1) := by decide +kernel
theorem dL_law_435 : decode cL_law 435 = .ok (.iload_n 3, 1) := by decide +kernel
theorem dL_law_436 : decode cL_law 436 = .ok (.iconst 1, 1) := by decide +kernel
theorem dL_law_437 : decode cL_law 437 = .ok (.iadd, 1) := by decide +kernel
theorem dL_law_438 : decode cL_law 438 = .ok (.iaload, 1) := by decide +kernel
theorem dL_law_439 : decode cL_law 439 = .ok (.aload_n 0, 1) := by decide +kernel
theorem dL_law_440 : decode cL_law 440 = .ok (.iload_n 3, 1) := by decide +kernel
theorem dL_law_441 : decode cL_law 441 = .ok (.iconst 2, 1) := by decide +kernel
theorem dL_law_442 : decode cL_law 442 = .ok (.iadd, 1) := by decide +kernel
theorem dL_law_443 : decode cL_law 443 = .ok (.iaload, 1) := by decide +kernel
theorem dL_law_444 : decode cL_law 444 = .ok (.aload_n 0, 1) := by decide +kernel
theorem dL_law_445 : decode cL_law 445 = .ok (.iload_n 3, 1) := by decide +kernel
theorem dL_law_446 : decode cL_law 446 = .ok (.iconst 3, 1) := by decide +kernel
theorem dL_law_447 : decode cL_law 447 = .ok (.iadd, 1) := by decide +kernel
theorem dL_law_448 : decode cL_law 448 = .ok (.iaload, 1) := by decide +kernel
theorem dL_law_449 : decode cL_law 449 = .ok (.invokevirtual 61, 3) := by decide +kernel
theorem dL_law_452 : decode cL_law 452 = .ok (.aload_n 2, 1) := by decide +kernel
theorem dL_law_453 : decode cL_law 453 = .ok (.aload_n 0, 1) := by decide +kernel
theorem dL_law_454 : decode cL_law 454 = .ok (.iload_n 3, 1) := by decide +kernel
theorem dL_law_455 : decode cL_law 455 = .ok (.iconst 1, 1) := by decide +kernel
theorem dL_law_456 : decode cL_law 456 = .ok (.iadd, 1) := by decide +kernel
theorem dL_law_457 : decode cL_law 457 = .ok (.iaload, 1) := by decide +kernel
theorem dL_law_458 : decode cL_law 458 = .ok (.aload_n 0, 1) := by decide +kernel
theorem dL_law_459 : decode cL_law 459 = .ok (.iload_n 3, 1) := by decide +kernel
theorem dL_law_460 : decode cL_law 460 = .ok (.iconst 2, 1) := by decide +kernel
theorem dL_law_461 : decode cL_law 461 = .ok (.iadd, 1) := by decide +kernel
theorem dL_law_462 : decode cL_law 462 = .ok (.iaload, 1) := by decide +kernel
theorem dL_law_463 : decode cL_law 463 = .ok (.aload_n 0, 1) := by decide +kernel
theorem dL_law_464 : decode cL_law 464 = .ok (.iload_n 3, 1) := by decide +kernel
theorem dL_law_465 : decode cL_law 465 = .ok (.iconst 3, 1) := by decide +kernel
theorem dL_law_466 : decode cL_law 466 = .ok (.iadd, 1) := by decide +kernel
theorem dL_law_467 : decode cL_law 467 = .ok (.iaload, 1) := by decide +kernel
theorem dL_law_468 : decode cL_law 468 = .ok (.invokevirtual 64, 3) := by decide +kernel
theorem dL_law_471 : decode cL_law 471 = .ok (.if_icmp .eq 464, 3) := by decide +kernel
theorem dL_law_474 : decode cL_law 474 = .ok (.iconst 0, 1) := by decide +kernel
theorem dL_law_475 : decode cL_law 475 = .ok (.ireturn, 1) := by decide +kernel
theorem dL_law_476 : decode cL_law 476 = .ok (.aload_n 1, 1) := by decide +kernel
theorem dL_law_477 : decode cL_law 477 = .ok (.aload_n 0, 1) := by decide +kernel
theorem dL_law_478 : decode cL_law 478 = .ok (.iload_n 3, 1) := by decide +kernel
theorem dL_law_479 : decode cL_law 479 = .ok (.iconst 1, 1) := by decide +kernel
theorem dL_law_480 : decode cL_law 480 = .ok (.iadd, 1) := by decide +kernel
theorem dL_law_481 : decode cL_law 481 = .ok (.iaload, 1) := by decide +kernel
theorem dL_law_482 : decode cL_law 482 = .ok (.invokevirtual 65, 3) := by decide +kernel
theorem dL_law_485 : decode cL_law 485 = .ok (.aload_n 2, 1) := by decide +kernel
theorem dL_law_486 : decode cL_law 486 = .ok (.aload_n 0, 1) := by decide +kernel
theorem dL_law_487 : decode cL_law 487 = .ok (.iload_n 3, 1) := by decide +kernel
theorem dL_law_488 : decode cL_law 488 = .ok (.iconst 1, 1) := by decide +kernel
theorem dL_law_489 : decode cL_law 489 = .ok (.iadd, 1) := by decide +kernel
theorem dL_law_490 : decode cL_law 490 = .ok (.iaload, 1) := by decide +kernel
theorem dL_law_491 : decode cL_law 491 = .ok (.invokevirtual 68, 3) := by decide +kernel
theorem dL_law_494 : decode cL_law 494 = .ok (.if_icmp .eq 441, 3) := by decide +kernel
theorem dL_law_497 : decode cL_law 497 = .ok (.iconst 0, 1) := by decide +kernel
theorem dL_law_498 : decode cL_law 498 = .ok (.ireturn, 1) := by decide +kernel
theorem dL_law_499 : decode cL_law 499 = .ok (.aload_n 1, 1) := by decide +kernel
theorem dL_law_500 : decode cL_law 500 = .ok (.aload_n 0, 1) := by decide +kernel
theorem dL_law_501 : decode cL_law 501 = .ok (.iload_n 3, 1) := by decide +kernel
theorem dL_law_502 : decode cL_law 502 = .ok (.iconst 1, 1) := by decide +kernel
theorem dL_law_503 : decode cL_law 503 = .ok (.iadd, 1) := by decide +kernel
theorem dL_law_504 : decode cL_law 504 = .ok (.iaload, 1) := by decide +kernel
theorem dL_law_505 : decode cL_law 505 = .ok (.aload_n 0, 1) := by decide +kernel
theorem dL_law_506 : decode cL_law 506 = .ok (.iload_n 3, 1) := by decide +kernel
theorem dL_law_507 : decode cL_law 507 = .ok (.iconst 2, 1) := by decide +kernel
theorem dL_law_508 : decode cL_law 508 = .ok (.iadd, 1) := by decide +kernel
theorem dL_law_509 : decode cL_law 509 = .ok (.iaload, 1) := by decide +kernel
theorem dL_law_510 : decode cL_law 510 = .ok (.aload_n 0, 1) := by decide +kernel
theorem dL_law_511 : decode cL_law 511 = .ok (.iload_n 3, 1) := by decide +kernel
theorem dL_law_512 : decode cL_law 512 = .ok (.iconst 3, 1) := by decide +kernel
theorem dL_law_513 : decode cL_law 513 = .ok (.iadd, 1) := by decide +kernel
theorem dL_law_514 : decode cL_law 514 = .ok (.iaload, 1) := by decide +kernel
theorem dL_law_515 : decode cL_law 515 = .ok (.invokevirtual 69, 3) := by decide +kernel
theorem dL_law_518 : decode cL_law 518 = .ok (.aload_n 2, 1) := by decide +kernel
theorem dL_law_519 : decode cL_law 519 = .ok (.aload_n 0, 1) := by decide +kernel
theorem dL_law_520 : decode cL_law 520 = .ok (.iload_n 3, 1) := by decide +kernel
theorem dL_law_521 : decode cL_law 521 = .ok (.iconst 1, 1) := by decide +kernel
theorem dL_law_522 : decode cL_law 522 = .ok (.iadd, 1) := by decide +kernel
theorem dL_law_523 : decode cL_law 523 = .ok (.iaload, 1) := by decide +kernel
theorem dL_law_524 : decode cL_law 524 = .ok (.aload_n 0, 1) := by decide +kernel
theorem dL_law_525 : decode cL_law 525 = .ok (.iload_n 3, 1) := by decide +kernel
theorem dL_law_526 : decode cL_law 526 = .ok (.iconst 2, 1) := by decide +kernel
theorem dL_law_527 : decode cL_law 527 = .ok (.iadd, 1) := by decide +kernel
theorem dL_law_528 : decode cL_law 528 = .ok (.iaload, 1) := by decide +kernel
theorem dL_law_529 : decode cL_law 529 = .ok (.aload_n 0, 1) := by decide +kernel
theorem dL_law_530 : decode cL_law 530 = .ok (.iload_n 3, 1) := by decide +kernel
theorem dL_law_531 : decode cL_law 531 = .ok (.iconst 3, 1) := by decide +kernel
theorem dL_law_532 : decode cL_law 532 = .ok (.iadd, 1) := by decide +kernel
theorem dL_law_533 : decode cL_law 533 = .ok (.iaload, 1) := by decide +kernel
theorem dL_law_534 : decode cL_law 534 = .ok (.invokevirtual 72, 3) := by decide +kernel
theorem dL_law_537 : decode cL_law 537 = .ok (.if_icmp .eq 398, 3) := by decide +kernel
theorem dL_law_540 : decode cL_law 540 = .ok (.iconst 0, 1) := by decide +kernel
theorem dL_law_541 : decode cL_law 541 = .ok (.ireturn, 1) := by decide +kernel
theorem dL_law_542 : decode cL_law 542 = .ok (.aload_n 1, 1) := by decide +kernel
theorem dL_law_543 : decode cL_law 543 = .ok (.aload_n 0, 1) := by decide +kernel
theorem dL_law_544 : decode cL_law 544 = .ok (.iload_n 3, 1) := by decide +kernel
theorem dL_law_545 : decode cL_law 545 = .ok (.iconst 1, 1) := by decide +kernel
theorem dL_law_546 : decode cL_law 546 = .ok (.iadd, 1) := by decide +kernel
theorem dL_law_547 : decode cL_law 547 = .ok (.iaload, 1) := by decide +kernel
theorem dL_law_548 : decode cL_law 548 = .ok (.aload_n 0, 1) := by decide +kernel
theorem dL_law_549 : decode cL_law 549 = .ok (.iload_n 3, 1) := by decide +kernel
theorem dL_law_550 : decode cL_law 550 = .ok (.iconst 2, 1) := by decide +kernel
theorem dL_law_551 : decode cL_law 551 = .ok (.iadd, 1) := by decide +kernel
theorem dL_law_552 : decode cL_law 552 = .ok (.iaload, 1) := by decide +kernel
theorem dL_law_553 : decode cL_law 553 = .ok (.invokevirtual 73, 3) := by decide +kernel
theorem dL_law_556 : decode cL_law 556 = .ok (.aload_n 2, 1) := by decide +kernel
theorem dL_law_557 : decode cL_law 557 = .ok (.aload_n 0, 1) := by decide +kernel
theorem dL_law_558 : decode cL_law 558 = .ok (.iload_n 3, 1) := by decide +kernel
theorem dL_law_559 : decode cL_law 559 = .ok (.iconst 1, 1) := by decide +kernel
theorem dL_law_560 : decode cL_law 560 = .ok (.iadd, 1) := by decide +kernel
theorem dL_law_561 : decode cL_law 561 = .ok (.iaload, 1) := by decide +kernel
theorem dL_law_562 : decode cL_law 562 = .ok (.aload_n 0, 1) := by decide +kernel
theorem dL_law_563 : decode cL_law 563 = .ok (.iload_n 3, 1) := by decide +kernel
theorem dL_law_564 : decode cL_law 564 = .ok (.iconst 2, 1) := by decide +kernel
theorem dL_law_565 : decode cL_law 565 = .ok (.iadd, 1) := by decide +kernel
theorem dL_law_566 : decode cL_law 566 = .ok (.iaload, 1) := by decide +kernel
theorem dL_law_567 : decode cL_law 567 = .ok (.invokevirtual 76, 3) := by decide +kernel
theorem dL_law_570 : decode cL_law 570 = .ok (.if_icmp .eq 365, 3) := by decide +kernel
theorem dL_law_573 : decode cL_law 573 = .ok (.iconst 0, 1) := by decide +kernel
theorem dL_law_574 : decode cL_law 574 = .ok (.ireturn, 1) := by decide +kernel
theorem dL_law_575 : decode cL_law 575 = .ok (.aload_n 1, 1) := by decide +kernel
theorem dL_law_576 : decode cL_law 576 = .ok (.aload_n 0, 1) := by decide +kernel
theorem dL_law_577 : decode cL_law 577 = .ok (.iload_n 3, 1) := by decide +kernel
theorem dL_law_578 : decode cL_law 578 = .ok (.iconst 1, 1) := by decide +kernel
theorem dL_law_579 : decode cL_law 579 = .ok (.iadd, 1) := by decide +kernel
theorem dL_law_580 : decode cL_law 580 = .ok (.iaload, 1) := by decide +kernel
theorem dL_law_581 : decode cL_law 581 = .ok (.invokevirtual 77, 3) := by decide +kernel
theorem dL_law_584 : decode cL_law 584 = .ok (.aload_n 2, 1) := by decide +kernel
theorem dL_law_585 : decode cL_law 585 = .ok (.aload_n 0, 1) := by decide +kernel
theorem dL_law_586 : decode cL_law 586 = .ok (.iload_n 3, 1) := by decide +kernel
theorem dL_law_587 : decode cL_law 587 = .ok (.iconst 1, 1) := by decide +kernel
theorem dL_law_588 : decode cL_law 588 = .ok (.iadd, 1) := by decide +kernel
theorem dL_law_589 : decode cL_law 589 = .ok (.iaload, 1) := by decide +kernel
theorem dL_law_590 : decode cL_law 590 = .ok (.invokevirtual 80, 3) := by decide +kernel
theorem dL_law_593 : decode cL_law 593 = .ok (.if_icmp .eq 342, 3) := by decide +kernel
theorem dL_law_596 : decode cL_law 596 = .ok (.iconst 0, 1) := by decide +kernel
theorem dL_law_597 : decode cL_law 597 = .ok (.ireturn, 1) := by decide +kernel
theorem dL_law_598 : decode cL_law 598 = .ok (.aload_n 1, 1) := by decide +kernel
theorem dL_law_599 : decode cL_law 599 = .ok (.aload_n 0, 1) := by decide +kernel
theorem dL_law_600 : decode cL_law 600 = .ok (.iload_n 3, 1) := by decide +kernel
theorem dL_law_601 : decode cL_law 601 = .ok (.iconst 1, 1) := by decide +kernel
theorem dL_law_602 : decode cL_law 602 = .ok (.iadd, 1) := by decide +kernel
theorem dL_law_603 : decode cL_law 603 = .ok (.iaload, 1) := by decide +kernel
theorem dL_law_604 : decode cL_law 604 = .ok (.aload_n 0, 1) := by decide +kernel
theorem dL_law_605 : decode cL_law 605 = .ok (.iload_n 3, 1) := by decide +kernel
theorem dL_law_606 : decode cL_law 606 = .ok (.iconst 2, 1) := by decide +kernel
theorem dL_law_607 : decode cL_law 607 = .ok (.iadd, 1) := by decide +kernel
theorem dL_law_608 : decode cL_law 608 = .ok (.iaload, 1) := by decide +kernel
theorem dL_law_609 : decode cL_law 609 = .ok (.invokevirtual 81, 3) := by decide +kernel
theorem dL_law_612 : decode cL_law 612 = .ok (.aload_n 2, 1) := by decide +kernel
theorem dL_law_613 : decode cL_law 613 = .ok (.aload_n 0, 1) := by decide +kernel
theorem dL_law_614 : decode cL_law 614 = .ok (.iload_n 3, 1) := by decide +kernel
theorem dL_law_615 : decode cL_law 615 = .ok (.iconst 1, 1) := by decide +kernel
theorem dL_law_616 : decode cL_law 616 = .ok (.iadd, 1) := by decide +kernel
theorem dL_law_617 : decode cL_law 617 = .ok (.iaload, 1) := by decide +kernel
theorem dL_law_618 : decode cL_law 618 = .ok (.aload_n 0, 1) := by decide +kernel
theorem dL_law_619 : decode cL_law 619 = .ok (.iload_n 3, 1) := by decide +kernel
theorem dL_law_620 : decode cL_law 620 = .ok (.iconst 2, 1) := by decide +kernel
theorem dL_law_621 : decode cL_law 621 = .ok (.iadd, 1) := by decide +kernel
theorem dL_law_622 : decode cL_law 622 = .ok (.iaload, 1) := by decide +kernel
theorem dL_law_623 : decode cL_law 623 = .ok (.invokevirtual 84, 3) := by decide +kernel
theorem dL_law_626 : decode cL_law 626 = .ok (.if_icmp .eq 309, 3) := by decide +kernel
theorem dL_law_629 : decode cL_law 629 = .ok (.iconst 0, 1) := by decide +kernel
theorem dL_law_630 : decode cL_law 630 = .ok (.ireturn, 1) := by decide +kernel
theorem dL_law_631 : decode cL_law 631 = .ok (.aload_n 1, 1) := by decide +kernel
theorem dL_law_632 : decode cL_law 632 = .ok (.invokevirtual 85, 3) := by decide +kernel
theorem dL_law_635 : decode cL_law 635 = .ok (.aload_n 2, 1) := by decide +kernel
theorem dL_law_636 : decode cL_law 636 = .ok (.invokevirtual 88, 3) := by decide +kernel
theorem dL_law_639 : decode cL_law 639 = .ok (.if_icmp .eq 296, 3) := by decide +kernel
theorem dL_law_642 : decode cL_law 642 = .ok (.iconst 0, 1) := by decide +kernel
theorem dL_law_643 : decode cL_law 643 = .ok (.ireturn, 1) := by decide +kernel
theorem dL_law_644 : decode cL_law 644 = .ok (.aload_n 1, 1) := by decide +kernel
theorem dL_law_645 : decode cL_law 645 = .ok (.aload_n 0, 1) := by decide +kernel
theorem dL_law_646 : decode cL_law 646 = .ok (.iload_n 3, 1) := by decide +kernel
theorem dL_law_647 : decode cL_law 647 = .ok (.iconst 1, 1) := by decide +kernel
theorem dL_law_648 : decode cL_law 648 = .ok (.iadd, 1) := by decide +kernel
theorem dL_law_649 : decode cL_law 649 = .ok (.iaload, 1) := by decide +kernel
theorem dL_law_650 : decode cL_law 650 = .ok (.aload_n 0, 1) := by decide +kernel
theorem dL_law_651 : decode cL_law 651 = .ok (.iload_n 3, 1) := by decide +kernel
theorem dL_law_652 : decode cL_law 652 = .ok (.iconst 2, 1) := by decide +kernel
theorem dL_law_653 : decode cL_law 653 = .ok (.iadd, 1) := by decide +kernel
theorem dL_law_654 : decode cL_law 654 = .ok (.iaload, 1) := by decide +kernel
theorem dL_law_655 : decode cL_law 655 = .ok (.aload_n 0, 1) := by decide +kernel
theorem dL_law_656 : decode cL_law 656 = .ok (.iload_n 3, 1) := by decide +kernel
theorem dL_law_657 : decode cL_law 657 = .ok (.iconst 3, 1) := by decide +kernel
theorem dL_law_658 : decode cL_law 658 = .ok (.iadd, 1) := by decide +kernel
theorem dL_law_659 : decode cL_law 659 = .ok (.iaload, 1) := by decide +kernel
theorem dL_law_660 : decode cL_law 660 = .ok (.invokevirtual 89, 3) := by decide +kernel
theorem dL_law_663 : decode cL_law 663 = .ok (.aload_n 2, 1) := by decide +kernel
theorem dL_law_664 : decode cL_law 664 = .ok (.aload_n 0, 1) := by decide +kernel
theorem dL_law_665 : decode cL_law 665 = .ok (.iload_n 3, 1) := by decide +kernel
theorem dL_law_666 : decode cL_law 666 = .ok (.iconst 1, 1) := by decide +kernel
theorem dL_law_667 : decode cL_law 667 = .ok (.iadd, 1) := by decide +kernel
theorem dL_law_668 : decode cL_law 668 = .ok (.iaload, 1) := by decide +kernel
theorem dL_law_669 : decode cL_law 669 = .ok (.aload_n 0, 1) := by decide +kernel
theorem dL_law_670 : decode cL_law 670 = .ok (.iload_n 3, 1) := by decide +kernel
theorem dL_law_671 : decode cL_law 671 = .ok (.iconst 2, 1) := by decide +kernel
theorem dL_law_672 : decode cL_law 672 = .ok (.iadd, 1) := by decide +kernel
theorem dL_law_673 : decode cL_law 673 = .ok (.iaload, 1) := by decide +kernel
theorem dL_law_674 : decode cL_law 674 = .ok (.aload_n 0, 1) := by decide +kernel
theorem dL_law_675 : decode cL_law 675 = .ok (.iload_n 3, 1) := by decide +kernel
theorem dL_law_676 : decode cL_law 676 = .ok (.iconst 3, 1) := by decide +kernel
theorem dL_law_677 : decode cL_law 677 = .ok (.iadd, 1) := by decide +kernel
theorem dL_law_678 : decode cL_law 678 = .ok (.iaload, 1) := by decide +kernel
theorem dL_law_679 : decode cL_law 679 = .ok (.invokevirtual 92, 3) := by decide +kernel
theorem dL_law_682 : decode cL_law 682 = .ok (.if_icmp .eq 253, 3) := by decide +kernel
theorem dL_law_685 : decode cL_law 685 = .ok (.iconst 0, 1) := by decide +kernel
theorem dL_law_686 : decode cL_law 686 = .ok (.ireturn, 1) := by decide +kernel
theorem dL_law_687 : decode cL_law 687 = .ok (.aload_n 1, 1) := by decide +kernel
theorem dL_law_688 : decode cL_law 688 = .ok (.aload_n 0, 1) := by decide +kernel
theorem dL_law_689 : decode cL_law 689 = .ok (.iload_n 3, 1) := by decide +kernel
theorem dL_law_690 : decode cL_law 690 = .ok (.iconst 1, 1) := by decide +kernel
theorem dL_law_691 : decode cL_law 691 = .ok (.iadd, 1) := by decide +kernel
theorem dL_law_692 : decode cL_law 692 = .ok (.iaload, 1) := by decide +kernel
theorem dL_law_693 : decode cL_law 693 = .ok (.aload_n 0, 1) := by decide +kernel
theorem dL_law_694 : decode cL_law 694 = .ok (.iload_n 3, 1) := by decide +kernel
theorem dL_law_695 : decode cL_law 695 = .ok (.iconst 2, 1) := by decide +kernel
theorem dL_law_696 : decode cL_law 696 = .ok (.iadd, 1) := by decide +kernel
theorem dL_law_697 : decode cL_law 697 = .ok (.iaload, 1) := by decide +kernel
theorem dL_law_698 : decode cL_law 698 = .ok (.aload_n 0, 1) := by decide +kernel
theorem dL_law_699 : decode cL_law 699 = .ok (.iload_n 3, 1) := by decide +kernel
theorem dL_law_700 : decode cL_law 700 = .ok (.iconst 3, 1) := by decide +kernel
theorem dL_law_701 : decode cL_law 701 = .ok (.iadd, 1) := by decide +kernel
theorem dL_law_702 : decode cL_law 702 = .ok (.iaload, 1) := by decide +kernel
theorem dL_law_703 : decode cL_law 703 = .ok (.invokevirtual 93, 3) := by decide +kernel
theorem dL_law_706 : decode cL_law 706 = .ok (.aload_n 2, 1) := by decide +kernel
theorem dL_law_707 : decode cL_law 707 = .ok (.aload_n 0, 1) := by decide +kernel
theorem dL_law_708 : decode cL_law 708 = .ok (.iload_n 3, 1) := by decide +kernel
theorem dL_law_709 : decode cL_law 709 = .ok (.iconst 1, 1) := by decide +kernel
theorem dL_law_710 : decode cL_law 710 = .ok (.iadd, 1) := by decide +kernel
theorem dL_law_711 : decode cL_law 711 = .ok (.iaload, 1) := by decide +kernel
theorem dL_law_712 : decode cL_law 712 = .ok (.aload_n 0, 1) := by decide +kernel
theorem dL_law_713 : decode cL_law 713 = .ok (.iload_n 3, 1) := by decide +kernel
theorem dL_law_714 : decode cL_law 714 = .ok (.iconst 2, 1) := by decide +kernel
theorem dL_law_715 : decode cL_law 715 = .ok (.iadd, 1) := by decide +kernel
theorem dL_law_716 : decode cL_law 716 = .ok (.iaload, 1) := by decide +kernel
theorem dL_law_717 : decode cL_law 717 = .ok (.aload_n 0, 1) := by decide +kernel
theorem dL_law_718 : decode cL_law 718 = .ok (.iload_n 3, 1) := by decide +kernel
theorem dL_law_719 : decode cL_law 719 = .ok (.iconst 3, 1) := by decide +kernel
theorem dL_law_720 : decode cL_law 720 = .ok (.iadd, 1) := by decide +kernel
theorem dL_law_721 : decode cL_law 721 = .ok (.iaload, 1) := by decide +kernel
theorem dL_law_722 : decode cL_law 722 = .ok (.invokevirtual 96, 3) := by decide +kernel
theorem dL_law_725 : decode cL_law 725 = .ok (.if_icmp .eq 210, 3) := by decide +kernel
theorem dL_law_728 : decode cL_law 728 = .ok (.iconst 0, 1) := by decide +kernel
theorem dL_law_729 : decode cL_law 729 = .ok (.ireturn, 1) := by decide +kernel
theorem dL_law_730 : decode cL_law 730 = .ok (.aload_n 1, 1) := by decide +kernel
theorem dL_law_731 : decode cL_law 731 = .ok (.aload_n 0, 1) := by decide +kernel
theorem dL_law_732 : decode cL_law 732 = .ok (.iload_n 3, 1) := by decide +kernel
theorem dL_law_733 : decode cL_law 733 = .ok (.iconst 1, 1) := by decide +kernel
theorem dL_law_734 : decode cL_law 734 = .ok (.iadd, 1) := by decide +kernel
theorem dL_law_735 : decode cL_law 735 = .ok (.iaload, 1) := by decide +kernel
theorem dL_law_736 : decode cL_law 736 = .ok (.invokevirtual 97, 3) := by decide +kernel
theorem dL_law_739 : decode cL_law 739 = .ok (.aload_n 2, 1) := by decide +kernel
theorem dL_law_740 : decode cL_law 740 = .ok (.aload_n 0, 1) := by decide +kernel
theorem dL_law_741 : decode cL_law 741 = .ok (.iload_n 3, 1) := by decide +kernel
theorem dL_law_742 : decode cL_law 742 = .ok (.iconst 1, 1) := by decide +kernel
theorem dL_law_743 : decode cL_law 743 = .ok (.iadd, 1) := by decide +kernel
theorem dL_law_744 : decode cL_law 744 = .ok (.iaload, 1) := by decide +kernel
theorem dL_law_745 : decode cL_law 745 = .ok (.invokevirtual 100, 3) := by decide +kernel
theorem dL_law_748 : decode cL_law 748 = .ok (.if_icmp .eq 187, 3) := by decide +kernel
theorem dL_law_751 : decode cL_law 751 = .ok (.iconst 0, 1) := by decide +kernel
theorem dL_law_752 : decode cL_law 752 = .ok (.ireturn, 1) := by decide +kernel
theorem dL_law_753 : decode cL_law 753 = .ok (.aload_n 1, 1) := by decide +kernel
theorem dL_law_754 : decode cL_law 754 = .ok (.aload_n 0, 1) := by decide +kernel
theorem dL_law_755 : decode cL_law 755 = .ok (.iload_n 3, 1) := by decide +kernel
theorem dL_law_756 : decode cL_law 756 = .ok (.iconst 1, 1) := by decide +kernel
theorem dL_law_757 : decode cL_law 757 = .ok (.iadd, 1) := by decide +kernel
theorem dL_law_758 : decode cL_law 758 = .ok (.iaload, 1) := by decide +kernel
theorem dL_law_759 : decode cL_law 759 = .ok (.aload_n 0, 1) := by decide +kernel
theorem dL_law_760 : decode cL_law 760 = .ok (.iload_n 3, 1) := by decide +kernel
theorem dL_law_761 : decode cL_law 761 = .ok (.iconst 2, 1) := by decide +kernel
theorem dL_law_762 : decode cL_law 762 = .ok (.iadd, 1) := by decide +kernel
theorem dL_law_763 : decode cL_law 763 = .ok (.iaload, 1) := by decide +kernel
theorem dL_law_764 : decode cL_law 764 = .ok (.aload_n 0, 1) := by decide +kernel
theorem dL_law_765 : decode cL_law 765 = .ok (.iload_n 3, 1) := by decide +kernel
theorem dL_law_766 : decode cL_law 766 = .ok (.iconst 3, 1) := by decide +kernel
theorem dL_law_767 : decode cL_law 767 = .ok (.iadd, 1) := by decide +kernel
theorem dL_law_768 : decode cL_law 768 = .ok (.iaload, 1) := by decide +kernel
theorem dL_law_769 : decode cL_law 769 = .ok (.invokevirtual 101, 3) := by decide +kernel
theorem dL_law_772 : decode cL_law 772 = .ok (.aload_n 2, 1) := by decide +kernel
theorem dL_law_773 : decode cL_law 773 = .ok (.aload_n 0, 1) := by decide +kernel
theorem dL_law_774 : decode cL_law 774 = .ok (.iload_n 3, 1) := by decide +kernel
theorem dL_law_775 : decode cL_law 775 = .ok (.iconst 1, 1) := by decide +kernel
theorem dL_law_776 : decode cL_law 776 = .ok (.iadd, 1) := by decide +kernel
theorem dL_law_777 : decode cL_law 777 = .ok (.iaload, 1) := by decide +kernel
theorem dL_law_778 : decode cL_law 778 = .ok (.aload_n 0, 1) := by decide +kernel
theorem dL_law_779 : decode cL_law 779 = .ok (.iload_n 3, 1) := by decide +kernel
theorem dL_law_780 : decode cL_law 780 = .ok (.iconst 2, 1) := by decide +kernel
theorem dL_law_781 : decode cL_law 781 = .ok (.iadd, 1) := by decide +kernel
theorem dL_law_782 : decode cL_law 782 = .ok (.iaload, 1) := by decide +kernel
theorem dL_law_783 : decode cL_law 783 = .ok (.aload_n 0, 1) := by decide +kernel
theorem dL_law_784 : decode cL_law 784 = .ok (.iload_n 3, 1) := by decide +kernel
theorem dL_law_785 : decode cL_law 785 = .ok (.iconst 3, 1) := by decide +kernel
theorem dL_law_786 : decode cL_law 786 = .ok (.iadd, 1) := by decide +kernel
theorem dL_law_787 : decode cL_law 787 = .ok (.iaload, 1) := by decide +kernel
theorem dL_law_788 : decode cL_law 788 = .ok (.invokevirtual 104, 3) := by decide +kernel
theorem dL_law_791 : decode cL_law 791 = .ok (.if_icmp .eq 144, 3) := by decide +kernel
theorem dL_law_794 : decode cL_law 794 = .ok (.iconst 0, 1) := by decide +kernel
theorem dL_law_795 : decode cL_law 795 = .ok (.ireturn, 1) := by decide +kernel
theorem dL_law_796 : decode cL_law 796 = .ok (.aload_n 1, 1) := by decide +kernel
theorem dL_law_797 : decode cL_law 797 = .ok (.aload_n 0, 1) := by decide +kernel
theorem dL_law_798 : decode cL_law 798 = .ok (.iload_n 3, 1) := by decide +kernel
theorem dL_law_799 : decode cL_law 799 = .ok (.iconst 1, 1) := by decide +kernel
theorem dL_law_800 : decode cL_law 800 = .ok (.iadd, 1) := by decide +kernel
theorem dL_law_801 : decode cL_law 801 = .ok (.iaload, 1) := by decide +kernel
theorem dL_law_802 : decode cL_law 802 = .ok (.aload_n 0, 1) := by decide +kernel
theorem dL_law_803 : decode cL_law 803 = .ok (.iload_n 3, 1) := by decide +kernel
theorem dL_law_804 : decode cL_law 804 = .ok (.iconst 2, 1) := by decide +kernel
theorem dL_law_805 : decode cL_law 805 = .ok (.iadd, 1) := by decide +kernel
theorem dL_law_806 : decode cL_law 806 = .ok (.iaload, 1) := by decide +kernel
theorem dL_law_807 : decode cL_law 807 = .ok (.invokevirtual 105, 3) := by decide +kernel
theorem dL_law_810 : decode cL_law 810 = .ok (.aload_n 2, 1) := by decide +kernel
theorem dL_law_811 : decode cL_law 811 = .ok (.aload_n 0, 1) := by decide +kernel
theorem dL_law_812 : decode cL_law 812 = .ok (.iload_n 3, 1) := by decide +kernel
theorem dL_law_813 : decode cL_law 813 = .ok (.iconst 1, 1) := by decide +kernel
theorem dL_law_814 : decode cL_law 814 = .ok (.iadd, 1) := by decide +kernel
theorem dL_law_815 : decode cL_law 815 = .ok (.iaload, 1) := by decide +kernel
theorem dL_law_816 : decode cL_law 816 = .ok (.aload_n 0, 1) := by decide +kernel
theorem dL_law_817 : decode cL_law 817 = .ok (.iload_n 3, 1) := by decide +kernel
theorem dL_law_818 : decode cL_law 818 = .ok (.iconst 2, 1) := by decide +kernel
theorem dL_law_819 : decode cL_law 819 = .ok (.iadd, 1) := by decide +kernel
theorem dL_law_820 : decode cL_law 820 = .ok (.iaload, 1) := by decide +kernel
theorem dL_law_821 : decode cL_law 821 = .ok (.invokevirtual 108, 3) := by decide +kernel
theorem dL_law_824 : decode cL_law 824 = .ok (.if_icmp .eq 111, 3) := by decide +kernel
theorem dL_law_827 : decode cL_law 827 = .ok (.iconst 0, 1) := by decide +kernel
theorem dL_law_828 : decode cL_law 828 = .ok (.ireturn, 1) := by decide +kernel
theorem dL_law_829 : decode cL_law 829 = .ok (.aload_n 1, 1) := by decide +kernel
theorem dL_law_830 : decode cL_law 830 = .ok (.invokevirtual 109, 3) := by decide +kernel
theorem dL_law_833 : decode cL_law 833 = .ok (.aload_n 2, 1) := by decide +kernel
theorem dL_law_834 : decode cL_law 834 = .ok (.invokevirtual 112, 3) := by decide +kernel
theorem dL_law_837 : decode cL_law 837 = .ok (.if_icmp .eq 98, 3) := by decide +kernel
theorem dL_law_840 : decode cL_law 840 = .ok (.iconst 0, 1) := by decide +kernel
theorem dL_law_841 : decode cL_law 841 = .ok (.ireturn, 1) := by decide +kernel
theorem dL_law_842 : decode cL_law 842 = .ok (.aload_n 1, 1) := by decide +kernel
theorem dL_law_843 : decode cL_law 843 = .ok (.aload_n 0, 1) := by decide +kernel
theorem dL_law_844 : decode cL_law 844 = .ok (.iload_n 3, 1) := by decide +kernel
theorem dL_law_845 : decode cL_law 845 = .ok (.iconst 1, 1) := by decide +kernel
theorem dL_law_846 : decode cL_law 846 = .ok (.iadd, 1) := by decide +kernel
theorem dL_law_847 : decode cL_law 847 = .ok (.iaload, 1) := by decide +kernel
theorem dL_law_848 : decode cL_law 848 = .ok (.invokevirtual 113, 3) := by decide +kernel
theorem dL_law_851 : decode cL_law 851 = .ok (.f2d, 1) := by decide +kernel
theorem dL_law_852 : decode cL_law 852 = .ok (.dstore 4, 2) := by decide +kernel
theorem dL_law_854 : decode cL_law 854 = .ok (.aload_n 2, 1) := by decide +kernel
theorem dL_law_855 : decode cL_law 855 = .ok (.aload_n 0, 1) := by decide +kernel
theorem dL_law_856 : decode cL_law 856 = .ok (.iload_n 3, 1) := by decide +kernel
theorem dL_law_857 : decode cL_law 857 = .ok (.iconst 1, 1) := by decide +kernel
theorem dL_law_858 : decode cL_law 858 = .ok (.iadd, 1) := by decide +kernel
theorem dL_law_859 : decode cL_law 859 = .ok (.iaload, 1) := by decide +kernel
theorem dL_law_860 : decode cL_law 860 = .ok (.invokevirtual 117, 3) := by decide +kernel
theorem dL_law_863 : decode cL_law 863 = .ok (.f2d, 1) := by decide +kernel
theorem dL_law_864 : decode cL_law 864 = .ok (.dstore 6, 2) := by decide +kernel
theorem dL_law_866 : decode cL_law 866 = .ok (.dload 4, 2) := by decide +kernel
theorem dL_law_868 : decode cL_law 868 = .ok (.dload 6, 2) := by decide +kernel
theorem dL_law_870 : decode cL_law 870 = .ok (.dcmp .l, 1) := by decide +kernel
theorem dL_law_871 : decode cL_law 871 = .ok (.ifCond .eq 21, 3) := by decide +kernel
theorem dL_law_874 : decode cL_law 874 = .ok (.dload 4, 2) := by decide +kernel
theorem dL_law_876 : decode cL_law 876 = .ok (.dload 4, 2) := by decide +kernel
theorem dL_law_878 : decode cL_law 878 = .ok (.dcmp .l, 1) := by decide +kernel
theorem dL_law_879 : decode cL_law 879 = .ok (.ifCond .eq 11, 3) := by decide +kernel
theorem dL_law_882 : decode cL_law 882 = .ok (.dload 6, 2) := by decide +kernel
theorem dL_law_884 : decode cL_law 884 = .ok (.dload 6, 2) := by decide +kernel
theorem dL_law_886 : decode cL_law 886 = .ok (.dcmp .l, 1) := by decide +kernel
theorem dL_law_887 : decode cL_law 887 = .ok (.ifCond .ne 5, 3) := by decide +kernel
theorem dL_law_890 : decode cL_law 890 = .ok (.iconst 0, 1) := by decide +kernel
theorem dL_law_891 : decode cL_law 891 = .ok (.ireturn, 1) := by decide +kernel
theorem dL_law_892 : decode cL_law 892 = .ok (.goto 43, 3) := by decide +kernel
theorem dL_law_895 : decode cL_law 895 = .ok (.aload_n 1, 1) := by decide +kernel
theorem dL_law_896 : decode cL_law 896 = .ok (.invokevirtual 118, 3) := by decide +kernel
theorem dL_law_899 : decode cL_law 899 = .ok (.aload_n 2, 1) := by decide +kernel
theorem dL_law_900 : decode cL_law 900 = .ok (.invokevirtual 121, 3) := by decide +kernel
theorem dL_law_903 : decode cL_law 903 = .ok (.if_icmp .eq 32, 3) := by decide +kernel
theorem dL_law_906 : decode cL_law 906 = .ok (.iconst 0, 1) := by decide +kernel
theorem dL_law_907 : decode cL_law 907 = .ok (.ireturn, 1) := by decide +kernel
theorem dL_law_908 : decode cL_law 908 = .ok (.aload_n 1, 1) := by decide +kernel
theorem dL_law_909 : decode cL_law 909 = .ok (.invokevirtual 122, 3) := by decide +kernel
theorem dL_law_912 : decode cL_law 912 = .ok (.aload_n 2, 1) := by decide +kernel
theorem dL_law_913 : decode cL_law 913 = .ok (.invokevirtual 125, 3) := by decide +kernel
theorem dL_law_916 : decode cL_law 916 = .ok (.if_icmp .eq 19, 3) := by decide +kernel
theorem dL_law_919 : decode cL_law 919 = .ok (.iconst 0, 1) := by decide +kernel
theorem dL_law_920 : decode cL_law 920 = .ok (.ireturn, 1) := by decide +kernel
theorem dL_law_921 : decode cL_law 921 = .ok (.aload_n 1, 1) := by decide +kernel
theorem dL_law_922 : decode cL_law 922 = .ok (.invokevirtual 126, 3) := by decide +kernel
theorem dL_law_925 : decode cL_law 925 = .ok (.aload_n 2, 1) := by decide +kernel
theorem dL_law_926 : decode cL_law 926 = .ok (.invokevirtual 130, 3) := by decide +kernel
theorem dL_law_929 : decode cL_law 929 = .ok (.lcmp, 1) := by decide +kernel
theorem dL_law_930 : decode cL_law 930 = .ok (.ifCond .eq 5, 3) := by decide +kernel
theorem dL_law_933 : decode cL_law 933 = .ok (.iconst 0, 1) := by decide +kernel
theorem dL_law_934 : decode cL_law 934 = .ok (.ireturn, 1) := by decide +kernel
theorem dL_law_935 : decode cL_law 935 = .ok (.iinc 3 4, 3) := by decide +kernel
theorem dL_law_938 : decode cL_law 938 = .ok (.goto (-920), 3) := by decide +kernel
theorem dL_law_941 : decode cL_law 941 = .ok (.iconst 1, 1) := by decide +kernel
theorem dL_law_942 : decode cL_law 942 = .ok (.ireturn, 1) := by decide +kernel
abbrev vwCl : List vw_C := [(RX0, TX0, 3), (RX1, TX1, 5), (RX2, TX2, 12), (RX3, TX3, 3), (RX4, TX4, 8), (RX5, TX5, 1), (RX6, TX6, 4), (RX7, TX7, 3), (RX8, TX8, 3), (RX9, TX9, 8), (RX10, TX10, 21)]
