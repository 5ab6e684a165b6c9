section
-- ===== PART A: goes FIRST, ahead of the names: the tables' words, and 'selects' of the private methods out of them =====
/-- a private method of a class that the tables say can be made, by its rows of tables_1 -/
def lw_okq (q : MethodName × Nat) : Prop := (q.1.cls ≠ "java/lang/invoke/MethodHandle" ∧ q.1.cls ≠ "java/lang/invoke/VarHandle") ∧ Cond.instantiable q.1.cls q.2 ∈ tables_1 ∧ Cond.privateMethod q.1 ∈ tables_1 ∧ Cond.instanceMethod q.1 ∈ tables_1
theorem lw_p0 : lw_okq (⟨"SwapNames", "noteChange", "(I)V"⟩, 12) := ⟨⟨by decide +kernel, by decide +kernel⟩, List.mem_of_getElem? (i := 14) (by decide +kernel), List.mem_of_getElem? (i := 207) (by decide +kernel), List.mem_of_getElem? (i := 208) (by decide +kernel)⟩
theorem lw_p1 : lw_okq (⟨"SwapNames$Texts", "faultOfTerm", "(I)I"⟩, 11) := ⟨⟨by decide +kernel, by decide +kernel⟩, List.mem_of_getElem? (i := 68) (by decide +kernel), List.mem_of_getElem? (i := 215) (by decide +kernel), List.mem_of_getElem? (i := 216) (by decide +kernel)⟩
theorem lw_p2 : lw_okq (⟨"SwapNames$Texts", "weigh", "(I)V"⟩, 11) := ⟨⟨by decide +kernel, by decide +kernel⟩, List.mem_of_getElem? (i := 68) (by decide +kernel), List.mem_of_getElem? (i := 223) (by decide +kernel), List.mem_of_getElem? (i := 224) (by decide +kernel)⟩
theorem lw_p3 : lw_okq (⟨"SwapNames$Texts", "weighOver", "(II)V"⟩, 11) := ⟨⟨by decide +kernel, by decide +kernel⟩, List.mem_of_getElem? (i := 68) (by decide +kernel), List.mem_of_getElem? (i := 227) (by decide +kernel), List.mem_of_getElem? (i := 228) (by decide +kernel)⟩
theorem lw_p4 : lw_okq (⟨"SwapNames$Texts", "faultOfTwos", "(II)I"⟩, 11) := ⟨⟨by decide +kernel, by decide +kernel⟩, List.mem_of_getElem? (i := 68) (by decide +kernel), List.mem_of_getElem? (i := 245) (by decide +kernel), List.mem_of_getElem? (i := 246) (by decide +kernel)⟩
theorem lw_p5 : lw_okq (⟨"SwapNames$Texts", "findToldFresh", "()V"⟩, 11) := ⟨⟨by decide +kernel, by decide +kernel⟩, List.mem_of_getElem? (i := 68) (by decide +kernel), List.mem_of_getElem? (i := 249) (by decide +kernel), List.mem_of_getElem? (i := 250) (by decide +kernel)⟩
theorem lw_p6 : lw_okq (⟨"SwapNames$Texts", "findTheTurn", "()V"⟩, 11) := ⟨⟨by decide +kernel, by decide +kernel⟩, List.mem_of_getElem? (i := 68) (by decide +kernel), List.mem_of_getElem? (i := 253) (by decide +kernel), List.mem_of_getElem? (i := 254) (by decide +kernel)⟩
theorem lw_p7 : lw_okq (⟨"SwapNames$Line", "await", "(I)V"⟩, 5) := ⟨⟨by decide +kernel, by decide +kernel⟩, List.mem_of_getElem? (i := 46) (by decide +kernel), List.mem_of_getElem? (i := 402) (by decide +kernel), List.mem_of_getElem? (i := 403) (by decide +kernel)⟩
theorem lw_p8 : lw_okq (⟨"SwapNames$Line", "putTop", "(LSwapNames$Texts;I)V"⟩, 5) := ⟨⟨by decide +kernel, by decide +kernel⟩, List.mem_of_getElem? (i := 46) (by decide +kernel), List.mem_of_getElem? (i := 427) (by decide +kernel), List.mem_of_getElem? (i := 428) (by decide +kernel)⟩
theorem lw_p9 : lw_okq (⟨"SwapNames$Solver", "clear", "(Z)V"⟩, 12) := ⟨⟨by decide +kernel, by decide +kernel⟩, List.mem_of_getElem? (i := 111) (by decide +kernel), List.mem_of_getElem? (i := 470) (by decide +kernel), List.mem_of_getElem? (i := 471) (by decide +kernel)⟩
theorem lw_p10 : lw_okq (⟨"SwapNames$Solver", "pile", "(II)V"⟩, 12) := ⟨⟨by decide +kernel, by decide +kernel⟩, List.mem_of_getElem? (i := 111) (by decide +kernel), List.mem_of_getElem? (i := 482) (by decide +kernel), List.mem_of_getElem? (i := 483) (by decide +kernel)⟩
theorem lw_p11 : lw_okq (⟨"SwapNames$Solver", "step", "()V"⟩, 12) := ⟨⟨by decide +kernel, by decide +kernel⟩, List.mem_of_getElem? (i := 111) (by decide +kernel), List.mem_of_getElem? (i := 486) (by decide +kernel), List.mem_of_getElem? (i := 487) (by decide +kernel)⟩
theorem lw_p12 : lw_okq (⟨"SwapNames$Solver", "give", "(III)V"⟩, 12) := ⟨⟨by decide +kernel, by decide +kernel⟩, List.mem_of_getElem? (i := 111) (by decide +kernel), List.mem_of_getElem? (i := 496) (by decide +kernel), List.mem_of_getElem? (i := 497) (by decide +kernel)⟩
theorem lw_p13 : lw_okq (⟨"SwapNames$Solver", "withValuesIn", "(I)I"⟩, 12) := ⟨⟨by decide +kernel, by decide +kernel⟩, List.mem_of_getElem? (i := 111) (by decide +kernel), List.mem_of_getElem? (i := 504) (by decide +kernel), List.mem_of_getElem? (i := 505) (by decide +kernel)⟩
theorem lw_p14 : lw_okq (⟨"SwapNames$Solver", "split", "(III)V"⟩, 12) := ⟨⟨by decide +kernel, by decide +kernel⟩, List.mem_of_getElem? (i := 111) (by decide +kernel), List.mem_of_getElem? (i := 512) (by decide +kernel), List.mem_of_getElem? (i := 513) (by decide +kernel)⟩
theorem lw_p15 : lw_okq (⟨"SwapNames$Solver", "must", "(II)V"⟩, 12) := ⟨⟨by decide +kernel, by decide +kernel⟩, List.mem_of_getElem? (i := 111) (by decide +kernel), List.mem_of_getElem? (i := 522) (by decide +kernel), List.mem_of_getElem? (i := 523) (by decide +kernel)⟩
def lw_privs_1 : List (MethodName × Nat) := [(⟨"SwapNames", "noteChange", "(I)V"⟩, 12), (⟨"SwapNames$Texts", "faultOfTerm", "(I)I"⟩, 11), (⟨"SwapNames$Texts", "weigh", "(I)V"⟩, 11), (⟨"SwapNames$Texts", "weighOver", "(II)V"⟩, 11), (⟨"SwapNames$Texts", "faultOfTwos", "(II)I"⟩, 11), (⟨"SwapNames$Texts", "findToldFresh", "()V"⟩, 11), (⟨"SwapNames$Texts", "findTheTurn", "()V"⟩, 11), (⟨"SwapNames$Line", "await", "(I)V"⟩, 5), (⟨"SwapNames$Line", "putTop", "(LSwapNames$Texts;I)V"⟩, 5), (⟨"SwapNames$Solver", "clear", "(Z)V"⟩, 12), (⟨"SwapNames$Solver", "pile", "(II)V"⟩, 12), (⟨"SwapNames$Solver", "step", "()V"⟩, 12), (⟨"SwapNames$Solver", "give", "(III)V"⟩, 12), (⟨"SwapNames$Solver", "withValuesIn", "(I)I"⟩, 12), (⟨"SwapNames$Solver", "split", "(III)V"⟩, 12), (⟨"SwapNames$Solver", "must", "(II)V"⟩, 12)]
theorem lw_r1 : ∀ q ∈ lw_privs_1, lw_okq q := List.forall_mem_cons.mpr ⟨lw_p0, List.forall_mem_cons.mpr ⟨lw_p1, List.forall_mem_cons.mpr ⟨lw_p2, List.forall_mem_cons.mpr ⟨lw_p3, List.forall_mem_cons.mpr ⟨lw_p4, List.forall_mem_cons.mpr ⟨lw_p5, List.forall_mem_cons.mpr ⟨lw_p6, List.forall_mem_cons.mpr ⟨lw_p7, List.forall_mem_cons.mpr ⟨lw_p8, List.forall_mem_cons.mpr ⟨lw_p9, List.forall_mem_cons.mpr ⟨lw_p10, List.forall_mem_cons.mpr ⟨lw_p11, List.forall_mem_cons.mpr ⟨lw_p12, List.forall_mem_cons.mpr ⟨lw_p13, List.forall_mem_cons.mpr ⟨lw_p14, List.forall_mem_cons.mpr ⟨lw_p15, fun _ h => absurd h List.not_mem_nil⟩⟩⟩⟩⟩⟩⟩⟩⟩⟩⟩⟩⟩⟩⟩⟩
theorem lw_p16 : lw_okq (⟨"SwapNames$Solver", "spreadFresh", "()V"⟩, 12) := ⟨⟨by decide +kernel, by decide +kernel⟩, List.mem_of_getElem? (i := 111) (by decide +kernel), List.mem_of_getElem? (i := 528) (by decide +kernel), List.mem_of_getElem? (i := 529) (by decide +kernel)⟩
theorem lw_p17 : lw_okq (⟨"SwapNames$Solver", "passDown", "(II)Z"⟩, 12) := ⟨⟨by decide +kernel, by decide +kernel⟩, List.mem_of_getElem? (i := 111) (by decide +kernel), List.mem_of_getElem? (i := 533) (by decide +kernel), List.mem_of_getElem? (i := 534) (by decide +kernel)⟩
theorem lw_p18 : lw_okq (⟨"SwapNames$Solver", "mustIn", "(II)Z"⟩, 12) := ⟨⟨by decide +kernel, by decide +kernel⟩, List.mem_of_getElem? (i := 111) (by decide +kernel), List.mem_of_getElem? (i := 537) (by decide +kernel), List.mem_of_getElem? (i := 538) (by decide +kernel)⟩
theorem lw_p19 : lw_okq (⟨"SwapNames", "settle", "()V"⟩, 12) := ⟨⟨by decide +kernel, by decide +kernel⟩, List.mem_of_getElem? (i := 14) (by decide +kernel), List.mem_of_getElem? (i := 551) (by decide +kernel), List.mem_of_getElem? (i := 552) (by decide +kernel)⟩
theorem lw_p20 : lw_okq (⟨"SwapNames", "showValue", "(I)V"⟩, 12) := ⟨⟨by decide +kernel, by decide +kernel⟩, List.mem_of_getElem? (i := 14) (by decide +kernel), List.mem_of_getElem? (i := 563) (by decide +kernel), List.mem_of_getElem? (i := 564) (by decide +kernel)⟩
theorem lw_p21 : lw_okq (⟨"SwapNamesModel", "finds", "(I)I"⟩, 41) := ⟨⟨by decide +kernel, by decide +kernel⟩, List.mem_of_getElem? (i := 682) (by decide +kernel), List.mem_of_getElem? (i := 824) (by decide +kernel), List.mem_of_getElem? (i := 825) (by decide +kernel)⟩
theorem lw_p22 : lw_okq (⟨"SwapNamesModel", "lacks", "(III)I"⟩, 41) := ⟨⟨by decide +kernel, by decide +kernel⟩, List.mem_of_getElem? (i := 682) (by decide +kernel), List.mem_of_getElem? (i := 836) (by decide +kernel), List.mem_of_getElem? (i := 837) (by decide +kernel)⟩
theorem lw_p23 : lw_okq (⟨"SwapNamesModel", "readsText", "(I)I"⟩, 41) := ⟨⟨by decide +kernel, by decide +kernel⟩, List.mem_of_getElem? (i := 682) (by decide +kernel), List.mem_of_getElem? (i := 873) (by decide +kernel), List.mem_of_getElem? (i := 874) (by decide +kernel)⟩
theorem lw_p24 : lw_okq (⟨"SwapNamesModel", "readsTerm", "(I)I"⟩, 41) := ⟨⟨by decide +kernel, by decide +kernel⟩, List.mem_of_getElem? (i := 682) (by decide +kernel), List.mem_of_getElem? (i := 877) (by decide +kernel), List.mem_of_getElem? (i := 878) (by decide +kernel)⟩
theorem lw_p25 : lw_okq (⟨"SwapNamesModel", "readsFresh", "()I"⟩, 41) := ⟨⟨by decide +kernel, by decide +kernel⟩, List.mem_of_getElem? (i := 682) (by decide +kernel), List.mem_of_getElem? (i := 896) (by decide +kernel), List.mem_of_getElem? (i := 897) (by decide +kernel)⟩
theorem lw_p26 : lw_okq (⟨"SwapNamesModel", "readsTurn", "()I"⟩, 41) := ⟨⟨by decide +kernel, by decide +kernel⟩, List.mem_of_getElem? (i := 682) (by decide +kernel), List.mem_of_getElem? (i := 900) (by decide +kernel), List.mem_of_getElem? (i := 901) (by decide +kernel)⟩
theorem lw_p27 : lw_okq (⟨"SwapNamesModel", "turnBy", "(II)I"⟩, 41) := ⟨⟨by decide +kernel, by decide +kernel⟩, List.mem_of_getElem? (i := 682) (by decide +kernel), List.mem_of_getElem? (i := 930) (by decide +kernel), List.mem_of_getElem? (i := 931) (by decide +kernel)⟩
theorem lw_p28 : lw_okq (⟨"SwapNamesModel", "powerBy", "(II)I"⟩, 41) := ⟨⟨by decide +kernel, by decide +kernel⟩, List.mem_of_getElem? (i := 682) (by decide +kernel), List.mem_of_getElem? (i := 941) (by decide +kernel), List.mem_of_getElem? (i := 942) (by decide +kernel)⟩
theorem lw_p29 : lw_okq (⟨"SwapNamesModel", "roundsBy", "(I)I"⟩, 41) := ⟨⟨by decide +kernel, by decide +kernel⟩, List.mem_of_getElem? (i := 682) (by decide +kernel), List.mem_of_getElem? (i := 949) (by decide +kernel), List.mem_of_getElem? (i := 950) (by decide +kernel)⟩
theorem lw_p30 : lw_okq (⟨"SwapNamesModel", "orderNow", "()I"⟩, 41) := ⟨⟨by decide +kernel, by decide +kernel⟩, List.mem_of_getElem? (i := 682) (by decide +kernel), List.mem_of_getElem? (i := 953) (by decide +kernel), List.mem_of_getElem? (i := 954) (by decide +kernel)⟩
theorem lw_p31 : lw_okq (⟨"SwapNamesModel", "manySwaps", "()I"⟩, 41) := ⟨⟨by decide +kernel, by decide +kernel⟩, List.mem_of_getElem? (i := 682) (by decide +kernel), List.mem_of_getElem? (i := 957) (by decide +kernel), List.mem_of_getElem? (i := 958) (by decide +kernel)⟩
def lw_privs_2 : List (MethodName × Nat) := [(⟨"SwapNames$Solver", "spreadFresh", "()V"⟩, 12), (⟨"SwapNames$Solver", "passDown", "(II)Z"⟩, 12), (⟨"SwapNames$Solver", "mustIn", "(II)Z"⟩, 12), (⟨"SwapNames", "settle", "()V"⟩, 12), (⟨"SwapNames", "showValue", "(I)V"⟩, 12), (⟨"SwapNamesModel", "finds", "(I)I"⟩, 41), (⟨"SwapNamesModel", "lacks", "(III)I"⟩, 41), (⟨"SwapNamesModel", "readsText", "(I)I"⟩, 41), (⟨"SwapNamesModel", "readsTerm", "(I)I"⟩, 41), (⟨"SwapNamesModel", "readsFresh", "()I"⟩, 41), (⟨"SwapNamesModel", "readsTurn", "()I"⟩, 41), (⟨"SwapNamesModel", "turnBy", "(II)I"⟩, 41), (⟨"SwapNamesModel", "powerBy", "(II)I"⟩, 41), (⟨"SwapNamesModel", "roundsBy", "(I)I"⟩, 41), (⟨"SwapNamesModel", "orderNow", "()I"⟩, 41), (⟨"SwapNamesModel", "manySwaps", "()I"⟩, 41)]
theorem lw_r2 : ∀ q ∈ lw_privs_2, lw_okq q := List.forall_mem_cons.mpr ⟨lw_p16, List.forall_mem_cons.mpr ⟨lw_p17, List.forall_mem_cons.mpr ⟨lw_p18, List.forall_mem_cons.mpr ⟨lw_p19, List.forall_mem_cons.mpr ⟨lw_p20, List.forall_mem_cons.mpr ⟨lw_p21, List.forall_mem_cons.mpr ⟨lw_p22, List.forall_mem_cons.mpr ⟨lw_p23, List.forall_mem_cons.mpr ⟨lw_p24, List.forall_mem_cons.mpr ⟨lw_p25, List.forall_mem_cons.mpr ⟨lw_p26, List.forall_mem_cons.mpr ⟨lw_p27, List.forall_mem_cons.mpr ⟨lw_p28, List.forall_mem_cons.mpr ⟨lw_p29, List.forall_mem_cons.mpr ⟨lw_p30, List.forall_mem_cons.mpr ⟨lw_p31, fun _ h => absurd h List.not_mem_nil⟩⟩⟩⟩⟩⟩⟩⟩⟩⟩⟩⟩⟩⟩⟩⟩
theorem lw_p32 : lw_okq (⟨"SwapNamesModel", "tellsTurn", "(I)I"⟩, 41) := ⟨⟨by decide +kernel, by decide +kernel⟩, List.mem_of_getElem? (i := 682) (by decide +kernel), List.mem_of_getElem? (i := 961) (by decide +kernel), List.mem_of_getElem? (i := 962) (by decide +kernel)⟩
theorem lw_p33 : lw_okq (⟨"SwapNamesModel", "tells", "(I)V"⟩, 41) := ⟨⟨by decide +kernel, by decide +kernel⟩, List.mem_of_getElem? (i := 682) (by decide +kernel), List.mem_of_getElem? (i := 965) (by decide +kernel), List.mem_of_getElem? (i := 966) (by decide +kernel)⟩
theorem lw_p34 : lw_okq (⟨"SwapNamesModel", "rings", "()I"⟩, 41) := ⟨⟨by decide +kernel, by decide +kernel⟩, List.mem_of_getElem? (i := 682) (by decide +kernel), List.mem_of_getElem? (i := 969) (by decide +kernel), List.mem_of_getElem? (i := 970) (by decide +kernel)⟩
theorem lw_p35 : lw_okq (⟨"SwapNamesModel", "stays", "()I"⟩, 41) := ⟨⟨by decide +kernel, by decide +kernel⟩, List.mem_of_getElem? (i := 682) (by decide +kernel), List.mem_of_getElem? (i := 973) (by decide +kernel), List.mem_of_getElem? (i := 974) (by decide +kernel)⟩
theorem lw_p36 : lw_okq (⟨"SwapNamesModel", "showsBy", "(I)I"⟩, 41) := ⟨⟨by decide +kernel, by decide +kernel⟩, List.mem_of_getElem? (i := 682) (by decide +kernel), List.mem_of_getElem? (i := 986) (by decide +kernel), List.mem_of_getElem? (i := 987) (by decide +kernel)⟩
theorem lw_p37 : lw_okq (⟨"SwapNamesModel", "toldAt", "(I)I"⟩, 41) := ⟨⟨by decide +kernel, by decide +kernel⟩, List.mem_of_getElem? (i := 682) (by decide +kernel), List.mem_of_getElem? (i := 990) (by decide +kernel), List.mem_of_getElem? (i := 991) (by decide +kernel)⟩
theorem lw_p38 : lw_okq (⟨"SwapNamesModel", "readsAll", "()V"⟩, 41) := ⟨⟨by decide +kernel, by decide +kernel⟩, List.mem_of_getElem? (i := 682) (by decide +kernel), List.mem_of_getElem? (i := 998) (by decide +kernel), List.mem_of_getElem? (i := 999) (by decide +kernel)⟩
theorem lw_p39 : lw_okq (⟨"SwapNamesModel", "termBy", "(II)I"⟩, 41) := ⟨⟨by decide +kernel, by decide +kernel⟩, List.mem_of_getElem? (i := 682) (by decide +kernel), List.mem_of_getElem? (i := 1006) (by decide +kernel), List.mem_of_getElem? (i := 1007) (by decide +kernel)⟩
theorem lw_p40 : lw_okq (⟨"SwapNamesModel", "manyParts", "(I)I"⟩, 41) := ⟨⟨by decide +kernel, by decide +kernel⟩, List.mem_of_getElem? (i := 682) (by decide +kernel), List.mem_of_getElem? (i := 1010) (by decide +kernel), List.mem_of_getElem? (i := 1011) (by decide +kernel)⟩
theorem lw_p41 : lw_okq (⟨"SwapNamesModel", "longest", "(I)I"⟩, 41) := ⟨⟨by decide +kernel, by decide +kernel⟩, List.mem_of_getElem? (i := 682) (by decide +kernel), List.mem_of_getElem? (i := 1014) (by decide +kernel), List.mem_of_getElem? (i := 1015) (by decide +kernel)⟩
theorem lw_p42 : lw_okq (⟨"SwapNamesModel", "freeIn", "(I)I"⟩, 41) := ⟨⟨by decide +kernel, by decide +kernel⟩, List.mem_of_getElem? (i := 682) (by decide +kernel), List.mem_of_getElem? (i := 1021) (by decide +kernel), List.mem_of_getElem? (i := 1022) (by decide +kernel)⟩
theorem lw_p43 : lw_okq (⟨"SwapNamesModel", "asks", "(III)V"⟩, 41) := ⟨⟨by decide +kernel, by decide +kernel⟩, List.mem_of_getElem? (i := 682) (by decide +kernel), List.mem_of_getElem? (i := 1025) (by decide +kernel), List.mem_of_getElem? (i := 1026) (by decide +kernel)⟩
theorem lw_p44 : lw_okq (⟨"SwapNamesModel", "puts", "(II)V"⟩, 41) := ⟨⟨by decide +kernel, by decide +kernel⟩, List.mem_of_getElem? (i := 682) (by decide +kernel), List.mem_of_getElem? (i := 1029) (by decide +kernel), List.mem_of_getElem? (i := 1030) (by decide +kernel)⟩
theorem lw_p45 : lw_okq (⟨"SwapNamesModel", "unknownsIn", "(I)I"⟩, 41) := ⟨⟨by decide +kernel, by decide +kernel⟩, List.mem_of_getElem? (i := 682) (by decide +kernel), List.mem_of_getElem? (i := 1033) (by decide +kernel), List.mem_of_getElem? (i := 1034) (by decide +kernel)⟩
theorem lw_p46 : lw_okq (⟨"SwapNamesModel", "shownBy", "(III)I"⟩, 41) := ⟨⟨by decide +kernel, by decide +kernel⟩, List.mem_of_getElem? (i := 682) (by decide +kernel), List.mem_of_getElem? (i := 1041) (by decide +kernel), List.mem_of_getElem? (i := 1042) (by decide +kernel)⟩
theorem lw_p47 : lw_okq (⟨"SwapNamesModel", "showing", "(IIZ)V"⟩, 41) := ⟨⟨by decide +kernel, by decide +kernel⟩, List.mem_of_getElem? (i := 682) (by decide +kernel), List.mem_of_getElem? (i := 1045) (by decide +kernel), List.mem_of_getElem? (i := 1046) (by decide +kernel)⟩
def lw_privs_3 : List (MethodName × Nat) := [(⟨"SwapNamesModel", "tellsTurn", "(I)I"⟩, 41), (⟨"SwapNamesModel", "tells", "(I)V"⟩, 41), (⟨"SwapNamesModel", "rings", "()I"⟩, 41), (⟨"SwapNamesModel", "stays", "()I"⟩, 41), (⟨"SwapNamesModel", "showsBy", "(I)I"⟩, 41), (⟨"SwapNamesModel", "toldAt", "(I)I"⟩, 41), (⟨"SwapNamesModel", "readsAll", "()V"⟩, 41), (⟨"SwapNamesModel", "termBy", "(II)I"⟩, 41), (⟨"SwapNamesModel", "manyParts", "(I)I"⟩, 41), (⟨"SwapNamesModel", "longest", "(I)I"⟩, 41), (⟨"SwapNamesModel", "freeIn", "(I)I"⟩, 41), (⟨"SwapNamesModel", "asks", "(III)V"⟩, 41), (⟨"SwapNamesModel", "puts", "(II)V"⟩, 41), (⟨"SwapNamesModel", "unknownsIn", "(I)I"⟩, 41), (⟨"SwapNamesModel", "shownBy", "(III)I"⟩, 41), (⟨"SwapNamesModel", "showing", "(IIZ)V"⟩, 41)]
theorem lw_r3 : ∀ q ∈ lw_privs_3, lw_okq q := List.forall_mem_cons.mpr ⟨lw_p32, List.forall_mem_cons.mpr ⟨lw_p33, List.forall_mem_cons.mpr ⟨lw_p34, List.forall_mem_cons.mpr ⟨lw_p35, List.forall_mem_cons.mpr ⟨lw_p36, List.forall_mem_cons.mpr ⟨lw_p37, List.forall_mem_cons.mpr ⟨lw_p38, List.forall_mem_cons.mpr ⟨lw_p39, List.forall_mem_cons.mpr ⟨lw_p40, List.forall_mem_cons.mpr ⟨lw_p41, List.forall_mem_cons.mpr ⟨lw_p42, List.forall_mem_cons.mpr ⟨lw_p43, List.forall_mem_cons.mpr ⟨lw_p44, List.forall_mem_cons.mpr ⟨lw_p45, List.forall_mem_cons.mpr ⟨lw_p46, List.forall_mem_cons.mpr ⟨lw_p47, fun _ h => absurd h List.not_mem_nil⟩⟩⟩⟩⟩⟩⟩⟩⟩⟩⟩⟩⟩⟩⟩⟩
theorem lw_p48 : lw_okq (⟨"SwapNamesModel", "tellsPart", "(II)V"⟩, 41) := ⟨⟨by decide +kernel, by decide +kernel⟩, List.mem_of_getElem? (i := 682) (by decide +kernel), List.mem_of_getElem? (i := 1049) (by decide +kernel), List.mem_of_getElem? (i := 1050) (by decide +kernel)⟩
theorem lw_p49 : lw_okq (⟨"SwapNamesModel", "isThere", "(I)Z"⟩, 41) := ⟨⟨by decide +kernel, by decide +kernel⟩, List.mem_of_getElem? (i := 682) (by decide +kernel), List.mem_of_getElem? (i := 1064) (by decide +kernel), List.mem_of_getElem? (i := 1065) (by decide +kernel)⟩
theorem lw_p50 : lw_okq (⟨"SwapNamesModel", "alikeBy", "(I)I"⟩, 41) := ⟨⟨by decide +kernel, by decide +kernel⟩, List.mem_of_getElem? (i := 682) (by decide +kernel), List.mem_of_getElem? (i := 1068) (by decide +kernel), List.mem_of_getElem? (i := 1069) (by decide +kernel)⟩
theorem lw_p51 : lw_okq (⟨"SwapNamesModel", "piles", "(IIII)V"⟩, 41) := ⟨⟨by decide +kernel, by decide +kernel⟩, List.mem_of_getElem? (i := 682) (by decide +kernel), List.mem_of_getElem? (i := 1072) (by decide +kernel), List.mem_of_getElem? (i := 1073) (by decide +kernel)⟩
theorem lw_p52 : lw_okq (⟨"SwapNamesModel", "enters", "(IIZ)V"⟩, 41) := ⟨⟨by decide +kernel, by decide +kernel⟩, List.mem_of_getElem? (i := 682) (by decide +kernel), List.mem_of_getElem? (i := 1076) (by decide +kernel), List.mem_of_getElem? (i := 1077) (by decide +kernel)⟩
theorem lw_p53 : lw_okq (⟨"SwapNamesModel", "goesOn", "(IIII)Z"⟩, 41) := ⟨⟨by decide +kernel, by decide +kernel⟩, List.mem_of_getElem? (i := 682) (by decide +kernel), List.mem_of_getElem? (i := 1083) (by decide +kernel), List.mem_of_getElem? (i := 1084) (by decide +kernel)⟩
theorem lw_p54 : lw_okq (⟨"SwapNamesModel", "isFresh", "(III)Z"⟩, 41) := ⟨⟨by decide +kernel, by decide +kernel⟩, List.mem_of_getElem? (i := 682) (by decide +kernel), List.mem_of_getElem? (i := 1087) (by decide +kernel), List.mem_of_getElem? (i := 1088) (by decide +kernel)⟩
theorem lw_p55 : lw_okq (⟨"SwapNamesModel", "wayBy", "(II)I"⟩, 41) := ⟨⟨by decide +kernel, by decide +kernel⟩, List.mem_of_getElem? (i := 682) (by decide +kernel), List.mem_of_getElem? (i := 1095) (by decide +kernel), List.mem_of_getElem? (i := 1096) (by decide +kernel)⟩
theorem lw_p56 : lw_okq (⟨"SwapNamesModel", "solving", "(II)V"⟩, 41) := ⟨⟨by decide +kernel, by decide +kernel⟩, List.mem_of_getElem? (i := 682) (by decide +kernel), List.mem_of_getElem? (i := 1099) (by decide +kernel), List.mem_of_getElem? (i := 1100) (by decide +kernel)⟩
theorem lw_p57 : lw_okq (⟨"SwapNamesModel", "solves", "(I)V"⟩, 41) := ⟨⟨by decide +kernel, by decide +kernel⟩, List.mem_of_getElem? (i := 682) (by decide +kernel), List.mem_of_getElem? (i := 1103) (by decide +kernel), List.mem_of_getElem? (i := 1104) (by decide +kernel)⟩
theorem lw_p58 : lw_okq (⟨"SwapNamesModel", "step", "(IIII)I"⟩, 41) := ⟨⟨by decide +kernel, by decide +kernel⟩, List.mem_of_getElem? (i := 682) (by decide +kernel), List.mem_of_getElem? (i := 1107) (by decide +kernel), List.mem_of_getElem? (i := 1108) (by decide +kernel)⟩
theorem lw_p59 : lw_okq (⟨"SwapNamesModel", "gives", "(IIII)V"⟩, 41) := ⟨⟨by decide +kernel, by decide +kernel⟩, List.mem_of_getElem? (i := 682) (by decide +kernel), List.mem_of_getElem? (i := 1111) (by decide +kernel), List.mem_of_getElem? (i := 1112) (by decide +kernel)⟩
theorem lw_p60 : lw_okq (⟨"SwapNamesModel", "all", "(I)I"⟩, 41) := ⟨⟨by decide +kernel, by decide +kernel⟩, List.mem_of_getElem? (i := 682) (by decide +kernel), List.mem_of_getElem? (i := 1115) (by decide +kernel), List.mem_of_getElem? (i := 1116) (by decide +kernel)⟩
theorem lw_p61 : lw_okq (⟨"SwapNamesModel", "freshens", "()V"⟩, 41) := ⟨⟨by decide +kernel, by decide +kernel⟩, List.mem_of_getElem? (i := 682) (by decide +kernel), List.mem_of_getElem? (i := 1119) (by decide +kernel), List.mem_of_getElem? (i := 1120) (by decide +kernel)⟩
theorem lw_p62 : lw_okq (⟨"SwapNamesModel", "manyValues", "()I"⟩, 41) := ⟨⟨by decide +kernel, by decide +kernel⟩, List.mem_of_getElem? (i := 682) (by decide +kernel), List.mem_of_getElem? (i := 1123) (by decide +kernel), List.mem_of_getElem? (i := 1124) (by decide +kernel)⟩
theorem lw_p63 : lw_okq (⟨"SwapNamesModel", "valueBy", "(II)I"⟩, 41) := ⟨⟨by decide +kernel, by decide +kernel⟩, List.mem_of_getElem? (i := 682) (by decide +kernel), List.mem_of_getElem? (i := 1136) (by decide +kernel), List.mem_of_getElem? (i := 1137) (by decide +kernel)⟩
def lw_privs_4 : List (MethodName × Nat) := [(⟨"SwapNamesModel", "tellsPart", "(II)V"⟩, 41), (⟨"SwapNamesModel", "isThere", "(I)Z"⟩, 41), (⟨"SwapNamesModel", "alikeBy", "(I)I"⟩, 41), (⟨"SwapNamesModel", "piles", "(IIII)V"⟩, 41), (⟨"SwapNamesModel", "enters", "(IIZ)V"⟩, 41), (⟨"SwapNamesModel", "goesOn", "(IIII)Z"⟩, 41), (⟨"SwapNamesModel", "isFresh", "(III)Z"⟩, 41), (⟨"SwapNamesModel", "wayBy", "(II)I"⟩, 41), (⟨"SwapNamesModel", "solving", "(II)V"⟩, 41), (⟨"SwapNamesModel", "solves", "(I)V"⟩, 41), (⟨"SwapNamesModel", "step", "(IIII)I"⟩, 41), (⟨"SwapNamesModel", "gives", "(IIII)V"⟩, 41), (⟨"SwapNamesModel", "all", "(I)I"⟩, 41), (⟨"SwapNamesModel", "freshens", "()V"⟩, 41), (⟨"SwapNamesModel", "manyValues", "()I"⟩, 41), (⟨"SwapNamesModel", "valueBy", "(II)I"⟩, 41)]
theorem lw_r4 : ∀ q ∈ lw_privs_4, lw_okq q := List.forall_mem_cons.mpr ⟨lw_p48, List.forall_mem_cons.mpr ⟨lw_p49, List.forall_mem_cons.mpr ⟨lw_p50, List.forall_mem_cons.mpr ⟨lw_p51, List.forall_mem_cons.mpr ⟨lw_p52, List.forall_mem_cons.mpr ⟨lw_p53, List.forall_mem_cons.mpr ⟨lw_p54, List.forall_mem_cons.mpr ⟨lw_p55, List.forall_mem_cons.mpr ⟨lw_p56, List.forall_mem_cons.mpr ⟨lw_p57, List.forall_mem_cons.mpr ⟨lw_p58, List.forall_mem_cons.mpr ⟨lw_p59, List.forall_mem_cons.mpr ⟨lw_p60, List.forall_mem_cons.mpr ⟨lw_p61, List.forall_mem_cons.mpr ⟨lw_p62, List.forall_mem_cons.mpr ⟨lw_p63, fun _ h => absurd h List.not_mem_nil⟩⟩⟩⟩⟩⟩⟩⟩⟩⟩⟩⟩⟩⟩⟩⟩
theorem lw_p64 : lw_okq (⟨"SwapNamesModel", "tellsValue", "(I)V"⟩, 41) := ⟨⟨by decide +kernel, by decide +kernel⟩, List.mem_of_getElem? (i := 682) (by decide +kernel), List.mem_of_getElem? (i := 1140) (by decide +kernel), List.mem_of_getElem? (i := 1141) (by decide +kernel)⟩
theorem lw_p65 : lw_okq (⟨"SwapNamesModel", "freshBy", "(I)I"⟩, 41) := ⟨⟨by decide +kernel, by decide +kernel⟩, List.mem_of_getElem? (i := 682) (by decide +kernel), List.mem_of_getElem? (i := 1148) (by decide +kernel), List.mem_of_getElem? (i := 1149) (by decide +kernel)⟩
theorem lw_p66 : lw_okq (⟨"SwapNamesModel", "needsBy", "(I)I"⟩, 41) := ⟨⟨by decide +kernel, by decide +kernel⟩, List.mem_of_getElem? (i := 682) (by decide +kernel), List.mem_of_getElem? (i := 1156) (by decide +kernel), List.mem_of_getElem? (i := 1157) (by decide +kernel)⟩
theorem lw_p67 : lw_okq (⟨"SwapNamesModel", "spareNow", "()I"⟩, 41) := ⟨⟨by decide +kernel, by decide +kernel⟩, List.mem_of_getElem? (i := 682) (by decide +kernel), List.mem_of_getElem? (i := 1164) (by decide +kernel), List.mem_of_getElem? (i := 1165) (by decide +kernel)⟩
theorem lw_p68 : lw_okq (⟨"SwapNamesModel", "allTyped", "()I"⟩, 41) := ⟨⟨by decide +kernel, by decide +kernel⟩, List.mem_of_getElem? (i := 682) (by decide +kernel), List.mem_of_getElem? (i := 1179) (by decide +kernel), List.mem_of_getElem? (i := 1180) (by decide +kernel)⟩
theorem lw_p69 : lw_okq (⟨"SwapNamesModel", "tellsTerm", "(JI)J"⟩, 41) := ⟨⟨by decide +kernel, by decide +kernel⟩, List.mem_of_getElem? (i := 682) (by decide +kernel), List.mem_of_getElem? (i := 1190) (by decide +kernel), List.mem_of_getElem? (i := 1191) (by decide +kernel)⟩
theorem lw_p70 : lw_okq (⟨"SwapNamesModel", "tellsUnknown", "(JI)J"⟩, 41) := ⟨⟨by decide +kernel, by decide +kernel⟩, List.mem_of_getElem? (i := 682) (by decide +kernel), List.mem_of_getElem? (i := 1194) (by decide +kernel), List.mem_of_getElem? (i := 1195) (by decide +kernel)⟩
def lw_privs_5 : List (MethodName × Nat) := [(⟨"SwapNamesModel", "tellsValue", "(I)V"⟩, 41), (⟨"SwapNamesModel", "freshBy", "(I)I"⟩, 41), (⟨"SwapNamesModel", "needsBy", "(I)I"⟩, 41), (⟨"SwapNamesModel", "spareNow", "()I"⟩, 41), (⟨"SwapNamesModel", "allTyped", "()I"⟩, 41), (⟨"SwapNamesModel", "tellsTerm", "(JI)J"⟩, 41), (⟨"SwapNamesModel", "tellsUnknown", "(JI)J"⟩, 41)]
theorem lw_r5 : ∀ q ∈ lw_privs_5, lw_okq q := List.forall_mem_cons.mpr ⟨lw_p64, List.forall_mem_cons.mpr ⟨lw_p65, List.forall_mem_cons.mpr ⟨lw_p66, List.forall_mem_cons.mpr ⟨lw_p67, List.forall_mem_cons.mpr ⟨lw_p68, List.forall_mem_cons.mpr ⟨lw_p69, List.forall_mem_cons.mpr ⟨lw_p70, fun _ h => absurd h List.not_mem_nil⟩⟩⟩⟩⟩⟩⟩
def lw_privs : List (MethodName × Nat) := lw_privs_1 ++ (lw_privs_2 ++ (lw_privs_3 ++ (lw_privs_4 ++ (lw_privs_5))))
def lw_tbl : List Cond := k2_sels lw_privs ++ tables_1
theorem lw_privs_ok : ∀ q ∈ lw_privs, lw_okq q := by
  show ∀ q ∈ lw_privs_1 ++ (lw_privs_2 ++ (lw_privs_3 ++ (lw_privs_4 ++ (lw_privs_5)))), lw_okq q
  exact List.forall_mem_append.mpr ⟨lw_r1, List.forall_mem_append.mpr ⟨lw_r2, List.forall_mem_append.mpr ⟨lw_r3, List.forall_mem_append.mpr ⟨lw_r4, lw_r5⟩⟩⟩⟩
end
section
/-! ===== BEGIN words of one list among another's, by their places ===== -/
theorem goodIn_r {big : List Cond} (ws : List Cond) (ps : List Nat) (hp : ws = ps.filterMap (fun i => big[i]?)) (h : ws.all goodWord = true) : GoodIn big ws := by
  intro w hw
  have h1 := List.all_eq_true.mp h w hw
  rw [hp] at hw
  obtain ⟨i, -, hi⟩ := List.mem_filterMap.mp hw
  have hm : w ∈ big := by first | exact List.mem_of_getElem? hi | exact List.getElem?_mem hi
  exact ⟨hm, good_of_word h1⟩
theorem goodIn_app {big a b : List Cond} (ha : GoodIn big a) (hb : GoodIn big b) : GoodIn big (a ++ b) := fun w h => (List.mem_append.mp h).elim (ha w) (hb w)
theorem goodIn_ca {big a b : List Cond} {c : Cond} (ha : GoodIn big (c :: a)) (hb : GoodIn big b) : GoodIn big (c :: (a ++ b)) := fun w h => (List.mem_cons.mp h).elim (fun e => ha w (List.mem_cons.mpr (Or.inl e))) (fun h => (List.mem_append.mp h).elim (fun h => ha w (List.mem_cons.mpr (Or.inr h))) (hb w))
theorem goodIn_sub {big ws : List Cond} (hm : ∀ w ∈ ws, w ∈ big) (h : ws.all goodWord = true) : GoodIn big ws := fun w hw => ⟨hm w hw, good_of_word (List.all_eq_true.mp h w hw)⟩
/-! ===== END ===== -/

/-! ===== BEGIN printed: names, fields, word lists, decode rows ===== -/
def RX0 : String := "SwapNames$Line"
def TX0 : u_T := fun k => match k with
  | 0 => ("SwapNames$Line", "told", "[I", true)
  | 1 => ("SwapNames$Line", "length", "I", false)
  | 2 => ("SwapNames$Line", "held", "I", false)
  | 3 => ("SwapNames$Line", "waiting", "[I", true)
  | _ => ("SwapNames$Line", "depth", "I", false)
def tyX0 : Nat → FieldType := fun k => match k with
  | 0 => .array .int
  | 1 => .int
  | 2 => .int
  | 3 => .array .int
  | _ => .int
abbrev wsX00 : List Cond := u_ws RX0 TX0 5
theorem nmX0 : ∀ a, a < 5 → ∀ b, b < 5 → a ≠ b → (TX0 a).2.1 ≠ (TX0 b).2.1 := by decide +kernel
theorem tyX0_ok : ∀ k, k < 5 → parseFieldDescriptor (TX0 k).2.2.1 = some (tyX0 k) := by decide +kernel
abbrev cX0_init : ByteArray := prog_2_method_1_code
def yX0_init : MethodName := ⟨RX0, "<init>", "()V"⟩
abbrev cX0_forget : ByteArray := prog_2_method_2_code
def yX0_forget : MethodName := ⟨RX0, "forget", "()V"⟩
abbrev cX0_isToShow : ByteArray := prog_2_method_3_code
def yX0_isToShow : MethodName := ⟨RX0, "isToShow", "(I)Z"⟩
abbrev cX0_tell : ByteArray := prog_2_method_4_code
def yX0_tell : MethodName := ⟨RX0, "tell", "(I)I"⟩
abbrev cX0_putByte : ByteArray := prog_2_method_5_code
def yX0_putByte : MethodName := ⟨RX0, "putByte", "(I)V"⟩
abbrev cX0_putTurn : ByteArray := prog_2_method_6_code
def yX0_putTurn : MethodName := ⟨RX0, "putTurn", "(I)V"⟩
abbrev cX0_putTerm : ByteArray := prog_2_method_7_code
def yX0_putTerm : MethodName := ⟨RX0, "putTerm", "(LSwapNames$Texts;[II)V"⟩
abbrev cX0_putTop : ByteArray := prog_2_method_8_code
def yX0_putTop : MethodName := ⟨RX0, "putTop", "(LSwapNames$Texts;I)V"⟩
abbrev cX0_await : ByteArray := prog_2_method_9_code
def yX0_await : MethodName := ⟨RX0, "await", "(I)V"⟩
def RX1 : String := "SwapNames$Sheets"
def TX1 : u_T := fun k => match k with
  | 0 => ("SwapNames$Sheets", "forms", "[I", true)
  | 1 => ("SwapNames$Sheets", "sizes", "[I", true)
  | 2 => ("SwapNames$Sheets", "items", "[I", true)
  | _ => ("SwapNames$Sheets", "latest", "I", false)
def tyX1 : Nat → FieldType := fun k => match k with
  | 0 => .array .int
  | 1 => .array .int
  | 2 => .array .int
  | _ => .int
abbrev wsX10 : List Cond := u_ws RX1 TX1 4
theorem nmX1 : ∀ a, a < 4 → ∀ b, b < 4 → a ≠ b → (TX1 a).2.1 ≠ (TX1 b).2.1 := by decide +kernel
theorem tyX1_ok : ∀ k, k < 4 → parseFieldDescriptor (TX1 k).2.2.1 = some (tyX1 k) := by decide +kernel
abbrev cX1_init : ByteArray := prog_3_method_1_code
def yX1_init : MethodName := ⟨RX1, "<init>", "()V"⟩
abbrev cX1_find : ByteArray := prog_3_method_2_code
def yX1_find : MethodName := ⟨RX1, "find", "(I)I"⟩
abbrev cX1_isLost : ByteArray := prog_3_method_3_code
def yX1_isLost : MethodName := ⟨RX1, "isLost", "(I)Z"⟩
abbrev cX1_formOf : ByteArray := prog_3_method_4_code
def yX1_formOf : MethodName := ⟨RX1, "formOf", "(I)I"⟩
abbrev cX1_sizeOf : ByteArray := prog_3_method_5_code
def yX1_sizeOf : MethodName := ⟨RX1, "sizeOf", "(I)I"⟩
abbrev cX1_make : ByteArray := prog_3_method_6_code
def yX1_make : MethodName := ⟨RX1, "make", "(III)V"⟩
abbrev cX1_wrongWith : ByteArray := prog_3_method_7_code
def yX1_wrongWith : MethodName := ⟨RX1, "wrongWith", "(III)I"⟩
abbrev cX1_hasItems : ByteArray := prog_3_method_8_code
def yX1_hasItems : MethodName := ⟨RX1, "hasItems", "(III)Z"⟩
abbrev cX1_item : ByteArray := prog_3_method_9_code
def yX1_item : MethodName := ⟨RX1, "item", "(II)I"⟩
abbrev cX1_put : ByteArray := prog_3_method_10_code
def yX1_put : MethodName := ⟨RX1, "put", "(III)V"⟩
abbrev cX1_move : ByteArray := prog_3_method_11_code
def yX1_move : MethodName := ⟨RX1, "move", "(IIIII)V"⟩
def RX2 : String := "SwapNames$Solver"
def TX2 : u_T := fun k => match k with
  | 0 => ("SwapNames$Solver", "texts", "LSwapNames$Texts;", true)
  | 1 => ("SwapNames$Solver", "values", "[I", true)
  | 2 => ("SwapNames$Solver", "valueCount", "I", false)
  | 3 => ("SwapNames$Solver", "lefts", "[I", true)
  | 4 => ("SwapNames$Solver", "rights", "[I", true)
  | 5 => ("SwapNames$Solver", "height", "I", false)
  | 6 => ("SwapNames$Solver", "mustNodes", "[I", true)
  | 7 => ("SwapNames$Solver", "mustUnknowns", "[I", true)
  | 8 => ("SwapNames$Solver", "why", "I", false)
  | 9 => ("SwapNames$Solver", "where", "I", false)
  | 10 => ("SwapNames$Solver", "steps", "I", false)
  | _ => ("SwapNames$Solver", "isRigid", "Z", false)
def tyX2 : Nat → FieldType := fun k => match k with
  | 0 => .object "SwapNames$Texts"
  | 1 => .array .int
  | 2 => .int
  | 3 => .array .int
  | 4 => .array .int
  | 5 => .int
  | 6 => .array .int
  | 7 => .array .int
  | 8 => .int
  | 9 => .int
  | 10 => .int
  | _ => .boolean
abbrev wsX20 : List Cond := u_ws RX2 TX2 12
theorem nmX2 : ∀ a, a < 12 → ∀ b, b < 12 → a ≠ b → (TX2 a).2.1 ≠ (TX2 b).2.1 := by decide +kernel
theorem tyX2_ok : ∀ k, k < 12 → parseFieldDescriptor (TX2 k).2.2.1 = some (tyX2 k) := by decide +kernel
abbrev cX2_init : ByteArray := prog_4_method_1_code
def yX2_init : MethodName := ⟨RX2, "<init>", "(LSwapNames$Texts;)V"⟩
abbrev cX2_run : ByteArray := prog_4_method_2_code
def yX2_run : MethodName := ⟨RX2, "run", "(IIZ)V"⟩
abbrev cX2_needsNoMoreThanTold : ByteArray := prog_4_method_3_code
def yX2_needsNoMoreThanTold : MethodName := ⟨RX2, "needsNoMoreThanTold", "()Z"⟩
abbrev cX2_finding : ByteArray := prog_4_method_4_code
def yX2_finding : MethodName := ⟨RX2, "finding", "(I)I"⟩
abbrev cX2_freshNames : ByteArray := prog_4_method_5_code
def yX2_freshNames : MethodName := ⟨RX2, "freshNames", "(I)I"⟩
abbrev cX2_openUnknowns : ByteArray := prog_4_method_6_code
def yX2_openUnknowns : MethodName := ⟨RX2, "openUnknowns", "(I)I"⟩
abbrev cX2_clear : ByteArray := prog_4_method_7_code
def yX2_clear : MethodName := ⟨RX2, "clear", "(Z)V"⟩
abbrev cX2_pile : ByteArray := prog_4_method_8_code
def yX2_pile : MethodName := ⟨RX2, "pile", "(II)V"⟩
abbrev cX2_step : ByteArray := prog_4_method_9_code
def yX2_step : MethodName := ⟨RX2, "step", "()V"⟩
abbrev cX2_give : ByteArray := prog_4_method_10_code
def yX2_give : MethodName := ⟨RX2, "give", "(III)V"⟩
abbrev cX2_split : ByteArray := prog_4_method_11_code
def yX2_split : MethodName := ⟨RX2, "split", "(III)V"⟩
abbrev cX2_withValuesIn : ByteArray := prog_4_method_12_code
def yX2_withValuesIn : MethodName := ⟨RX2, "withValuesIn", "(I)I"⟩
abbrev cX2_must : ByteArray := prog_4_method_13_code
def yX2_must : MethodName := ⟨RX2, "must", "(II)V"⟩
abbrev cX2_mustIn : ByteArray := prog_4_method_14_code
def yX2_mustIn : MethodName := ⟨RX2, "mustIn", "(II)Z"⟩
abbrev cX2_spreadFresh : ByteArray := prog_4_method_15_code
def yX2_spreadFresh : MethodName := ⟨RX2, "spreadFresh", "()V"⟩
abbrev cX2_passDown : ByteArray := prog_4_method_16_code
def yX2_passDown : MethodName := ⟨RX2, "passDown", "(II)Z"⟩
def RX3 : String := "SwapNames$Spots"
def TX3 : u_T := fun k => match k with
  | _ => ("", "", "", false)
def tyX3 : Nat → FieldType := fun k => match k with
  | _ => .int
abbrev wsX30 : List Cond := u_ws RX3 TX3 0
theorem nmX3 : ∀ a, a < 0 → ∀ b, b < 0 → a ≠ b → (TX3 a).2.1 ≠ (TX3 b).2.1 := by decide +kernel
theorem tyX3_ok : ∀ k, k < 0 → parseFieldDescriptor (TX3 k).2.2.1 = some (tyX3 k) := by decide +kernel
abbrev cX3_make : ByteArray := prog_5_method_2_code
def yX3_make : MethodName := ⟨RX3, "make", "(II)I"⟩
abbrev cX3_node : ByteArray := prog_5_method_3_code
def yX3_node : MethodName := ⟨RX3, "node", "(I)I"⟩
abbrev cX3_by : ByteArray := prog_5_method_4_code
def yX3_by : MethodName := ⟨RX3, "by", "(I)I"⟩
abbrev cX3_further : ByteArray := prog_5_method_5_code
def yX3_further : MethodName := ⟨RX3, "further", "(II)I"⟩
def RX4 : String := "SwapNames$Texts"
def TX4 : u_T := fun k => match k with
  | 0 => ("SwapNames$Texts", "bytes", "[I", true)
  | 1 => ("SwapNames$Texts", "kinds", "[I", true)
  | 2 => ("SwapNames$Texts", "lengths", "[I", true)
  | 3 => ("SwapNames$Texts", "faults", "[I", true)
  | 4 => ("SwapNames$Texts", "behind", "[I", true)
  | 5 => ("SwapNames$Texts", "sizes", "[I", true)
  | 6 => ("SwapNames$Texts", "depths", "[I", true)
  | 7 => ("SwapNames$Texts", "looseNames", "[I", true)
  | 8 => ("SwapNames$Texts", "unknowns", "[I", true)
  | 9 => ("SwapNames$Texts", "toldFresh", "[I", true)
  | _ => ("SwapNames$Texts", "theTurn", "I", false)
def tyX4 : Nat → FieldType := fun k => match k with
  | 0 => .array .int
  | 1 => .array .int
  | 2 => .array .int
  | 3 => .array .int
  | 4 => .array .int
  | 5 => .array .int
  | 6 => .array .int
  | 7 => .array .int
  | 8 => .array .int
  | 9 => .array .int
  | _ => .int
abbrev wsX40 : List Cond := u_ws RX4 TX4 11
theorem nmX4 : ∀ a, a < 11 → ∀ b, b < 11 → a ≠ b → (TX4 a).2.1 ≠ (TX4 b).2.1 := by decide +kernel
theorem tyX4_ok : ∀ k, k < 11 → parseFieldDescriptor (TX4 k).2.2.1 = some (tyX4 k) := by decide +kernel
abbrev cX4_init : ByteArray := prog_6_method_1_code
def yX4_init : MethodName := ⟨RX4, "<init>", "()V"⟩
abbrev cX4_append : ByteArray := prog_6_method_2_code
def yX4_append : MethodName := ⟨RX4, "append", "(II)Z"⟩
abbrev cX4_shorten : ByteArray := prog_6_method_3_code
def yX4_shorten : MethodName := ⟨RX4, "shorten", "(II)V"⟩
abbrev cX4_lengthOf : ByteArray := prog_6_method_4_code
def yX4_lengthOf : MethodName := ⟨RX4, "lengthOf", "(I)I"⟩
abbrev cX4_faultOf : ByteArray := prog_6_method_5_code
def yX4_faultOf : MethodName := ⟨RX4, "faultOf", "(I)I"⟩
abbrev cX4_isWell : ByteArray := prog_6_method_6_code
def yX4_isWell : MethodName := ⟨RX4, "isWell", "(I)Z"⟩
abbrev cX4_isThere : ByteArray := prog_6_method_7_code
def yX4_isThere : MethodName := ⟨RX4, "isThere", "(I)Z"⟩
abbrev cX4_allBytes : ByteArray := prog_6_method_8_code
def yX4_allBytes : MethodName := ⟨RX4, "allBytes", "()I"⟩
abbrev cX4_measureOf : ByteArray := prog_6_method_9_code
def yX4_measureOf : MethodName := ⟨RX4, "measureOf", "(II)I"⟩
abbrev cX4_kindAt : ByteArray := prog_6_method_10_code
def yX4_kindAt : MethodName := ⟨RX4, "kindAt", "(I)I"⟩
abbrev cX4_byteAt : ByteArray := prog_6_method_11_code
def yX4_byteAt : MethodName := ⟨RX4, "byteAt", "(I)I"⟩
abbrev cX4_nameAt : ByteArray := prog_6_method_12_code
def yX4_nameAt : MethodName := ⟨RX4, "nameAt", "(I)I"⟩
abbrev cX4_unknownAt : ByteArray := prog_6_method_13_code
def yX4_unknownAt : MethodName := ⟨RX4, "unknownAt", "(I)I"⟩
abbrev cX4_unknownsFrom : ByteArray := prog_6_method_14_code
def yX4_unknownsFrom : MethodName := ⟨RX4, "unknownsFrom", "(I)I"⟩
abbrev cX4_firstLength : ByteArray := prog_6_method_15_code
def yX4_firstLength : MethodName := ⟨RX4, "firstLength", "(I)I"⟩
abbrev cX4_secondOf : ByteArray := prog_6_method_16_code
def yX4_secondOf : MethodName := ⟨RX4, "secondOf", "(I)I"⟩
abbrev cX4_toldFreshIn : ByteArray := prog_6_method_17_code
def yX4_toldFreshIn : MethodName := ⟨RX4, "toldFreshIn", "(I)I"⟩
abbrev cX4_enter : ByteArray := prog_6_method_18_code
def yX4_enter : MethodName := ⟨RX4, "enter", "(I[I)I"⟩
abbrev cX4_scan : ByteArray := prog_6_method_19_code
def yX4_scan : MethodName := ⟨RX4, "scan", "(I)V"⟩
abbrev cX4_kindOf : ByteArray := prog_6_method_20_code
def yX4_kindOf : MethodName := ⟨RX4, "kindOf", "(I)I"⟩
abbrev cX4_faultOfTerm : ByteArray := prog_6_method_21_code
def yX4_faultOfTerm : MethodName := ⟨RX4, "faultOfTerm", "(I)I"⟩
abbrev cX4_faultOfTwos : ByteArray := prog_6_method_22_code
def yX4_faultOfTwos : MethodName := ⟨RX4, "faultOfTwos", "(II)I"⟩
abbrev cX4_findToldFresh : ByteArray := prog_6_method_23_code
def yX4_findToldFresh : MethodName := ⟨RX4, "findToldFresh", "()V"⟩
abbrev cX4_findTheTurn : ByteArray := prog_6_method_24_code
def yX4_findTheTurn : MethodName := ⟨RX4, "findTheTurn", "()V"⟩
abbrev cX4_weigh : ByteArray := prog_6_method_25_code
def yX4_weigh : MethodName := ⟨RX4, "weigh", "(I)V"⟩
abbrev cX4_weighOver : ByteArray := prog_6_method_26_code
def yX4_weighOver : MethodName := ⟨RX4, "weighOver", "(II)V"⟩
def RX5 : String := "SwapNames$Turns"
def TX5 : u_T := fun k => match k with
  | _ => ("", "", "", false)
def tyX5 : Nat → FieldType := fun k => match k with
  | _ => .int
abbrev wsX50 : List Cond := u_ws RX5 TX5 0
theorem nmX5 : ∀ a, a < 0 → ∀ b, b < 0 → a ≠ b → (TX5 a).2.1 ≠ (TX5 b).2.1 := by decide +kernel
theorem tyX5_ok : ∀ k, k < 0 → parseFieldDescriptor (TX5 k).2.2.1 = some (tyX5 k) := by decide +kernel
abbrev cX5_image : ByteArray := prog_7_method_2_code
def yX5_image : MethodName := ⟨RX5, "image", "(II)I"⟩
abbrev cX5_source : ByteArray := prog_7_method_3_code
def yX5_source : MethodName := ⟨RX5, "source", "(II)I"⟩
abbrev cX5_back : ByteArray := prog_7_method_4_code
def yX5_back : MethodName := ⟨RX5, "back", "(I)I"⟩
abbrev cX5_join : ByteArray := prog_7_method_5_code
def yX5_join : MethodName := ⟨RX5, "join", "(II)I"⟩
abbrev cX5_swapFirst : ByteArray := prog_7_method_6_code
def yX5_swapFirst : MethodName := ⟨RX5, "swapFirst", "(III)I"⟩
abbrev cX5_swapLast : ByteArray := prog_7_method_7_code
def yX5_swapLast : MethodName := ⟨RX5, "swapLast", "(III)I"⟩
abbrev cX5_unlike : ByteArray := prog_7_method_8_code
def yX5_unlike : MethodName := ⟨RX5, "unlike", "(II)I"⟩
abbrev cX5_sources : ByteArray := prog_7_method_9_code
def yX5_sources : MethodName := ⟨RX5, "sources", "(II)I"⟩
abbrev cX5_order : ByteArray := prog_7_method_10_code
def yX5_order : MethodName := ⟨RX5, "order", "(I)I"⟩
abbrev cX5_swaps : ByteArray := prog_7_method_11_code
def yX5_swaps : MethodName := ⟨RX5, "swaps", "(I)I"⟩
def RX6 : String := "SwapNames"
def TX6 : u_T := fun k => match k with
  | 0 => ("SwapNames", "texts", "LSwapNames$Texts;", true)
  | 1 => ("SwapNames", "sheets", "LSwapNames$Sheets;", true)
  | 2 => ("SwapNames", "solver", "LSwapNames$Solver;", true)
  | 3 => ("SwapNames", "trial", "LSwapNames$Solver;", true)
  | 4 => ("SwapNames", "settled", "Z", false)
  | 5 => ("SwapNames", "ways", "[I", true)
  | 6 => ("SwapNames", "waysKnown", "I", false)
  | 7 => ("SwapNames", "noValues", "[I", true)
  | 8 => ("SwapNames", "shownLine", "LSwapNames$Line;", true)
  | 9 => ("SwapNames", "turnedLine", "LSwapNames$Line;", true)
  | 10 => ("SwapNames", "valueLine", "LSwapNames$Line;", true)
  | _ => ("SwapNames", "turnLine", "LSwapNames$Line;", true)
def tyX6 : Nat → FieldType := fun k => match k with
  | 0 => .object "SwapNames$Texts"
  | 1 => .object "SwapNames$Sheets"
  | 2 => .object "SwapNames$Solver"
  | 3 => .object "SwapNames$Solver"
  | 4 => .boolean
  | 5 => .array .int
  | 6 => .int
  | 7 => .array .int
  | 8 => .object "SwapNames$Line"
  | 9 => .object "SwapNames$Line"
  | 10 => .object "SwapNames$Line"
  | _ => .object "SwapNames$Line"
abbrev wsX60 : List Cond := u_ws RX6 TX6 12
theorem nmX6 : ∀ a, a < 12 → ∀ b, b < 12 → a ≠ b → (TX6 a).2.1 ≠ (TX6 b).2.1 := by decide +kernel
theorem tyX6_ok : ∀ k, k < 12 → parseFieldDescriptor (TX6 k).2.2.1 = some (tyX6 k) := by decide +kernel
abbrev cX6_init : ByteArray := prog_1_method_1_code
def yX6_init : MethodName := ⟨RX6, "<init>", "()V"⟩
abbrev cX6_type : ByteArray := prog_1_method_2_code
def yX6_type : MethodName := ⟨RX6, "type", "(II)I"⟩
abbrev cX6_wipe : ByteArray := prog_1_method_3_code
def yX6_wipe : MethodName := ⟨RX6, "wipe", "(I)I"⟩
abbrev cX6_undo : ByteArray := prog_1_method_4_code
def yX6_undo : MethodName := ⟨RX6, "undo", "(I)I"⟩
abbrev cX6_fault : ByteArray := prog_1_method_5_code
def yX6_fault : MethodName := ⟨RX6, "fault", "(I)I"⟩
abbrev cX6_read : ByteArray := prog_1_method_6_code
def yX6_read : MethodName := ⟨RX6, "read", "(II)I"⟩
abbrev cX6_turn : ByteArray := prog_1_method_7_code
def yX6_turn : MethodName := ⟨RX6, "turn", "(II)I"⟩
abbrev cX6_power : ByteArray := prog_1_method_8_code
def yX6_power : MethodName := ⟨RX6, "power", "(II)I"⟩
abbrev cX6_rounds : ByteArray := prog_1_method_9_code
def yX6_rounds : MethodName := ⟨RX6, "rounds", "(I)I"⟩
abbrev cX6_shows : ByteArray := prog_1_method_10_code
def yX6_shows : MethodName := ⟨RX6, "shows", "(I)I"⟩
abbrev cX6_term : ByteArray := prog_1_method_11_code
def yX6_term : MethodName := ⟨RX6, "term", "(II)I"⟩
abbrev cX6_shown : ByteArray := prog_1_method_12_code
def yX6_shown : MethodName := ⟨RX6, "shown", "(II)I"⟩
abbrev cX6_turned : ByteArray := prog_1_method_13_code
def yX6_turned : MethodName := ⟨RX6, "turned", "(II)I"⟩
abbrev cX6_alike : ByteArray := prog_1_method_14_code
def yX6_alike : MethodName := ⟨RX6, "alike", "(I)I"⟩
abbrev cX6_solved : ByteArray := prog_1_method_15_code
def yX6_solved : MethodName := ⟨RX6, "solved", "(I)I"⟩
abbrev cX6_value : ByteArray := prog_1_method_16_code
def yX6_value : MethodName := ⟨RX6, "value", "(II)I"⟩
abbrev cX6_fresh : ByteArray := prog_1_method_17_code
def yX6_fresh : MethodName := ⟨RX6, "fresh", "(I)I"⟩
abbrev cX6_needs : ByteArray := prog_1_method_18_code
def yX6_needs : MethodName := ⟨RX6, "needs", "(I)I"⟩
abbrev cX6_way : ByteArray := prog_1_method_19_code
def yX6_way : MethodName := ⟨RX6, "way", "(II)I"⟩
abbrev cX6_spare : ByteArray := prog_1_method_20_code
def yX6_spare : MethodName := ⟨RX6, "spare", "()I"⟩
abbrev cX6_sheet : ByteArray := prog_1_method_21_code
def yX6_sheet : MethodName := ⟨RX6, "sheet", "(III)I"⟩
abbrev cX6_lose : ByteArray := prog_1_method_22_code
def yX6_lose : MethodName := ⟨RX6, "lose", "(I)I"⟩
abbrev cX6_lay : ByteArray := prog_1_method_23_code
def yX6_lay : MethodName := ⟨RX6, "lay", "(IIII)I"⟩
abbrev cX6_get : ByteArray := prog_1_method_24_code
def yX6_get : MethodName := ⟨RX6, "get", "(III)I"⟩
abbrev cX6_copy : ByteArray := prog_1_method_25_code
def yX6_copy : MethodName := ⟨RX6, "copy", "(IIIII)I"⟩
abbrev cX6_write : ByteArray := prog_1_method_26_code
def yX6_write : MethodName := ⟨RX6, "write", "(II)I"⟩
abbrev cX6_count : ByteArray := prog_1_method_27_code
def yX6_count : MethodName := ⟨RX6, "count", "(I)I"⟩
abbrev cX6_digest : ByteArray := prog_1_method_28_code
def yX6_digest : MethodName := ⟨RX6, "digest", "()J"⟩
abbrev cX6_isOutside : ByteArray := prog_1_method_29_code
def yX6_isOutside : MethodName := ⟨RX6, "isOutside", "(II)Z"⟩
abbrev cX6_isNoPlace : ByteArray := prog_1_method_30_code
def yX6_isNoPlace : MethodName := ⟨RX6, "isNoPlace", "(I)Z"⟩
abbrev cX6_noteChange : ByteArray := prog_1_method_31_code
def yX6_noteChange : MethodName := ⟨RX6, "noteChange", "(I)V"⟩
abbrev cX6_settle : ByteArray := prog_1_method_32_code
def yX6_settle : MethodName := ⟨RX6, "settle", "()V"⟩
abbrev cX6_showValue : ByteArray := prog_1_method_33_code
def yX6_showValue : MethodName := ⟨RX6, "showValue", "(I)V"⟩
def RX7 : String := "SwapNamesModel"
def TX7 : u_T := fun k => match k with
  | 0 => ("SwapNamesModel", "forms", "[I", true)
  | 1 => ("SwapNamesModel", "sizes", "[I", true)
  | 2 => ("SwapNamesModel", "items", "[I", true)
  | 3 => ("SwapNamesModel", "moved", "[I", true)
  | 4 => ("SwapNamesModel", "latest", "I", false)
  | 5 => ("SwapNamesModel", "bytes", "[I", true)
  | 6 => ("SwapNamesModel", "typed", "[I", true)
  | 7 => ("SwapNamesModel", "parts", "[I", true)
  | 8 => ("SwapNamesModel", "kind", "[I", true)
  | 9 => ("SwapNamesModel", "name", "[I", true)
  | 10 => ("SwapNamesModel", "other", "[I", true)
  | 11 => ("SwapNamesModel", "ends", "[I", true)
  | 12 => ("SwapNamesModel", "given", "[I", true)
  | 13 => ("SwapNamesModel", "theTurn", "I", false)
  | 14 => ("SwapNamesModel", "out", "[I", true)
  | 15 => ("SwapNamesModel", "shown", "I", false)
  | 16 => ("SwapNamesModel", "waits", "[I", true)
  | 17 => ("SwapNamesModel", "under", "[I", true)
  | 18 => ("SwapNamesModel", "open", "I", false)
  | 19 => ("SwapNamesModel", "values", "[I", true)
  | 20 => ("SwapNamesModel", "valueTurns", "[I", true)
  | 21 => ("SwapNamesModel", "deep", "[I", true)
  | 22 => ("SwapNamesModel", "must", "[I", true)
  | 23 => ("SwapNamesModel", "bound", "Z", false)
  | 24 => ("SwapNamesModel", "lefts", "[I", true)
  | 25 => ("SwapNamesModel", "leftTurns", "[I", true)
  | 26 => ("SwapNamesModel", "rights", "[I", true)
  | 27 => ("SwapNamesModel", "rightTurns", "[I", true)
  | 28 => ("SwapNamesModel", "high", "I", false)
  | 29 => ("SwapNamesModel", "part", "I", false)
  | 30 => ("SwapNamesModel", "turn", "I", false)
  | 31 => ("SwapNamesModel", "asked", "I", false)
  | 32 => ("SwapNamesModel", "why", "I", false)
  | 33 => ("SwapNamesModel", "where", "I", false)
  | 34 => ("SwapNamesModel", "steps", "I", false)
  | 35 => ("SwapNamesModel", "wants", "I", false)
  | 36 => ("SwapNamesModel", "wantName", "[I", true)
  | 37 => ("SwapNamesModel", "wantPart", "[I", true)
  | 38 => ("SwapNamesModel", "wantTurn", "[I", true)
  | 39 => ("SwapNamesModel", "wanted", "[I", true)
  | _ => ("SwapNamesModel", "asksDone", "[I", true)
def tyX7 : Nat → FieldType := fun k => match k with
  | 0 => .array .int
  | 1 => .array .int
  | 2 => .array .int
  | 3 => .array .int
  | 4 => .int
  | 5 => .array .int
  | 6 => .array .int
  | 7 => .array .int
  | 8 => .array .int
  | 9 => .array .int
  | 10 => .array .int
  | 11 => .array .int
  | 12 => .array .int
  | 13 => .int
  | 14 => .array .int
  | 15 => .int
  | 16 => .array .int
  | 17 => .array .int
  | 18 => .int
  | 19 => .array .int
  | 20 => .array .int
  | 21 => .array .int
  | 22 => .array .int
  | 23 => .boolean
  | 24 => .array .int
  | 25 => .array .int
  | 26 => .array .int
  | 27 => .array .int
  | 28 => .int
  | 29 => .int
  | 30 => .int
  | 31 => .int
  | 32 => .int
  | 33 => .int
  | 34 => .int
  | 35 => .int
  | 36 => .array .int
  | 37 => .array .int
  | 38 => .array .int
  | 39 => .array .int
  | _ => .array .int
abbrev wsX70 : List Cond := u_ws RX7 TX7 41
theorem nmX7 : ∀ a, a < 41 → ∀ b, b < 41 → a ≠ b → (TX7 a).2.1 ≠ (TX7 b).2.1 := by decide +kernel
theorem tyX7_ok : ∀ k, k < 41 → parseFieldDescriptor (TX7 k).2.2.1 = some (tyX7 k) := by decide +kernel
abbrev cX7_init : ByteArray := prog_9_method_1_code
def yX7_init : MethodName := ⟨RX7, "<init>", "()V"⟩
abbrev cX7_in : ByteArray := prog_9_method_3_code
def yX7_in : MethodName := ⟨RX7, "in", "(JJJ)Z"⟩
abbrev cX7_isTwo : ByteArray := prog_9_method_4_code
def yX7_isTwo : MethodName := ⟨RX7, "isTwo", "(I)Z"⟩
abbrev cX7_isIn : ByteArray := prog_9_method_5_code
def yX7_isIn : MethodName := ⟨RX7, "isIn", "(II)Z"⟩
abbrev cX7_lesser : ByteArray := prog_9_method_6_code
def yX7_lesser : MethodName := ⟨RX7, "lesser", "(II)I"⟩
abbrev cX7_greater : ByteArray := prog_9_method_7_code
def yX7_greater : MethodName := ⟨RX7, "greater", "(II)I"⟩
abbrev cX7_finds : ByteArray := prog_9_method_8_code
def yX7_finds : MethodName := ⟨RX7, "finds", "(I)I"⟩
abbrev cX7_isSheet : ByteArray := prog_9_method_9_code
def yX7_isSheet : MethodName := ⟨RX7, "isSheet", "(I)Z"⟩
abbrev cX7_sheet : ByteArray := prog_9_method_10_code
def yX7_sheet : MethodName := ⟨RX7, "sheet", "(III)I"⟩
abbrev cX7_lose : ByteArray := prog_9_method_11_code
def yX7_lose : MethodName := ⟨RX7, "lose", "(I)I"⟩
abbrev cX7_lacks : ByteArray := prog_9_method_12_code
def yX7_lacks : MethodName := ⟨RX7, "lacks", "(III)I"⟩
abbrev cX7_cut : ByteArray := prog_9_method_13_code
def yX7_cut : MethodName := ⟨RX7, "cut", "(II)I"⟩
abbrev cX7_lay : ByteArray := prog_9_method_14_code
def yX7_lay : MethodName := ⟨RX7, "lay", "(IIII)I"⟩
abbrev cX7_get : ByteArray := prog_9_method_15_code
def yX7_get : MethodName := ⟨RX7, "get", "(III)I"⟩
abbrev cX7_copy : ByteArray := prog_9_method_16_code
def yX7_copy : MethodName := ⟨RX7, "copy", "(IIIII)I"⟩
abbrev cX7_image : ByteArray := prog_9_method_17_code
def yX7_image : MethodName := ⟨RX7, "image", "(II)I"⟩
abbrev cX7_behind : ByteArray := prog_9_method_18_code
def yX7_behind : MethodName := ⟨RX7, "behind", "(II)I"⟩
abbrev cX7_turnedBack : ByteArray := prog_9_method_19_code
def yX7_turnedBack : MethodName := ⟨RX7, "turnedBack", "(I)I"⟩
abbrev cX7_swap : ByteArray := prog_9_method_20_code
def yX7_swap : MethodName := ⟨RX7, "swap", "(II)I"⟩
abbrev cX7_isText : ByteArray := prog_9_method_21_code
def yX7_isText : MethodName := ⟨RX7, "isText", "(I)Z"⟩
abbrev cX7_type : ByteArray := prog_9_method_22_code
def yX7_type : MethodName := ⟨RX7, "type", "(II)I"⟩
abbrev cX7_wipe : ByteArray := prog_9_method_23_code
def yX7_wipe : MethodName := ⟨RX7, "wipe", "(I)I"⟩
abbrev cX7_undo : ByteArray := prog_9_method_24_code
def yX7_undo : MethodName := ⟨RX7, "undo", "(I)I"⟩
abbrev cX7_nameOf : ByteArray := prog_9_method_25_code
def yX7_nameOf : MethodName := ⟨RX7, "nameOf", "(I)I"⟩
abbrev cX7_kindOf : ByteArray := prog_9_method_26_code
def yX7_kindOf : MethodName := ⟨RX7, "kindOf", "(I)I"⟩
abbrev cX7_numberOf : ByteArray := prog_9_method_27_code
def yX7_numberOf : MethodName := ⟨RX7, "numberOf", "(II)I"⟩
abbrev cX7_readsTerm : ByteArray := prog_9_method_28_code
def yX7_readsTerm : MethodName := ⟨RX7, "readsTerm", "(I)I"⟩
abbrev cX7_readsFresh : ByteArray := prog_9_method_29_code
def yX7_readsFresh : MethodName := ⟨RX7, "readsFresh", "()I"⟩
abbrev cX7_readsTurn : ByteArray := prog_9_method_30_code
def yX7_readsTurn : MethodName := ⟨RX7, "readsTurn", "()I"⟩
abbrev cX7_readsText : ByteArray := prog_9_method_31_code
def yX7_readsText : MethodName := ⟨RX7, "readsText", "(I)I"⟩
abbrev cX7_readsAll : ByteArray := prog_9_method_32_code
def yX7_readsAll : MethodName := ⟨RX7, "readsAll", "()V"⟩
abbrev cX7_fault : ByteArray := prog_9_method_33_code
def yX7_fault : MethodName := ⟨RX7, "fault", "(I)I"⟩
abbrev cX7_read : ByteArray := prog_9_method_34_code
def yX7_read : MethodName := ⟨RX7, "read", "(II)I"⟩
abbrev cX7_isName : ByteArray := prog_9_method_35_code
def yX7_isName : MethodName := ⟨RX7, "isName", "(I)Z"⟩
abbrev cX7_turnBy : ByteArray := prog_9_method_36_code
def yX7_turnBy : MethodName := ⟨RX7, "turnBy", "(II)I"⟩
abbrev cX7_turn : ByteArray := prog_9_method_37_code
def yX7_turn : MethodName := ⟨RX7, "turn", "(II)I"⟩
abbrev cX7_powerBy : ByteArray := prog_9_method_38_code
def yX7_powerBy : MethodName := ⟨RX7, "powerBy", "(II)I"⟩
abbrev cX7_power : ByteArray := prog_9_method_39_code
def yX7_power : MethodName := ⟨RX7, "power", "(II)I"⟩
abbrev cX7_orderNow : ByteArray := prog_9_method_40_code
def yX7_orderNow : MethodName := ⟨RX7, "orderNow", "()I"⟩
abbrev cX7_stays : ByteArray := prog_9_method_41_code
def yX7_stays : MethodName := ⟨RX7, "stays", "()I"⟩
abbrev cX7_rings : ByteArray := prog_9_method_42_code
def yX7_rings : MethodName := ⟨RX7, "rings", "()I"⟩
abbrev cX7_tells : ByteArray := prog_9_method_43_code
def yX7_tells : MethodName := ⟨RX7, "tells", "(I)V"⟩
abbrev cX7_tellsTurn : ByteArray := prog_9_method_44_code
def yX7_tellsTurn : MethodName := ⟨RX7, "tellsTurn", "(I)I"⟩
abbrev cX7_manySwaps : ByteArray := prog_9_method_45_code
def yX7_manySwaps : MethodName := ⟨RX7, "manySwaps", "()I"⟩
abbrev cX7_roundsBy : ByteArray := prog_9_method_46_code
def yX7_roundsBy : MethodName := ⟨RX7, "roundsBy", "(I)I"⟩
abbrev cX7_rounds : ByteArray := prog_9_method_47_code
def yX7_rounds : MethodName := ⟨RX7, "rounds", "(I)I"⟩
abbrev cX7_toldAt : ByteArray := prog_9_method_48_code
def yX7_toldAt : MethodName := ⟨RX7, "toldAt", "(I)I"⟩
abbrev cX7_showsBy : ByteArray := prog_9_method_49_code
def yX7_showsBy : MethodName := ⟨RX7, "showsBy", "(I)I"⟩
abbrev cX7_shows : ByteArray := prog_9_method_50_code
def yX7_shows : MethodName := ⟨RX7, "shows", "(I)I"⟩
abbrev cX7_puts : ByteArray := prog_9_method_51_code
def yX7_puts : MethodName := ⟨RX7, "puts", "(II)V"⟩
abbrev cX7_showing : ByteArray := prog_9_method_52_code
def yX7_showing : MethodName := ⟨RX7, "showing", "(IIZ)V"⟩
abbrev cX7_tellsPart : ByteArray := prog_9_method_53_code
def yX7_tellsPart : MethodName := ⟨RX7, "tellsPart", "(II)V"⟩
abbrev cX7_manyParts : ByteArray := prog_9_method_54_code
def yX7_manyParts : MethodName := ⟨RX7, "manyParts", "(I)I"⟩
abbrev cX7_longest : ByteArray := prog_9_method_55_code
def yX7_longest : MethodName := ⟨RX7, "longest", "(I)I"⟩
abbrev cX7_unknownsIn : ByteArray := prog_9_method_56_code
def yX7_unknownsIn : MethodName := ⟨RX7, "unknownsIn", "(I)I"⟩
abbrev cX7_asks : ByteArray := prog_9_method_57_code
def yX7_asks : MethodName := ⟨RX7, "asks", "(III)V"⟩
abbrev cX7_freeIn : ByteArray := prog_9_method_58_code
def yX7_freeIn : MethodName := ⟨RX7, "freeIn", "(I)I"⟩
abbrev cX7_termBy : ByteArray := prog_9_method_59_code
def yX7_termBy : MethodName := ⟨RX7, "termBy", "(II)I"⟩
abbrev cX7_isTerm : ByteArray := prog_9_method_60_code
def yX7_isTerm : MethodName := ⟨RX7, "isTerm", "(I)Z"⟩
abbrev cX7_term : ByteArray := prog_9_method_61_code
def yX7_term : MethodName := ⟨RX7, "term", "(II)I"⟩
abbrev cX7_shownBy : ByteArray := prog_9_method_62_code
def yX7_shownBy : MethodName := ⟨RX7, "shownBy", "(III)I"⟩
abbrev cX7_shown : ByteArray := prog_9_method_63_code
def yX7_shown : MethodName := ⟨RX7, "shown", "(II)I"⟩
abbrev cX7_turned : ByteArray := prog_9_method_64_code
def yX7_turned : MethodName := ⟨RX7, "turned", "(II)I"⟩
abbrev cX7_piles : ByteArray := prog_9_method_65_code
def yX7_piles : MethodName := ⟨RX7, "piles", "(IIII)V"⟩
abbrev cX7_unlike : ByteArray := prog_9_method_66_code
def yX7_unlike : MethodName := ⟨RX7, "unlike", "(II)I"⟩
abbrev cX7_isThere : ByteArray := prog_9_method_67_code
def yX7_isThere : MethodName := ⟨RX7, "isThere", "(I)Z"⟩
abbrev cX7_isFresh : ByteArray := prog_9_method_68_code
def yX7_isFresh : MethodName := ⟨RX7, "isFresh", "(III)Z"⟩
abbrev cX7_enters : ByteArray := prog_9_method_69_code
def yX7_enters : MethodName := ⟨RX7, "enters", "(IIZ)V"⟩
abbrev cX7_goesOn : ByteArray := prog_9_method_70_code
def yX7_goesOn : MethodName := ⟨RX7, "goesOn", "(IIII)Z"⟩
abbrev cX7_alikeBy : ByteArray := prog_9_method_71_code
def yX7_alikeBy : MethodName := ⟨RX7, "alikeBy", "(I)I"⟩
abbrev cX7_isEquation : ByteArray := prog_9_method_72_code
def yX7_isEquation : MethodName := ⟨RX7, "isEquation", "(I)Z"⟩
abbrev cX7_alike : ByteArray := prog_9_method_73_code
def yX7_alike : MethodName := ⟨RX7, "alike", "(I)I"⟩
abbrev cX7_all : ByteArray := prog_9_method_74_code
def yX7_all : MethodName := ⟨RX7, "all", "(I)I"⟩
abbrev cX7_gives : ByteArray := prog_9_method_75_code
def yX7_gives : MethodName := ⟨RX7, "gives", "(IIII)V"⟩
abbrev cX7_step : ByteArray := prog_9_method_76_code
def yX7_step : MethodName := ⟨RX7, "step", "(IIII)I"⟩
abbrev cX7_solves : ByteArray := prog_9_method_77_code
def yX7_solves : MethodName := ⟨RX7, "solves", "(I)V"⟩
abbrev cX7_freshens : ByteArray := prog_9_method_78_code
def yX7_freshens : MethodName := ⟨RX7, "freshens", "()V"⟩
abbrev cX7_solving : ByteArray := prog_9_method_79_code
def yX7_solving : MethodName := ⟨RX7, "solving", "(II)V"⟩
abbrev cX7_manyValues : ByteArray := prog_9_method_80_code
def yX7_manyValues : MethodName := ⟨RX7, "manyValues", "()I"⟩
abbrev cX7_wayBy : ByteArray := prog_9_method_81_code
def yX7_wayBy : MethodName := ⟨RX7, "wayBy", "(II)I"⟩
abbrev cX7_solved : ByteArray := prog_9_method_82_code
def yX7_solved : MethodName := ⟨RX7, "solved", "(I)I"⟩
abbrev cX7_way : ByteArray := prog_9_method_83_code
def yX7_way : MethodName := ⟨RX7, "way", "(II)I"⟩
abbrev cX7_tellsValue : ByteArray := prog_9_method_84_code
def yX7_tellsValue : MethodName := ⟨RX7, "tellsValue", "(I)V"⟩
abbrev cX7_valueBy : ByteArray := prog_9_method_85_code
def yX7_valueBy : MethodName := ⟨RX7, "valueBy", "(II)I"⟩
abbrev cX7_value : ByteArray := prog_9_method_86_code
def yX7_value : MethodName := ⟨RX7, "value", "(II)I"⟩
abbrev cX7_freshBy : ByteArray := prog_9_method_87_code
def yX7_freshBy : MethodName := ⟨RX7, "freshBy", "(I)I"⟩
abbrev cX7_fresh : ByteArray := prog_9_method_88_code
def yX7_fresh : MethodName := ⟨RX7, "fresh", "(I)I"⟩
abbrev cX7_needsBy : ByteArray := prog_9_method_89_code
def yX7_needsBy : MethodName := ⟨RX7, "needsBy", "(I)I"⟩
abbrev cX7_needs : ByteArray := prog_9_method_90_code
def yX7_needs : MethodName := ⟨RX7, "needs", "(I)I"⟩
abbrev cX7_spareNow : ByteArray := prog_9_method_91_code
def yX7_spareNow : MethodName := ⟨RX7, "spareNow", "()I"⟩
abbrev cX7_spare : ByteArray := prog_9_method_92_code
def yX7_spare : MethodName := ⟨RX7, "spare", "()I"⟩
abbrev cX7_write : ByteArray := prog_9_method_93_code
def yX7_write : MethodName := ⟨RX7, "write", "(II)I"⟩
abbrev cX7_allTyped : ByteArray := prog_9_method_94_code
def yX7_allTyped : MethodName := ⟨RX7, "allTyped", "()I"⟩
abbrev cX7_count : ByteArray := prog_9_method_95_code
def yX7_count : MethodName := ⟨RX7, "count", "(I)I"⟩
abbrev cX7_tellsTerm : ByteArray := prog_9_method_96_code
def yX7_tellsTerm : MethodName := ⟨RX7, "tellsTerm", "(JI)J"⟩
abbrev cX7_tellsUnknown : ByteArray := prog_9_method_97_code
def yX7_tellsUnknown : MethodName := ⟨RX7, "tellsUnknown", "(JI)J"⟩
abbrev cX7_digest : ByteArray := prog_9_method_98_code
def yX7_digest : MethodName := ⟨RX7, "digest", "()J"⟩
def RJ6 : String := "java/lang/Integer"
def TJ6 : u_T := fun k => match k with
  | _ => ("", "", "", false)
def tyJ6 : Nat → FieldType := fun k => match k with
  | _ => .int
abbrev wsJ60 : List Cond := u_ws RJ6 TJ6 0
theorem nmJ6 : ∀ a, a < 0 → ∀ b, b < 0 → a ≠ b → (TJ6 a).2.1 ≠ (TJ6 b).2.1 := by decide +kernel
theorem tyJ6_ok : ∀ k, k < 0 → parseFieldDescriptor (TJ6 k).2.2.1 = some (tyJ6 k) := by decide +kernel
abbrev cJ6_bitCount_0f7a4 : ByteArray := prog_10_method_49_code
def yJ6_bitCount_0f7a4 : MethodName := ⟨RJ6, "bitCount", "(I)I"⟩
def RJ9 : String := "java/lang/Math"
def TJ9 : u_T := fun k => match k with
  | _ => ("", "", "", false)
def tyJ9 : Nat → FieldType := fun k => match k with
  | _ => .int
abbrev wsJ90 : List Cond := u_ws RJ9 TJ9 0
theorem nmJ9 : ∀ a, a < 0 → ∀ b, b < 0 → a ≠ b → (TJ9 a).2.1 ≠ (TJ9 b).2.1 := by decide +kernel
theorem tyJ9_ok : ∀ k, k < 0 → parseFieldDescriptor (TJ9 k).2.2.1 = some (tyJ9 k) := by decide +kernel
abbrev cJ9_floorMod_7cf53 : ByteArray := prog_11_method_50_code
def yJ9_floorMod_7cf53 : MethodName := ⟨RJ9, "floorMod", "(II)I"⟩
abbrev cJ9_max_7cf53 : ByteArray := prog_11_method_65_code
def yJ9_max_7cf53 : MethodName := ⟨RJ9, "max", "(II)I"⟩
abbrev cJ9_min_7cf53 : ByteArray := prog_11_method_69_code
def yJ9_min_7cf53 : MethodName := ⟨RJ9, "min", "(II)I"⟩
def RJ10 : String := "java/lang/System"
def TJ10 : u_T := fun k => match k with
  | _ => ("", "", "", false)
def tyJ10 : Nat → FieldType := fun k => match k with
  | _ => .int
abbrev wsJ100 : List Cond := u_ws RJ10 TJ10 0
theorem nmJ10 : ∀ a, a < 0 → ∀ b, b < 0 → a ≠ b → (TJ10 a).2.1 ≠ (TJ10 b).2.1 := by decide +kernel
theorem tyJ10_ok : ∀ k, k < 0 → parseFieldDescriptor (TJ10 k).2.2.1 = some (tyJ10 k) := by decide +kernel
def RJ7 : String := "java/util/Arrays"
def TJ7 : u_T := fun k => match k with
  | _ => ("", "", "", false)
def tyJ7 : Nat → FieldType := fun k => match k with
  | _ => .int
abbrev wsJ70 : List Cond := u_ws RJ7 TJ7 0
theorem nmJ7 : ∀ a, a < 0 → ∀ b, b < 0 → a ≠ b → (TJ7 a).2.1 ≠ (TJ7 b).2.1 := by decide +kernel
theorem tyJ7_ok : ∀ k, k < 0 → parseFieldDescriptor (TJ7 k).2.2.1 = some (tyJ7 k) := by decide +kernel
abbrev cJ7_rangeCheck_23922 : ByteArray := prog_13_method_30_code
def yJ7_rangeCheck_23922 : MethodName := ⟨RJ7, "rangeCheck", "(III)V"⟩
abbrev cJ7_fill_53178 : ByteArray := prog_13_method_103_code
def yJ7_fill_53178 : MethodName := ⟨RJ7, "fill", "([II)V"⟩
abbrev cJ7_fill_fda19 : ByteArray := prog_13_method_104_code
def yJ7_fill_fda19 : MethodName := ⟨RJ7, "fill", "([IIII)V"⟩
def RL : String := "SwapNamesLaw"
abbrev cL_law : ByteArray := code
def yL_law : MethodName := ⟨RL, "law", "([I)Z"⟩
abbrev vwCl : List vw_C := [(RX0, TX0, 5), (RX1, TX1, 4), (RX2, TX2, 12), (RX4, TX4, 11), (RX6, TX6, 12), (RX7, TX7, 41)]
end
section
def tw : List Cond := lw_tbl.filter goodWord
theorem tw_tbl : ∀ w ∈ tw, w ∈ lw_tbl := fun w h => (List.mem_filter.mp h).1
theorem tw_good : ∀ w ∈ tw, goodWord w = true := fun w h => (List.mem_filter.mp h).2
theorem tw_in1 {w : Cond} (h : w ∈ tables_1_1) (hg : goodWord w = true) : w ∈ tw := List.mem_filter.mpr ⟨List.mem_append_right _ (by unfold tables_1; exact List.mem_append_left _ h), hg⟩
theorem tw_in2 {w : Cond} (h : w ∈ tables_1_2) (hg : goodWord w = true) : w ∈ tw := List.mem_filter.mpr ⟨List.mem_append_right _ (by unfold tables_1; exact List.mem_append_right _ (List.mem_append_left _ h)), hg⟩
theorem tw_in3 {w : Cond} (h : w ∈ tables_1_3) (hg : goodWord w = true) : w ∈ tw := List.mem_filter.mpr ⟨List.mem_append_right _ (by unfold tables_1; exact List.mem_append_right _ (List.mem_append_right _ (List.mem_append_left _ h))), hg⟩
theorem tw_in4 {w : Cond} (h : w ∈ tables_1_4) (hg : goodWord w = true) : w ∈ tw := List.mem_filter.mpr ⟨List.mem_append_right _ (by unfold tables_1; exact List.mem_append_right _ (List.mem_append_right _ (List.mem_append_right _ (List.mem_append_left _ h)))), hg⟩
theorem tw_in5 {w : Cond} (h : w ∈ tables_1_5) (hg : goodWord w = true) : w ∈ tw := List.mem_filter.mpr ⟨List.mem_append_right _ (by unfold tables_1; exact List.mem_append_right _ (List.mem_append_right _ (List.mem_append_right _ (List.mem_append_right _ (h))))), hg⟩
theorem tw_sel {q : MethodName × Nat} (h : q ∈ lw_privs) (hg : goodWord (Cond.selects q.1.cls q.1 q.1) = true) : Cond.selects q.1.cls q.1 q.1 ∈ tw := List.mem_filter.mpr ⟨List.mem_append_left _ (List.mem_map.mpr ⟨q, h, rfl⟩), hg⟩
end
section
/-! ===== the numbers of a world, apart from the machine: cell k, place i ===== -/
abbrev gS : Type := Nat → Nat → Int32
/-- a cell: .inl n a row of n ints; .inr (class, fields): some r a reference to cell r, none an int -/
abbrev gSh : Type := Nat ⊕ (Nat × List (Option Nat))
def g_c (ad : Nat → Nat) : Value → Value
  | .ref k => .ref (ad k)
  | v => v
def g_fl (ad : Nat → Nat) (g : Nat → Int32) : Nat → List (Option Nat) → List Value
  | _, [] => []
  | j, some r :: t => .ref (ad r) :: g_fl ad g (j + 1) t
  | j, none :: t => .int (g j) :: g_fl ad g (j + 1) t
def g_fv (ad : Nat → Nat) (x : Int32) : Option Nat → Value
  | some r => .ref (ad r)
  | none => .int x
def g_ce (cA : ClassId) (ad : Nat → Nat) (σ : gS) (k : Nat) : gSh → va_E
  | .inl n => .inl (cA, n, .inl (σ k))
  | .inr (ci, fs) => .inr (ci, g_fl ad (σ k) 0 fs)
def g_w (cA : ClassId) (ad : Nat → Nat) (σ : gS) : Nat → List gSh → va_W
  | _, [] => []
  | k, sh :: t => (ad k, g_ce cA ad σ k sh) :: g_w cA ad σ (k + 1) t
def up2 (σ : gS) (k i : Nat) (x : Int32) : gS := fun k' => if k' = k then upd (σ k) i x else σ k'
theorem up2_same (σ : gS) (k i : Nat) (x : Int32) : up2 σ k i x k = upd (σ k) i x := if_pos rfl
theorem up2_ne (σ : gS) {k k' : Nat} (i : Nat) (x : Int32) (h : k' ≠ k) : up2 σ k i x k' = σ k' := if_neg h
theorem g_fl_get (ad : Nat → Nat) (g : Nat → Int32) : ∀ (fs : List (Option Nat)) (j0 k : Nat), (g_fl ad g j0 fs)[k]? = (fs[k]?).map (fun o => g_fv ad (g (j0 + k)) o) := by
  intro fs
  induction fs with
  | nil => intro j0 k; simp [g_fl]
  | cons o t ih =>
    intro j0 k
    cases k with
    | zero => cases o <;> simp [g_fl, g_fv]
    | succ k =>
      have e : j0 + (k + 1) = j0 + 1 + k := by omega
      cases o <;> simp [g_fl, ih, e]
theorem g_w_get (cA : ClassId) (ad : Nat → Nat) (σ : gS) : ∀ (L : List gSh) (k0 k : Nat), (g_w cA ad σ k0 L)[k]? = (L[k]?).map (fun sh => (ad (k0 + k), g_ce cA ad σ (k0 + k) sh)) := by
  intro L
  induction L with
  | nil => intro k0 k; simp [g_w]
  | cons o t ih =>
    intro k0 k
    cases k with
    | zero => simp [g_w]
    | succ k =>
      have e : k0 + (k + 1) = k0 + 1 + k := by omega
      simp [g_w, ih, e]
theorem g_w_at {cA : ClassId} {ad : Nat → Nat} {σ : gS} {L : List gSh} {k : Nat} {sh : gSh} (h : L[k]? = some sh) : (g_w cA ad σ 0 L)[k]? = some (ad k, g_ce cA ad σ k sh) := by
  rw [g_w_get, h, Option.map_some, Nat.zero_add]
theorem g_ce_congr {cA : ClassId} {ad : Nat → Nat} {σ σ' : gS} {k : Nat} (h : σ k = σ' k) (sh : gSh) : g_ce cA ad σ k sh = g_ce cA ad σ' k sh := by
  cases sh with
  | inl n => simp [g_ce, h]
  | inr p => obtain ⟨ci, fs⟩ := p; simp [g_ce, h]
theorem g_fl_set (ad : Nat → Nat) (g : Nat → Int32) (x : Int32) : ∀ (fs : List (Option Nat)) (j0 j : Nat), fs[j]? = some none → (g_fl ad g j0 fs).set j (.int x) = g_fl ad (upd g (j0 + j) x) j0 fs := by
  have stay : ∀ (fs : List (Option Nat)) (j0 q : Nat), q < j0 → g_fl ad (upd g q x) j0 fs = g_fl ad g j0 fs := by
    intro fs
    induction fs with
    | nil => intro j0 q _; rfl
    | cons o t ih =>
      intro j0 q hq
      have hne : ¬ j0 = q := by omega
      cases o <;> simp [g_fl, upd, hne, ih (j0 + 1) q (by omega)]
  intro fs
  induction fs with
  | nil => intro j0 j h; simp at h
  | cons o t ih =>
    intro j0 j h
    cases j with
    | zero =>
      simp at h
      subst h
      simp [g_fl, upd, stay t (j0 + 1) j0 (by omega)]
    | succ j =>
      have e : j0 + (j + 1) = j0 + 1 + j := by omega
      have hne : ¬ j0 = j0 + 1 + j := by omega
      have h2 := ih (j0 + 1) j (by simpa using h)
      cases o <;> simp [g_fl, h2, e, upd, hne]
theorem g_w_arr {cA : ClassId} {ad : Nat → Nat} {σ : gS} {L : List gSh} {k n i : Nat} {x : Int32} (h : L[k]? = some (.inl n)) : (g_w cA ad σ 0 L).set k (ad k, .inl (cA, n, .inl (upd (σ k) i x))) = g_w cA ad (up2 σ k i x) 0 L := by
  refine List.ext_getElem? fun j => ?_
  rw [List.getElem?_set, g_w_get, g_w_get]
  by_cases hj : k = j
  · subst hj
    have hlt : k < L.length := (List.getElem?_eq_some_iff.mp h).1
    have hlt2 : k < (g_w cA ad σ 0 L).length := (List.getElem?_eq_some_iff.mp (g_w_at h)).1
    simp [hlt2, h, g_ce, up2_same]
  · simp only [hj, if_false, Nat.zero_add]
    congr 1
    funext sh
    rw [g_ce_congr (up2_ne σ i x (fun e => hj e.symm)).symm sh]
theorem g_w_fld {cA : ClassId} {ad : Nat → Nat} {σ : gS} {L : List gSh} {k ci j : Nat} {fs : List (Option Nat)} {x : Int32} (h : L[k]? = some (.inr (ci, fs))) (hf : fs[j]? = some none) : (g_w cA ad σ 0 L).set k (ad k, .inr (ci, (g_fl ad (σ k) 0 fs).set j (.int x))) = g_w cA ad (up2 σ k j x) 0 L := by
  refine List.ext_getElem? fun i => ?_
  rw [List.getElem?_set, g_w_get, g_w_get]
  by_cases hj : k = i
  · subst hj
    have hlt2 : k < (g_w cA ad σ 0 L).length := (List.getElem?_eq_some_iff.mp (g_w_at h)).1
    have hs := g_fl_set ad (σ k) x fs 0 j hf
    rw [Nat.zero_add] at hs
    simp [hlt2, h, g_ce, up2_same, hs]
  · simp only [hj, if_false, Nat.zero_add]
    congr 1
    funext sh
    rw [g_ce_congr (up2_ne σ j x (fun e => hj e.symm)).symm sh]
/-! ===== a world's fixed things, a method's fixed things ===== -/
/-- launch, classes, class of int rows, addresses, cells -/
abbrev gX : Type := Launch × va_G × ClassId × (Nat → Nat) × List gSh
/-- a method: its name, bytes, locals, answer, room -/
abbrev gM : Type := MethodName × ByteArray × Nat × Option FieldType × Room
def g_A (X : gX) : Nat → Prop := fun q => ∃ k, k < X.2.2.2.2.length ∧ q = X.2.2.2.1 k
abbrev g_wd (X : gX) (σ : gS) : va_W := g_w X.2.2.1 X.2.2.2.1 σ 0 X.2.2.2.2
def g_ordL : List Int32 := [0x0123, 0x0132, 0x0213, 0x0231, 0x0312, 0x0321, 0x1023, 0x1032, 0x1203, 0x1230, 0x1302, 0x1320, 0x2013, 0x2031, 0x2103, 0x2130, 0x2301, 0x2310, 0x3012, 0x3021, 0x3102, 0x3120, 0x3201, 0x3210]
def g_ord (j : Nat) : Int32 := g_ordL.getD j 0
def g_N (U : State) : Prop := va_Nw (.fieldLinkNest "SwapNames" 108 "SwapNames$Texts" "theTurn" "I" "SwapNames") U ∧ va_Nw (.fieldLinkNest "SwapNames" 224 "SwapNames$Sheets" "latest" "I" "SwapNames") U ∧ va_Nw (.fieldLinkNest "SwapNames" 285 "SwapNames$Solver" "values" "[I" "SwapNames") U ∧ va_Nw (.methodLinkNest "SwapNames$Line" 34 yX6_isOutside "SwapNames") U ∧ va_Nw (.methodLinkNest "SwapNames$Sheets" 38 yX6_isOutside "SwapNames") U ∧ va_Nw (.methodLinkNest "SwapNames$Solver" 153 yX6_isOutside "SwapNames") U ∧ va_Nw (.methodLinkNest "SwapNames$Texts" 113 yX6_isOutside "SwapNames") U
theorem g_N.warm {s U : State} (hW : s.WarmedH U.vm) (h : g_N s) : g_N U := ⟨h.1.warmF hW, h.2.1.warmF hW, h.2.2.1.warmF hW, h.2.2.2.1.warmM hW, h.2.2.2.2.1.warmM hW, h.2.2.2.2.2.1.warmM hW, h.2.2.2.2.2.2.warmM hW⟩
theorem g_N.same {s U : State} (e : s.vm = U.vm) (h : g_N s) : g_N U := ⟨h.1.same rfl e, h.2.1.same rfl e, h.2.2.1.same rfl e, h.2.2.2.1.same rfl e, h.2.2.2.2.1.same rfl e, h.2.2.2.2.2.1.same rfl e, h.2.2.2.2.2.2.same rfl e⟩
def g_O (X : gX) (U : State) (H : Heap) : Prop := va_Z "SwapNames" "ORDER" "[I" (.ref (X.2.2.2.1 1000)) (g_A X) U H ∧ va_T .int (X.2.2.2.1 1000) 24 (fun j => .int (g_ord j)) (g_A X) U H
def g_B (X : gX) (U : State) : Prop := va_K X.2.1 vwCl [(X.2.2.1, .int)] U ∧ g_N U ∧ g_O X U U.heap ∧ ∀ i j, i < X.2.2.2.2.length → j < X.2.2.2.2.length → X.2.2.2.1 i = X.2.2.2.1 j → i = j
theorem g_w_len (cA : ClassId) (ad : Nat → Nat) (σ : gS) : ∀ (L : List gSh) (k0 : Nat), (g_w cA ad σ k0 L).length = L.length := by
  intro L
  induction L with
  | nil => intro _; rfl
  | cons o t ih => intro k0; simp [g_w, ih]
theorem g_D {X : gX} {U : State} (h : g_B X U) (σ : gS) : va_D (g_A X) (g_wd X σ) := by
  refine ⟨fun i j p q hi hj e => ?_, fun k q hk => ?_⟩
  · have li : i < X.2.2.2.2.length := by rw [← g_w_len X.2.2.1 X.2.2.2.1 σ X.2.2.2.2 0]; exact (List.getElem?_eq_some_iff.mp hi).1
    have lj : j < X.2.2.2.2.length := by rw [← g_w_len X.2.2.1 X.2.2.2.1 σ X.2.2.2.2 0]; exact (List.getElem?_eq_some_iff.mp hj).1
    rw [g_w_get, List.getElem?_eq_getElem li] at hi
    rw [g_w_get, List.getElem?_eq_getElem lj] at hj
    simp at hi hj
    refine h.2.2.2 i j li lj ?_
    rw [← hi, ← hj] at e
    exact e
  · have lk : k < X.2.2.2.2.length := by rw [← g_w_len X.2.2.1 X.2.2.2.1 σ X.2.2.2.2 0]; exact (List.getElem?_eq_some_iff.mp hk).1
    rw [g_w_get, List.getElem?_eq_getElem lk] at hk
    simp at hk
    exact ⟨k, lk, by rw [← hk]⟩
def g_Pc (X : gX) (as : List Value) (σ : gS) : Array Value → State → Prop := va_Pc (as.map (g_c X.2.2.2.1)) (fun U => g_B X U ∧ va_P X.2.1 vwCl (g_wd X σ) U.heap)
def g_Qc (X : gX) (Q : Option Value → gS → Prop) : Array Value → State → Outcome → State → Prop := fun _ st oc t => (∃ (rv : Option Value) (σ' : gS), oc = .returned (rv.map (g_c X.2.2.2.1)) ∧ Q rv σ' ∧ va_P X.2.1 vwCl (g_wd X σ') t.heap) ∧ va_F (g_A X) st t
abbrev g_ws (M : gM) : List Cond := .code M.1 M.2.1 M.2.2.1 M.2.2.2.1 :: tw
/-- a method's contract over numbers -/
def GM (X : gX) (M : gM) (as : List Value) (σ : gS) (Q : Option Value → gS → Prop) : Prop := Met X.1 M.1 (g_ws M) M.2.2.2.2 (g_Pc X as σ) (g_Qc X Q) 0 0 (g_A X)
/-- the machine within a method -/
def g_at (X : gX) (M : gM) (p : Program) (s : State) (m : MethodId) (args : Array Value) (meth : Method) (c : Code) : Prop := p.tables.exec = Jvm.exec ∧ c.code = M.2.1 ∧ meth.sig.returnType = M.2.2.2.1 ∧ meth.locks = false ∧ c.maxLocals = M.2.2.1 ∧ s.vm.findClass M.1.cls = some m.cls ∧ (∀ w ∈ tw, w.before args s = true) ∧ g_B X s
/-- the locals by their places -/
def g_lv (ad : Nat → Nat) (lsA : Array Slot) (nL : Nat) (ls : List (Option Value)) : Prop := lsA.size = nL ∧ lv_wf lsA ∧ ∀ (i : Nat) (v : Value), ls[i]? = some (some v) → lsA[i]? = some (Slot.val (g_c ad v))
/-- the machine stands at pc of method M with these locals, this stack, these numbers: it comes to its end with Q -/
def G (X : gX) (M : gM) (Q : Option Value → gS → Prop) (pc : Nat) (ls : List (Option Value)) (st : List Value) (σ : gS) : Prop := ∀ (p : Program) (e : Env) (s : State) (m : MethodId) (args : Array Value) (below : List Frame) (meth : Method) (c : Code) (H : Heap) (locs : List Loc) (lsA : Array Slot), g_at X M p s m args meth c → va_S (g_A X) s.heap H locs → va_P X.2.1 vwCl (g_wd X σ) H → g_lv X.2.2.2.1 lsA M.2.2.1 ls → W p X.1 e M.2.2.2.2 s m args below meth c H locs 0 0 (MQ below (g_Qc X Q) args s 0 0 (g_A X)) (F0 m pc lsA (st.map (g_c X.2.2.2.1)))
theorem g_cat (ad : Nat → Nat) (v : Value) : (g_c ad v).category = v.category := by cases v <;> rfl
/-! ===== stores ===== -/
def g_ll (ad : Nat → Nat) : Nat → List (Option Value) → List (Nat × Value)
  | _, [] => []
  | j, some v :: t => (j, g_c ad v) :: g_ll ad (j + 1) t
  | j, none :: t => g_ll ad (j + 1) t
theorem g_ll_in (ad : Nat → Nat) : ∀ (ls : List (Option Value)) (j0 i : Nat) (v : Value), ls[i]? = some (some v) → (j0 + i, g_c ad v) ∈ g_ll ad j0 ls := by
  intro ls
  induction ls with
  | nil => intro j0 i v h; simp at h
  | cons o t ih =>
    intro j0 i v h
    cases i with
    | zero =>
      simp at h
      subst h
      simp [g_ll]
    | succ i =>
      have e : j0 + (i + 1) = j0 + 1 + i := by omega
      have h2 := ih (j0 + 1) i v (by simpa using h)
      rw [e]
      cases o with
      | none => exact h2
      | some u => exact List.mem_cons_of_mem _ h2
theorem g_ll_of (ad : Nat → Nat) : ∀ (ls : List (Option Value)) (j0 : Nat) (q : Nat × Value), q ∈ g_ll ad j0 ls → ∃ i v, ls[i]? = some (some v) ∧ q = (j0 + i, g_c ad v) := by
  intro ls
  induction ls with
  | nil => intro j0 q h; simp [g_ll] at h
  | cons o t ih =>
    intro j0 q h
    cases o with
    | none =>
      obtain ⟨i, v, h1, h2⟩ := ih (j0 + 1) q h
      exact ⟨i + 1, v, by simpa using h1, by rw [h2]; congr 1; omega⟩
    | some u =>
      rcases List.mem_cons.mp h with h | h
      · exact ⟨0, u, rfl, h⟩
      · obtain ⟨i, v, h1, h2⟩ := ih (j0 + 1) q h
        exact ⟨i + 1, v, by simpa using h1, by rw [h2]; congr 1; omega⟩
theorem g_lv.has {ad : Nat → Nat} {lsA : Array Slot} {nL : Nat} {ls : List (Option Value)} (h : g_lv ad lsA nL ls) : lv_has lsA nL (g_ll ad 0 ls) := by
  refine ⟨h.1, h.2.1, fun q hq => ?_⟩
  obtain ⟨i, v, h1, h2⟩ := g_ll_of ad ls 0 q hq
  rw [h2, Nat.zero_add]
  exact h.2.2 i v h1
/-- no long stands just below place i -/
def g_nc (ls : List (Option Value)) (i : Nat) : Prop := ∀ j v, ls[j]? = some (some v) → j + 1 = i → v.category = 1
theorem g_lv.st1 {ad : Nat → Nat} {lsB : Array Slot} {nL i : Nat} {ls : List (Option Value)} {v : Value} (hn : g_nc ls i) (h : lv_has lsB nL ((i, g_c ad v) :: (g_ll ad 0 ls).filter (fun q => !(q.1 == i) && !(q.1 + 1 == i && q.2.category == 2)))) : g_lv ad lsB nL (ls.set i (some v)) := by
  refine ⟨h.1, h.2.1, fun j w hj => ?_⟩
  rw [List.getElem?_set] at hj
  by_cases hij : i = j
  · subst hij
    rw [if_pos rfl] at hj
    split at hj
    · simp at hj
      subst hj
      exact h.2.2 (i, g_c ad v) List.mem_cons_self
    · cases hj
  · rw [if_neg hij] at hj
    have h1 := g_ll_in ad ls 0 j w hj
    rw [Nat.zero_add] at h1
    refine h.2.2 (j, g_c ad w) (List.mem_cons_of_mem _ (List.mem_filter.mpr ⟨h1, ?_⟩))
    have h2 : ¬ (j = i) := fun e => hij e.symm
    by_cases h3 : j + 1 = i
    · have := hn j w hj h3
      simp [h2, g_cat, this]
    · simp [h2, h3]
theorem g_lv.st2 {ad : Nat → Nat} {lsB : Array Slot} {nL i : Nat} {ls : List (Option Value)} {v : Value} (hn : g_nc ls i) (h : lv_has lsB nL ((i, g_c ad v) :: (g_ll ad 0 ls).filter (fun q => !(q.1 == i) && (!(q.1 == i + 1) && !(q.1 + 1 == i && q.2.category == 2))))) : g_lv ad lsB nL ((ls.set i (some v)).set (i + 1) none) := by
  refine ⟨h.1, h.2.1, fun j w hj => ?_⟩
  rw [List.getElem?_set] at hj
  by_cases hi1 : i + 1 = j
  · rw [if_pos hi1] at hj
    split at hj <;> simp at hj
  · rw [if_neg hi1, List.getElem?_set] at hj
    by_cases hij : i = j
    · subst hij
      rw [if_pos rfl] at hj
      split at hj
      · simp at hj
        subst hj
        exact h.2.2 (i, g_c ad v) List.mem_cons_self
      · cases hj
    · rw [if_neg hij] at hj
      have h1 := g_ll_in ad ls 0 j w hj
      rw [Nat.zero_add] at h1
      refine h.2.2 (j, g_c ad w) (List.mem_cons_of_mem _ (List.mem_filter.mpr ⟨h1, ?_⟩))
      have h2 : ¬ (j = i) := fun e => hij e.symm
      have h4 : ¬ (j = i + 1) := fun e => hi1 e.symm
      by_cases h3 : j + 1 = i
      · have := hn j w hj h3
        simp [h2, h4, g_cat, this]
      · simp [h2, h3, h4]
section G1
variable {X : gX} {M : gM} {Q : Option Value → gS → Prop} {pc : Nat} {ls : List (Option Value)} {st : List Value} {σ : gS}
theorem G.iconst {n : Int} {v : Int32} (hv : Int32.ofInt n = v) (hd : decode M.2.1 pc = .ok (.iconst n, 1)) (k : G X M Q (pc + 1) ls (.int v :: st) σ) : G X M Q pc ls (st) σ := fun p e s m args below meth c H locs lsA C hS hP hl => lv_iconst C.1 C.2.1  hd hv (k p e s m args below meth c H locs lsA C hS hP hl)
theorem G.bipush {n : Int} {v : Int32} (hv : (Int8.ofInt n).toInt32 = v) (hd : decode M.2.1 pc = .ok (.bipush n, 2)) (k : G X M Q (pc + 2) ls (.int v :: st) σ) : G X M Q pc ls (st) σ := fun p e s m args below meth c H locs lsA C hS hP hl => lv_bipush C.1 C.2.1  hd hv (k p e s m args below meth c H locs lsA C hS hP hl)
theorem G.sipush {n : Int} {v : Int32} (hv : (Int16.ofInt n).toInt32 = v) (hd : decode M.2.1 pc = .ok (.sipush n, 3)) (k : G X M Q (pc + 3) ls (.int v :: st) σ) : G X M Q pc ls (st) σ := fun p e s m args below meth c H locs lsA C hS hP hl => lv_sipush C.1 C.2.1  hd hv (k p e s m args below meth c H locs lsA C hS hP hl)
theorem G.lconst {n : Fin 2} {v : Int64} (hv : Int64.ofNat (n : Nat) = v) (hd : decode M.2.1 pc = .ok (.lconst n, 1)) (k : G X M Q (pc + 1) ls (.long v :: st) σ) : G X M Q pc ls (st) σ := fun p e s m args below meth c H locs lsA C hS hP hl => lv_lconst C.1 C.2.1  hd hv (k p e s m args below meth c H locs lsA C hS hP hl)
theorem G.ldc {index : Nat} {v : Int32} (hw : Cond.constant M.1.cls index v ∈ tw) (hd : decode M.2.1 pc = .ok (.ldc index, 2)) (k : G X M Q (pc + 2) ls (.int v :: st) σ) : G X M Q pc ls (st) σ := fun p e s m args below meth c H locs lsA C hS hP hl => lv_ldc C.1 C.2.1 C.2.2.2.2.2.1 (C.2.2.2.2.2.2.1 _ hw) hd  (k p e s m args below meth c H locs lsA C hS hP hl)
theorem G.ldcw {index : Nat} {v : Int32} (hw : Cond.constant M.1.cls index v ∈ tw) (hd : decode M.2.1 pc = .ok (.ldc_w index, 3)) (k : G X M Q (pc + 3) ls (.int v :: st) σ) : G X M Q pc ls (st) σ := fun p e s m args below meth c H locs lsA C hS hP hl => lv_ldcw C.1 C.2.1 C.2.2.2.2.2.1 (C.2.2.2.2.2.2.1 _ hw) hd  (k p e s m args below meth c H locs lsA C hS hP hl)
theorem G.ldc2 {index : Nat} {v : Int64} (hw : Cond.constantLong M.1.cls index v ∈ tw) (hd : decode M.2.1 pc = .ok (.ldc2_w index, 3)) (k : G X M Q (pc + 3) ls (.long v :: st) σ) : G X M Q pc ls (st) σ := fun p e s m args below meth c H locs lsA C hS hP hl => lv_ldc2 C.1 C.2.1 C.2.2.2.2.2.1 (C.2.2.2.2.2.2.1 _ hw) hd  (k p e s m args below meth c H locs lsA C hS hP hl)
theorem G.iadd {x y : Int32} (hd : decode M.2.1 pc = .ok (.iadd, 1)) (k : G X M Q (pc + 1) ls (.int (x + y) :: st) σ) : G X M Q pc ls (.int y :: .int x :: st) σ := fun p e s m args below meth c H locs lsA C hS hP hl => lv_iadd C.1 C.2.1  hd  (k p e s m args below meth c H locs lsA C hS hP hl)
theorem G.isub {x y : Int32} (hd : decode M.2.1 pc = .ok (.isub, 1)) (k : G X M Q (pc + 1) ls (.int (x - y) :: st) σ) : G X M Q pc ls (.int y :: .int x :: st) σ := fun p e s m args below meth c H locs lsA C hS hP hl => lv_isub C.1 C.2.1  hd  (k p e s m args below meth c H locs lsA C hS hP hl)
theorem G.imul {x y : Int32} (hd : decode M.2.1 pc = .ok (.imul, 1)) (k : G X M Q (pc + 1) ls (.int (x * y) :: st) σ) : G X M Q pc ls (.int y :: .int x :: st) σ := fun p e s m args below meth c H locs lsA C hS hP hl => lv_imul C.1 C.2.1  hd  (k p e s m args below meth c H locs lsA C hS hP hl)
theorem G.iand {x y : Int32} (hd : decode M.2.1 pc = .ok (.iand, 1)) (k : G X M Q (pc + 1) ls (.int (x &&& y) :: st) σ) : G X M Q pc ls (.int y :: .int x :: st) σ := fun p e s m args below meth c H locs lsA C hS hP hl => lv_iand C.1 C.2.1  hd  (k p e s m args below meth c H locs lsA C hS hP hl)
theorem G.ior {x y : Int32} (hd : decode M.2.1 pc = .ok (.ior, 1)) (k : G X M Q (pc + 1) ls (.int (x ||| y) :: st) σ) : G X M Q pc ls (.int y :: .int x :: st) σ := fun p e s m args below meth c H locs lsA C hS hP hl => lv_ior C.1 C.2.1  hd  (k p e s m args below meth c H locs lsA C hS hP hl)
theorem G.ixor {x y : Int32} (hd : decode M.2.1 pc = .ok (.ixor, 1)) (k : G X M Q (pc + 1) ls (.int (x ^^^ y) :: st) σ) : G X M Q pc ls (.int y :: .int x :: st) σ := fun p e s m args below meth c H locs lsA C hS hP hl => lv_ixor C.1 C.2.1  hd  (k p e s m args below meth c H locs lsA C hS hP hl)
theorem G.ishl {x y : Int32} (hd : decode M.2.1 pc = .ok (.ishl, 1)) (k : G X M Q (pc + 1) ls (.int (x <<< (y &&& 31)) :: st) σ) : G X M Q pc ls (.int y :: .int x :: st) σ := fun p e s m args below meth c H locs lsA C hS hP hl => lv_ishl C.1 C.2.1  hd  (k p e s m args below meth c H locs lsA C hS hP hl)
theorem G.ishr {x y : Int32} (hd : decode M.2.1 pc = .ok (.ishr, 1)) (k : G X M Q (pc + 1) ls (.int (x >>> (y &&& 31)) :: st) σ) : G X M Q pc ls (.int y :: .int x :: st) σ := fun p e s m args below meth c H locs lsA C hS hP hl => lv_ishr C.1 C.2.1  hd  (k p e s m args below meth c H locs lsA C hS hP hl)
theorem G.idiv {x y : Int32} (hne : ¬ y = 0) (hd : decode M.2.1 pc = .ok (.idiv, 1)) (k : G X M Q (pc + 1) ls (.int (x / y) :: st) σ) : G X M Q pc ls (.int y :: .int x :: st) σ := fun p e s m args below meth c H locs lsA C hS hP hl => lv_idiv C.1 C.2.1  hd hne (k p e s m args below meth c H locs lsA C hS hP hl)
theorem G.irem {x y : Int32} (hne : ¬ y = 0) (hd : decode M.2.1 pc = .ok (.irem, 1)) (k : G X M Q (pc + 1) ls (.int (x - x / y * y) :: st) σ) : G X M Q pc ls (.int y :: .int x :: st) σ := fun p e s m args below meth c H locs lsA C hS hP hl => lv_irem C.1 C.2.1  hd hne (k p e s m args below meth c H locs lsA C hS hP hl)
theorem G.iushr {x y v : Int32} (hv : (x.toUInt32 >>> (y.toUInt32 &&& Int32.toUInt32 31)).toInt32 = v) (hd : decode M.2.1 pc = .ok (.iushr, 1)) (k : G X M Q (pc + 1) ls (.int v :: st) σ) : G X M Q pc ls (.int y :: .int x :: st) σ := fun p e s m args below meth c H locs lsA C hS hP hl => lv_iushr C.1 C.2.1  hd hv (k p e s m args below meth c H locs lsA C hS hP hl)
theorem G.i2l {x : Int32} (hd : decode M.2.1 pc = .ok (.i2l, 1)) (k : G X M Q (pc + 1) ls (.long x.toInt64 :: st) σ) : G X M Q pc ls (.int x :: st) σ := fun p e s m args below meth c H locs lsA C hS hP hl => lv_i2l C.1 C.2.1  hd rfl (k p e s m args below meth c H locs lsA C hS hP hl)
theorem G.i2b {x : Int32} (hd : decode M.2.1 pc = .ok (.i2b, 1)) (k : G X M Q (pc + 1) ls (.int x.toInt8.toInt32 :: st) σ) : G X M Q pc ls (.int x :: st) σ := fun p e s m args below meth c H locs lsA C hS hP hl => lv_i2b C.1 C.2.1  hd rfl (k p e s m args below meth c H locs lsA C hS hP hl)
theorem G.i2s {x : Int32} (hd : decode M.2.1 pc = .ok (.i2s, 1)) (k : G X M Q (pc + 1) ls (.int x.toInt16.toInt32 :: st) σ) : G X M Q pc ls (.int x :: st) σ := fun p e s m args below meth c H locs lsA C hS hP hl => lv_i2s C.1 C.2.1  hd rfl (k p e s m args below meth c H locs lsA C hS hP hl)
theorem G.ladd {x y : Int64} (hd : decode M.2.1 pc = .ok (.ladd, 1)) (k : G X M Q (pc + 1) ls (.long (x + y) :: st) σ) : G X M Q pc ls (.long y :: .long x :: st) σ := fun p e s m args below meth c H locs lsA C hS hP hl => lv_ladd C.1 C.2.1  hd  (k p e s m args below meth c H locs lsA C hS hP hl)
theorem G.lmul {x y : Int64} (hd : decode M.2.1 pc = .ok (.lmul, 1)) (k : G X M Q (pc + 1) ls (.long (x * y) :: st) σ) : G X M Q pc ls (.long y :: .long x :: st) σ := fun p e s m args below meth c H locs lsA C hS hP hl => lv_lmul C.1 C.2.1  hd  (k p e s m args below meth c H locs lsA C hS hP hl)
theorem G.lcmp {x y : Int64} (hd : decode M.2.1 pc = .ok (.lcmp, 1)) (k : G X M Q (pc + 1) ls (.int (lg_cmp x y) :: st) σ) : G X M Q pc ls (.long y :: .long x :: st) σ := fun p e s m args below meth c H locs lsA C hS hP hl => W.lcmp C.1 C.2.1  hd  (k p e s m args below meth c H locs lsA C hS hP hl)
theorem G.dupi {x : Int32} (hd : decode M.2.1 pc = .ok (.dup, 1)) (k : G X M Q (pc + 1) ls (.int x :: .int x :: st) σ) : G X M Q pc ls (.int x :: st) σ := fun p e s m args below meth c H locs lsA C hS hP hl => lv_dup C.1 C.2.1  hd rfl (k p e s m args below meth c H locs lsA C hS hP hl)
theorem G.dupr {x : Nat} (hd : decode M.2.1 pc = .ok (.dup, 1)) (k : G X M Q (pc + 1) ls (.ref x :: .ref x :: st) σ) : G X M Q pc ls (.ref x :: st) σ := fun p e s m args below meth c H locs lsA C hS hP hl => lv_dup C.1 C.2.1  hd rfl (k p e s m args below meth c H locs lsA C hS hP hl)
theorem G.dup2 {x : Int32} {a : Nat} (hd : decode M.2.1 pc = .ok (.dup2, 1)) (k : G X M Q (pc + 1) ls (.int x :: .ref a :: .int x :: .ref a :: st) σ) : G X M Q pc ls (.int x :: .ref a :: st) σ := fun p e s m args below meth c H locs lsA C hS hP hl => lv_dup2_11 C.1 C.2.1  hd rfl rfl (k p e s m args below meth c H locs lsA C hS hP hl)
theorem G.popi {x : Int32} (hd : decode M.2.1 pc = .ok (.pop, 1)) (k : G X M Q (pc + 1) ls (st) σ) : G X M Q pc ls (.int x :: st) σ := fun p e s m args below meth c H locs lsA C hS hP hl => lv_pop C.1 C.2.1  hd rfl (k p e s m args below meth c H locs lsA C hS hP hl)
theorem G.iload_n {k : Fin 4} {x : Int32} (hl0 : ls[(k : Nat)]? = some (some (.int x))) (hd : decode M.2.1 pc = .ok (.iload_n k, 1)) (k1 : G X M Q (pc + 1) ls (.int x :: st) σ) : G X M Q pc ls st σ := fun p e s m args below meth c H locs lsA C hS hP hl => lv_iload_n C.1 C.2.1 hd rfl (hl.2.2 _ _ hl0) (k1 p e s m args below meth c H locs lsA C hS hP hl)
theorem G.iload {i : Nat} {x : Int32} (hl0 : ls[i]? = some (some (.int x))) (hd : decode M.2.1 pc = .ok (.iload i, 2)) (k1 : G X M Q (pc + 2) ls (.int x :: st) σ) : G X M Q pc ls st σ := fun p e s m args below meth c H locs lsA C hS hP hl => lv_iload C.1 C.2.1 hd (hl.2.2 _ _ hl0) (k1 p e s m args below meth c H locs lsA C hS hP hl)
theorem G.lload_n {k : Fin 4} {x : Int64} (hl0 : ls[(k : Nat)]? = some (some (.long x))) (hd : decode M.2.1 pc = .ok (.lload_n k, 1)) (k1 : G X M Q (pc + 1) ls (.long x :: st) σ) : G X M Q pc ls st σ := fun p e s m args below meth c H locs lsA C hS hP hl => lv_lload_n C.1 C.2.1 hd rfl (hl.2.2 _ _ hl0) (k1 p e s m args below meth c H locs lsA C hS hP hl)
theorem G.lload {i : Nat} {x : Int64} (hl0 : ls[i]? = some (some (.long x))) (hd : decode M.2.1 pc = .ok (.lload i, 2)) (k1 : G X M Q (pc + 2) ls (.long x :: st) σ) : G X M Q pc ls st σ := fun p e s m args below meth c H locs lsA C hS hP hl => lv_lload C.1 C.2.1 hd (hl.2.2 _ _ hl0) (k1 p e s m args below meth c H locs lsA C hS hP hl)
theorem G.aload_n {k : Fin 4} {x : Nat} (hl0 : ls[(k : Nat)]? = some (some (.ref x))) (hd : decode M.2.1 pc = .ok (.aload_n k, 1)) (k1 : G X M Q (pc + 1) ls (.ref x :: st) σ) : G X M Q pc ls st σ := fun p e s m args below meth c H locs lsA C hS hP hl => lv_aload_n C.1 C.2.1 hd rfl (hl.2.2 _ _ hl0) (k1 p e s m args below meth c H locs lsA C hS hP hl)
theorem G.aload {i : Nat} {x : Nat} (hl0 : ls[i]? = some (some (.ref x))) (hd : decode M.2.1 pc = .ok (.aload i, 2)) (k1 : G X M Q (pc + 2) ls (.ref x :: st) σ) : G X M Q pc ls st σ := fun p e s m args below meth c H locs lsA C hS hP hl => lv_aload C.1 C.2.1 hd (hl.2.2 _ _ hl0) (k1 p e s m args below meth c H locs lsA C hS hP hl)
theorem G.istore_n {k : Fin 4} {x : Int32} (hi : (k : Nat) < M.2.2.1) (hn : g_nc ls k) (hd : decode M.2.1 pc = .ok (.istore_n k, 1)) (k1 : G X M Q (pc + 1) (ls.set k (some (.int x))) st σ) : G X M Q pc ls (.int x :: st) σ := fun p e s m args below meth c H locs lsA C hS hP hl => lv_istore_n C.1 C.2.1 hd rfl hl.has hi rfl (fun ls' h' => k1 p e s m args below meth c H locs ls' C hS hP (g_lv.st1 (v := .int x) hn h'))
theorem G.istore {i : Nat} {x : Int32} (hi : i < M.2.2.1) (hn : g_nc ls i) (hd : decode M.2.1 pc = .ok (.istore i, 2)) (k1 : G X M Q (pc + 2) (ls.set i (some (.int x))) st σ) : G X M Q pc ls (.int x :: st) σ := fun p e s m args below meth c H locs lsA C hS hP hl => lv_istore C.1 C.2.1 hd hl.has hi rfl (fun ls' h' => k1 p e s m args below meth c H locs ls' C hS hP (g_lv.st1 (v := .int x) hn h'))
theorem G.lstore_n {k : Fin 4} {x : Int64} (hi : (k : Nat) + 1 < M.2.2.1) (hn : g_nc ls k) (hd : decode M.2.1 pc = .ok (.lstore_n k, 1)) (k1 : G X M Q (pc + 1) ((ls.set k (some (.long x))).set (k + 1) none) st σ) : G X M Q pc ls (.long x :: st) σ := fun p e s m args below meth c H locs lsA C hS hP hl => lv_lstore_n C.1 C.2.1 hd rfl hl.has hi rfl (fun ls' h' => k1 p e s m args below meth c H locs ls' C hS hP (g_lv.st2 (v := .long x) hn h'))
theorem G.lstore {i : Nat} {x : Int64} (hi : i + 1 < M.2.2.1) (hn : g_nc ls i) (hd : decode M.2.1 pc = .ok (.lstore i, 2)) (k1 : G X M Q (pc + 2) ((ls.set i (some (.long x))).set (i + 1) none) st σ) : G X M Q pc ls (.long x :: st) σ := fun p e s m args below meth c H locs lsA C hS hP hl => lv_lstore C.1 C.2.1 hd hl.has hi rfl (fun ls' h' => k1 p e s m args below meth c H locs ls' C hS hP (g_lv.st2 (v := .long x) hn h'))
theorem G.iinc0 {i : Nat} {n : Int} {x d : Int32} (hl0 : ls[i]? = some (some (.int x))) (hv : Int32.ofInt n = d) (hi : i < M.2.2.1) (hn : g_nc ls i) (hd : decode M.2.1 pc = .ok (.iinc i n, 3)) (k1 : G X M Q (pc + 3) (ls.set i (some (.int (x + d)))) st σ) : G X M Q pc ls st σ := fun p e s m args below meth c H locs lsA C hS hP hl => by
  have hm := g_ll_in X.2.2.2.1 ls 0 i _ hl0
  rw [Nat.zero_add] at hm
  obtain ⟨q, hq⟩ := List.getElem?_of_mem hm
  exact lv_iinc C.1 C.2.1 hd hl.has hq (by rw [hv]) hi rfl (fun ls' h' => k1 p e s m args below meth c H locs ls' C hS hP (g_lv.st1 (v := .int (x + d)) hn h'))
def g_c1 : Option Value → Bool
  | some (.long _) => false
  | some (.double _) => false
  | _ => true
theorem g_c1_of {o : Option Value} (h : g_c1 o = true) : ∀ v, o = some v → v.category = 1 := by
  intro v e
  subst e
  cases v <;> first | rfl | cases h
theorem g_nc0 {ls : List (Option Value)} : g_nc ls 0 := fun j v _ h => by omega
theorem g_ncs {ls : List (Option Value)} {i : Nat} {o : Option Value} (h : ls[i]? = some o) (h1 : g_c1 o = true) : g_nc ls (i + 1) := fun j v hj e => by
  have e2 : j = i := by omega
  subst e2
  rw [h] at hj
  exact g_c1_of h1 v (Option.some.inj hj)
theorem G.ist0 {q0 : Option Value} {t : List (Option Value)} {x : Int32} (hi : 0 < M.2.2.1) (hd : decode M.2.1 pc = .ok (.istore_n 0, 1)) (k1 : G X M Q (pc + 1) (some (.int x) :: t) st σ) : G X M Q pc (q0 :: t) (.int x :: st) σ := G.istore_n (k := 0) hi g_nc0 hd k1
theorem G.inc0 {t : List (Option Value)} {n : Int} {x d : Int32} (hv : Int32.ofInt n = d) (hi : 0 < M.2.2.1) (hd : decode M.2.1 pc = .ok (.iinc 0 n, 3)) (k1 : G X M Q (pc + 3) (some (.int (x + d)) :: t) st σ) : G X M Q pc (some (.int x) :: t) st σ := G.iinc0 (i := 0) rfl hv hi g_nc0 hd k1
theorem G.lst0 {q0 q1 : Option Value} {t : List (Option Value)} {x : Int64} (hi : 0 + 1 < M.2.2.1) (hd : decode M.2.1 pc = .ok (.lstore_n 0, 1)) (k1 : G X M Q (pc + 1) (some (.long x) :: none :: t) st σ) : G X M Q pc (q0 :: q1 :: t) (.long x :: st) σ := G.lstore_n (k := 0) hi g_nc0 hd k1
theorem G.ist1 {q0 q1 : Option Value} {t : List (Option Value)} {x : Int32} (hi : 1 < M.2.2.1) (hc : g_c1 q0 = true) (hd : decode M.2.1 pc = .ok (.istore_n 1, 1)) (k1 : G X M Q (pc + 1) (q0 :: some (.int x) :: t) st σ) : G X M Q pc (q0 :: q1 :: t) (.int x :: st) σ := G.istore_n (k := 1) hi (g_ncs (o := q0) rfl hc) hd k1
theorem G.inc1 {q0 : Option Value} {t : List (Option Value)} {n : Int} {x d : Int32} (hv : Int32.ofInt n = d) (hi : 1 < M.2.2.1) (hc : g_c1 q0 = true) (hd : decode M.2.1 pc = .ok (.iinc 1 n, 3)) (k1 : G X M Q (pc + 3) (q0 :: some (.int (x + d)) :: t) st σ) : G X M Q pc (q0 :: some (.int x) :: t) st σ := G.iinc0 (i := 1) rfl hv hi (g_ncs (o := q0) rfl hc) hd k1
theorem G.lst1 {q0 q1 q2 : Option Value} {t : List (Option Value)} {x : Int64} (hi : 1 + 1 < M.2.2.1) (hc : g_c1 q0 = true) (hd : decode M.2.1 pc = .ok (.lstore_n 1, 1)) (k1 : G X M Q (pc + 1) (q0 :: some (.long x) :: none :: t) st σ) : G X M Q pc (q0 :: q1 :: q2 :: t) (.long x :: st) σ := G.lstore_n (k := 1) hi (g_ncs (o := q0) rfl hc) hd k1
theorem G.ist2 {q0 q1 q2 : Option Value} {t : List (Option Value)} {x : Int32} (hi : 2 < M.2.2.1) (hc : g_c1 q1 = true) (hd : decode M.2.1 pc = .ok (.istore_n 2, 1)) (k1 : G X M Q (pc + 1) (q0 :: q1 :: some (.int x) :: t) st σ) : G X M Q pc (q0 :: q1 :: q2 :: t) (.int x :: st) σ := G.istore_n (k := 2) hi (g_ncs (o := q1) rfl hc) hd k1
theorem G.inc2 {q0 q1 : Option Value} {t : List (Option Value)} {n : Int} {x d : Int32} (hv : Int32.ofInt n = d) (hi : 2 < M.2.2.1) (hc : g_c1 q1 = true) (hd : decode M.2.1 pc = .ok (.iinc 2 n, 3)) (k1 : G X M Q (pc + 3) (q0 :: q1 :: some (.int (x + d)) :: t) st σ) : G X M Q pc (q0 :: q1 :: some (.int x) :: t) st σ := G.iinc0 (i := 2) rfl hv hi (g_ncs (o := q1) rfl hc) hd k1
theorem G.lst2 {q0 q1 q2 q3 : Option Value} {t : List (Option Value)} {x : Int64} (hi : 2 + 1 < M.2.2.1) (hc : g_c1 q1 = true) (hd : decode M.2.1 pc = .ok (.lstore_n 2, 1)) (k1 : G X M Q (pc + 1) (q0 :: q1 :: some (.long x) :: none :: t) st σ) : G X M Q pc (q0 :: q1 :: q2 :: q3 :: t) (.long x :: st) σ := G.lstore_n (k := 2) hi (g_ncs (o := q1) rfl hc) hd k1
theorem G.ist3 {q0 q1 q2 q3 : Option Value} {t : List (Option Value)} {x : Int32} (hi : 3 < M.2.2.1) (hc : g_c1 q2 = true) (hd : decode M.2.1 pc = .ok (.istore_n 3, 1)) (k1 : G X M Q (pc + 1) (q0 :: q1 :: q2 :: some (.int x) :: t) st σ) : G X M Q pc (q0 :: q1 :: q2 :: q3 :: t) (.int x :: st) σ := G.istore_n (k := 3) hi (g_ncs (o := q2) rfl hc) hd k1
theorem G.inc3 {q0 q1 q2 : Option Value} {t : List (Option Value)} {n : Int} {x d : Int32} (hv : Int32.ofInt n = d) (hi : 3 < M.2.2.1) (hc : g_c1 q2 = true) (hd : decode M.2.1 pc = .ok (.iinc 3 n, 3)) (k1 : G X M Q (pc + 3) (q0 :: q1 :: q2 :: some (.int (x + d)) :: t) st σ) : G X M Q pc (q0 :: q1 :: q2 :: some (.int x) :: t) st σ := G.iinc0 (i := 3) rfl hv hi (g_ncs (o := q2) rfl hc) hd k1
theorem G.lst3 {q0 q1 q2 q3 q4 : Option Value} {t : List (Option Value)} {x : Int64} (hi : 3 + 1 < M.2.2.1) (hc : g_c1 q2 = true) (hd : decode M.2.1 pc = .ok (.lstore_n 3, 1)) (k1 : G X M Q (pc + 1) (q0 :: q1 :: q2 :: some (.long x) :: none :: t) st σ) : G X M Q pc (q0 :: q1 :: q2 :: q3 :: q4 :: t) (.long x :: st) σ := G.lstore_n (k := 3) hi (g_ncs (o := q2) rfl hc) hd k1
theorem G.ist4 {q0 q1 q2 q3 q4 : Option Value} {t : List (Option Value)} {x : Int32} (hi : 4 < M.2.2.1) (hc : g_c1 q3 = true) (hd : decode M.2.1 pc = .ok (.istore 4, 2)) (k1 : G X M Q (pc + 2) (q0 :: q1 :: q2 :: q3 :: some (.int x) :: t) st σ) : G X M Q pc (q0 :: q1 :: q2 :: q3 :: q4 :: t) (.int x :: st) σ := G.istore (i := 4) hi (g_ncs (o := q3) rfl hc) hd k1
theorem G.inc4 {q0 q1 q2 q3 : Option Value} {t : List (Option Value)} {n : Int} {x d : Int32} (hv : Int32.ofInt n = d) (hi : 4 < M.2.2.1) (hc : g_c1 q3 = true) (hd : decode M.2.1 pc = .ok (.iinc 4 n, 3)) (k1 : G X M Q (pc + 3) (q0 :: q1 :: q2 :: q3 :: some (.int (x + d)) :: t) st σ) : G X M Q pc (q0 :: q1 :: q2 :: q3 :: some (.int x) :: t) st σ := G.iinc0 (i := 4) rfl hv hi (g_ncs (o := q3) rfl hc) hd k1
theorem G.lst4 {q0 q1 q2 q3 q4 q5 : Option Value} {t : List (Option Value)} {x : Int64} (hi : 4 + 1 < M.2.2.1) (hc : g_c1 q3 = true) (hd : decode M.2.1 pc = .ok (.lstore 4, 2)) (k1 : G X M Q (pc + 2) (q0 :: q1 :: q2 :: q3 :: some (.long x) :: none :: t) st σ) : G X M Q pc (q0 :: q1 :: q2 :: q3 :: q4 :: q5 :: t) (.long x :: st) σ := G.lstore (i := 4) hi (g_ncs (o := q3) rfl hc) hd k1
theorem G.ist5 {q0 q1 q2 q3 q4 q5 : Option Value} {t : List (Option Value)} {x : Int32} (hi : 5 < M.2.2.1) (hc : g_c1 q4 = true) (hd : decode M.2.1 pc = .ok (.istore 5, 2)) (k1 : G X M Q (pc + 2) (q0 :: q1 :: q2 :: q3 :: q4 :: some (.int x) :: t) st σ) : G X M Q pc (q0 :: q1 :: q2 :: q3 :: q4 :: q5 :: t) (.int x :: st) σ := G.istore (i := 5) hi (g_ncs (o := q4) rfl hc) hd k1
theorem G.inc5 {q0 q1 q2 q3 q4 : Option Value} {t : List (Option Value)} {n : Int} {x d : Int32} (hv : Int32.ofInt n = d) (hi : 5 < M.2.2.1) (hc : g_c1 q4 = true) (hd : decode M.2.1 pc = .ok (.iinc 5 n, 3)) (k1 : G X M Q (pc + 3) (q0 :: q1 :: q2 :: q3 :: q4 :: some (.int (x + d)) :: t) st σ) : G X M Q pc (q0 :: q1 :: q2 :: q3 :: q4 :: some (.int x) :: t) st σ := G.iinc0 (i := 5) rfl hv hi (g_ncs (o := q4) rfl hc) hd k1
theorem G.lst5 {q0 q1 q2 q3 q4 q5 q6 : Option Value} {t : List (Option Value)} {x : Int64} (hi : 5 + 1 < M.2.2.1) (hc : g_c1 q4 = true) (hd : decode M.2.1 pc = .ok (.lstore 5, 2)) (k1 : G X M Q (pc + 2) (q0 :: q1 :: q2 :: q3 :: q4 :: some (.long x) :: none :: t) st σ) : G X M Q pc (q0 :: q1 :: q2 :: q3 :: q4 :: q5 :: q6 :: t) (.long x :: st) σ := G.lstore (i := 5) hi (g_ncs (o := q4) rfl hc) hd k1
theorem G.ist6 {q0 q1 q2 q3 q4 q5 q6 : Option Value} {t : List (Option Value)} {x : Int32} (hi : 6 < M.2.2.1) (hc : g_c1 q5 = true) (hd : decode M.2.1 pc = .ok (.istore 6, 2)) (k1 : G X M Q (pc + 2) (q0 :: q1 :: q2 :: q3 :: q4 :: q5 :: some (.int x) :: t) st σ) : G X M Q pc (q0 :: q1 :: q2 :: q3 :: q4 :: q5 :: q6 :: t) (.int x :: st) σ := G.istore (i := 6) hi (g_ncs (o := q5) rfl hc) hd k1
theorem G.inc6 {q0 q1 q2 q3 q4 q5 : Option Value} {t : List (Option Value)} {n : Int} {x d : Int32} (hv : Int32.ofInt n = d) (hi : 6 < M.2.2.1) (hc : g_c1 q5 = true) (hd : decode M.2.1 pc = .ok (.iinc 6 n, 3)) (k1 : G X M Q (pc + 3) (q0 :: q1 :: q2 :: q3 :: q4 :: q5 :: some (.int (x + d)) :: t) st σ) : G X M Q pc (q0 :: q1 :: q2 :: q3 :: q4 :: q5 :: some (.int x) :: t) st σ := G.iinc0 (i := 6) rfl hv hi (g_ncs (o := q5) rfl hc) hd k1
theorem G.lst6 {q0 q1 q2 q3 q4 q5 q6 q7 : Option Value} {t : List (Option Value)} {x : Int64} (hi : 6 + 1 < M.2.2.1) (hc : g_c1 q5 = true) (hd : decode M.2.1 pc = .ok (.lstore 6, 2)) (k1 : G X M Q (pc + 2) (q0 :: q1 :: q2 :: q3 :: q4 :: q5 :: some (.long x) :: none :: t) st σ) : G X M Q pc (q0 :: q1 :: q2 :: q3 :: q4 :: q5 :: q6 :: q7 :: t) (.long x :: st) σ := G.lstore (i := 6) hi (g_ncs (o := q5) rfl hc) hd k1
theorem G.ist7 {q0 q1 q2 q3 q4 q5 q6 q7 : Option Value} {t : List (Option Value)} {x : Int32} (hi : 7 < M.2.2.1) (hc : g_c1 q6 = true) (hd : decode M.2.1 pc = .ok (.istore 7, 2)) (k1 : G X M Q (pc + 2) (q0 :: q1 :: q2 :: q3 :: q4 :: q5 :: q6 :: some (.int x) :: t) st σ) : G X M Q pc (q0 :: q1 :: q2 :: q3 :: q4 :: q5 :: q6 :: q7 :: t) (.int x :: st) σ := G.istore (i := 7) hi (g_ncs (o := q6) rfl hc) hd k1
theorem G.inc7 {q0 q1 q2 q3 q4 q5 q6 : Option Value} {t : List (Option Value)} {n : Int} {x d : Int32} (hv : Int32.ofInt n = d) (hi : 7 < M.2.2.1) (hc : g_c1 q6 = true) (hd : decode M.2.1 pc = .ok (.iinc 7 n, 3)) (k1 : G X M Q (pc + 3) (q0 :: q1 :: q2 :: q3 :: q4 :: q5 :: q6 :: some (.int (x + d)) :: t) st σ) : G X M Q pc (q0 :: q1 :: q2 :: q3 :: q4 :: q5 :: q6 :: some (.int x) :: t) st σ := G.iinc0 (i := 7) rfl hv hi (g_ncs (o := q6) rfl hc) hd k1
theorem G.lst7 {q0 q1 q2 q3 q4 q5 q6 q7 q8 : Option Value} {t : List (Option Value)} {x : Int64} (hi : 7 + 1 < M.2.2.1) (hc : g_c1 q6 = true) (hd : decode M.2.1 pc = .ok (.lstore 7, 2)) (k1 : G X M Q (pc + 2) (q0 :: q1 :: q2 :: q3 :: q4 :: q5 :: q6 :: some (.long x) :: none :: t) st σ) : G X M Q pc (q0 :: q1 :: q2 :: q3 :: q4 :: q5 :: q6 :: q7 :: q8 :: t) (.long x :: st) σ := G.lstore (i := 7) hi (g_ncs (o := q6) rfl hc) hd k1
theorem G.ist8 {q0 q1 q2 q3 q4 q5 q6 q7 q8 : Option Value} {t : List (Option Value)} {x : Int32} (hi : 8 < M.2.2.1) (hc : g_c1 q7 = true) (hd : decode M.2.1 pc = .ok (.istore 8, 2)) (k1 : G X M Q (pc + 2) (q0 :: q1 :: q2 :: q3 :: q4 :: q5 :: q6 :: q7 :: some (.int x) :: t) st σ) : G X M Q pc (q0 :: q1 :: q2 :: q3 :: q4 :: q5 :: q6 :: q7 :: q8 :: t) (.int x :: st) σ := G.istore (i := 8) hi (g_ncs (o := q7) rfl hc) hd k1
theorem G.inc8 {q0 q1 q2 q3 q4 q5 q6 q7 : Option Value} {t : List (Option Value)} {n : Int} {x d : Int32} (hv : Int32.ofInt n = d) (hi : 8 < M.2.2.1) (hc : g_c1 q7 = true) (hd : decode M.2.1 pc = .ok (.iinc 8 n, 3)) (k1 : G X M Q (pc + 3) (q0 :: q1 :: q2 :: q3 :: q4 :: q5 :: q6 :: q7 :: some (.int (x + d)) :: t) st σ) : G X M Q pc (q0 :: q1 :: q2 :: q3 :: q4 :: q5 :: q6 :: q7 :: some (.int x) :: t) st σ := G.iinc0 (i := 8) rfl hv hi (g_ncs (o := q7) rfl hc) hd k1
theorem G.lst8 {q0 q1 q2 q3 q4 q5 q6 q7 q8 q9 : Option Value} {t : List (Option Value)} {x : Int64} (hi : 8 + 1 < M.2.2.1) (hc : g_c1 q7 = true) (hd : decode M.2.1 pc = .ok (.lstore 8, 2)) (k1 : G X M Q (pc + 2) (q0 :: q1 :: q2 :: q3 :: q4 :: q5 :: q6 :: q7 :: some (.long x) :: none :: t) st σ) : G X M Q pc (q0 :: q1 :: q2 :: q3 :: q4 :: q5 :: q6 :: q7 :: q8 :: q9 :: t) (.long x :: st) σ := G.lstore (i := 8) hi (g_ncs (o := q7) rfl hc) hd k1
theorem G.ist9 {q0 q1 q2 q3 q4 q5 q6 q7 q8 q9 : Option Value} {t : List (Option Value)} {x : Int32} (hi : 9 < M.2.2.1) (hc : g_c1 q8 = true) (hd : decode M.2.1 pc = .ok (.istore 9, 2)) (k1 : G X M Q (pc + 2) (q0 :: q1 :: q2 :: q3 :: q4 :: q5 :: q6 :: q7 :: q8 :: some (.int x) :: t) st σ) : G X M Q pc (q0 :: q1 :: q2 :: q3 :: q4 :: q5 :: q6 :: q7 :: q8 :: q9 :: t) (.int x :: st) σ := G.istore (i := 9) hi (g_ncs (o := q8) rfl hc) hd k1
theorem G.inc9 {q0 q1 q2 q3 q4 q5 q6 q7 q8 : Option Value} {t : List (Option Value)} {n : Int} {x d : Int32} (hv : Int32.ofInt n = d) (hi : 9 < M.2.2.1) (hc : g_c1 q8 = true) (hd : decode M.2.1 pc = .ok (.iinc 9 n, 3)) (k1 : G X M Q (pc + 3) (q0 :: q1 :: q2 :: q3 :: q4 :: q5 :: q6 :: q7 :: q8 :: some (.int (x + d)) :: t) st σ) : G X M Q pc (q0 :: q1 :: q2 :: q3 :: q4 :: q5 :: q6 :: q7 :: q8 :: some (.int x) :: t) st σ := G.iinc0 (i := 9) rfl hv hi (g_ncs (o := q8) rfl hc) hd k1
theorem G.lst9 {q0 q1 q2 q3 q4 q5 q6 q7 q8 q9 q10 : Option Value} {t : List (Option Value)} {x : Int64} (hi : 9 + 1 < M.2.2.1) (hc : g_c1 q8 = true) (hd : decode M.2.1 pc = .ok (.lstore 9, 2)) (k1 : G X M Q (pc + 2) (q0 :: q1 :: q2 :: q3 :: q4 :: q5 :: q6 :: q7 :: q8 :: some (.long x) :: none :: t) st σ) : G X M Q pc (q0 :: q1 :: q2 :: q3 :: q4 :: q5 :: q6 :: q7 :: q8 :: q9 :: q10 :: t) (.long x :: st) σ := G.lstore (i := 9) hi (g_ncs (o := q8) rfl hc) hd k1
theorem G.ist10 {q0 q1 q2 q3 q4 q5 q6 q7 q8 q9 q10 : Option Value} {t : List (Option Value)} {x : Int32} (hi : 10 < M.2.2.1) (hc : g_c1 q9 = true) (hd : decode M.2.1 pc = .ok (.istore 10, 2)) (k1 : G X M Q (pc + 2) (q0 :: q1 :: q2 :: q3 :: q4 :: q5 :: q6 :: q7 :: q8 :: q9 :: some (.int x) :: t) st σ) : G X M Q pc (q0 :: q1 :: q2 :: q3 :: q4 :: q5 :: q6 :: q7 :: q8 :: q9 :: q10 :: t) (.int x :: st) σ := G.istore (i := 10) hi (g_ncs (o := q9) rfl hc) hd k1
theorem G.inc10 {q0 q1 q2 q3 q4 q5 q6 q7 q8 q9 : Option Value} {t : List (Option Value)} {n : Int} {x d : Int32} (hv : Int32.ofInt n = d) (hi : 10 < M.2.2.1) (hc : g_c1 q9 = true) (hd : decode M.2.1 pc = .ok (.iinc 10 n, 3)) (k1 : G X M Q (pc + 3) (q0 :: q1 :: q2 :: q3 :: q4 :: q5 :: q6 :: q7 :: q8 :: q9 :: some (.int (x + d)) :: t) st σ) : G X M Q pc (q0 :: q1 :: q2 :: q3 :: q4 :: q5 :: q6 :: q7 :: q8 :: q9 :: some (.int x) :: t) st σ := G.iinc0 (i := 10) rfl hv hi (g_ncs (o := q9) rfl hc) hd k1
theorem G.lst10 {q0 q1 q2 q3 q4 q5 q6 q7 q8 q9 q10 q11 : Option Value} {t : List (Option Value)} {x : Int64} (hi : 10 + 1 < M.2.2.1) (hc : g_c1 q9 = true) (hd : decode M.2.1 pc = .ok (.lstore 10, 2)) (k1 : G X M Q (pc + 2) (q0 :: q1 :: q2 :: q3 :: q4 :: q5 :: q6 :: q7 :: q8 :: q9 :: some (.long x) :: none :: t) st σ) : G X M Q pc (q0 :: q1 :: q2 :: q3 :: q4 :: q5 :: q6 :: q7 :: q8 :: q9 :: q10 :: q11 :: t) (.long x :: st) σ := G.lstore (i := 10) hi (g_ncs (o := q9) rfl hc) hd k1
theorem G.ist11 {q0 q1 q2 q3 q4 q5 q6 q7 q8 q9 q10 q11 : Option Value} {t : List (Option Value)} {x : Int32} (hi : 11 < M.2.2.1) (hc : g_c1 q10 = true) (hd : decode M.2.1 pc = .ok (.istore 11, 2)) (k1 : G X M Q (pc + 2) (q0 :: q1 :: q2 :: q3 :: q4 :: q5 :: q6 :: q7 :: q8 :: q9 :: q10 :: some (.int x) :: t) st σ) : G X M Q pc (q0 :: q1 :: q2 :: q3 :: q4 :: q5 :: q6 :: q7 :: q8 :: q9 :: q10 :: q11 :: t) (.int x :: st) σ := G.istore (i := 11) hi (g_ncs (o := q10) rfl hc) hd k1
theorem G.inc11 {q0 q1 q2 q3 q4 q5 q6 q7 q8 q9 q10 : Option Value} {t : List (Option Value)} {n : Int} {x d : Int32} (hv : Int32.ofInt n = d) (hi : 11 < M.2.2.1) (hc : g_c1 q10 = true) (hd : decode M.2.1 pc = .ok (.iinc 11 n, 3)) (k1 : G X M Q (pc + 3) (q0 :: q1 :: q2 :: q3 :: q4 :: q5 :: q6 :: q7 :: q8 :: q9 :: q10 :: some (.int (x + d)) :: t) st σ) : G X M Q pc (q0 :: q1 :: q2 :: q3 :: q4 :: q5 :: q6 :: q7 :: q8 :: q9 :: q10 :: some (.int x) :: t) st σ := G.iinc0 (i := 11) rfl hv hi (g_ncs (o := q10) rfl hc) hd k1
theorem G.lst11 {q0 q1 q2 q3 q4 q5 q6 q7 q8 q9 q10 q11 q12 : Option Value} {t : List (Option Value)} {x : Int64} (hi : 11 + 1 < M.2.2.1) (hc : g_c1 q10 = true) (hd : decode M.2.1 pc = .ok (.lstore 11, 2)) (k1 : G X M Q (pc + 2) (q0 :: q1 :: q2 :: q3 :: q4 :: q5 :: q6 :: q7 :: q8 :: q9 :: q10 :: some (.long x) :: none :: t) st σ) : G X M Q pc (q0 :: q1 :: q2 :: q3 :: q4 :: q5 :: q6 :: q7 :: q8 :: q9 :: q10 :: q11 :: q12 :: t) (.long x :: st) σ := G.lstore (i := 11) hi (g_ncs (o := q10) rfl hc) hd k1
theorem G.ist12 {q0 q1 q2 q3 q4 q5 q6 q7 q8 q9 q10 q11 q12 : Option Value} {t : List (Option Value)} {x : Int32} (hi : 12 < M.2.2.1) (hc : g_c1 q11 = true) (hd : decode M.2.1 pc = .ok (.istore 12, 2)) (k1 : G X M Q (pc + 2) (q0 :: q1 :: q2 :: q3 :: q4 :: q5 :: q6 :: q7 :: q8 :: q9 :: q10 :: q11 :: some (.int x) :: t) st σ) : G X M Q pc (q0 :: q1 :: q2 :: q3 :: q4 :: q5 :: q6 :: q7 :: q8 :: q9 :: q10 :: q11 :: q12 :: t) (.int x :: st) σ := G.istore (i := 12) hi (g_ncs (o := q11) rfl hc) hd k1
theorem G.inc12 {q0 q1 q2 q3 q4 q5 q6 q7 q8 q9 q10 q11 : Option Value} {t : List (Option Value)} {n : Int} {x d : Int32} (hv : Int32.ofInt n = d) (hi : 12 < M.2.2.1) (hc : g_c1 q11 = true) (hd : decode M.2.1 pc = .ok (.iinc 12 n, 3)) (k1 : G X M Q (pc + 3) (q0 :: q1 :: q2 :: q3 :: q4 :: q5 :: q6 :: q7 :: q8 :: q9 :: q10 :: q11 :: some (.int (x + d)) :: t) st σ) : G X M Q pc (q0 :: q1 :: q2 :: q3 :: q4 :: q5 :: q6 :: q7 :: q8 :: q9 :: q10 :: q11 :: some (.int x) :: t) st σ := G.iinc0 (i := 12) rfl hv hi (g_ncs (o := q11) rfl hc) hd k1
theorem G.lst12 {q0 q1 q2 q3 q4 q5 q6 q7 q8 q9 q10 q11 q12 q13 : Option Value} {t : List (Option Value)} {x : Int64} (hi : 12 + 1 < M.2.2.1) (hc : g_c1 q11 = true) (hd : decode M.2.1 pc = .ok (.lstore 12, 2)) (k1 : G X M Q (pc + 2) (q0 :: q1 :: q2 :: q3 :: q4 :: q5 :: q6 :: q7 :: q8 :: q9 :: q10 :: q11 :: some (.long x) :: none :: t) st σ) : G X M Q pc (q0 :: q1 :: q2 :: q3 :: q4 :: q5 :: q6 :: q7 :: q8 :: q9 :: q10 :: q11 :: q12 :: q13 :: t) (.long x :: st) σ := G.lstore (i := 12) hi (g_ncs (o := q11) rfl hc) hd k1
theorem G.ist13 {q0 q1 q2 q3 q4 q5 q6 q7 q8 q9 q10 q11 q12 q13 : Option Value} {t : List (Option Value)} {x : Int32} (hi : 13 < M.2.2.1) (hc : g_c1 q12 = true) (hd : decode M.2.1 pc = .ok (.istore 13, 2)) (k1 : G X M Q (pc + 2) (q0 :: q1 :: q2 :: q3 :: q4 :: q5 :: q6 :: q7 :: q8 :: q9 :: q10 :: q11 :: q12 :: some (.int x) :: t) st σ) : G X M Q pc (q0 :: q1 :: q2 :: q3 :: q4 :: q5 :: q6 :: q7 :: q8 :: q9 :: q10 :: q11 :: q12 :: q13 :: t) (.int x :: st) σ := G.istore (i := 13) hi (g_ncs (o := q12) rfl hc) hd k1
theorem G.inc13 {q0 q1 q2 q3 q4 q5 q6 q7 q8 q9 q10 q11 q12 : Option Value} {t : List (Option Value)} {n : Int} {x d : Int32} (hv : Int32.ofInt n = d) (hi : 13 < M.2.2.1) (hc : g_c1 q12 = true) (hd : decode M.2.1 pc = .ok (.iinc 13 n, 3)) (k1 : G X M Q (pc + 3) (q0 :: q1 :: q2 :: q3 :: q4 :: q5 :: q6 :: q7 :: q8 :: q9 :: q10 :: q11 :: q12 :: some (.int (x + d)) :: t) st σ) : G X M Q pc (q0 :: q1 :: q2 :: q3 :: q4 :: q5 :: q6 :: q7 :: q8 :: q9 :: q10 :: q11 :: q12 :: some (.int x) :: t) st σ := G.iinc0 (i := 13) rfl hv hi (g_ncs (o := q12) rfl hc) hd k1
theorem G.lst13 {q0 q1 q2 q3 q4 q5 q6 q7 q8 q9 q10 q11 q12 q13 q14 : Option Value} {t : List (Option Value)} {x : Int64} (hi : 13 + 1 < M.2.2.1) (hc : g_c1 q12 = true) (hd : decode M.2.1 pc = .ok (.lstore 13, 2)) (k1 : G X M Q (pc + 2) (q0 :: q1 :: q2 :: q3 :: q4 :: q5 :: q6 :: q7 :: q8 :: q9 :: q10 :: q11 :: q12 :: some (.long x) :: none :: t) st σ) : G X M Q pc (q0 :: q1 :: q2 :: q3 :: q4 :: q5 :: q6 :: q7 :: q8 :: q9 :: q10 :: q11 :: q12 :: q13 :: q14 :: t) (.long x :: st) σ := G.lstore (i := 13) hi (g_ncs (o := q12) rfl hc) hd k1
theorem G.ist14 {q0 q1 q2 q3 q4 q5 q6 q7 q8 q9 q10 q11 q12 q13 q14 : Option Value} {t : List (Option Value)} {x : Int32} (hi : 14 < M.2.2.1) (hc : g_c1 q13 = true) (hd : decode M.2.1 pc = .ok (.istore 14, 2)) (k1 : G X M Q (pc + 2) (q0 :: q1 :: q2 :: q3 :: q4 :: q5 :: q6 :: q7 :: q8 :: q9 :: q10 :: q11 :: q12 :: q13 :: some (.int x) :: t) st σ) : G X M Q pc (q0 :: q1 :: q2 :: q3 :: q4 :: q5 :: q6 :: q7 :: q8 :: q9 :: q10 :: q11 :: q12 :: q13 :: q14 :: t) (.int x :: st) σ := G.istore (i := 14) hi (g_ncs (o := q13) rfl hc) hd k1
theorem G.inc14 {q0 q1 q2 q3 q4 q5 q6 q7 q8 q9 q10 q11 q12 q13 : Option Value} {t : List (Option Value)} {n : Int} {x d : Int32} (hv : Int32.ofInt n = d) (hi : 14 < M.2.2.1) (hc : g_c1 q13 = true) (hd : decode M.2.1 pc = .ok (.iinc 14 n, 3)) (k1 : G X M Q (pc + 3) (q0 :: q1 :: q2 :: q3 :: q4 :: q5 :: q6 :: q7 :: q8 :: q9 :: q10 :: q11 :: q12 :: q13 :: some (.int (x + d)) :: t) st σ) : G X M Q pc (q0 :: q1 :: q2 :: q3 :: q4 :: q5 :: q6 :: q7 :: q8 :: q9 :: q10 :: q11 :: q12 :: q13 :: some (.int x) :: t) st σ := G.iinc0 (i := 14) rfl hv hi (g_ncs (o := q13) rfl hc) hd k1
theorem G.lst14 {q0 q1 q2 q3 q4 q5 q6 q7 q8 q9 q10 q11 q12 q13 q14 q15 : Option Value} {t : List (Option Value)} {x : Int64} (hi : 14 + 1 < M.2.2.1) (hc : g_c1 q13 = true) (hd : decode M.2.1 pc = .ok (.lstore 14, 2)) (k1 : G X M Q (pc + 2) (q0 :: q1 :: q2 :: q3 :: q4 :: q5 :: q6 :: q7 :: q8 :: q9 :: q10 :: q11 :: q12 :: q13 :: some (.long x) :: none :: t) st σ) : G X M Q pc (q0 :: q1 :: q2 :: q3 :: q4 :: q5 :: q6 :: q7 :: q8 :: q9 :: q10 :: q11 :: q12 :: q13 :: q14 :: q15 :: t) (.long x :: st) σ := G.lstore (i := 14) hi (g_ncs (o := q13) rfl hc) hd k1
theorem G.icmp_eq {x y : Int32} {off : Int} {tgt : Nat} (ht : (pc : Int) + off = (tgt : Int)) (hd : decode M.2.1 pc = .ok (.if_icmp .eq off, 3)) (kt : x = y → G X M Q tgt ls st σ) (kf : ¬ x = y → G X M Q (pc + 3) ls st σ) : G X M Q pc ls (.int y :: .int x :: st) σ := fun p e s m args below meth c H locs lsA C hS hP hl => lv_icmp_eq C.1 C.2.1 hd ht (fun h => kt h p e s m args below meth c H locs lsA C hS hP hl) (fun h => kf h p e s m args below meth c H locs lsA C hS hP hl)
theorem G.if_eq {x : Int32} {off : Int} {tgt : Nat} (ht : (pc : Int) + off = (tgt : Int)) (hd : decode M.2.1 pc = .ok (.ifCond .eq off, 3)) (kt : x = 0 → G X M Q tgt ls st σ) (kf : ¬ x = 0 → G X M Q (pc + 3) ls st σ) : G X M Q pc ls (.int x :: st) σ := fun p e s m args below meth c H locs lsA C hS hP hl => lv_if_eq C.1 C.2.1 hd ht (fun h => kt h p e s m args below meth c H locs lsA C hS hP hl) (fun h => kf h p e s m args below meth c H locs lsA C hS hP hl)
theorem G.icmp_ne {x y : Int32} {off : Int} {tgt : Nat} (ht : (pc : Int) + off = (tgt : Int)) (hd : decode M.2.1 pc = .ok (.if_icmp .ne off, 3)) (kt : ¬ x = y → G X M Q tgt ls st σ) (kf : x = y → G X M Q (pc + 3) ls st σ) : G X M Q pc ls (.int y :: .int x :: st) σ := fun p e s m args below meth c H locs lsA C hS hP hl => lv_icmp_ne C.1 C.2.1 hd ht (fun h => kt h p e s m args below meth c H locs lsA C hS hP hl) (fun h => kf h p e s m args below meth c H locs lsA C hS hP hl)
theorem G.if_ne {x : Int32} {off : Int} {tgt : Nat} (ht : (pc : Int) + off = (tgt : Int)) (hd : decode M.2.1 pc = .ok (.ifCond .ne off, 3)) (kt : ¬ x = 0 → G X M Q tgt ls st σ) (kf : x = 0 → G X M Q (pc + 3) ls st σ) : G X M Q pc ls (.int x :: st) σ := fun p e s m args below meth c H locs lsA C hS hP hl => lv_if_ne C.1 C.2.1 hd ht (fun h => kt h p e s m args below meth c H locs lsA C hS hP hl) (fun h => kf h p e s m args below meth c H locs lsA C hS hP hl)
theorem G.icmp_lt {x y : Int32} {off : Int} {tgt : Nat} (ht : (pc : Int) + off = (tgt : Int)) (hd : decode M.2.1 pc = .ok (.if_icmp .lt off, 3)) (kt : x < y → G X M Q tgt ls st σ) (kf : ¬ x < y → G X M Q (pc + 3) ls st σ) : G X M Q pc ls (.int y :: .int x :: st) σ := fun p e s m args below meth c H locs lsA C hS hP hl => lv_icmp_lt C.1 C.2.1 hd ht (fun h => kt h p e s m args below meth c H locs lsA C hS hP hl) (fun h => kf h p e s m args below meth c H locs lsA C hS hP hl)
theorem G.if_lt {x : Int32} {off : Int} {tgt : Nat} (ht : (pc : Int) + off = (tgt : Int)) (hd : decode M.2.1 pc = .ok (.ifCond .lt off, 3)) (kt : x < 0 → G X M Q tgt ls st σ) (kf : ¬ x < 0 → G X M Q (pc + 3) ls st σ) : G X M Q pc ls (.int x :: st) σ := fun p e s m args below meth c H locs lsA C hS hP hl => lv_if_lt C.1 C.2.1 hd ht (fun h => kt h p e s m args below meth c H locs lsA C hS hP hl) (fun h => kf h p e s m args below meth c H locs lsA C hS hP hl)
theorem G.icmp_ge {x y : Int32} {off : Int} {tgt : Nat} (ht : (pc : Int) + off = (tgt : Int)) (hd : decode M.2.1 pc = .ok (.if_icmp .ge off, 3)) (kt : y ≤ x → G X M Q tgt ls st σ) (kf : ¬ y ≤ x → G X M Q (pc + 3) ls st σ) : G X M Q pc ls (.int y :: .int x :: st) σ := fun p e s m args below meth c H locs lsA C hS hP hl => lv_icmp_ge C.1 C.2.1 hd ht (fun h => kt h p e s m args below meth c H locs lsA C hS hP hl) (fun h => kf h p e s m args below meth c H locs lsA C hS hP hl)
theorem G.if_ge {x : Int32} {off : Int} {tgt : Nat} (ht : (pc : Int) + off = (tgt : Int)) (hd : decode M.2.1 pc = .ok (.ifCond .ge off, 3)) (kt : 0 ≤ x → G X M Q tgt ls st σ) (kf : ¬ 0 ≤ x → G X M Q (pc + 3) ls st σ) : G X M Q pc ls (.int x :: st) σ := fun p e s m args below meth c H locs lsA C hS hP hl => lv_if_ge C.1 C.2.1 hd ht (fun h => kt h p e s m args below meth c H locs lsA C hS hP hl) (fun h => kf h p e s m args below meth c H locs lsA C hS hP hl)
theorem G.icmp_gt {x y : Int32} {off : Int} {tgt : Nat} (ht : (pc : Int) + off = (tgt : Int)) (hd : decode M.2.1 pc = .ok (.if_icmp .gt off, 3)) (kt : y < x → G X M Q tgt ls st σ) (kf : ¬ y < x → G X M Q (pc + 3) ls st σ) : G X M Q pc ls (.int y :: .int x :: st) σ := fun p e s m args below meth c H locs lsA C hS hP hl => lv_icmp_gt C.1 C.2.1 hd ht (fun h => kt h p e s m args below meth c H locs lsA C hS hP hl) (fun h => kf h p e s m args below meth c H locs lsA C hS hP hl)
theorem G.if_gt {x : Int32} {off : Int} {tgt : Nat} (ht : (pc : Int) + off = (tgt : Int)) (hd : decode M.2.1 pc = .ok (.ifCond .gt off, 3)) (kt : 0 < x → G X M Q tgt ls st σ) (kf : ¬ 0 < x → G X M Q (pc + 3) ls st σ) : G X M Q pc ls (.int x :: st) σ := fun p e s m args below meth c H locs lsA C hS hP hl => lv_if_gt C.1 C.2.1 hd ht (fun h => kt h p e s m args below meth c H locs lsA C hS hP hl) (fun h => kf h p e s m args below meth c H locs lsA C hS hP hl)
theorem G.icmp_le {x y : Int32} {off : Int} {tgt : Nat} (ht : (pc : Int) + off = (tgt : Int)) (hd : decode M.2.1 pc = .ok (.if_icmp .le off, 3)) (kt : x ≤ y → G X M Q tgt ls st σ) (kf : ¬ x ≤ y → G X M Q (pc + 3) ls st σ) : G X M Q pc ls (.int y :: .int x :: st) σ := fun p e s m args below meth c H locs lsA C hS hP hl => lv_icmp_le C.1 C.2.1 hd ht (fun h => kt h p e s m args below meth c H locs lsA C hS hP hl) (fun h => kf h p e s m args below meth c H locs lsA C hS hP hl)
theorem G.if_le {x : Int32} {off : Int} {tgt : Nat} (ht : (pc : Int) + off = (tgt : Int)) (hd : decode M.2.1 pc = .ok (.ifCond .le off, 3)) (kt : x ≤ 0 → G X M Q tgt ls st σ) (kf : ¬ x ≤ 0 → G X M Q (pc + 3) ls st σ) : G X M Q pc ls (.int x :: st) σ := fun p e s m args below meth c H locs lsA C hS hP hl => lv_if_le C.1 C.2.1 hd ht (fun h => kt h p e s m args below meth c H locs lsA C hS hP hl) (fun h => kf h p e s m args below meth c H locs lsA C hS hP hl)
theorem G.goto {off : Int} {tgt : Nat} (ht : (pc : Int) + off = (tgt : Int)) (hd : decode M.2.1 pc = .ok (.goto off, 3)) (k : G X M Q tgt ls st σ) : G X M Q pc ls st σ := fun p e s m args below meth c H locs lsA C hS hP hl => lv_goto C.1 C.2.1 hd ht (k p e s m args below meth c H locs lsA C hS hP hl)
theorem G.tableOut {dflt lo hi : Int} {offs : Array Int} {len : Nat} {x : Int32} {tgt : Nat} (hd : decode M.2.1 pc = .ok (.tableswitch dflt lo hi offs, len)) (h : x.toInt < lo ∨ hi < x.toInt) (ht : (pc : Int) + dflt = (tgt : Int)) (k : G X M Q tgt ls st σ) : G X M Q pc ls (.int x :: st) σ := fun p e s m args below meth c H locs lsA C hS hP hl => lv_tableOut C.1 C.2.1 hd h ht (k p e s m args below meth c H locs lsA C hS hP hl)
theorem G.tableIn {dflt lo hi : Int} {offs : Array Int} {len : Nat} {x : Int32} {off : Int} {tgt : Nat} (hd : decode M.2.1 pc = .ok (.tableswitch dflt lo hi offs, len)) (h1 : ¬ x.toInt < lo) (h2 : ¬ hi < x.toInt) (ho : offs[(x.toInt - lo).toNat]? = some off) (ht : (pc : Int) + off = (tgt : Int)) (k : G X M Q tgt ls st σ) : G X M Q pc ls (.int x :: st) σ := fun p e s m args below meth c H locs lsA C hS hP hl => lv_tableIn C.1 C.2.1 hd h1 h2 ho ht (k p e s m args below meth c H locs lsA C hS hP hl)
theorem G.lookup {dflt : Int} {ps : Array (Int × Int)} {len : Nat} {x : Int32} {off : Int} {tgt : Nat} (hd : decode M.2.1 pc = .ok (.lookupswitch dflt ps, len)) (hp : (ps.toList.zip (ps.toList.drop 1)).all (fun (a, next) => a.1 < next.1) = true) (ho : Op.lookupswitch.offset ps.toList dflt x.toInt = off) (ht : (pc : Int) + off = (tgt : Int)) (k : G X M Q tgt ls st σ) : G X M Q pc ls (.int x :: st) σ := fun p e s m args below meth c H locs lsA C hS hP hl => lv_lookup C.1 C.2.1 hd hp ho ht (k p e s m args below meth c H locs lsA C hS hP hl)
theorem G.topi {x : Int32} (k : ∀ y : Int32, y = x → G X M Q pc ls (.int y :: st) σ) : G X M Q pc ls (.int x :: st) σ := k x rfl
theorem G.cut (x : Int32) {F : Int32 → Prop} (k : ∀ y : Int32, y = x → F y) : F x := k x rfl
/-! ===== cells ===== -/
theorem G.iald {a n : Nat} {i : Int32} (hL : X.2.2.2.2[a]? = some (.inl n)) (hin : vp_in i n) (hd : decode M.2.1 pc = .ok (.iaload, 1)) (k : G X M Q (pc + 1) ls (.int (σ a i.toNatClampNeg) :: st) σ) : G X M Q pc ls (.int i :: .ref a :: st) σ := fun p e s m args below meth c H locs lsA C hS hP hl => va_iald C.1 C.2.1 C.2.2.2.2.2.2.2.1 hP a 0 (g_w_at hL) rfl hin hd (k p e s m args below meth c H locs lsA C hS hP hl)
theorem G.iast {a n : Nat} {i x : Int32} (hL : X.2.2.2.2[a]? = some (.inl n)) (hin : vp_in i n) (hd : decode M.2.1 pc = .ok (.iastore, 1)) (k : G X M Q (pc + 1) ls st (up2 σ a i.toNatClampNeg x)) : G X M Q pc ls (.int x :: .int i :: .ref a :: st) σ := fun p e s m args below meth c H locs lsA C hS hP hl => va_iast C.1 C.2.1 C.2.2.2.2.2.2.2.1 hP (g_D C.2.2.2.2.2.2.2 σ) hS a 0 (g_w_at hL) rfl hin hd (fun H1 locs1 hP1 hD1 hS1 => k p e s m args below meth c H1 locs1 lsA C hS1 ((g_w_arr (cA := X.2.2.1) (ad := X.2.2.2.1) (σ := σ) (x := x) hL).subst (motive := fun w => va_P X.2.1 vwCl w H1) hP1) hl)
theorem G.alen {a n : Nat} {v : Int32} (hL : X.2.2.2.2[a]? = some (.inl n)) (hv : Int32.ofNat n = v) (hd : decode M.2.1 pc = .ok (.arraylength, 1)) (k : G X M Q (pc + 1) ls (.int v :: st) σ) : G X M Q pc ls (.ref a :: st) σ := fun p e s m args below meth c H locs lsA C hS hP hl => va_alen C.1 C.2.1 C.2.2.2.2.2.2.2.1 hP a 0 (g_w_at hL) rfl hv hd (k p e s m args below meth c H locs lsA C hS hP hl)
/-- field j of class ci, by the tables: its own link -/
abbrev g_ci (ci : Nat) (C : String) (T : u_T) (N : Nat) : Prop := vwCl[ci]? = some (C, T, N) ∧ ∀ w ∈ u_ws C T N, w ∈ tw
theorem G.getr {a ci j r N index : Nat} {Cn : String} {T : u_T} {fs : List (Option Nat)} (hL : X.2.2.2.2[a]? = some (.inr (ci, fs))) (hc : g_ci ci Cn T N) (hj : j < N) (hf : fs[j]? = some (some r)) (hw : Cond.fieldLink M.1.cls index (T j).1 (T j).2.1 (T j).2.2.1 ∈ tw) (hd : decode M.2.1 pc = .ok (.getfield index, 3)) (k : G X M Q (pc + 3) ls (.ref r :: st) σ) : G X M Q pc ls (.ref a :: st) σ := fun p e s m args below meth c H locs lsA C hS hP hl => va_get C.1 C.2.1 C.2.2.2.2.2.2.1 hc.2 C.2.2.2.2.2.1 C.2.2.2.2.2.2.2.1 hP a (g_w_at hL) hc.1 j hj (C.2.2.2.2.2.2.1 _ hw) (fun _ h9 => h9) (by rw [g_fl_get, hf]; rfl) hd (k p e s m args below meth c H locs lsA C hS hP hl)
theorem G.geti {a ci j N index : Nat} {Cn : String} {T : u_T} {fs : List (Option Nat)} (hL : X.2.2.2.2[a]? = some (.inr (ci, fs))) (hc : g_ci ci Cn T N) (hj : j < N) (hf : fs[j]? = some none) (hw : Cond.fieldLink M.1.cls index (T j).1 (T j).2.1 (T j).2.2.1 ∈ tw) (hd : decode M.2.1 pc = .ok (.getfield index, 3)) (k : G X M Q (pc + 3) ls (.int (σ a j) :: st) σ) : G X M Q pc ls (.ref a :: st) σ := fun p e s m args below meth c H locs lsA C hS hP hl => va_get C.1 C.2.1 C.2.2.2.2.2.2.1 hc.2 C.2.2.2.2.2.1 C.2.2.2.2.2.2.2.1 hP a (g_w_at hL) hc.1 j hj (C.2.2.2.2.2.2.1 _ hw) (fun _ h9 => h9) (by rw [g_fl_get, hf]; show some (Value.int (σ a (0 + j))) = _; rw [Nat.zero_add]; rfl) hd (k p e s m args below meth c H locs lsA C hS hP hl)
theorem G.getrN {a ci j r N index : Nat} {Cn host : String} {T : u_T} {fs : List (Option Nat)} (hL : X.2.2.2.2[a]? = some (.inr (ci, fs))) (hc : g_ci ci Cn T N) (hj : j < N) (hf : fs[j]? = some (some r)) (hw : ∀ U, g_N U → va_Nw (.fieldLinkNest M.1.cls index (T j).1 (T j).2.1 (T j).2.2.1 host) U) (hd : decode M.2.1 pc = .ok (.getfield index, 3)) (k : G X M Q (pc + 3) ls (.ref r :: st) σ) : G X M Q pc ls (.ref a :: st) σ := fun p e s m args below meth c H locs lsA C hS hP hl => va_getN C.1 C.2.1 C.2.2.2.2.2.2.1 hc.2 C.2.2.2.2.2.1 C.2.2.2.2.2.2.2.1 hP a (g_w_at hL) hc.1 j hj (va_Nw.use rfl (hw s C.2.2.2.2.2.2.2.2.1)) (fun _ h9 => h9) (by rw [g_fl_get, hf]; rfl) hd (k p e s m args below meth c H locs lsA C hS hP hl)
theorem G.getiN {a ci j N index : Nat} {Cn host : String} {T : u_T} {fs : List (Option Nat)} (hL : X.2.2.2.2[a]? = some (.inr (ci, fs))) (hc : g_ci ci Cn T N) (hj : j < N) (hf : fs[j]? = some none) (hw : ∀ U, g_N U → va_Nw (.fieldLinkNest M.1.cls index (T j).1 (T j).2.1 (T j).2.2.1 host) U) (hd : decode M.2.1 pc = .ok (.getfield index, 3)) (k : G X M Q (pc + 3) ls (.int (σ a j) :: st) σ) : G X M Q pc ls (.ref a :: st) σ := fun p e s m args below meth c H locs lsA C hS hP hl => va_getN C.1 C.2.1 C.2.2.2.2.2.2.1 hc.2 C.2.2.2.2.2.1 C.2.2.2.2.2.2.2.1 hP a (g_w_at hL) hc.1 j hj (va_Nw.use rfl (hw s C.2.2.2.2.2.2.2.2.1)) (fun _ h9 => h9) (by rw [g_fl_get, hf]; show some (Value.int (σ a (0 + j))) = _; rw [Nat.zero_add]; rfl) hd (k p e s m args below meth c H locs lsA C hS hP hl)
/-- what va_put wants of a class: types and names of its fields -/
abbrev g_cp (T : u_T) (N : Nat) (ty0 : Nat → FieldType) : Prop := (∀ k, k < N → parseFieldDescriptor (T k).2.2.1 = some (ty0 k)) ∧ ∀ a, a < N → ∀ b, b < N → a ≠ b → (T a).2.1 ≠ (T b).2.1
theorem g_fl_len (ad : Nat → Nat) (g : Nat → Int32) : ∀ (fs : List (Option Nat)) (j : Nat), (g_fl ad g j fs).length = fs.length := by
  intro fs
  induction fs with
  | nil => intro _; rfl
  | cons o t ih => intro j; cases o <;> simp [g_fl, ih]
theorem G.put {a ci j N index : Nat} {x : Int32} {Cn : String} {T : u_T} {ty0 : Nat → FieldType} {fs : List (Option Nat)} (hL : X.2.2.2.2[a]? = some (.inr (ci, fs))) (hc : g_ci ci Cn T N) (hq : g_cp T N ty0) (hj : j < N) (hf : fs[j]? = some none) (hfin : (T j).2.2.2 = false) (hn : narrow (ty0 j) (.int x) = .int x) (hfit : fits (ty0 j) (.int x) = true) (hw : Cond.fieldLink M.1.cls index (T j).1 (T j).2.1 (T j).2.2.1 ∈ tw) (hd : decode M.2.1 pc = .ok (.putfield index, 3)) (k : G X M Q (pc + 3) ls st (up2 σ a j x)) : G X M Q pc ls (.int x :: .ref a :: st) σ := fun p e s m args below meth c H locs lsA C hS hP hl => va_put C.1 C.2.1 C.2.2.2.2.2.2.1 hc.2 ty0 hq.1 hq.2 C.2.2.2.2.2.1 C.2.2.2.2.2.2.2.1 hP (g_D C.2.2.2.2.2.2.2 σ) hS a (g_w_at hL) hc.1 j hj (C.2.2.2.2.2.2.1 _ hw) (fun _ h9 => h9) hfin (hq.1 j hj) hn hfit (by rw [g_fl_len]; exact (List.getElem?_eq_some_iff.mp hf).1) hd (fun H1 locs1 hP1 hD1 hS1 => k p e s m args below meth c H1 locs1 lsA C hS1 ((g_w_fld (cA := X.2.2.1) (ad := X.2.2.2.1) (σ := σ) (x := x) hL hf).subst (motive := fun w => va_P X.2.1 vwCl w H1) hP1) hl)
/-! ===== the row ORDER ===== -/
theorem G.order {index : Nat} (hw : Cond.fieldLink M.1.cls index "SwapNames" "ORDER" "[I" ∈ tw) (hd : decode M.2.1 pc = .ok (.getstatic index, 3)) (k : G X M Q (pc + 3) ls (.ref 1000 :: st) σ) : G X M Q pc ls st σ := fun p e s m args below meth c H locs lsA C hS hP hl => va_gets C.1 C.2.1 C.2.2.2.2.2.2.2.2.2.1.1 hS C.2.2.2.2.2.1 (C.2.2.2.2.2.2.1 _ hw) (fun _ h9 => h9) hd (k p e s m args below meth c H locs lsA C hS hP hl)
theorem G.ordld {i : Int32} (hin : vp_in i 24) (hd : decode M.2.1 pc = .ok (.iaload, 1)) (k : G X M Q (pc + 1) ls (.int (g_ord i.toNatClampNeg) :: st) σ) : G X M Q pc ls (.int i :: .ref 1000 :: st) σ := fun p e s m args below meth c H locs lsA C hS hP hl => va_ti C.1 C.2.1 C.2.2.2.2.2.2.2.2.2.1.2 hS hin rfl hd (k p e s m args below meth c H locs lsA C hS hP hl)
/-! ===== answers ===== -/
def g_ri (P : Int32 → gS → Prop) : Option Value → gS → Prop := fun rv σ' => ∃ r, rv = some (.int r) ∧ P r σ'
def g_rl (P : Int64 → gS → Prop) : Option Value → gS → Prop := fun rv σ' => ∃ r, rv = some (.long r) ∧ P r σ'
def g_rv (P : gS → Prop) : Option Value → gS → Prop := fun rv σ' => rv = none ∧ P σ'
theorem G.iret {P : Int32 → gS → Prop} {r : Int32} (hr : M.2.2.2.1 = some .int) (hp : P r σ) (hd : decode M.2.1 pc = .ok (.ireturn, 1)) : G X M (g_ri P) pc ls [.int r] σ := fun p e s m args below meth c H locs lsA C hS hP hl => W.iret C.1 C.2.1 (C.2.2.1.trans hr) (fun t ht hW => ⟨⟨some (.int r), σ, rfl, ⟨r, rfl, hp⟩, by rw [ht]; exact hP⟩, hS.F ht⟩) hS.2.2 hd C.2.2.2.1
theorem G.zret {P : Int32 → gS → Prop} {r : Int32} (hr : M.2.2.2.1 = some .boolean) (hb : r = 0 ∨ r = 1) (hp : P r σ) (hd : decode M.2.1 pc = .ok (.ireturn, 1)) : G X M (g_ri P) pc ls [.int r] σ := fun p e s m args below meth c H locs lsA C hS hP hl => W.zret C.1 C.2.1 (C.2.2.1.trans hr) (by rcases hb with h | h <;> rw [h] <;> decide) (fun t ht hW => ⟨⟨some (.int r), σ, rfl, ⟨r, rfl, hp⟩, by rw [ht]; exact hP⟩, hS.F ht⟩) hS.2.2 hd C.2.2.2.1
theorem G.lret {P : Int64 → gS → Prop} {r : Int64} (hr : M.2.2.2.1 = some .long) (hp : P r σ) (hd : decode M.2.1 pc = .ok (.lreturn, 1)) : G X M (g_rl P) pc ls [.long r] σ := fun p e s m args below meth c H locs lsA C hS hP hl => W.lret C.1 C.2.1 (C.2.2.1.trans hr) (fun t ht hW => ⟨⟨some (.long r), σ, rfl, ⟨r, rfl, hp⟩, by rw [ht]; exact hP⟩, hS.F ht⟩) hS.2.2 hd C.2.2.2.1
theorem G.vret {P : gS → Prop} (hr : M.2.2.2.1 = none) (hp : P σ) (hd : decode M.2.1 pc = .ok (.return_, 1)) : G X M (g_rv P) pc ls [] σ := fun p e s m args below meth c H locs lsA C hS hP hl => W.vret C.1 C.2.1 (C.2.2.1.trans hr) (fun t ht hW => ⟨⟨none, σ, rfl, ⟨rfl, hp⟩, by rw [ht]; exact hP⟩, hS.F ht⟩) hS.2.2 hd C.2.2.2.1
/-! ===== a method's entry ===== -/
def g_ex : List Value → List (Option Value)
  | [] => []
  | v :: t => if v.category = 2 then some v :: none :: g_ex t else some v :: g_ex t
def g_en (n : Nat) (as : List Value) : List (Option Value) := g_ex as ++ List.replicate (n - (g_ex as).length) none
theorem g_ex_in (ad : Nat → Nat) : ∀ (as : List Value) (j0 i : Nat) (v : Value), (g_ex as)[i]? = some (some v) → (j0 + i, g_c ad v) ∈ lv_args j0 (as.map (g_c ad)) := by
  intro as
  induction as with
  | nil => intro j0 i v h; simp [g_ex] at h
  | cons a t ih =>
    intro j0 i v h
    simp only [List.map_cons, lv_args, g_cat]
    by_cases hc : a.category = 2
    · simp only [g_ex, hc, if_true] at h
      simp only [hc, if_true]
      match i, h with
      | 0, h => simp at h; subst h; simp
      | 1, h => simp at h
      | i + 2, h =>
        have e : j0 + (i + 2) = j0 + 2 + i := by omega
        rw [e]
        exact List.mem_cons_of_mem _ (ih (j0 + 2) i v (by simpa using h))
    · simp only [g_ex, hc, if_false] at h
      simp only [hc, if_false]
      match i, h with
      | 0, h => simp at h; subst h; simp
      | i + 1, h =>
        have e : j0 + (i + 1) = j0 + 1 + i := by omega
        rw [e]
        exact List.mem_cons_of_mem _ (ih (j0 + 1) i v (by simpa using h))
theorem GM.of {as : List Value} {ls : List (Option Value)} (hy : plainName M.1.cls = true) (hn : (lg_sl (as.map (g_c X.2.2.2.1))).length ≤ M.2.2.1) (hls : g_en M.2.2.1 as = ls) (h : G X M Q 0 ls [] σ) : GM X M as σ Q := by
  refine Met.ofW (cc := M.2.1) (maxL := M.2.2.1) (ret := M.2.2.2.1) hy rfl ?_
  intro p e s m args below meth c s₁ B hml hv
  obtain ⟨rfl, hB, hP⟩ := hv
  have hts := atoms_spec (ws := g_ws M) B.pre
  have hown : s.vm.findClass M.1.cls = some m.cls := findClass_of_methodNamed B.named
  have hl := lv_entry (as.map (g_c X.2.2.2.1)) hn
  rw [lg_entry_eq]
  refine h p e s m _ below meth c s.heap [] _ ⟨B.exec, B.bytes, B.returns, B.notSynchronized, hml, hown, fun w hw => hts w (List.mem_cons_of_mem _ hw), hB⟩ va_S.rf hP ⟨hl.1, hl.2.1, fun i v hi => ?_⟩
  rw [← hls] at hi
  refine hl.2.2 (i, g_c X.2.2.2.1 v) ?_
  have h1 : (g_ex as)[i]? = some (some v) := by
    unfold g_en at hi
    rw [List.getElem?_append] at hi
    split at hi
    · exact hi
    · rw [List.getElem?_replicate] at hi
      split at hi <;> simp at hi
  have h2 := g_ex_in X.2.2.2.1 as 0 i v h1
  rwa [Nat.zero_add] at h2
theorem GM.mono {as : List Value} {Q' : Option Value → gS → Prop} (h : GM X M as σ Q) (hq : ∀ rv σ', Q rv σ' → Q' rv σ') : GM X M as σ Q' := by
  intro p e ha hc hk s m args below hf happ hP hK
  obtain ⟨n, o, h1, h2, h3, ⟨⟨⟨rv, σ', e1, e2, e3⟩, e4⟩, e5⟩⟩ := h p e ha hc hk s m args below hf happ hP hK
  exact ⟨n, o, h1, h2, h3, ⟨⟨⟨rv, σ', e1, hq rv σ' e2, e3⟩, e4⟩, e5⟩⟩
end G1
/-! ===== calls ===== -/
theorem g_good {M : gM} (hc : Cond.code M.1 M.2.1 M.2.2.1 M.2.2.2.1 ∈ tw) : GoodIn tw (g_ws M) := by
  intro w hw
  rcases List.mem_cons.mp hw with h | h
  · rw [h]; exact ⟨hc, good_of_word (tw_good _ hc)⟩
  · exact ⟨h, good_of_word (tw_good _ h)⟩
/-- what a call needs of the callee: its words, its descriptor -/
abbrev g_cl (M' : gM) (n : Nat) : Prop := Cond.initialized M'.1.cls ∈ tw ∧ Cond.code M'.1 M'.2.1 M'.2.2.1 M'.2.2.2.1 ∈ tw ∧ (M'.1.cls ≠ "java/lang/invoke/MethodHandle" ∧ M'.1.cls ≠ "java/lang/invoke/VarHandle" ∧ (parseMethodDescriptor M'.1.desc).map (fun d => d.parameters.length) = some n) ∧ M'.2.2.2.2.cells = 0 ∧ M'.2.2.2.2.slots = 0
abbrev g_rm (M M' : gM) : Prop := M'.2.2.2.2.frames + 1 ≤ M.2.2.2.2.frames ∧ 8 + (M'.2.2.1 + 11) + M'.2.2.2.2.locals ≤ M.2.2.2.2.locals
theorem g_O.kept {X : gX} {s U : State} {H : Heap} (hvm : s.vm.Alike U.vm) (h : g_O X s s.heap) (hq : ∀ a : Nat, a < s.heap.size → ¬ g_A X a → H[a]? = s.heap[a]?) : g_O X U H := ⟨(h.1.moved hvm).kept hq, (h.2.moved hvm).kept hq⟩
theorem g_blind (X : gX) (as : List Value) (σ : gS) : FrameBlind (g_Pc X as σ) := fun a U g mk q => by
  obtain ⟨q0, ⟨qK, qN, qO, qI⟩, qP⟩ := q
  exact ⟨q0, ⟨va_K.moved (u := U) (U := U.calling g mk a) (Vm.Alike.refl U.vm) qK, g_N.same (s := U) (U := U.calling g mk a) rfl qN, g_O.kept (s := U) (U := U.calling g mk a) (Vm.Alike.refl U.vm) qO (fun _ _ _ => rfl), qI⟩, qP⟩
theorem g_pre {X : gX} {as : List Value} {σ : gS} {s : State} {H : Heap} {locs : List Loc} (hB : g_B X s) (hS : va_S (g_A X) s.heap H locs) (hP : va_P X.2.1 vwCl (g_wd X σ) H) : ∀ U : State, U.heap = H → s.WarmedH U.vm → g_Pc X as σ (as.map (g_c X.2.2.2.1)).toArray U := fun U hU hW => ⟨rfl, ⟨va_K.moved hW.alike hB.1, hB.2.1.warm hW, by rw [hU]; exact g_O.kept hW.alike hB.2.2.1 hS.2.1, hB.2.2.2⟩, by rw [hU]; exact hP⟩
section G2
variable {X : gX} {M : gM} {Q : Option Value → gS → Prop} {pc : Nat} {ls : List (Option Value)} {st : List Value} {σ : gS} {M' : gM} {as rest : List Value} {Q' : Option Value → gS → Prop} {n index : Nat}
/-- behind a run of the callee -/
theorem g_back {p : Program} {e : Env} {s : State} {m : MethodId} {args : Array Value} {below : List Frame} {meth : Method} {c : Code} {H : Heap} {locs : List Loc} {lsA : Array Slot} {st0 : List Value} {a : Array Value} (C : g_at X M p s m args meth c) (hS : va_S (g_A X) s.heap H locs) (hl : g_lv X.2.2.2.1 lsA M.2.2.1 ls)
    (hr : va_Run p X.1 e M.2.2.2.2 s m args below meth c H locs 0 0 0 0 (F0 m pc lsA st0) (rest.map (g_c X.2.2.2.1)) (g_Qc X Q' a) (g_A X))
    (k : ∀ rv σ', Q' rv σ' → G X M Q (pc + 3) ls (rv.toList ++ rest) σ') : W p X.1 e M.2.2.2.2 s m args below meth c H locs 0 0 (MQ below (g_Qc X Q) args s 0 0 (g_A X)) (F0 m pc lsA st0) := by
  intro T hT Y
  obtain ⟨v, st₀, t, T', L, h0, Y', hL, e1, e2, ⟨⟨rv, σ', hv, hq, hP'⟩, hz, hk⟩, stp⟩ := hr T hT Y
  have ev : v = rv.map (g_c X.2.2.2.1) := by injection hv
  subst ev
  rw [h0] at hz hk
  have hS' : va_S (g_A X) s.heap T'.heap (locs ++ L) := ⟨Nat.le_trans hS.1 (by rw [e1]; exact hz), fun q h1 h2 => by rw [e1, hk q (Nat.lt_of_lt_of_le h1 hS.1) h2]; exact hS.2.1 q h1 h2, fun q hq => by
    rcases List.mem_append.mp hq with h | h
    · exact hS.2.2 q h
    · exact hL q h⟩
  obtain ⟨t2, a1, b1⟩ := k rv σ' hq p e s m args below meth c T'.heap (locs ++ L) lsA C hS' (by rw [e1]; exact hP') hl T' rfl Y'
  refine ⟨t2, stp t2 ?_, b1⟩
  have e3 : (rv.map (g_c X.2.2.2.1)).toList ++ rest.map (g_c X.2.2.2.1) = (rv.toList ++ rest).map (g_c X.2.2.2.1) := by cases rv <;> simp
  rw [show ({ F0 m pc lsA st0 with pc := (F0 m pc lsA st0).pc + 3, stack := (rv.map (g_c X.2.2.2.1)).toList ++ rest.map (g_c X.2.2.2.1) } : JFrame) = F0 m (pc + 3) lsA ((rv.toList ++ rest).map (g_c X.2.2.2.1)) by rw [← e3]]
  exact a1
theorem g_catsum (ad : Nat → Nat) (r : List Value) : ((r.map (g_c ad)).map fun v => v.category).sum = (r.map fun v => v.category).sum := by
  rw [List.map_map]
  congr 1
  exact List.map_congr_left (fun v _ => g_cat ad v)
theorem G.callS (hM : GM X M' as σ Q') (hw : Cond.methodLink M.1.cls index M'.1 ∈ tw) (hs : Cond.static M'.1 ∈ tw) (hc : g_cl M' n) (hR : g_rm M M') (hn : as.length = n) (hst : st = as.reverse ++ rest) (hW : (rest.map fun v => v.category).sum ≤ 8) (hd : decode M.2.1 pc = .ok (.invokestatic index, 3)) (k : ∀ rv σ', Q' rv σ' → G X M Q (pc + 3) ls (rv.toList ++ rest) σ') : G X M Q pc ls st σ := by
  intro p e s m args below meth c H locs lsA C hS hP hl
  have hts := C.2.2.2.2.2.2.1
  refine g_back C hS hl (va_runS (As := as.map (g_c X.2.2.2.1)) (n := n) (g := F0 m pc lsA (st.map (g_c X.2.2.2.1))) ⟨C.1, C.2.1, C.2.2.2.2.1, C.2.2.2.2.2.1, hts⟩ hM ⟨callB_of n hts (g_good hc.2.1) rfl hc.2.2.2.1 hc.2.2.2.2 (hts _ hc.1) (hts _ hw) hc.2.2.1 hR, hts _ hs⟩ ⟨g_blind X as σ, g_pre C.2.2.2.2.2.2.2 hS hP⟩ rfl (by simpa using hn) hl.1 (by simp [hst]) (lv_room (by rw [g_catsum]; exact hW)) hd ⟨Nat.zero_le _, Nat.zero_le _⟩) k
theorem G.callSN {host : String} (hM : GM X M' as σ Q') (hw : ∀ U, g_N U → va_Nw (.methodLinkNest M.1.cls index M'.1 host) U) (hs : Cond.static M'.1 ∈ tw) (hc : g_cl M' n) (hR : g_rm M M') (hn : as.length = n) (hst : st = as.reverse ++ rest) (hW : (rest.map fun v => v.category).sum ≤ 8) (hd : decode M.2.1 pc = .ok (.invokestatic index, 3)) (k : ∀ rv σ', Q' rv σ' → G X M Q (pc + 3) ls (rv.toList ++ rest) σ') : G X M Q pc ls st σ := by
  intro p e s m args below meth c H locs lsA C hS hP hl
  have hts := C.2.2.2.2.2.2.1
  refine g_back C hS hl (va_runSN (As := as.map (g_c X.2.2.2.1)) (n := n) (g := F0 m pc lsA (st.map (g_c X.2.2.2.1))) ⟨C.1, C.2.1, C.2.2.2.2.1, C.2.2.2.2.2.1, hts⟩ hM ⟨va_cnB n hts (g_good hc.2.1) rfl hc.2.2.2.1 hc.2.2.2.2 (hw s C.2.2.2.2.2.2.2.2.1) (hts _ hc.1) hc.2.2.1 hR, hts _ hs, trivial⟩ ⟨g_blind X as σ, g_pre C.2.2.2.2.2.2.2 hS hP⟩ rfl (by simpa using hn) hl.1 (by simp [hst]) (lv_room (by rw [g_catsum]; exact hW)) hd ⟨Nat.zero_le _, Nat.zero_le _⟩) k
theorem G.callV {b ci N : Nat} {T : u_T} {fs : List (Option Nat)} (hM : GM X M' (.ref b :: as) σ Q') (hL : X.2.2.2.2[b]? = some (.inr (ci, fs))) (hcl : vwCl[ci]? = some (M'.1.cls, T, N)) (hw : Cond.methodLink M.1.cls index M'.1 ∈ tw) (hi : Cond.instanceMethod M'.1 ∈ tw) (hs : Cond.selects M'.1.cls M'.1 M'.1 ∈ tw) (hc : g_cl M' n) (hR : g_rm M M') (hn : as.length = n) (hst : st = as.reverse ++ .ref b :: rest) (hW : (rest.map fun v => v.category).sum ≤ 8) (hd : decode M.2.1 pc = .ok (.invokevirtual index, 3)) (k : ∀ rv σ', Q' rv σ' → G X M Q (pc + 3) ls (rv.toList ++ rest) σ') : G X M Q pc ls st σ := by
  intro p e s m args below meth c H locs lsA C hS hP hl
  have hts := C.2.2.2.2.2.2.1
  refine g_back C hS hl (va_runV (As := as.map (g_c X.2.2.2.1)) (b := X.2.2.2.1 b) (n := n) (C := M'.1.cls) (g := F0 m pc lsA (st.map (g_c X.2.2.2.1))) ⟨C.1, C.2.1, C.2.2.2.2.1, C.2.2.2.2.2.1, hts⟩ hM ⟨callB_of n hts (g_good hc.2.1) rfl hc.2.2.2.1 hc.2.2.2.2 (hts _ hc.1) (hts _ hw) hc.2.2.1 hR, hts _ hi, hts _ hs⟩ ⟨g_blind X _ σ, va_recv C.2.2.2.2.2.2.2.1 hP hcl (g_w_at hL), g_pre (as := .ref b :: as) C.2.2.2.2.2.2.2 hS hP⟩ rfl (by simpa using hn) hl.1 (by simp [hst, g_c]) (lv_room (by rw [g_catsum]; exact hW)) hd ⟨Nat.zero_le _, Nat.zero_le _⟩) k
end G2
section G3
variable {X : gX} {M : gM} {Q : Option Value → gS → Prop} {pc : Nat} {ls : List (Option Value)} {st : List Value} {σ : gS} {M' : gM} {as rest : List Value} {n index : Nat}
theorem G.callSi {P : Int32 → gS → Prop} (hM : GM X M' (as) σ (g_ri P)) (hw : Cond.methodLink M.1.cls index M'.1 ∈ tw) (hs : Cond.static M'.1 ∈ tw) (hc : g_cl M' n) (hR : g_rm M M') (hn : as.length = n) (hst : st = as.reverse ++ rest) (hW : (rest.map fun v => v.category).sum ≤ 8) (hd : decode M.2.1 pc = .ok (.invokestatic index, 3)) (k : ∀ r σ', P r σ' → G X M Q (pc + 3) ls (.int r :: rest) σ') : G X M Q pc ls st σ := G.callS hM hw hs hc hR hn hst hW hd (fun rv σ' hq => by obtain ⟨r, rfl, h⟩ := hq; exact k r σ' h)
theorem G.callSif {r1 : Int32} {σ1 : gS} (hM : GM X M' (as) σ (g_ri (fun r s => r = r1 ∧ s = σ1))) (hw : Cond.methodLink M.1.cls index M'.1 ∈ tw) (hs : Cond.static M'.1 ∈ tw) (hc : g_cl M' n) (hR : g_rm M M') (hn : as.length = n) (hst : st = as.reverse ++ rest) (hW : (rest.map fun v => v.category).sum ≤ 8) (hd : decode M.2.1 pc = .ok (.invokestatic index, 3)) (k : G X M Q (pc + 3) ls (.int r1 :: rest) σ1) : G X M Q pc ls st σ := G.callSi hM hw hs hc hR hn hst hW hd (fun r σ' h => by rw [h.1, h.2]; exact k)
theorem G.callSl {P : Int64 → gS → Prop} (hM : GM X M' (as) σ (g_rl P)) (hw : Cond.methodLink M.1.cls index M'.1 ∈ tw) (hs : Cond.static M'.1 ∈ tw) (hc : g_cl M' n) (hR : g_rm M M') (hn : as.length = n) (hst : st = as.reverse ++ rest) (hW : (rest.map fun v => v.category).sum ≤ 8) (hd : decode M.2.1 pc = .ok (.invokestatic index, 3)) (k : ∀ r σ', P r σ' → G X M Q (pc + 3) ls (.long r :: rest) σ') : G X M Q pc ls st σ := G.callS hM hw hs hc hR hn hst hW hd (fun rv σ' hq => by obtain ⟨r, rfl, h⟩ := hq; exact k r σ' h)
theorem G.callSlf {r1 : Int64} {σ1 : gS} (hM : GM X M' (as) σ (g_rl (fun r s => r = r1 ∧ s = σ1))) (hw : Cond.methodLink M.1.cls index M'.1 ∈ tw) (hs : Cond.static M'.1 ∈ tw) (hc : g_cl M' n) (hR : g_rm M M') (hn : as.length = n) (hst : st = as.reverse ++ rest) (hW : (rest.map fun v => v.category).sum ≤ 8) (hd : decode M.2.1 pc = .ok (.invokestatic index, 3)) (k : G X M Q (pc + 3) ls (.long r1 :: rest) σ1) : G X M Q pc ls st σ := G.callSl hM hw hs hc hR hn hst hW hd (fun r σ' h => by rw [h.1, h.2]; exact k)
theorem G.callSv {P : gS → Prop} (hM : GM X M' (as) σ (g_rv P)) (hw : Cond.methodLink M.1.cls index M'.1 ∈ tw) (hs : Cond.static M'.1 ∈ tw) (hc : g_cl M' n) (hR : g_rm M M') (hn : as.length = n) (hst : st = as.reverse ++ rest) (hW : (rest.map fun v => v.category).sum ≤ 8) (hd : decode M.2.1 pc = .ok (.invokestatic index, 3)) (k : ∀ σ', P σ' → G X M Q (pc + 3) ls rest σ') : G X M Q pc ls st σ := G.callS hM hw hs hc hR hn hst hW hd (fun rv σ' hq => by obtain ⟨rfl, h⟩ := hq; exact k σ' h)
theorem G.callSvf {σ1 : gS} (hM : GM X M' (as) σ (g_rv (fun s => s = σ1))) (hw : Cond.methodLink M.1.cls index M'.1 ∈ tw) (hs : Cond.static M'.1 ∈ tw) (hc : g_cl M' n) (hR : g_rm M M') (hn : as.length = n) (hst : st = as.reverse ++ rest) (hW : (rest.map fun v => v.category).sum ≤ 8) (hd : decode M.2.1 pc = .ok (.invokestatic index, 3)) (k : G X M Q (pc + 3) ls rest σ1) : G X M Q pc ls st σ := G.callSv hM hw hs hc hR hn hst hW hd (fun σ' h => by rw [h]; exact k)
theorem G.callSNi {host : String} {P : Int32 → gS → Prop} (hM : GM X M' (as) σ (g_ri P)) (hw : ∀ U, g_N U → va_Nw (.methodLinkNest M.1.cls index M'.1 host) U) (hs : Cond.static M'.1 ∈ tw) (hc : g_cl M' n) (hR : g_rm M M') (hn : as.length = n) (hst : st = as.reverse ++ rest) (hW : (rest.map fun v => v.category).sum ≤ 8) (hd : decode M.2.1 pc = .ok (.invokestatic index, 3)) (k : ∀ r σ', P r σ' → G X M Q (pc + 3) ls (.int r :: rest) σ') : G X M Q pc ls st σ := G.callSN hM hw hs hc hR hn hst hW hd (fun rv σ' hq => by obtain ⟨r, rfl, h⟩ := hq; exact k r σ' h)
theorem G.callSNif {host : String} {r1 : Int32} {σ1 : gS} (hM : GM X M' (as) σ (g_ri (fun r s => r = r1 ∧ s = σ1))) (hw : ∀ U, g_N U → va_Nw (.methodLinkNest M.1.cls index M'.1 host) U) (hs : Cond.static M'.1 ∈ tw) (hc : g_cl M' n) (hR : g_rm M M') (hn : as.length = n) (hst : st = as.reverse ++ rest) (hW : (rest.map fun v => v.category).sum ≤ 8) (hd : decode M.2.1 pc = .ok (.invokestatic index, 3)) (k : G X M Q (pc + 3) ls (.int r1 :: rest) σ1) : G X M Q pc ls st σ := G.callSNi hM hw hs hc hR hn hst hW hd (fun r σ' h => by rw [h.1, h.2]; exact k)
theorem G.callSNl {host : String} {P : Int64 → gS → Prop} (hM : GM X M' (as) σ (g_rl P)) (hw : ∀ U, g_N U → va_Nw (.methodLinkNest M.1.cls index M'.1 host) U) (hs : Cond.static M'.1 ∈ tw) (hc : g_cl M' n) (hR : g_rm M M') (hn : as.length = n) (hst : st = as.reverse ++ rest) (hW : (rest.map fun v => v.category).sum ≤ 8) (hd : decode M.2.1 pc = .ok (.invokestatic index, 3)) (k : ∀ r σ', P r σ' → G X M Q (pc + 3) ls (.long r :: rest) σ') : G X M Q pc ls st σ := G.callSN hM hw hs hc hR hn hst hW hd (fun rv σ' hq => by obtain ⟨r, rfl, h⟩ := hq; exact k r σ' h)
theorem G.callSNlf {host : String} {r1 : Int64} {σ1 : gS} (hM : GM X M' (as) σ (g_rl (fun r s => r = r1 ∧ s = σ1))) (hw : ∀ U, g_N U → va_Nw (.methodLinkNest M.1.cls index M'.1 host) U) (hs : Cond.static M'.1 ∈ tw) (hc : g_cl M' n) (hR : g_rm M M') (hn : as.length = n) (hst : st = as.reverse ++ rest) (hW : (rest.map fun v => v.category).sum ≤ 8) (hd : decode M.2.1 pc = .ok (.invokestatic index, 3)) (k : G X M Q (pc + 3) ls (.long r1 :: rest) σ1) : G X M Q pc ls st σ := G.callSNl hM hw hs hc hR hn hst hW hd (fun r σ' h => by rw [h.1, h.2]; exact k)
theorem G.callSNv {host : String} {P : gS → Prop} (hM : GM X M' (as) σ (g_rv P)) (hw : ∀ U, g_N U → va_Nw (.methodLinkNest M.1.cls index M'.1 host) U) (hs : Cond.static M'.1 ∈ tw) (hc : g_cl M' n) (hR : g_rm M M') (hn : as.length = n) (hst : st = as.reverse ++ rest) (hW : (rest.map fun v => v.category).sum ≤ 8) (hd : decode M.2.1 pc = .ok (.invokestatic index, 3)) (k : ∀ σ', P σ' → G X M Q (pc + 3) ls rest σ') : G X M Q pc ls st σ := G.callSN hM hw hs hc hR hn hst hW hd (fun rv σ' hq => by obtain ⟨rfl, h⟩ := hq; exact k σ' h)
theorem G.callSNvf {host : String} {σ1 : gS} (hM : GM X M' (as) σ (g_rv (fun s => s = σ1))) (hw : ∀ U, g_N U → va_Nw (.methodLinkNest M.1.cls index M'.1 host) U) (hs : Cond.static M'.1 ∈ tw) (hc : g_cl M' n) (hR : g_rm M M') (hn : as.length = n) (hst : st = as.reverse ++ rest) (hW : (rest.map fun v => v.category).sum ≤ 8) (hd : decode M.2.1 pc = .ok (.invokestatic index, 3)) (k : G X M Q (pc + 3) ls rest σ1) : G X M Q pc ls st σ := G.callSNv hM hw hs hc hR hn hst hW hd (fun σ' h => by rw [h]; exact k)
theorem G.callVi {b ci N : Nat} {T : u_T} {fs : List (Option Nat)} {P : Int32 → gS → Prop} (hM : GM X M' (.ref b :: as) σ (g_ri P)) (hL : X.2.2.2.2[b]? = some (.inr (ci, fs))) (hcl : vwCl[ci]? = some (M'.1.cls, T, N)) (hw : Cond.methodLink M.1.cls index M'.1 ∈ tw) (hi : Cond.instanceMethod M'.1 ∈ tw) (hs : Cond.selects M'.1.cls M'.1 M'.1 ∈ tw) (hc : g_cl M' n) (hR : g_rm M M') (hn : as.length = n) (hst : st = as.reverse ++ .ref b :: rest) (hW : (rest.map fun v => v.category).sum ≤ 8) (hd : decode M.2.1 pc = .ok (.invokevirtual index, 3)) (k : ∀ r σ', P r σ' → G X M Q (pc + 3) ls (.int r :: rest) σ') : G X M Q pc ls st σ := G.callV hM hL hcl hw hi hs hc hR hn hst hW hd (fun rv σ' hq => by obtain ⟨r, rfl, h⟩ := hq; exact k r σ' h)
theorem G.callVif {b ci N : Nat} {T : u_T} {fs : List (Option Nat)} {r1 : Int32} {σ1 : gS} (hM : GM X M' (.ref b :: as) σ (g_ri (fun r s => r = r1 ∧ s = σ1))) (hL : X.2.2.2.2[b]? = some (.inr (ci, fs))) (hcl : vwCl[ci]? = some (M'.1.cls, T, N)) (hw : Cond.methodLink M.1.cls index M'.1 ∈ tw) (hi : Cond.instanceMethod M'.1 ∈ tw) (hs : Cond.selects M'.1.cls M'.1 M'.1 ∈ tw) (hc : g_cl M' n) (hR : g_rm M M') (hn : as.length = n) (hst : st = as.reverse ++ .ref b :: rest) (hW : (rest.map fun v => v.category).sum ≤ 8) (hd : decode M.2.1 pc = .ok (.invokevirtual index, 3)) (k : G X M Q (pc + 3) ls (.int r1 :: rest) σ1) : G X M Q pc ls st σ := G.callVi hM hL hcl hw hi hs hc hR hn hst hW hd (fun r σ' h => by rw [h.1, h.2]; exact k)
theorem G.callVl {b ci N : Nat} {T : u_T} {fs : List (Option Nat)} {P : Int64 → gS → Prop} (hM : GM X M' (.ref b :: as) σ (g_rl P)) (hL : X.2.2.2.2[b]? = some (.inr (ci, fs))) (hcl : vwCl[ci]? = some (M'.1.cls, T, N)) (hw : Cond.methodLink M.1.cls index M'.1 ∈ tw) (hi : Cond.instanceMethod M'.1 ∈ tw) (hs : Cond.selects M'.1.cls M'.1 M'.1 ∈ tw) (hc : g_cl M' n) (hR : g_rm M M') (hn : as.length = n) (hst : st = as.reverse ++ .ref b :: rest) (hW : (rest.map fun v => v.category).sum ≤ 8) (hd : decode M.2.1 pc = .ok (.invokevirtual index, 3)) (k : ∀ r σ', P r σ' → G X M Q (pc + 3) ls (.long r :: rest) σ') : G X M Q pc ls st σ := G.callV hM hL hcl hw hi hs hc hR hn hst hW hd (fun rv σ' hq => by obtain ⟨r, rfl, h⟩ := hq; exact k r σ' h)
theorem G.callVlf {b ci N : Nat} {T : u_T} {fs : List (Option Nat)} {r1 : Int64} {σ1 : gS} (hM : GM X M' (.ref b :: as) σ (g_rl (fun r s => r = r1 ∧ s = σ1))) (hL : X.2.2.2.2[b]? = some (.inr (ci, fs))) (hcl : vwCl[ci]? = some (M'.1.cls, T, N)) (hw : Cond.methodLink M.1.cls index M'.1 ∈ tw) (hi : Cond.instanceMethod M'.1 ∈ tw) (hs : Cond.selects M'.1.cls M'.1 M'.1 ∈ tw) (hc : g_cl M' n) (hR : g_rm M M') (hn : as.length = n) (hst : st = as.reverse ++ .ref b :: rest) (hW : (rest.map fun v => v.category).sum ≤ 8) (hd : decode M.2.1 pc = .ok (.invokevirtual index, 3)) (k : G X M Q (pc + 3) ls (.long r1 :: rest) σ1) : G X M Q pc ls st σ := G.callVl hM hL hcl hw hi hs hc hR hn hst hW hd (fun r σ' h => by rw [h.1, h.2]; exact k)
theorem G.callVv {b ci N : Nat} {T : u_T} {fs : List (Option Nat)} {P : gS → Prop} (hM : GM X M' (.ref b :: as) σ (g_rv P)) (hL : X.2.2.2.2[b]? = some (.inr (ci, fs))) (hcl : vwCl[ci]? = some (M'.1.cls, T, N)) (hw : Cond.methodLink M.1.cls index M'.1 ∈ tw) (hi : Cond.instanceMethod M'.1 ∈ tw) (hs : Cond.selects M'.1.cls M'.1 M'.1 ∈ tw) (hc : g_cl M' n) (hR : g_rm M M') (hn : as.length = n) (hst : st = as.reverse ++ .ref b :: rest) (hW : (rest.map fun v => v.category).sum ≤ 8) (hd : decode M.2.1 pc = .ok (.invokevirtual index, 3)) (k : ∀ σ', P σ' → G X M Q (pc + 3) ls rest σ') : G X M Q pc ls st σ := G.callV hM hL hcl hw hi hs hc hR hn hst hW hd (fun rv σ' hq => by obtain ⟨rfl, h⟩ := hq; exact k σ' h)
theorem G.callVvf {b ci N : Nat} {T : u_T} {fs : List (Option Nat)} {σ1 : gS} (hM : GM X M' (.ref b :: as) σ (g_rv (fun s => s = σ1))) (hL : X.2.2.2.2[b]? = some (.inr (ci, fs))) (hcl : vwCl[ci]? = some (M'.1.cls, T, N)) (hw : Cond.methodLink M.1.cls index M'.1 ∈ tw) (hi : Cond.instanceMethod M'.1 ∈ tw) (hs : Cond.selects M'.1.cls M'.1 M'.1 ∈ tw) (hc : g_cl M' n) (hR : g_rm M M') (hn : as.length = n) (hst : st = as.reverse ++ .ref b :: rest) (hW : (rest.map fun v => v.category).sum ≤ 8) (hd : decode M.2.1 pc = .ok (.invokevirtual index, 3)) (k : G X M Q (pc + 3) ls rest σ1) : G X M Q pc ls st σ := G.callVv hM hL hcl hw hi hs hc hR hn hst hW hd (fun σ' h => by rw [h]; exact k)
/-- a row's item by a natural number -/
theorem vp_of {i : Int32} {k n : Nat} (hi : i = nI k) (hk : k < n) (hn : n < 2 ^ 31) : vp_in i n := by rw [hi]; exact vp_in_nI hk hn
theorem G.ialdN {a n k : Nat} {i : Int32} (hL : X.2.2.2.2[a]? = some (.inl n)) (hi : i = nI k) (hk : k < n) (hn : n < 2 ^ 31) (hd : decode M.2.1 pc = .ok (.iaload, 1)) (kk : G X M Q (pc + 1) ls (.int (σ a k) :: st) σ) : G X M Q pc ls (.int i :: .ref a :: st) σ := by
  refine G.iald hL (vp_of hi hk hn) hd ?_
  rw [hi, nI_clamp (by omega)]
  exact kk
theorem G.iastN {a n k : Nat} {i x : Int32} (hL : X.2.2.2.2[a]? = some (.inl n)) (hi : i = nI k) (hk : k < n) (hn : n < 2 ^ 31) (hd : decode M.2.1 pc = .ok (.iastore, 1)) (kk : G X M Q (pc + 1) ls st (up2 σ a k x)) : G X M Q pc ls (.int x :: .int i :: .ref a :: st) σ := by
  refine G.iast hL (vp_of hi hk hn) hd ?_
  rw [hi, nI_clamp (by omega)]
  exact kk
end G3
end
