section
-- ===== PART A: goes FIRST, ahead of the names: the tables' words, and 'selects' of the private methods out of them =====
/-- a private method of a class that the tables say can be made, by its rows of tables_1 -/
def lw_okq (q : MethodName × Nat) : Prop := (q.1.cls ≠ "java/lang/invoke/MethodHandle" ∧ q.1.cls ≠ "java/lang/invoke/VarHandle") ∧ Cond.instantiable q.1.cls q.2 ∈ tables_1 ∧ Cond.privateMethod q.1 ∈ tables_1 ∧ Cond.instanceMethod q.1 ∈ tables_1
theorem lw_p0 : lw_okq (⟨"ShareWheel", "refuse", "(I)I"⟩, 18) := ⟨⟨by decide +kernel, by decide +kernel⟩, List.mem_of_getElem? (i := 25) (by decide +kernel), List.mem_of_getElem? (i := 461) (by decide +kernel), List.mem_of_getElem? (i := 462) (by decide +kernel)⟩
theorem lw_p1 : lw_okq (⟨"ShareWheel", "deny", "(I)Z"⟩, 18) := ⟨⟨by decide +kernel, by decide +kernel⟩, List.mem_of_getElem? (i := 25) (by decide +kernel), List.mem_of_getElem? (i := 476) (by decide +kernel), List.mem_of_getElem? (i := 477) (by decide +kernel)⟩
theorem lw_p2 : lw_okq (⟨"ShareWheel$Reader", "readHead", "()Z"⟩, 9) := ⟨⟨by decide +kernel, by decide +kernel⟩, List.mem_of_getElem? (i := 94) (by decide +kernel), List.mem_of_getElem? (i := 488) (by decide +kernel), List.mem_of_getElem? (i := 489) (by decide +kernel)⟩
theorem lw_p3 : lw_okq (⟨"ShareWheel$Reader", "readKeyword", "(Ljava/lang/String;)Z"⟩, 9) := ⟨⟨by decide +kernel, by decide +kernel⟩, List.mem_of_getElem? (i := 94) (by decide +kernel), List.mem_of_getElem? (i := 493) (by decide +kernel), List.mem_of_getElem? (i := 494) (by decide +kernel)⟩
theorem lw_p4 : lw_okq (⟨"ShareWheel$Reader", "readWord", "()V"⟩, 9) := ⟨⟨by decide +kernel, by decide +kernel⟩, List.mem_of_getElem? (i := 94) (by decide +kernel), List.mem_of_getElem? (i := 497) (by decide +kernel), List.mem_of_getElem? (i := 498) (by decide +kernel)⟩
theorem lw_p5 : lw_okq (⟨"ShareWheel$Reader", "skipBlanks", "()V"⟩, 9) := ⟨⟨by decide +kernel, by decide +kernel⟩, List.mem_of_getElem? (i := 94) (by decide +kernel), List.mem_of_getElem? (i := 501) (by decide +kernel), List.mem_of_getElem? (i := 502) (by decide +kernel)⟩
theorem lw_p6 : lw_okq (⟨"ShareWheel$Reader", "sign", "()I"⟩, 9) := ⟨⟨by decide +kernel, by decide +kernel⟩, List.mem_of_getElem? (i := 94) (by decide +kernel), List.mem_of_getElem? (i := 505) (by decide +kernel), List.mem_of_getElem? (i := 506) (by decide +kernel)⟩
theorem lw_p7 : lw_okq (⟨"ShareWheel$Reader", "isWord", "(Ljava/lang/String;)Z"⟩, 9) := ⟨⟨by decide +kernel, by decide +kernel⟩, List.mem_of_getElem? (i := 94) (by decide +kernel), List.mem_of_getElem? (i := 515) (by decide +kernel), List.mem_of_getElem? (i := 516) (by decide +kernel)⟩
theorem lw_p8 : lw_okq (⟨"ShareWheel$Reader", "fail", "(II)Z"⟩, 9) := ⟨⟨by decide +kernel, by decide +kernel⟩, List.mem_of_getElem? (i := 94) (by decide +kernel), List.mem_of_getElem? (i := 567) (by decide +kernel), List.mem_of_getElem? (i := 568) (by decide +kernel)⟩
theorem lw_p9 : lw_okq (⟨"ShareWheel$Reader", "readNumber", "()Z"⟩, 9) := ⟨⟨by decide +kernel, by decide +kernel⟩, List.mem_of_getElem? (i := 94) (by decide +kernel), List.mem_of_getElem? (i := 572) (by decide +kernel), List.mem_of_getElem? (i := 573) (by decide +kernel)⟩
theorem lw_p10 : lw_okq (⟨"ShareWheel$Reader", "readSign", "(C)Z"⟩, 9) := ⟨⟨by decide +kernel, by decide +kernel⟩, List.mem_of_getElem? (i := 94) (by decide +kernel), List.mem_of_getElem? (i := 579) (by decide +kernel), List.mem_of_getElem? (i := 580) (by decide +kernel)⟩
theorem lw_p11 : lw_okq (⟨"ShareWheel$Reader", "readThing", "()Z"⟩, 9) := ⟨⟨by decide +kernel, by decide +kernel⟩, List.mem_of_getElem? (i := 94) (by decide +kernel), List.mem_of_getElem? (i := 584) (by decide +kernel), List.mem_of_getElem? (i := 585) (by decide +kernel)⟩
theorem lw_p12 : lw_okq (⟨"ShareWheel$Reader", "readName", "(Z)Z"⟩, 9) := ⟨⟨by decide +kernel, by decide +kernel⟩, List.mem_of_getElem? (i := 94) (by decide +kernel), List.mem_of_getElem? (i := 588) (by decide +kernel), List.mem_of_getElem? (i := 589) (by decide +kernel)⟩
theorem lw_p13 : lw_okq (⟨"ShareWheel$Reader", "isOwnWord", "()Z"⟩, 9) := ⟨⟨by decide +kernel, by decide +kernel⟩, List.mem_of_getElem? (i := 94) (by decide +kernel), List.mem_of_getElem? (i := 592) (by decide +kernel), List.mem_of_getElem? (i := 593) (by decide +kernel)⟩
theorem lw_p14 : lw_okq (⟨"ShareWheel$Reader", "readTeam", "()Z"⟩, 9) := ⟨⟨by decide +kernel, by decide +kernel⟩, List.mem_of_getElem? (i := 94) (by decide +kernel), List.mem_of_getElem? (i := 612) (by decide +kernel), List.mem_of_getElem? (i := 613) (by decide +kernel)⟩
theorem lw_p15 : lw_okq (⟨"ShareWheel$Scales", "makeBands", "()V"⟩, 15) := ⟨⟨by decide +kernel, by decide +kernel⟩, List.mem_of_getElem? (i := 202) (by decide +kernel), List.mem_of_getElem? (i := 670) (by decide +kernel), List.mem_of_getElem? (i := 671) (by decide +kernel)⟩
def lw_privs_1 : List (MethodName × Nat) := [(⟨"ShareWheel", "refuse", "(I)I"⟩, 18), (⟨"ShareWheel", "deny", "(I)Z"⟩, 18), (⟨"ShareWheel$Reader", "readHead", "()Z"⟩, 9), (⟨"ShareWheel$Reader", "readKeyword", "(Ljava/lang/String;)Z"⟩, 9), (⟨"ShareWheel$Reader", "readWord", "()V"⟩, 9), (⟨"ShareWheel$Reader", "skipBlanks", "()V"⟩, 9), (⟨"ShareWheel$Reader", "sign", "()I"⟩, 9), (⟨"ShareWheel$Reader", "isWord", "(Ljava/lang/String;)Z"⟩, 9), (⟨"ShareWheel$Reader", "fail", "(II)Z"⟩, 9), (⟨"ShareWheel$Reader", "readNumber", "()Z"⟩, 9), (⟨"ShareWheel$Reader", "readSign", "(C)Z"⟩, 9), (⟨"ShareWheel$Reader", "readThing", "()Z"⟩, 9), (⟨"ShareWheel$Reader", "readName", "(Z)Z"⟩, 9), (⟨"ShareWheel$Reader", "isOwnWord", "()Z"⟩, 9), (⟨"ShareWheel$Reader", "readTeam", "()Z"⟩, 9), (⟨"ShareWheel$Scales", "makeBands", "()V"⟩, 15)]
theorem lw_r1 : ∀ q ∈ lw_privs_1, lw_okq q := List.forall_mem_cons.mpr ⟨lw_p0, List.forall_mem_cons.mpr ⟨lw_p1, List.forall_mem_cons.mpr ⟨lw_p2, List.forall_mem_cons.mpr ⟨lw_p3, List.forall_mem_cons.mpr ⟨lw_p4, List.forall_mem_cons.mpr ⟨lw_p5, List.forall_mem_cons.mpr ⟨lw_p6, List.forall_mem_cons.mpr ⟨lw_p7, List.forall_mem_cons.mpr ⟨lw_p8, List.forall_mem_cons.mpr ⟨lw_p9, List.forall_mem_cons.mpr ⟨lw_p10, List.forall_mem_cons.mpr ⟨lw_p11, List.forall_mem_cons.mpr ⟨lw_p12, List.forall_mem_cons.mpr ⟨lw_p13, List.forall_mem_cons.mpr ⟨lw_p14, List.forall_mem_cons.mpr ⟨lw_p15, fun _ h => absurd h List.not_mem_nil⟩⟩⟩⟩⟩⟩⟩⟩⟩⟩⟩⟩⟩⟩⟩⟩
theorem lw_p16 : lw_okq (⟨"ShareWheel$Scales", "makeTable", "()V"⟩, 15) := ⟨⟨by decide +kernel, by decide +kernel⟩, List.mem_of_getElem? (i := 202) (by decide +kernel), List.mem_of_getElem? (i := 679) (by decide +kernel), List.mem_of_getElem? (i := 680) (by decide +kernel)⟩
theorem lw_p17 : lw_okq (⟨"ShareWheel$Scales", "firstPoor", "(I)I"⟩, 15) := ⟨⟨by decide +kernel, by decide +kernel⟩, List.mem_of_getElem? (i := 202) (by decide +kernel), List.mem_of_getElem? (i := 683) (by decide +kernel), List.mem_of_getElem? (i := 684) (by decide +kernel)⟩
theorem lw_p18 : lw_okq (⟨"ShareWheel$Scales", "firstRich", "()I"⟩, 15) := ⟨⟨by decide +kernel, by decide +kernel⟩, List.mem_of_getElem? (i := 202) (by decide +kernel), List.mem_of_getElem? (i := 687) (by decide +kernel), List.mem_of_getElem? (i := 688) (by decide +kernel)⟩
theorem lw_p19 : lw_okq (⟨"ShareWheel", "weighed", "(I)I"⟩, 18) := ⟨⟨by decide +kernel, by decide +kernel⟩, List.mem_of_getElem? (i := 25) (by decide +kernel), List.mem_of_getElem? (i := 700) (by decide +kernel), List.mem_of_getElem? (i := 701) (by decide +kernel)⟩
theorem lw_p20 : lw_okq (⟨"ShareWheel", "happened", "(I)I"⟩, 18) := ⟨⟨by decide +kernel, by decide +kernel⟩, List.mem_of_getElem? (i := 25) (by decide +kernel), List.mem_of_getElem? (i := 704) (by decide +kernel), List.mem_of_getElem? (i := 705) (by decide +kernel)⟩
theorem lw_p21 : lw_okq (⟨"ShareWheel", "isThing", "(I)Z"⟩, 18) := ⟨⟨by decide +kernel, by decide +kernel⟩, List.mem_of_getElem? (i := 25) (by decide +kernel), List.mem_of_getElem? (i := 717) (by decide +kernel), List.mem_of_getElem? (i := 718) (by decide +kernel)⟩
theorem lw_p22 : lw_okq (⟨"ShareWheel", "mustMerge", "(II)Z"⟩, 18) := ⟨⟨by decide +kernel, by decide +kernel⟩, List.mem_of_getElem? (i := 25) (by decide +kernel), List.mem_of_getElem? (i := 794) (by decide +kernel), List.mem_of_getElem? (i := 795) (by decide +kernel)⟩
theorem lw_p23 : lw_okq (⟨"ShareWheel", "owedTo", "(I)I"⟩, 18) := ⟨⟨by decide +kernel, by decide +kernel⟩, List.mem_of_getElem? (i := 25) (by decide +kernel), List.mem_of_getElem? (i := 803) (by decide +kernel), List.mem_of_getElem? (i := 804) (by decide +kernel)⟩
theorem lw_p24 : lw_okq (⟨"ShareWheel", "isTeam", "(I)Z"⟩, 18) := ⟨⟨by decide +kernel, by decide +kernel⟩, List.mem_of_getElem? (i := 25) (by decide +kernel), List.mem_of_getElem? (i := 815) (by decide +kernel), List.mem_of_getElem? (i := 816) (by decide +kernel)⟩
theorem lw_p25 : lw_okq (⟨"ShareWheel", "triedOnTape", "(III)I"⟩, 18) := ⟨⟨by decide +kernel, by decide +kernel⟩, List.mem_of_getElem? (i := 25) (by decide +kernel), List.mem_of_getElem? (i := 839) (by decide +kernel), List.mem_of_getElem? (i := 840) (by decide +kernel)⟩
theorem lw_p26 : lw_okq (⟨"ShareWheel$Picker", "byTable", "(LShareWheel$Bits;)I"⟩, 1) := ⟨⟨by decide +kernel, by decide +kernel⟩, List.mem_of_getElem? (i := 280) (by decide +kernel), List.mem_of_getElem? (i := 853) (by decide +kernel), List.mem_of_getElem? (i := 854) (by decide +kernel)⟩
theorem lw_p27 : lw_okq (⟨"ShareWheel$Picker", "inMore", "(I)I"⟩, 1) := ⟨⟨by decide +kernel, by decide +kernel⟩, List.mem_of_getElem? (i := 280) (by decide +kernel), List.mem_of_getElem? (i := 878) (by decide +kernel), List.mem_of_getElem? (i := 879) (by decide +kernel)⟩
theorem lw_p28 : lw_okq (⟨"ShareWheel$Picker", "byColumn", "(ILShareWheel$Bits;)I"⟩, 1) := ⟨⟨by decide +kernel, by decide +kernel⟩, List.mem_of_getElem? (i := 280) (by decide +kernel), List.mem_of_getElem? (i := 883) (by decide +kernel), List.mem_of_getElem? (i := 884) (by decide +kernel)⟩
theorem lw_p29 : lw_okq (⟨"ShareWheel$Picker", "byBands", "(LShareWheel$Bits;)I"⟩, 1) := ⟨⟨by decide +kernel, by decide +kernel⟩, List.mem_of_getElem? (i := 280) (by decide +kernel), List.mem_of_getElem? (i := 896) (by decide +kernel), List.mem_of_getElem? (i := 897) (by decide +kernel)⟩
theorem lw_p30 : lw_okq (⟨"ShareWheel$Picker", "inBand", "(II)I"⟩, 1) := ⟨⟨by decide +kernel, by decide +kernel⟩, List.mem_of_getElem? (i := 280) (by decide +kernel), List.mem_of_getElem? (i := 900) (by decide +kernel), List.mem_of_getElem? (i := 901) (by decide +kernel)⟩
theorem lw_p31 : lw_okq (⟨"ShareWheel$Picker", "byPair", "(ILShareWheel$Bits;)I"⟩, 1) := ⟨⟨by decide +kernel, by decide +kernel⟩, List.mem_of_getElem? (i := 280) (by decide +kernel), List.mem_of_getElem? (i := 904) (by decide +kernel), List.mem_of_getElem? (i := 905) (by decide +kernel)⟩
def lw_privs_2 : List (MethodName × Nat) := [(⟨"ShareWheel$Scales", "makeTable", "()V"⟩, 15), (⟨"ShareWheel$Scales", "firstPoor", "(I)I"⟩, 15), (⟨"ShareWheel$Scales", "firstRich", "()I"⟩, 15), (⟨"ShareWheel", "weighed", "(I)I"⟩, 18), (⟨"ShareWheel", "happened", "(I)I"⟩, 18), (⟨"ShareWheel", "isThing", "(I)Z"⟩, 18), (⟨"ShareWheel", "mustMerge", "(II)Z"⟩, 18), (⟨"ShareWheel", "owedTo", "(I)I"⟩, 18), (⟨"ShareWheel", "isTeam", "(I)Z"⟩, 18), (⟨"ShareWheel", "triedOnTape", "(III)I"⟩, 18), (⟨"ShareWheel$Picker", "byTable", "(LShareWheel$Bits;)I"⟩, 1), (⟨"ShareWheel$Picker", "inMore", "(I)I"⟩, 1), (⟨"ShareWheel$Picker", "byColumn", "(ILShareWheel$Bits;)I"⟩, 1), (⟨"ShareWheel$Picker", "byBands", "(LShareWheel$Bits;)I"⟩, 1), (⟨"ShareWheel$Picker", "inBand", "(II)I"⟩, 1), (⟨"ShareWheel$Picker", "byPair", "(ILShareWheel$Bits;)I"⟩, 1)]
theorem lw_r2 : ∀ q ∈ lw_privs_2, lw_okq q := List.forall_mem_cons.mpr ⟨lw_p16, List.forall_mem_cons.mpr ⟨lw_p17, List.forall_mem_cons.mpr ⟨lw_p18, List.forall_mem_cons.mpr ⟨lw_p19, List.forall_mem_cons.mpr ⟨lw_p20, List.forall_mem_cons.mpr ⟨lw_p21, List.forall_mem_cons.mpr ⟨lw_p22, List.forall_mem_cons.mpr ⟨lw_p23, List.forall_mem_cons.mpr ⟨lw_p24, List.forall_mem_cons.mpr ⟨lw_p25, List.forall_mem_cons.mpr ⟨lw_p26, List.forall_mem_cons.mpr ⟨lw_p27, List.forall_mem_cons.mpr ⟨lw_p28, List.forall_mem_cons.mpr ⟨lw_p29, List.forall_mem_cons.mpr ⟨lw_p30, List.forall_mem_cons.mpr ⟨lw_p31, fun _ h => absurd h List.not_mem_nil⟩⟩⟩⟩⟩⟩⟩⟩⟩⟩⟩⟩⟩⟩⟩⟩
theorem lw_p32 : lw_okq (⟨"ShareWheel", "countRows", "(IIII)I"⟩, 18) := ⟨⟨by decide +kernel, by decide +kernel⟩, List.mem_of_getElem? (i := 25) (by decide +kernel), List.mem_of_getElem? (i := 924) (by decide +kernel), List.mem_of_getElem? (i := 925) (by decide +kernel)⟩
theorem lw_p33 : lw_okq (⟨"ShareWheel$Seen", "explainsAll", "()Z"⟩, 9) := ⟨⟨by decide +kernel, by decide +kernel⟩, List.mem_of_getElem? (i := 344) (by decide +kernel), List.mem_of_getElem? (i := 1007) (by decide +kernel), List.mem_of_getElem? (i := 1008) (by decide +kernel)⟩
theorem lw_p34 : lw_okq (⟨"ShareWheel$Seen", "countRun", "(III)V"⟩, 9) := ⟨⟨by decide +kernel, by decide +kernel⟩, List.mem_of_getElem? (i := 344) (by decide +kernel), List.mem_of_getElem? (i := 1031) (by decide +kernel), List.mem_of_getElem? (i := 1032) (by decide +kernel)⟩
theorem lw_p35 : lw_okq (⟨"ShareWheel", "judge", "(III)I"⟩, 18) := ⟨⟨by decide +kernel, by decide +kernel⟩, List.mem_of_getElem? (i := 25) (by decide +kernel), List.mem_of_getElem? (i := 1044) (by decide +kernel), List.mem_of_getElem? (i := 1045) (by decide +kernel)⟩
theorem lw_p36 : lw_okq (⟨"ShareWheel", "turnDown", "(II)I"⟩, 18) := ⟨⟨by decide +kernel, by decide +kernel⟩, List.mem_of_getElem? (i := 25) (by decide +kernel), List.mem_of_getElem? (i := 1048) (by decide +kernel), List.mem_of_getElem? (i := 1049) (by decide +kernel)⟩
theorem lw_p37 : lw_okq (⟨"ShareWheel", "judgeSize", "(IJI)I"⟩, 18) := ⟨⟨by decide +kernel, by decide +kernel⟩, List.mem_of_getElem? (i := 25) (by decide +kernel), List.mem_of_getElem? (i := 1055) (by decide +kernel), List.mem_of_getElem? (i := 1056) (by decide +kernel)⟩
theorem lw_p38 : lw_okq (⟨"ShareWheel", "settle", "()V"⟩, 18) := ⟨⟨by decide +kernel, by decide +kernel⟩, List.mem_of_getElem? (i := 25) (by decide +kernel), List.mem_of_getElem? (i := 1070) (by decide +kernel), List.mem_of_getElem? (i := 1071) (by decide +kernel)⟩
theorem lw_p39 : lw_okq (⟨"ShareWheel", "mergeNow", "()V"⟩, 18) := ⟨⟨by decide +kernel, by decide +kernel⟩, List.mem_of_getElem? (i := 25) (by decide +kernel), List.mem_of_getElem? (i := 1074) (by decide +kernel), List.mem_of_getElem? (i := 1075) (by decide +kernel)⟩
theorem lw_p40 : lw_okq (⟨"ShareWheel", "draw", "(I)V"⟩, 18) := ⟨⟨by decide +kernel, by decide +kernel⟩, List.mem_of_getElem? (i := 25) (by decide +kernel), List.mem_of_getElem? (i := 1135) (by decide +kernel), List.mem_of_getElem? (i := 1136) (by decide +kernel)⟩
theorem lw_p41 : lw_okq (⟨"ShareWheel", "drawWord", "(I)V"⟩, 18) := ⟨⟨by decide +kernel, by decide +kernel⟩, List.mem_of_getElem? (i := 25) (by decide +kernel), List.mem_of_getElem? (i := 1139) (by decide +kernel), List.mem_of_getElem? (i := 1140) (by decide +kernel)⟩
theorem lw_p42 : lw_okq (⟨"ShareWheel", "isImage", "()Z"⟩, 18) := ⟨⟨by decide +kernel, by decide +kernel⟩, List.mem_of_getElem? (i := 25) (by decide +kernel), List.mem_of_getElem? (i := 1154) (by decide +kernel), List.mem_of_getElem? (i := 1155) (by decide +kernel)⟩
theorem lw_p43 : lw_okq (⟨"ShareWheelModel", "refuses", "(I)I"⟩, 48) := ⟨⟨by decide +kernel, by decide +kernel⟩, List.mem_of_getElem? (i := 1168) (by decide +kernel), List.mem_of_getElem? (i := 1325) (by decide +kernel), List.mem_of_getElem? (i := 1326) (by decide +kernel)⟩
theorem lw_p44 : lw_okq (⟨"ShareWheelModel", "lays", "(I)V"⟩, 48) := ⟨⟨by decide +kernel, by decide +kernel⟩, List.mem_of_getElem? (i := 1168) (by decide +kernel), List.mem_of_getElem? (i := 1329) (by decide +kernel), List.mem_of_getElem? (i := 1330) (by decide +kernel)⟩
theorem lw_p45 : lw_okq (⟨"ShareWheelModel", "isRefused", "(I)Z"⟩, 48) := ⟨⟨by decide +kernel, by decide +kernel⟩, List.mem_of_getElem? (i := 1168) (by decide +kernel), List.mem_of_getElem? (i := 1337) (by decide +kernel), List.mem_of_getElem? (i := 1338) (by decide +kernel)⟩
theorem lw_p46 : lw_okq (⟨"ShareWheelModel", "taken", "()I"⟩, 48) := ⟨⟨by decide +kernel, by decide +kernel⟩, List.mem_of_getElem? (i := 1168) (by decide +kernel), List.mem_of_getElem? (i := 1345) (by decide +kernel), List.mem_of_getElem? (i := 1346) (by decide +kernel)⟩
theorem lw_p47 : lw_okq (⟨"ShareWheelModel", "readsAll", "()I"⟩, 48) := ⟨⟨by decide +kernel, by decide +kernel⟩, List.mem_of_getElem? (i := 1168) (by decide +kernel), List.mem_of_getElem? (i := 1349) (by decide +kernel), List.mem_of_getElem? (i := 1350) (by decide +kernel)⟩
def lw_privs_3 : List (MethodName × Nat) := [(⟨"ShareWheel", "countRows", "(IIII)I"⟩, 18), (⟨"ShareWheel$Seen", "explainsAll", "()Z"⟩, 9), (⟨"ShareWheel$Seen", "countRun", "(III)V"⟩, 9), (⟨"ShareWheel", "judge", "(III)I"⟩, 18), (⟨"ShareWheel", "turnDown", "(II)I"⟩, 18), (⟨"ShareWheel", "judgeSize", "(IJI)I"⟩, 18), (⟨"ShareWheel", "settle", "()V"⟩, 18), (⟨"ShareWheel", "mergeNow", "()V"⟩, 18), (⟨"ShareWheel", "draw", "(I)V"⟩, 18), (⟨"ShareWheel", "drawWord", "(I)V"⟩, 18), (⟨"ShareWheel", "isImage", "()Z"⟩, 18), (⟨"ShareWheelModel", "refuses", "(I)I"⟩, 48), (⟨"ShareWheelModel", "lays", "(I)V"⟩, 48), (⟨"ShareWheelModel", "isRefused", "(I)Z"⟩, 48), (⟨"ShareWheelModel", "taken", "()I"⟩, 48), (⟨"ShareWheelModel", "readsAll", "()I"⟩, 48)]
theorem lw_r3 : ∀ q ∈ lw_privs_3, lw_okq q := List.forall_mem_cons.mpr ⟨lw_p32, List.forall_mem_cons.mpr ⟨lw_p33, List.forall_mem_cons.mpr ⟨lw_p34, List.forall_mem_cons.mpr ⟨lw_p35, List.forall_mem_cons.mpr ⟨lw_p36, List.forall_mem_cons.mpr ⟨lw_p37, List.forall_mem_cons.mpr ⟨lw_p38, List.forall_mem_cons.mpr ⟨lw_p39, List.forall_mem_cons.mpr ⟨lw_p40, List.forall_mem_cons.mpr ⟨lw_p41, List.forall_mem_cons.mpr ⟨lw_p42, List.forall_mem_cons.mpr ⟨lw_p43, List.forall_mem_cons.mpr ⟨lw_p44, List.forall_mem_cons.mpr ⟨lw_p45, List.forall_mem_cons.mpr ⟨lw_p46, List.forall_mem_cons.mpr ⟨lw_p47, fun _ h => absurd h List.not_mem_nil⟩⟩⟩⟩⟩⟩⟩⟩⟩⟩⟩⟩⟩⟩⟩⟩
theorem lw_p48 : lw_okq (⟨"ShareWheelModel", "must", "(I)V"⟩, 48) := ⟨⟨by decide +kernel, by decide +kernel⟩, List.mem_of_getElem? (i := 1168) (by decide +kernel), List.mem_of_getElem? (i := 1353) (by decide +kernel), List.mem_of_getElem? (i := 1354) (by decide +kernel)⟩
theorem lw_p49 : lw_okq (⟨"ShareWheelModel", "word", "()V"⟩, 48) := ⟨⟨by decide +kernel, by decide +kernel⟩, List.mem_of_getElem? (i := 1168) (by decide +kernel), List.mem_of_getElem? (i := 1357) (by decide +kernel), List.mem_of_getElem? (i := 1358) (by decide +kernel)⟩
theorem lw_p50 : lw_okq (⟨"ShareWheelModel", "goesWell", "()Z"⟩, 48) := ⟨⟨by decide +kernel, by decide +kernel⟩, List.mem_of_getElem? (i := 1168) (by decide +kernel), List.mem_of_getElem? (i := 1361) (by decide +kernel), List.mem_of_getElem? (i := 1362) (by decide +kernel)⟩
theorem lw_p51 : lw_okq (⟨"ShareWheelModel", "here", "()I"⟩, 48) := ⟨⟨by decide +kernel, by decide +kernel⟩, List.mem_of_getElem? (i := 1168) (by decide +kernel), List.mem_of_getElem? (i := 1365) (by decide +kernel), List.mem_of_getElem? (i := 1366) (by decide +kernel)⟩
theorem lw_p52 : lw_okq (⟨"ShareWheelModel", "byteAt", "(I)I"⟩, 48) := ⟨⟨by decide +kernel, by decide +kernel⟩, List.mem_of_getElem? (i := 1168) (by decide +kernel), List.mem_of_getElem? (i := 1369) (by decide +kernel), List.mem_of_getElem? (i := 1370) (by decide +kernel)⟩
theorem lw_p53 : lw_okq (⟨"ShareWheelModel", "isSmall", "(I)Z"⟩, 48) := ⟨⟨by decide +kernel, by decide +kernel⟩, List.mem_of_getElem? (i := 1168) (by decide +kernel), List.mem_of_getElem? (i := 1373) (by decide +kernel), List.mem_of_getElem? (i := 1374) (by decide +kernel)⟩
theorem lw_p54 : lw_okq (⟨"ShareWheelModel", "isDigit", "(I)Z"⟩, 48) := ⟨⟨by decide +kernel, by decide +kernel⟩, List.mem_of_getElem? (i := 1168) (by decide +kernel), List.mem_of_getElem? (i := 1377) (by decide +kernel), List.mem_of_getElem? (i := 1378) (by decide +kernel)⟩
theorem lw_p55 : lw_okq (⟨"ShareWheelModel", "fails", "(II)V"⟩, 48) := ⟨⟨by decide +kernel, by decide +kernel⟩, List.mem_of_getElem? (i := 1168) (by decide +kernel), List.mem_of_getElem? (i := 1381) (by decide +kernel), List.mem_of_getElem? (i := 1382) (by decide +kernel)⟩
theorem lw_p56 : lw_okq (⟨"ShareWheelModel", "own", "()I"⟩, 48) := ⟨⟨by decide +kernel, by decide +kernel⟩, List.mem_of_getElem? (i := 1168) (by decide +kernel), List.mem_of_getElem? (i := 1385) (by decide +kernel), List.mem_of_getElem? (i := 1386) (by decide +kernel)⟩
theorem lw_p57 : lw_okq (⟨"ShareWheelModel", "number", "(II)I"⟩, 48) := ⟨⟨by decide +kernel, by decide +kernel⟩, List.mem_of_getElem? (i := 1168) (by decide +kernel), List.mem_of_getElem? (i := 1389) (by decide +kernel), List.mem_of_getElem? (i := 1390) (by decide +kernel)⟩
theorem lw_p58 : lw_okq (⟨"ShareWheelModel", "endsWell", "()V"⟩, 48) := ⟨⟨by decide +kernel, by decide +kernel⟩, List.mem_of_getElem? (i := 1168) (by decide +kernel), List.mem_of_getElem? (i := 1396) (by decide +kernel), List.mem_of_getElem? (i := 1397) (by decide +kernel)⟩
theorem lw_p59 : lw_okq (⟨"ShareWheelModel", "readsOne", "()V"⟩, 48) := ⟨⟨by decide +kernel, by decide +kernel⟩, List.mem_of_getElem? (i := 1168) (by decide +kernel), List.mem_of_getElem? (i := 1400) (by decide +kernel), List.mem_of_getElem? (i := 1401) (by decide +kernel)⟩
theorem lw_p60 : lw_okq (⟨"ShareWheelModel", "readsThing", "()V"⟩, 48) := ⟨⟨by decide +kernel, by decide +kernel⟩, List.mem_of_getElem? (i := 1168) (by decide +kernel), List.mem_of_getElem? (i := 1404) (by decide +kernel), List.mem_of_getElem? (i := 1405) (by decide +kernel)⟩
theorem lw_p61 : lw_okq (⟨"ShareWheelModel", "freshName", "()V"⟩, 48) := ⟨⟨by decide +kernel, by decide +kernel⟩, List.mem_of_getElem? (i := 1168) (by decide +kernel), List.mem_of_getElem? (i := 1408) (by decide +kernel), List.mem_of_getElem? (i := 1409) (by decide +kernel)⟩
theorem lw_p62 : lw_okq (⟨"ShareWheelModel", "name", "()I"⟩, 48) := ⟨⟨by decide +kernel, by decide +kernel⟩, List.mem_of_getElem? (i := 1168) (by decide +kernel), List.mem_of_getElem? (i := 1412) (by decide +kernel), List.mem_of_getElem? (i := 1413) (by decide +kernel)⟩
theorem lw_p63 : lw_okq (⟨"ShareWheelModel", "isThingNamed", "(I)Z"⟩, 48) := ⟨⟨by decide +kernel, by decide +kernel⟩, List.mem_of_getElem? (i := 1168) (by decide +kernel), List.mem_of_getElem? (i := 1416) (by decide +kernel), List.mem_of_getElem? (i := 1417) (by decide +kernel)⟩
def lw_privs_4 : List (MethodName × Nat) := [(⟨"ShareWheelModel", "must", "(I)V"⟩, 48), (⟨"ShareWheelModel", "word", "()V"⟩, 48), (⟨"ShareWheelModel", "goesWell", "()Z"⟩, 48), (⟨"ShareWheelModel", "here", "()I"⟩, 48), (⟨"ShareWheelModel", "byteAt", "(I)I"⟩, 48), (⟨"ShareWheelModel", "isSmall", "(I)Z"⟩, 48), (⟨"ShareWheelModel", "isDigit", "(I)Z"⟩, 48), (⟨"ShareWheelModel", "fails", "(II)V"⟩, 48), (⟨"ShareWheelModel", "own", "()I"⟩, 48), (⟨"ShareWheelModel", "number", "(II)I"⟩, 48), (⟨"ShareWheelModel", "endsWell", "()V"⟩, 48), (⟨"ShareWheelModel", "readsOne", "()V"⟩, 48), (⟨"ShareWheelModel", "readsThing", "()V"⟩, 48), (⟨"ShareWheelModel", "freshName", "()V"⟩, 48), (⟨"ShareWheelModel", "name", "()I"⟩, 48), (⟨"ShareWheelModel", "isThingNamed", "(I)Z"⟩, 48)]
theorem lw_r4 : ∀ q ∈ lw_privs_4, lw_okq q := List.forall_mem_cons.mpr ⟨lw_p48, List.forall_mem_cons.mpr ⟨lw_p49, List.forall_mem_cons.mpr ⟨lw_p50, List.forall_mem_cons.mpr ⟨lw_p51, List.forall_mem_cons.mpr ⟨lw_p52, List.forall_mem_cons.mpr ⟨lw_p53, List.forall_mem_cons.mpr ⟨lw_p54, List.forall_mem_cons.mpr ⟨lw_p55, List.forall_mem_cons.mpr ⟨lw_p56, List.forall_mem_cons.mpr ⟨lw_p57, List.forall_mem_cons.mpr ⟨lw_p58, List.forall_mem_cons.mpr ⟨lw_p59, List.forall_mem_cons.mpr ⟨lw_p60, List.forall_mem_cons.mpr ⟨lw_p61, List.forall_mem_cons.mpr ⟨lw_p62, List.forall_mem_cons.mpr ⟨lw_p63, fun _ h => absurd h List.not_mem_nil⟩⟩⟩⟩⟩⟩⟩⟩⟩⟩⟩⟩⟩⟩⟩⟩
theorem lw_p64 : lw_okq (⟨"ShareWheelModel", "signAt", "(I)I"⟩, 48) := ⟨⟨by decide +kernel, by decide +kernel⟩, List.mem_of_getElem? (i := 1168) (by decide +kernel), List.mem_of_getElem? (i := 1420) (by decide +kernel), List.mem_of_getElem? (i := 1421) (by decide +kernel)⟩
theorem lw_p65 : lw_okq (⟨"ShareWheelModel", "isTeamNamed", "(I)Z"⟩, 48) := ⟨⟨by decide +kernel, by decide +kernel⟩, List.mem_of_getElem? (i := 1168) (by decide +kernel), List.mem_of_getElem? (i := 1424) (by decide +kernel), List.mem_of_getElem? (i := 1425) (by decide +kernel)⟩
theorem lw_p66 : lw_okq (⟨"ShareWheelModel", "whereNext", "()I"⟩, 48) := ⟨⟨by decide +kernel, by decide +kernel⟩, List.mem_of_getElem? (i := 1168) (by decide +kernel), List.mem_of_getElem? (i := 1428) (by decide +kernel), List.mem_of_getElem? (i := 1429) (by decide +kernel)⟩
theorem lw_p67 : lw_okq (⟨"ShareWheelModel", "readsTeam", "()V"⟩, 48) := ⟨⟨by decide +kernel, by decide +kernel⟩, List.mem_of_getElem? (i := 1168) (by decide +kernel), List.mem_of_getElem? (i := 1435) (by decide +kernel), List.mem_of_getElem? (i := 1436) (by decide +kernel)⟩
theorem lw_p68 : lw_okq (⟨"ShareWheelModel", "sum", "(I)I"⟩, 48) := ⟨⟨by decide +kernel, by decide +kernel⟩, List.mem_of_getElem? (i := 1168) (by decide +kernel), List.mem_of_getElem? (i := 1447) (by decide +kernel), List.mem_of_getElem? (i := 1448) (by decide +kernel)⟩
theorem lw_p69 : lw_okq (⟨"ShareWheelModel", "mores", "()I"⟩, 48) := ⟨⟨by decide +kernel, by decide +kernel⟩, List.mem_of_getElem? (i := 1168) (by decide +kernel), List.mem_of_getElem? (i := 1451) (by decide +kernel), List.mem_of_getElem? (i := 1452) (by decide +kernel)⟩
theorem lw_p70 : lw_okq (⟨"ShareWheelModel", "more", "(I)I"⟩, 48) := ⟨⟨by decide +kernel, by decide +kernel⟩, List.mem_of_getElem? (i := 1168) (by decide +kernel), List.mem_of_getElem? (i := 1455) (by decide +kernel), List.mem_of_getElem? (i := 1456) (by decide +kernel)⟩
theorem lw_p71 : lw_okq (⟨"ShareWheelModel", "lesses", "()I"⟩, 48) := ⟨⟨by decide +kernel, by decide +kernel⟩, List.mem_of_getElem? (i := 1168) (by decide +kernel), List.mem_of_getElem? (i := 1462) (by decide +kernel), List.mem_of_getElem? (i := 1463) (by decide +kernel)⟩
theorem lw_p72 : lw_okq (⟨"ShareWheelModel", "less", "(I)I"⟩, 48) := ⟨⟨by decide +kernel, by decide +kernel⟩, List.mem_of_getElem? (i := 1168) (by decide +kernel), List.mem_of_getElem? (i := 1466) (by decide +kernel), List.mem_of_getElem? (i := 1467) (by decide +kernel)⟩
theorem lw_p73 : lw_okq (⟨"ShareWheelModel", "grain", "()I"⟩, 48) := ⟨⟨by decide +kernel, by decide +kernel⟩, List.mem_of_getElem? (i := 1168) (by decide +kernel), List.mem_of_getElem? (i := 1470) (by decide +kernel), List.mem_of_getElem? (i := 1471) (by decide +kernel)⟩
theorem lw_p74 : lw_okq (⟨"ShareWheelModel", "unlikes", "()I"⟩, 48) := ⟨⟨by decide +kernel, by decide +kernel⟩, List.mem_of_getElem? (i := 1168) (by decide +kernel), List.mem_of_getElem? (i := 1477) (by decide +kernel), List.mem_of_getElem? (i := 1478) (by decide +kernel)⟩
theorem lw_p75 : lw_okq (⟨"ShareWheelModel", "isThing", "(I)Z"⟩, 48) := ⟨⟨by decide +kernel, by decide +kernel⟩, List.mem_of_getElem? (i := 1168) (by decide +kernel), List.mem_of_getElem? (i := 1485) (by decide +kernel), List.mem_of_getElem? (i := 1486) (by decide +kernel)⟩
theorem lw_p76 : lw_okq (⟨"ShareWheelModel", "laysTable", "()V"⟩, 48) := ⟨⟨by decide +kernel, by decide +kernel⟩, List.mem_of_getElem? (i := 1168) (by decide +kernel), List.mem_of_getElem? (i := 1513) (by decide +kernel), List.mem_of_getElem? (i := 1514) (by decide +kernel)⟩
theorem lw_p77 : lw_okq (⟨"ShareWheelModel", "firstPoor", "(J)I"⟩, 48) := ⟨⟨by decide +kernel, by decide +kernel⟩, List.mem_of_getElem? (i := 1168) (by decide +kernel), List.mem_of_getElem? (i := 1517) (by decide +kernel), List.mem_of_getElem? (i := 1518) (by decide +kernel)⟩
theorem lw_p78 : lw_okq (⟨"ShareWheelModel", "firstRich", "(J)I"⟩, 48) := ⟨⟨by decide +kernel, by decide +kernel⟩, List.mem_of_getElem? (i := 1168) (by decide +kernel), List.mem_of_getElem? (i := 1521) (by decide +kernel), List.mem_of_getElem? (i := 1522) (by decide +kernel)⟩
theorem lw_p79 : lw_okq (⟨"ShareWheelModel", "isTotal", "()Z"⟩, 48) := ⟨⟨by decide +kernel, by decide +kernel⟩, List.mem_of_getElem? (i := 1168) (by decide +kernel), List.mem_of_getElem? (i := 1537) (by decide +kernel), List.mem_of_getElem? (i := 1538) (by decide +kernel)⟩
def lw_privs_5 : List (MethodName × Nat) := [(⟨"ShareWheelModel", "signAt", "(I)I"⟩, 48), (⟨"ShareWheelModel", "isTeamNamed", "(I)Z"⟩, 48), (⟨"ShareWheelModel", "whereNext", "()I"⟩, 48), (⟨"ShareWheelModel", "readsTeam", "()V"⟩, 48), (⟨"ShareWheelModel", "sum", "(I)I"⟩, 48), (⟨"ShareWheelModel", "mores", "()I"⟩, 48), (⟨"ShareWheelModel", "more", "(I)I"⟩, 48), (⟨"ShareWheelModel", "lesses", "()I"⟩, 48), (⟨"ShareWheelModel", "less", "(I)I"⟩, 48), (⟨"ShareWheelModel", "grain", "()I"⟩, 48), (⟨"ShareWheelModel", "unlikes", "()I"⟩, 48), (⟨"ShareWheelModel", "isThing", "(I)Z"⟩, 48), (⟨"ShareWheelModel", "laysTable", "()V"⟩, 48), (⟨"ShareWheelModel", "firstPoor", "(J)I"⟩, 48), (⟨"ShareWheelModel", "firstRich", "(J)I"⟩, 48), (⟨"ShareWheelModel", "isTotal", "()Z"⟩, 48)]
theorem lw_r5 : ∀ q ∈ lw_privs_5, lw_okq q := List.forall_mem_cons.mpr ⟨lw_p64, List.forall_mem_cons.mpr ⟨lw_p65, List.forall_mem_cons.mpr ⟨lw_p66, List.forall_mem_cons.mpr ⟨lw_p67, List.forall_mem_cons.mpr ⟨lw_p68, List.forall_mem_cons.mpr ⟨lw_p69, List.forall_mem_cons.mpr ⟨lw_p70, List.forall_mem_cons.mpr ⟨lw_p71, List.forall_mem_cons.mpr ⟨lw_p72, List.forall_mem_cons.mpr ⟨lw_p73, List.forall_mem_cons.mpr ⟨lw_p74, List.forall_mem_cons.mpr ⟨lw_p75, List.forall_mem_cons.mpr ⟨lw_p76, List.forall_mem_cons.mpr ⟨lw_p77, List.forall_mem_cons.mpr ⟨lw_p78, List.forall_mem_cons.mpr ⟨lw_p79, fun _ h => absurd h List.not_mem_nil⟩⟩⟩⟩⟩⟩⟩⟩⟩⟩⟩⟩⟩⟩⟩⟩
theorem lw_p80 : lw_okq (⟨"ShareWheelModel", "isDue", "()Z"⟩, 48) := ⟨⟨by decide +kernel, by decide +kernel⟩, List.mem_of_getElem? (i := 1168) (by decide +kernel), List.mem_of_getElem? (i := 1565) (by decide +kernel), List.mem_of_getElem? (i := 1566) (by decide +kernel)⟩
theorem lw_p81 : lw_okq (⟨"ShareWheelModel", "owedTo", "(I)I"⟩, 48) := ⟨⟨by decide +kernel, by decide +kernel⟩, List.mem_of_getElem? (i := 1168) (by decide +kernel), List.mem_of_getElem? (i := 1574) (by decide +kernel), List.mem_of_getElem? (i := 1575) (by decide +kernel)⟩
theorem lw_p82 : lw_okq (⟨"ShareWheelModel", "isTeam", "(I)Z"⟩, 48) := ⟨⟨by decide +kernel, by decide +kernel⟩, List.mem_of_getElem? (i := 1168) (by decide +kernel), List.mem_of_getElem? (i := 1587) (by decide +kernel), List.mem_of_getElem? (i := 1588) (by decide +kernel)⟩
theorem lw_p83 : lw_okq (⟨"ShareWheelModel", "ofSet", "(II)I"⟩, 48) := ⟨⟨by decide +kernel, by decide +kernel⟩, List.mem_of_getElem? (i := 1168) (by decide +kernel), List.mem_of_getElem? (i := 1591) (by decide +kernel), List.mem_of_getElem? (i := 1592) (by decide +kernel)⟩
theorem lw_p84 : lw_okq (⟨"ShareWheelModel", "isHeavy", "(I)Z"⟩, 48) := ⟨⟨by decide +kernel, by decide +kernel⟩, List.mem_of_getElem? (i := 1168) (by decide +kernel), List.mem_of_getElem? (i := 1603) (by decide +kernel), List.mem_of_getElem? (i := 1604) (by decide +kernel)⟩
theorem lw_p85 : lw_okq (⟨"ShareWheelModel", "opens", "(II)V"⟩, 48) := ⟨⟨by decide +kernel, by decide +kernel⟩, List.mem_of_getElem? (i := 1168) (by decide +kernel), List.mem_of_getElem? (i := 1611) (by decide +kernel), List.mem_of_getElem? (i := 1612) (by decide +kernel)⟩
theorem lw_p86 : lw_okq (⟨"ShareWheelModel", "picksIn", "(I)I"⟩, 48) := ⟨⟨by decide +kernel, by decide +kernel⟩, List.mem_of_getElem? (i := 1168) (by decide +kernel), List.mem_of_getElem? (i := 1615) (by decide +kernel), List.mem_of_getElem? (i := 1616) (by decide +kernel)⟩
theorem lw_p87 : lw_okq (⟨"ShareWheelModel", "byNew", "(I)I"⟩, 48) := ⟨⟨by decide +kernel, by decide +kernel⟩, List.mem_of_getElem? (i := 1168) (by decide +kernel), List.mem_of_getElem? (i := 1619) (by decide +kernel), List.mem_of_getElem? (i := 1620) (by decide +kernel)⟩
theorem lw_p88 : lw_okq (⟨"ShareWheelModel", "newAll", "()I"⟩, 48) := ⟨⟨by decide +kernel, by decide +kernel⟩, List.mem_of_getElem? (i := 1168) (by decide +kernel), List.mem_of_getElem? (i := 1623) (by decide +kernel), List.mem_of_getElem? (i := 1624) (by decide +kernel)⟩
theorem lw_p89 : lw_okq (⟨"ShareWheelModel", "newOf", "(I)I"⟩, 48) := ⟨⟨by decide +kernel, by decide +kernel⟩, List.mem_of_getElem? (i := 1168) (by decide +kernel), List.mem_of_getElem? (i := 1627) (by decide +kernel), List.mem_of_getElem? (i := 1628) (by decide +kernel)⟩
theorem lw_p90 : lw_okq (⟨"ShareWheelModel", "draw", "(I)I"⟩, 48) := ⟨⟨by decide +kernel, by decide +kernel⟩, List.mem_of_getElem? (i := 1168) (by decide +kernel), List.mem_of_getElem? (i := 1631) (by decide +kernel), List.mem_of_getElem? (i := 1632) (by decide +kernel)⟩
theorem lw_p91 : lw_okq (⟨"ShareWheelModel", "bit", "()I"⟩, 48) := ⟨⟨by decide +kernel, by decide +kernel⟩, List.mem_of_getElem? (i := 1168) (by decide +kernel), List.mem_of_getElem? (i := 1635) (by decide +kernel), List.mem_of_getElem? (i := 1636) (by decide +kernel)⟩
theorem lw_p92 : lw_okq (⟨"ShareWheelModel", "opensRow", "(II)V"⟩, 48) := ⟨⟨by decide +kernel, by decide +kernel⟩, List.mem_of_getElem? (i := 1168) (by decide +kernel), List.mem_of_getElem? (i := 1647) (by decide +kernel), List.mem_of_getElem? (i := 1648) (by decide +kernel)⟩
theorem lw_p93 : lw_okq (⟨"ShareWheelModel", "isReached", "(JII)Z"⟩, 48) := ⟨⟨by decide +kernel, by decide +kernel⟩, List.mem_of_getElem? (i := 1168) (by decide +kernel), List.mem_of_getElem? (i := 1658) (by decide +kernel), List.mem_of_getElem? (i := 1659) (by decide +kernel)⟩
theorem lw_p94 : lw_okq (⟨"ShareWheelModel", "isWay", "(I)Z"⟩, 48) := ⟨⟨by decide +kernel, by decide +kernel⟩, List.mem_of_getElem? (i := 1168) (by decide +kernel), List.mem_of_getElem? (i := 1671) (by decide +kernel), List.mem_of_getElem? (i := 1672) (by decide +kernel)⟩
theorem lw_p95 : lw_okq (⟨"ShareWheelModel", "picks", "(I)I"⟩, 48) := ⟨⟨by decide +kernel, by decide +kernel⟩, List.mem_of_getElem? (i := 1168) (by decide +kernel), List.mem_of_getElem? (i := 1675) (by decide +kernel), List.mem_of_getElem? (i := 1676) (by decide +kernel)⟩
def lw_privs_6 : List (MethodName × Nat) := [(⟨"ShareWheelModel", "isDue", "()Z"⟩, 48), (⟨"ShareWheelModel", "owedTo", "(I)I"⟩, 48), (⟨"ShareWheelModel", "isTeam", "(I)Z"⟩, 48), (⟨"ShareWheelModel", "ofSet", "(II)I"⟩, 48), (⟨"ShareWheelModel", "isHeavy", "(I)Z"⟩, 48), (⟨"ShareWheelModel", "opens", "(II)V"⟩, 48), (⟨"ShareWheelModel", "picksIn", "(I)I"⟩, 48), (⟨"ShareWheelModel", "byNew", "(I)I"⟩, 48), (⟨"ShareWheelModel", "newAll", "()I"⟩, 48), (⟨"ShareWheelModel", "newOf", "(I)I"⟩, 48), (⟨"ShareWheelModel", "draw", "(I)I"⟩, 48), (⟨"ShareWheelModel", "bit", "()I"⟩, 48), (⟨"ShareWheelModel", "opensRow", "(II)V"⟩, 48), (⟨"ShareWheelModel", "isReached", "(JII)Z"⟩, 48), (⟨"ShareWheelModel", "isWay", "(I)Z"⟩, 48), (⟨"ShareWheelModel", "picks", "(I)I"⟩, 48)]
theorem lw_r6 : ∀ q ∈ lw_privs_6, lw_okq q := List.forall_mem_cons.mpr ⟨lw_p80, List.forall_mem_cons.mpr ⟨lw_p81, List.forall_mem_cons.mpr ⟨lw_p82, List.forall_mem_cons.mpr ⟨lw_p83, List.forall_mem_cons.mpr ⟨lw_p84, List.forall_mem_cons.mpr ⟨lw_p85, List.forall_mem_cons.mpr ⟨lw_p86, List.forall_mem_cons.mpr ⟨lw_p87, List.forall_mem_cons.mpr ⟨lw_p88, List.forall_mem_cons.mpr ⟨lw_p89, List.forall_mem_cons.mpr ⟨lw_p90, List.forall_mem_cons.mpr ⟨lw_p91, List.forall_mem_cons.mpr ⟨lw_p92, List.forall_mem_cons.mpr ⟨lw_p93, List.forall_mem_cons.mpr ⟨lw_p94, List.forall_mem_cons.mpr ⟨lw_p95, fun _ h => absurd h List.not_mem_nil⟩⟩⟩⟩⟩⟩⟩⟩⟩⟩⟩⟩⟩⟩⟩⟩
theorem lw_p96 : lw_okq (⟨"ShareWheelModel", "byTable", "(I)I"⟩, 48) := ⟨⟨by decide +kernel, by decide +kernel⟩, List.mem_of_getElem? (i := 1168) (by decide +kernel), List.mem_of_getElem? (i := 1679) (by decide +kernel), List.mem_of_getElem? (i := 1680) (by decide +kernel)⟩
theorem lw_p97 : lw_okq (⟨"ShareWheelModel", "byMore", "(II)I"⟩, 48) := ⟨⟨by decide +kernel, by decide +kernel⟩, List.mem_of_getElem? (i := 1168) (by decide +kernel), List.mem_of_getElem? (i := 1683) (by decide +kernel), List.mem_of_getElem? (i := 1684) (by decide +kernel)⟩
theorem lw_p98 : lw_okq (⟨"ShareWheelModel", "byBands", "(I)I"⟩, 48) := ⟨⟨by decide +kernel, by decide +kernel⟩, List.mem_of_getElem? (i := 1168) (by decide +kernel), List.mem_of_getElem? (i := 1687) (by decide +kernel), List.mem_of_getElem? (i := 1688) (by decide +kernel)⟩
theorem lw_p99 : lw_okq (⟨"ShareWheelModel", "bandMass", "(II)I"⟩, 48) := ⟨⟨by decide +kernel, by decide +kernel⟩, List.mem_of_getElem? (i := 1168) (by decide +kernel), List.mem_of_getElem? (i := 1691) (by decide +kernel), List.mem_of_getElem? (i := 1692) (by decide +kernel)⟩
theorem lw_p100 : lw_okq (⟨"ShareWheelModel", "isInBand", "(III)Z"⟩, 48) := ⟨⟨by decide +kernel, by decide +kernel⟩, List.mem_of_getElem? (i := 1168) (by decide +kernel), List.mem_of_getElem? (i := 1695) (by decide +kernel), List.mem_of_getElem? (i := 1696) (by decide +kernel)⟩
theorem lw_p101 : lw_okq (⟨"ShareWheelModel", "bandMany", "(II)I"⟩, 48) := ⟨⟨by decide +kernel, by decide +kernel⟩, List.mem_of_getElem? (i := 1168) (by decide +kernel), List.mem_of_getElem? (i := 1702) (by decide +kernel), List.mem_of_getElem? (i := 1703) (by decide +kernel)⟩
theorem lw_p102 : lw_okq (⟨"ShareWheelModel", "ofBand", "(III)I"⟩, 48) := ⟨⟨by decide +kernel, by decide +kernel⟩, List.mem_of_getElem? (i := 1168) (by decide +kernel), List.mem_of_getElem? (i := 1706) (by decide +kernel), List.mem_of_getElem? (i := 1707) (by decide +kernel)⟩
theorem lw_p103 : lw_okq (⟨"ShareWheelModel", "dealsTo", "(I)I"⟩, 48) := ⟨⟨by decide +kernel, by decide +kernel⟩, List.mem_of_getElem? (i := 1168) (by decide +kernel), List.mem_of_getElem? (i := 1718) (by decide +kernel), List.mem_of_getElem? (i := 1719) (by decide +kernel)⟩
theorem lw_p104 : lw_okq (⟨"ShareWheelModel", "laysFits", "()I"⟩, 48) := ⟨⟨by decide +kernel, by decide +kernel⟩, List.mem_of_getElem? (i := 1168) (by decide +kernel), List.mem_of_getElem? (i := 1746) (by decide +kernel), List.mem_of_getElem? (i := 1747) (by decide +kernel)⟩
theorem lw_p105 : lw_okq (⟨"ShareWheelModel", "comesTo", "(II)I"⟩, 48) := ⟨⟨by decide +kernel, by decide +kernel⟩, List.mem_of_getElem? (i := 1168) (by decide +kernel), List.mem_of_getElem? (i := 1750) (by decide +kernel), List.mem_of_getElem? (i := 1751) (by decide +kernel)⟩
theorem lw_p106 : lw_okq (⟨"ShareWheelModel", "mostBy", "(I)I"⟩, 48) := ⟨⟨by decide +kernel, by decide +kernel⟩, List.mem_of_getElem? (i := 1168) (by decide +kernel), List.mem_of_getElem? (i := 1759) (by decide +kernel), List.mem_of_getElem? (i := 1760) (by decide +kernel)⟩
theorem lw_p107 : lw_okq (⟨"ShareWheelModel", "refusesFor", "(II)I"⟩, 48) := ⟨⟨by decide +kernel, by decide +kernel⟩, List.mem_of_getElem? (i := 1168) (by decide +kernel), List.mem_of_getElem? (i := 1767) (by decide +kernel), List.mem_of_getElem? (i := 1768) (by decide +kernel)⟩
theorem lw_p108 : lw_okq (⟨"ShareWheelModel", "remembers", "()V"⟩, 48) := ⟨⟨by decide +kernel, by decide +kernel⟩, List.mem_of_getElem? (i := 1168) (by decide +kernel), List.mem_of_getElem? (i := 1777) (by decide +kernel), List.mem_of_getElem? (i := 1778) (by decide +kernel)⟩
theorem lw_p109 : lw_okq (⟨"ShareWheelModel", "mergesAll", "()V"⟩, 48) := ⟨⟨by decide +kernel, by decide +kernel⟩, List.mem_of_getElem? (i := 1168) (by decide +kernel), List.mem_of_getElem? (i := 1782) (by decide +kernel), List.mem_of_getElem? (i := 1783) (by decide +kernel)⟩
theorem lw_p110 : lw_okq (⟨"ShareWheelModel", "says", "(I)V"⟩, 48) := ⟨⟨by decide +kernel, by decide +kernel⟩, List.mem_of_getElem? (i := 1168) (by decide +kernel), List.mem_of_getElem? (i := 1822) (by decide +kernel), List.mem_of_getElem? (i := 1823) (by decide +kernel)⟩
theorem lw_p111 : lw_okq (⟨"ShareWheelModel", "saysAll", "(I)V"⟩, 48) := ⟨⟨by decide +kernel, by decide +kernel⟩, List.mem_of_getElem? (i := 1168) (by decide +kernel), List.mem_of_getElem? (i := 1826) (by decide +kernel), List.mem_of_getElem? (i := 1827) (by decide +kernel)⟩
def lw_privs_7 : List (MethodName × Nat) := [(⟨"ShareWheelModel", "byTable", "(I)I"⟩, 48), (⟨"ShareWheelModel", "byMore", "(II)I"⟩, 48), (⟨"ShareWheelModel", "byBands", "(I)I"⟩, 48), (⟨"ShareWheelModel", "bandMass", "(II)I"⟩, 48), (⟨"ShareWheelModel", "isInBand", "(III)Z"⟩, 48), (⟨"ShareWheelModel", "bandMany", "(II)I"⟩, 48), (⟨"ShareWheelModel", "ofBand", "(III)I"⟩, 48), (⟨"ShareWheelModel", "dealsTo", "(I)I"⟩, 48), (⟨"ShareWheelModel", "laysFits", "()I"⟩, 48), (⟨"ShareWheelModel", "comesTo", "(II)I"⟩, 48), (⟨"ShareWheelModel", "mostBy", "(I)I"⟩, 48), (⟨"ShareWheelModel", "refusesFor", "(II)I"⟩, 48), (⟨"ShareWheelModel", "remembers", "()V"⟩, 48), (⟨"ShareWheelModel", "mergesAll", "()V"⟩, 48), (⟨"ShareWheelModel", "says", "(I)V"⟩, 48), (⟨"ShareWheelModel", "saysAll", "(I)V"⟩, 48)]
theorem lw_r7 : ∀ q ∈ lw_privs_7, lw_okq q := List.forall_mem_cons.mpr ⟨lw_p96, List.forall_mem_cons.mpr ⟨lw_p97, List.forall_mem_cons.mpr ⟨lw_p98, List.forall_mem_cons.mpr ⟨lw_p99, List.forall_mem_cons.mpr ⟨lw_p100, List.forall_mem_cons.mpr ⟨lw_p101, List.forall_mem_cons.mpr ⟨lw_p102, List.forall_mem_cons.mpr ⟨lw_p103, List.forall_mem_cons.mpr ⟨lw_p104, List.forall_mem_cons.mpr ⟨lw_p105, List.forall_mem_cons.mpr ⟨lw_p106, List.forall_mem_cons.mpr ⟨lw_p107, List.forall_mem_cons.mpr ⟨lw_p108, List.forall_mem_cons.mpr ⟨lw_p109, List.forall_mem_cons.mpr ⟨lw_p110, List.forall_mem_cons.mpr ⟨lw_p111, fun _ h => absurd h List.not_mem_nil⟩⟩⟩⟩⟩⟩⟩⟩⟩⟩⟩⟩⟩⟩⟩⟩
theorem lw_p112 : lw_okq (⟨"ShareWheelModel", "isImage", "(I)Z"⟩, 48) := ⟨⟨by decide +kernel, by decide +kernel⟩, List.mem_of_getElem? (i := 1168) (by decide +kernel), List.mem_of_getElem? (i := 1838) (by decide +kernel), List.mem_of_getElem? (i := 1839) (by decide +kernel)⟩
theorem lw_p113 : lw_okq (⟨"ShareWheelModel", "four", "(I)I"⟩, 48) := ⟨⟨by decide +kernel, by decide +kernel⟩, List.mem_of_getElem? (i := 1168) (by decide +kernel), List.mem_of_getElem? (i := 1842) (by decide +kernel), List.mem_of_getElem? (i := 1843) (by decide +kernel)⟩
def lw_privs_8 : List (MethodName × Nat) := [(⟨"ShareWheelModel", "isImage", "(I)Z"⟩, 48), (⟨"ShareWheelModel", "four", "(I)I"⟩, 48)]
theorem lw_r8 : ∀ q ∈ lw_privs_8, lw_okq q := List.forall_mem_cons.mpr ⟨lw_p112, List.forall_mem_cons.mpr ⟨lw_p113, fun _ h => absurd h List.not_mem_nil⟩⟩
def lw_privs : List (MethodName × Nat) := lw_privs_1 ++ (lw_privs_2 ++ (lw_privs_3 ++ (lw_privs_4 ++ (lw_privs_5 ++ (lw_privs_6 ++ (lw_privs_7 ++ (lw_privs_8)))))))
def lw_tbl : List Cond := k2_sels lw_privs ++ tables_1
theorem lw_privs_ok : ∀ q ∈ lw_privs, lw_okq q := by
  show ∀ q ∈ lw_privs_1 ++ (lw_privs_2 ++ (lw_privs_3 ++ (lw_privs_4 ++ (lw_privs_5 ++ (lw_privs_6 ++ (lw_privs_7 ++ (lw_privs_8))))))), lw_okq q
  exact List.forall_mem_append.mpr ⟨lw_r1, List.forall_mem_append.mpr ⟨lw_r2, List.forall_mem_append.mpr ⟨lw_r3, List.forall_mem_append.mpr ⟨lw_r4, List.forall_mem_append.mpr ⟨lw_r5, List.forall_mem_append.mpr ⟨lw_r6, List.forall_mem_append.mpr ⟨lw_r7, lw_r8⟩⟩⟩⟩⟩⟩⟩
/-- the streams that the claim lets the run draw from -/
abbrev lw_cs : List Choice := [Jvm.Choice.named "NaN.bits", Jvm.Choice.named "NaN.copy"]
theorem lw_bits : nanBits ∈ lw_cs := by first | decide | exact List.mem_cons_self | simp [lw_cs, nanBits]
end
section
/-! the words that stay when the tables warm: the tables' own, and those of nest mates; one list for every method -/
def sw_ok : Cond → Bool
  | .fieldLinkNest _ _ _ _ _ _ => true
  | .methodLinkNest _ _ _ _ => true
  | .arrayOver (.object _) => true
  | w => goodWord w
def sw_all : List Cond := lw_tbl.filter sw_ok
theorem sw_i (i : Nat) {w : Cond} (h : lw_tbl[i]? = some w ∧ sw_ok w = true) : w ∈ sw_all := List.mem_filter.mpr ⟨List.mem_of_getElem? h.1, h.2⟩
theorem sw_sub (ws : List Cond) (ps : List Nat) (h : ws = ps.filterMap (fun i => lw_tbl[i]?) ∧ ws.all sw_ok = true) : ∀ w ∈ ws, w ∈ sw_all := by
  intro w hw
  have h1 := List.all_eq_true.mp h.2 w hw
  rw [h.1] at hw
  obtain ⟨i, -, hi⟩ := List.mem_filterMap.mp hw
  exact List.mem_filter.mpr ⟨List.mem_of_getElem? hi, h1⟩
theorem sw_stay {args : Array Value} {s : State} (h : ∀ w ∈ sw_all, w.before args s = true) : ∀ w ∈ sw_all, ∀ (a' : Array Value) (U : State), s.WarmedH U.vm → w.before a' U = true := by
  intro w hw a' U hW
  have hb := h w hw
  have hk := (List.mem_filter.mp hw).2
  cases w
  case fieldLinkNest => exact va_Nw.use rfl (va_Nw.warmF hW (va_Nw.of rfl hb))
  case methodLinkNest => exact va_Nw.use rfl (va_Nw.warmM hW (va_Nw.of rfl hb))
  case arrayOver t =>
    cases t
    case object C => exact va_AO.use (va_AO.moved hW.alike (va_AO.of hb))
    all_goals exact word_at hW (good_of_word hk) hb
  all_goals exact word_at hW (good_of_word hk) hb
def sw_ws (y : MethodName) (c : ByteArray) (n : Nat) (r : Option FieldType) : List Cond := Cond.code y c n r :: sw_all
theorem sw_in {y : MethodName} {c : ByteArray} {n : Nat} {r : Option FieldType} {args : Array Value} {s : State} (h : ∀ w ∈ sw_ws y c n r, w.before args s = true) : ∀ w ∈ sw_all, w.before args s = true := fun w hw => h w (List.mem_cons_of_mem _ hw)
theorem sw_ws_stay {y : MethodName} {c : ByteArray} {n : Nat} {r : Option FieldType} {args : Array Value} {s : State} (hc : Cond.code y c n r ∈ sw_all) (h : ∀ w ∈ sw_all, w.before args s = true) : ∀ w ∈ sw_ws y c n r, ∀ (a' : Array Value) (U : State), s.WarmedH U.vm → w.before a' U = true := by
  intro w hw
  rcases List.mem_cons.mp hw with rfl | hw
  · exact sw_stay h _ hc
  · exact sw_stay h w hw
/-! what a call's words say: of its place, its method -/
def lk_m (y : MethodName) (c : ByteArray) (n : Nat) (r : Option FieldType) (k : Nat) : Prop := Cond.code y c n r ∈ sw_all ∧ Cond.initialized y.cls ∈ sw_all ∧ (y.cls ≠ "java/lang/invoke/MethodHandle" ∧ y.cls ≠ "java/lang/invoke/VarHandle" ∧ (parseMethodDescriptor y.desc).map (fun d => d.parameters.length) = some k)
def lk_v (y : MethodName) (c : ByteArray) (n : Nat) (r : Option FieldType) (k : Nat) : Prop := lk_m y c n r k ∧ Cond.instanceMethod y ∈ sw_all ∧ Cond.selects y.cls y y ∈ sw_all
def lk_s (y : MethodName) (c : ByteArray) (n : Nat) (r : Option FieldType) (k : Nat) : Prop := lk_m y c n r k ∧ Cond.static y ∈ sw_all
def lk_i (y : MethodName) (c : ByteArray) (n : Nat) (k : Nat) : Prop := lk_m y c n none k ∧ y.name = "<init>" ∧ Cond.instanceMethod y ∈ sw_all
abbrev rm_ (f lo mc ms : Nat) : Room := { frames := f, cells := mc, slots := ms, locals := lo }
section GEN
variable {p : Program} {l : Launch} {e : Env} {R : Room} {s : State} {m : MethodId} {args : Array Value} {below : List Frame} {meth : Method} {c : Code} {H : Heap} {locs : List Loc} {cells slots : Nat} {Q : State → Prop}
  {cc bytes : ByteArray} {nL maxL index n f lo mc ms : Nat} {own host : String} {y : MethodName} {ret : Option FieldType} {Pc : Array Value → State → Prop} {Qc : Array Value → State → Outcome → State → Prop} {free : Addr → Prop}
  {b : Addr} {As rest st0 : List Value} {pc : Nat} {ls : Array Slot}
theorem lk_sig (hd : (parseMethodDescriptor y.desc).map (fun d => d.parameters.length) = some n) : ∀ sig, parseMethodDescriptor y.desc = some sig → n = sig.parameters.length := fun sig h => by
  rw [h] at hd
  exact (Option.some.inj hd).symm
theorem lk_cb (ht : ∀ w ∈ sw_all, w.before args s = true) (hm : lk_m y bytes maxL ret n) (hl : Cond.methodLink own index y ∈ sw_all) (hR : f + 1 ≤ R.frames ∧ 8 + (maxL + 11) + lo ≤ R.locals) : CallB R s args own index y bytes maxL ret (sw_ws y bytes maxL ret) (rm_ f lo mc ms) mc ms n :=
  ⟨rfl, rfl, hR.1, hR.2, sw_ws_stay hm.1 ht, List.mem_cons_self, ht _ hm.1, ht _ hm.2.1, ⟨hm.2.2.1, hm.2.2.2.1⟩, lk_sig hm.2.2.2.2, ht _ hl⟩
theorem lk_cn (ht : ∀ w ∈ sw_all, w.before args s = true) (hm : lk_m y bytes maxL ret n) (hl : Cond.methodLinkNest own index y host ∈ sw_all) (hR : f + 1 ≤ R.frames ∧ 8 + (maxL + 11) + lo ≤ R.locals) : va_CN R s args own index y host bytes maxL ret (sw_ws y bytes maxL ret) (rm_ f lo mc ms) mc ms n :=
  ⟨⟨rfl, rfl, hR.1, hR.2, sw_ws_stay hm.1 ht, List.mem_cons_self⟩, ht _ hm.1, ht _ hm.2.1, ⟨hm.2.2.1, hm.2.2.2.1⟩, lk_sig hm.2.2.2.2, ht _ hl⟩
/-- a call's run, for the four kinds -/
theorem run_V (S : CallFix p m c cc nL s args sw_all own) (hM : Met l y (sw_ws y bytes maxL ret) (rm_ f lo mc ms) Pc Qc mc ms free) (hl : Cond.methodLink own index y ∈ sw_all) (hk : lk_v y bytes maxL ret n) (hp : PreV s H y.cls b Pc As) (hn : As.length = n) (hsize : ls.size = nL) (hst : st0 = As.reverse ++ .ref b :: rest) (hW : (rest.map fun v => v.category).sum ≤ 8) (hdg : decode cc pc = .ok (.invokevirtual index, 3)) (hR : (f + 1 ≤ R.frames ∧ 8 + (maxL + 11) + lo ≤ R.locals) ∧ cells + mc ≤ R.cells ∧ slots + ms ≤ R.slots) :
    va_Run p l e R s m args below meth c H locs cells slots mc ms (F0 m pc ls st0) rest (Qc (Value.ref b :: As).toArray) free :=
  va_runV S hM ⟨lk_cb S.2.2.2.2 hk.1 hl hR.1, S.2.2.2.2 _ hk.2.1, S.2.2.2.2 _ hk.2.2⟩ hp rfl hn hsize hst (lv_room hW) hdg hR.2
theorem run_VN (S : CallFix p m c cc nL s args sw_all own) (hM : Met l y (sw_ws y bytes maxL ret) (rm_ f lo mc ms) Pc Qc mc ms free) (hl : Cond.methodLinkNest own index y host ∈ sw_all) (hk : lk_v y bytes maxL ret n) (hp : PreV s H y.cls b Pc As) (hn : As.length = n) (hsize : ls.size = nL) (hst : st0 = As.reverse ++ .ref b :: rest) (hW : (rest.map fun v => v.category).sum ≤ 8) (hdg : decode cc pc = .ok (.invokevirtual index, 3)) (hR : (f + 1 ≤ R.frames ∧ 8 + (maxL + 11) + lo ≤ R.locals) ∧ cells + mc ≤ R.cells ∧ slots + ms ≤ R.slots) :
    va_Run p l e R s m args below meth c H locs cells slots mc ms (F0 m pc ls st0) rest (Qc (Value.ref b :: As).toArray) free :=
  va_runVN S hM ⟨lk_cn S.2.2.2.2 hk.1 hl hR.1, S.2.2.2.2 _ hk.2.1, S.2.2.2.2 _ hk.2.2⟩ hp rfl hn hsize hst (lv_room hW) hdg hR.2
theorem run_S (S : CallFix p m c cc nL s args sw_all own) (hM : Met l y (sw_ws y bytes maxL ret) (rm_ f lo mc ms) Pc Qc mc ms free) (hl : Cond.methodLink own index y ∈ sw_all) (hk : lk_s y bytes maxL ret n) (hp : PreS s H Pc As) (hn : As.length = n) (hsize : ls.size = nL) (hst : st0 = As.reverse ++ rest) (hW : (rest.map fun v => v.category).sum ≤ 8) (hdg : decode cc pc = .ok (.invokestatic index, 3)) (hR : (f + 1 ≤ R.frames ∧ 8 + (maxL + 11) + lo ≤ R.locals) ∧ cells + mc ≤ R.cells ∧ slots + ms ≤ R.slots) :
    va_Run p l e R s m args below meth c H locs cells slots mc ms (F0 m pc ls st0) rest (Qc As.toArray) free :=
  va_runS S hM ⟨lk_cb S.2.2.2.2 hk.1 hl hR.1, S.2.2.2.2 _ hk.2⟩ hp rfl hn hsize hst (lv_room hW) hdg hR.2
theorem run_SN (S : CallFix p m c cc nL s args sw_all own) (hM : Met l y (sw_ws y bytes maxL ret) (rm_ f lo mc ms) Pc Qc mc ms free) (hl : Cond.methodLinkNest own index y host ∈ sw_all) (hk : lk_s y bytes maxL ret n) (hp : PreS s H Pc As) (hn : As.length = n) (hsize : ls.size = nL) (hst : st0 = As.reverse ++ rest) (hW : (rest.map fun v => v.category).sum ≤ 8) (hdg : decode cc pc = .ok (.invokestatic index, 3)) (hR : (f + 1 ≤ R.frames ∧ 8 + (maxL + 11) + lo ≤ R.locals) ∧ cells + mc ≤ R.cells ∧ slots + ms ≤ R.slots) :
    va_Run p l e R s m args below meth c H locs cells slots mc ms (F0 m pc ls st0) rest (Qc As.toArray) free :=
  va_runSN S hM ⟨lk_cn S.2.2.2.2 hk.1 hl hR.1, S.2.2.2.2 _ hk.2, trivial⟩ hp rfl hn hsize hst (lv_room hW) hdg hR.2
theorem run_I (S : CallFix p m c cc nL s args sw_all own) (hM : Met l y (sw_ws y bytes maxL none) (rm_ f lo mc ms) Pc Qc mc ms free) (hl : Cond.methodLink own index y ∈ sw_all) (hk : lk_i y bytes maxL n) (hp : PreS s H Pc (.ref b :: As)) (hn : As.length = n) (hsize : ls.size = nL) (hst : st0 = As.reverse ++ .ref b :: rest) (hW : (rest.map fun v => v.category).sum ≤ 8) (hdg : decode cc pc = .ok (.invokespecial index, 3)) (hR : (f + 1 ≤ R.frames ∧ 8 + (maxL + 11) + lo ≤ R.locals) ∧ cells + mc ≤ R.cells ∧ slots + ms ≤ R.slots) :
    va_Run p l e R s m args below meth c H locs cells slots mc ms (F0 m pc ls st0) rest (Qc (Value.ref b :: As).toArray) free :=
  va_runI S hM ⟨lk_cb S.2.2.2.2 hk.1 hl hR.1, hk.2.1, S.2.2.2.2 _ hk.2.2⟩ hp rfl hn hsize hst (lv_room hW) hdg hR.2
theorem run_IN (S : CallFix p m c cc nL s args sw_all own) (hM : Met l y (sw_ws y bytes maxL none) (rm_ f lo mc ms) Pc Qc mc ms free) (hl : Cond.methodLinkNest own index y host ∈ sw_all) (hk : lk_i y bytes maxL n) (hp : PreS s H Pc (.ref b :: As)) (hn : As.length = n) (hsize : ls.size = nL) (hst : st0 = As.reverse ++ .ref b :: rest) (hW : (rest.map fun v => v.category).sum ≤ 8) (hdg : decode cc pc = .ok (.invokespecial index, 3)) (hR : (f + 1 ≤ R.frames ∧ 8 + (maxL + 11) + lo ≤ R.locals) ∧ cells + mc ≤ R.cells ∧ slots + ms ≤ R.slots) :
    va_Run p l e R s m args below meth c H locs cells slots mc ms (F0 m pc ls st0) rest (Qc (Value.ref b :: As).toArray) free :=
  va_runIN S hM ⟨lk_cn S.2.2.2.2 hk.1 hl hR.1, hk.2.1, S.2.2.2.2 _ hk.2.2⟩ hp rfl hn hsize hst (lv_room hW) hdg hR.2
/-! a method that only reads: its answer, the heap as it was -/
def q_R (v : Option Value) : Array Value → State → Outcome → State → Prop := fun _ st o t => o = .returned v ∧ t.heap = st.heap
theorem go_R {v : Option Value} {a : Array Value} (hr : va_Run p l e R s m args below meth c H locs cells slots 0 0 (F0 m pc ls st0) rest (q_R v a) (fun _ => False)) {st1 : List Value} (hst1 : v.toList ++ rest = st1) (kk : W p l e R s m args below meth c H locs cells slots Q (F0 m (pc + 3) ls st1)) : W p l e R s m args below meth c H locs cells slots Q (F0 m pc ls st0) := by
  subst hst1
  intro T hT X
  obtain ⟨v', st₀, t, T', L, h0, X', hL, e1, -, ⟨hv, hh⟩, st⟩ := hr T hT X
  cases hv
  obtain ⟨t2, a1, b1⟩ := kk T' (by rw [e1, hh, h0]) (Stand.forget X' (fun q h => (hL q h).elim))
  exact ⟨t2, st t2 a1, b1⟩
/-! a method that writes: its answer, its cells, all else as it was; u: the addresses and contents that aren't told -/
abbrev u_S : Type := (Nat → Nat) × (Nat → Nat → Int32)
def q_M (D : va_G) (cl : List vw_C) (v : Option Value) (w1 : u_S → va_W) (A : Nat → Prop) : Array Value → State → Outcome → State → Prop := fun _ st oc t => oc = .returned v ∧ (∃ u : u_S, va_P D cl (w1 u) t.heap ∧ va_D A (w1 u)) ∧ va_F A st t
theorem go_M {D : va_G} {cl : List vw_C} {v : Option Value} {w1 : u_S → va_W} {ws wc wr : va_W} {A : Nat → Prop} {H0 : Heap} {a : Array Value} (hP : va_P D cl ws H) (hD : va_D A ws) (hS : va_S A H0 H locs) (hA : ∀ q, H0.size ≤ q → A q)
    (isC isR : List Nat) (hC : isC.map (fun i => ws[i]?) = wc.map some) (hR : isR.map (fun i => ws[i]?) = wr.map some) (hnC : va_nd isC = true) (hn : va_nd isR = true) (hdis : ∀ i ∈ isR, i ∉ isC)
    (hr : va_P D cl wc H → va_D (fun _ => True) wc → va_Run p l e R s m args below meth c H locs cells slots mc ms (F0 m pc ls st0) rest (q_M D cl v w1 (va_A wc H.size) a) (va_A wc H.size))
    {st1 : List Value} (hst1 : v.toList ++ rest = st1)
    (kk : ∀ (u : u_S) (H1 : Heap) (locs1 : List Loc), va_P D cl (wr ++ w1 u) H1 → va_D A (wr ++ w1 u) → va_S A H0 H1 locs1 → W p l e R s m args below meth c H1 locs1 (cells + mc) (slots + ms) Q (F0 m (pc + 3) ls st1)) : W p l e R s m args below meth c H locs cells slots Q (F0 m pc ls st0) := by
  subst hst1
  have hf := va_free hD hS hA isC hC
  have hDc : va_D (fun _ => True) wc := (hD.sub isC hnC hC).weaken (fun _ _ _ _ => trivial)
  have hsub : ∀ (k : Nat) (q : Nat × va_E), wc[k]? = some q → ∃ i, isC[k]? = some i ∧ ws[i]? = some q := by
    intro k q hq
    have h1 : (isC.map (fun i => ws[i]?))[k]? = some (some q) := by rw [hC, List.getElem?_map, hq]; rfl
    rw [List.getElem?_map] at h1
    cases hi : isC[k]? with
    | none => rw [hi] at h1; cases h1
    | some i => rw [hi] at h1; exact ⟨i, rfl, Option.some.inj h1⟩
  have hPc : va_P D cl wc H := fun k q hq => by
    obtain ⟨i, -, h2⟩ := hsub k q hq
    exact hP i q h2
  intro T hT X
  obtain ⟨v', st₀, t, T', L, h0, X', hL, e1, e2, ⟨hv, ⟨u, hp1, hd1⟩, hz, hk⟩, st⟩ := hr hPc hDc T hT X
  cases hv
  rw [h0] at hz hk
  obtain ⟨hP', hD'⟩ := va_join (H1 := T'.heap) hP hD isC isR hC hR hn hdis (fun q h1 h2 => by rw [e1]; exact hk q h1 h2) hf (by rw [e1]; exact hp1) hd1
  obtain ⟨t2, a1, b1⟩ := kk u T'.heap (locs ++ L) hP' hD' ⟨Nat.le_trans hS.1 (by rw [e1]; exact hz), fun q h1 h2 => by rw [e1, hk q (Nat.lt_of_lt_of_le h1 hS.1) (fun z => h2 (hf q z))]; exact hS.2.1 q h1 h2, fun q hq => by
      rcases List.mem_append.mp hq with h | h
      · exact hS.2.2 q h
      · exact hf _ (hL q h)⟩ T' rfl X'
  exact ⟨t2, st t2 a1, b1⟩
/-- the value on top, by another name -/
theorem ct_i {x z : Int32} (h : x = z) (kk : W p l e R s m args below meth c H locs cells slots Q (F0 m pc ls (.int z :: rest))) : W p l e R s m args below meth c H locs cells slots Q (F0 m pc ls (.int x :: rest)) := by rw [h]; exact kk
/-! arrays that are made: of ints, its class known; and such as nobody reads later, of which nothing is kept -/
theorem vp_init {D : va_G} {cl : List vw_C} {ws : va_W} {x : Nat × va_E} (h : va_P D cl (ws ++ [x]) H) : va_P D cl ws H := fun k q hk => h k q (by rw [List.getElem?_append_left ((List.getElem?_eq_some_iff.mp hk).1)]; exact hk)
theorem vd_init {A : Nat → Prop} {ws : va_W} {x : Nat × va_E} (h : va_D A (ws ++ [x])) : va_D A ws := by
  have hm : ∀ (k : Nat) (q : Nat × va_E), ws[k]? = some q → (ws ++ [x])[k]? = some q := fun k q hk => by rw [List.getElem?_append_left ((List.getElem?_eq_some_iff.mp hk).1)]; exact hk
  exact ⟨fun i j p q hp hq e => h.1 i j p q (hm i p hp) (hm j q hq) e, fun k q hk => h.2 k q (hm k q hk)⟩
abbrev zI : Nat → Int32 := fun _ => 0
theorem new_I {D : va_G} {cl : List vw_C} {cI : ClassId} {ws : va_W} {A : Nat → Prop} {H0 : Heap} (hx : p.tables.exec = Jvm.exec) (hb : c.code = cc) (harr : (Cond.arrayClass .int).before args s = true) (hK : va_K D cl [(cI, .int)] s) (hP : va_P D cl ws H) (hD : va_D A ws) (hS : va_S A H0 H locs) (hA : ∀ q, H0.size ≤ q → A q)
    {n : Int32} {N' : Nat} (hn : ¬ n < 0) (hN : n.toNatClampNeg = N') (hbytes : N' * 4 ≤ 536870912) (hcells : cells + 1 ≤ R.cells) (hslots : slots + N' ≤ R.slots) (hdg : decode cc pc = .ok (.newarray .int, 2))
    (kk : ∀ (q : Nat) (H1 : Heap), va_P D cl (ws ++ [(q, .inl (cI, N', .inl zI))]) H1 → va_D A (ws ++ [(q, .inl (cI, N', .inl zI))]) → va_S A H0 H1 locs → W p l e R s m args below meth c H1 locs (cells + 1) (slots + N') Q (F0 m (pc + 2) ls (.ref q :: rest))) : W p l e R s m args below meth c H locs cells slots Q (F0 m pc ls (.int n :: rest)) := by
  refine va_newa (atype := .int) (ty := .int) (a0 := (N', .inl zI)) hx hb harr rfl hK hP hD hS hA (fun _ => rfl) hn hN hbytes hcells hslots hdg (fun q cA H1 hK1 hP1 hD1 hS1 => ?_)
  have h1 := (hK.2 0 _ rfl).2
  have h2 := (hK1.2 1 _ rfl).2
  have e : cA = cI := Option.some.inj (h2.symm.trans h1)
  subst e
  exact kk q H1 hP1 hD1 hS1
theorem new_I0 {D : va_G} {cl : List vw_C} {cI : ClassId} {ws : va_W} {A : Nat → Prop} {H0 : Heap} (hx : p.tables.exec = Jvm.exec) (hb : c.code = cc) (harr : (Cond.arrayClass .int).before args s = true) (hK : va_K D cl [(cI, .int)] s) (hP : va_P D cl ws H) (hD : va_D A ws) (hS : va_S A H0 H locs) (hA : ∀ q, H0.size ≤ q → A q)
    {n : Int32} {N' : Nat} (hn : ¬ n < 0) (hN : n.toNatClampNeg = N') (hbytes : N' * 4 ≤ 536870912) (hcells : cells + 1 ≤ R.cells) (hslots : slots + N' ≤ R.slots) (hdg : decode cc pc = .ok (.newarray .int, 2))
    (kk : ∀ (q : Nat) (H1 : Heap), va_P D cl ws H1 → va_D A ws → va_S A H0 H1 locs → W p l e R s m args below meth c H1 locs (cells + 1) (slots + N') Q (F0 m (pc + 2) ls (.ref q :: rest))) : W p l e R s m args below meth c H locs cells slots Q (F0 m pc ls (.int n :: rest)) :=
  new_I hx hb harr hK hP hD hS hA hn hN hbytes hcells hslots hdg (fun q H1 hP1 hD1 hS1 => kk q H1 (vp_init hP1) (vd_init hD1) hS1)
theorem new_J0 {D : va_G} {cl : List vw_C} {tys : List (ClassId × FieldType)} {ws : va_W} {A : Nat → Prop} {H0 : Heap} (hx : p.tables.exec = Jvm.exec) (hb : c.code = cc) (harr : (Cond.arrayClass .long).before args s = true) (hK : va_K D cl tys s) (hP : va_P D cl ws H) (hD : va_D A ws) (hS : va_S A H0 H locs) (hA : ∀ q, H0.size ≤ q → A q)
    {n : Int32} {N' : Nat} (hn : ¬ n < 0) (hN : n.toNatClampNeg = N') (hbytes : N' * 8 ≤ 536870912) (hcells : cells + 1 ≤ R.cells) (hslots : slots + N' ≤ R.slots) (hdg : decode cc pc = .ok (.newarray .long, 2))
    (kk : ∀ (q : Nat) (H1 : Heap), va_P D cl ws H1 → va_D A ws → va_S A H0 H1 locs → W p l e R s m args below meth c H1 locs (cells + 1) (slots + N') Q (F0 m (pc + 2) ls (.ref q :: rest))) : W p l e R s m args below meth c H locs cells slots Q (F0 m pc ls (.int n :: rest)) :=
  va_newa (atype := .long) (ty := .long) (a0 := (N', .inr (.inl (fun _ => 0)))) hx hb harr rfl hK hP hD hS hA (fun _ => rfl) hn hN hbytes hcells hslots hdg (fun q cA H1 hK1 hP1 hD1 hS1 => kk q H1 (vp_init hP1) (vd_init hD1) hS1)
theorem new_Q0 {D : va_G} {cl : List vw_C} {tys : List (ClassId × FieldType)} {ws : va_W} {A : Nat → Prop} {H0 : Heap} {C : String} (hx : p.tables.exec = Jvm.exec) (hb : c.code = cc) (hown : s.vm.findClass own = some m.cls) (hcl : (Cond.classLink own index C).before args s = true) (hover : (Cond.arrayOver (.object C)).before args s = true) (hK : va_K D cl tys s) (hP : va_P D cl ws H) (hD : va_D A ws) (hS : va_S A H0 H locs) (hA : ∀ q, H0.size ≤ q → A q)
    {n : Int32} {N' : Nat} (hn : ¬ n < 0) (hN : n.toNatClampNeg = N') (hbytes : N' * 4 ≤ 536870912) (hcells : cells + 1 ≤ R.cells) (hslots : slots + N' ≤ R.slots) (hdg : decode cc pc = .ok (.anewarray index, 3))
    (kk : ∀ (q : Nat) (H1 : Heap), va_P D cl ws H1 → va_D A ws → va_S A H0 H1 locs → W p l e R s m args below meth c H1 locs (cells + 1) (slots + N') Q (F0 m (pc + 3) ls (.ref q :: rest))) : W p l e R s m args below meth c H locs cells slots Q (F0 m pc ls (.int n :: rest)) :=
  va_newq hx hb hown hcl (va_AO.of hover) hK hP hD hS hA hn hN hbytes hcells hslots hdg (fun q cA H1 hK1 hP1 hD1 hS1 => kk q H1 (vp_init hP1) (vd_init hD1) hS1)
theorem vi_c {i : Int32} {n : Nat} (h : (decide (i < 0) || decide (n ≤ i.toNatClampNeg)) = false) : vp_in i n := by
  intro q
  rcases q with q | q <;> simp [q] at h
end GEN
/-! starts of contracts -/
def p_R (D : va_G) (cl : List vw_C) (ty : List (ClassId × FieldType)) (av : List Value) (ws : va_W) : Array Value → State → Prop := fun v U => v = av.toArray ∧ va_P D cl ws U.heap ∧ va_K D cl ty U
def p_M (D : va_G) (cl : List vw_C) (ty : List (ClassId × FieldType)) (av : List Value) (ws : va_W) (sz : Nat) : Array Value → State → Prop := fun v U => v = av.toArray ∧ U.heap.size = sz ∧ va_P D cl ws U.heap ∧ va_K D cl ty U ∧ va_D (fun _ => True) ws
section PRE
variable {s : State} {H : Heap} {D : va_G} {cl : List vw_C} {ty : List (ClassId × FieldType)} {av As : List Value} {ws : va_W}
theorem p_R_S (hP : va_P D cl ws H) (hK : va_K D cl ty s) : PreS s H (p_R D cl ty As ws) As :=
  ⟨fun a U g mk q => ⟨q.1, q.2.1, va_K.moved (u := U) (U := U.calling g mk a) (Vm.Alike.refl U.vm) q.2.2⟩, fun U hU hW => ⟨rfl, by rw [hU]; exact hP, va_K.moved hW.alike hK⟩⟩
theorem p_M_S (hP : va_P D cl ws H) (hK : va_K D cl ty s) (hD : va_D (fun _ => True) ws) : PreS s H (p_M D cl ty As ws H.size) As :=
  ⟨fun a U g mk q => ⟨q.1, q.2.1, q.2.2.1, va_K.moved (u := U) (U := U.calling g mk a) (Vm.Alike.refl U.vm) q.2.2.2.1, q.2.2.2.2⟩, fun U hU hW => ⟨rfl, by rw [hU], by rw [hU]; exact hP, va_K.moved hW.alike hK, hD⟩⟩
theorem p_R_V {a ci q0 : Nat} {q : vw_C} {fs : List Value} (hP : va_P D cl ws H) (hK : va_K D cl ty s) (hc : cl[ci]? = some q) (he : ws[q0]? = some (a, .inr (ci, fs))) : PreV s H q.1 a (p_R D cl ty (.ref a :: As) ws) As :=
  ⟨(p_R_S (As := .ref a :: As) hP hK).1, va_recv hK hP hc he, (p_R_S (As := .ref a :: As) hP hK).2⟩
theorem p_M_V {a ci q0 : Nat} {q : vw_C} {fs : List Value} (hP : va_P D cl ws H) (hK : va_K D cl ty s) (hD : va_D (fun _ => True) ws) (hc : cl[ci]? = some q) (he : ws[q0]? = some (a, .inr (ci, fs))) : PreV s H q.1 a (p_M D cl ty (.ref a :: As) ws H.size) As :=
  ⟨(p_M_S (As := .ref a :: As) hP hK hD).1, va_recv hK hP hc he, (p_M_S (As := .ref a :: As) hP hK hD).2⟩
end PRE
end
section
/-! printed names that the walks use (claim/NAMES.whole.lean.txt), and no more -/
def RX0 : String := "ShareWheel$Bits"
def TX0 : u_T := fun k => match k with
  | 0 => ("ShareWheel$Bits", "words", "[I", true)
  | 1 => ("ShareWheel$Bits", "begin", "I", false)
  | 2 => ("ShareWheel$Bits", "at", "I", false)
  | _ => ("ShareWheel$Bits", "end", "I", false)
def tyX0 : Nat → FieldType := fun k => match k with
  | 0 => .array .int
  | 1 => .int
  | 2 => .int
  | _ => .int
theorem nmX0 : ∀ a, a < 4 → ∀ b, b < 4 → a ≠ b → (TX0 a).2.1 ≠ (TX0 b).2.1 := by decide +kernel
theorem tyX0_ok : ∀ k, k < 4 → parseFieldDescriptor (TX0 k).2.2.1 = some (tyX0 k) := by decide +kernel
def RX1 : String := "ShareWheel$History"
def TX1 : u_T := fun k => match k with
  | 0 => ("ShareWheel$History", "ring", "[LShareWheel$State;", true)
  | 1 => ("ShareWheel$History", "next", "I", false)
  | _ => ("ShareWheel$History", "count", "I", false)
def tyX1 : Nat → FieldType := fun k => match k with
  | 0 => .array (.object "ShareWheel$State")
  | 1 => .int
  | _ => .int
theorem nmX1 : ∀ a, a < 3 → ∀ b, b < 3 → a ≠ b → (TX1 a).2.1 ≠ (TX1 b).2.1 := by decide +kernel
theorem tyX1_ok : ∀ k, k < 3 → parseFieldDescriptor (TX1 k).2.2.1 = some (tyX1 k) := by decide +kernel
def RX2 : String := "ShareWheel$Picker"
def TX2 : u_T := fun k => match k with
  | _ => ("ShareWheel$Picker", "scales", "LShareWheel$Scales;", true)
def tyX2 : Nat → FieldType := fun k => match k with
  | _ => .object "ShareWheel$Scales"
theorem nmX2 : ∀ a, a < 1 → ∀ b, b < 1 → a ≠ b → (TX2 a).2.1 ≠ (TX2 b).2.1 := by decide +kernel
theorem tyX2_ok : ∀ k, k < 1 → parseFieldDescriptor (TX2 k).2.2.1 = some (tyX2 k) := by decide +kernel
def RX3 : String := "ShareWheel$Plan"
def TX3 : u_T := fun k => match k with
  | 0 => ("ShareWheel$Plan", "names", "[I", true)
  | 1 => ("ShareWheel$Plan", "weights", "[I", true)
  | 2 => ("ShareWheel$Plan", "teamNames", "[I", true)
  | 3 => ("ShareWheel$Plan", "masks", "[I", true)
  | 4 => ("ShareWheel$Plan", "told", "Z", false)
  | 5 => ("ShareWheel$Plan", "limit", "I", false)
  | 6 => ("ShareWheel$Plan", "things", "I", false)
  | _ => ("ShareWheel$Plan", "teams", "I", false)
def tyX3 : Nat → FieldType := fun k => match k with
  | 0 => .array .int
  | 1 => .array .int
  | 2 => .array .int
  | 3 => .array .int
  | 4 => .boolean
  | 5 => .int
  | 6 => .int
  | _ => .int
theorem nmX3 : ∀ a, a < 8 → ∀ b, b < 8 → a ≠ b → (TX3 a).2.1 ≠ (TX3 b).2.1 := by decide +kernel
theorem tyX3_ok : ∀ k, k < 8 → parseFieldDescriptor (TX3 k).2.2.1 = some (tyX3 k) := by decide +kernel
def RX4 : String := "ShareWheel$Reader"
def TX4 : u_T := fun k => match k with
  | 0 => ("ShareWheel$Reader", "tape", "LShareWheel$Tape;", true)
  | 1 => ("ShareWheel$Reader", "plan", "LShareWheel$Plan;", true)
  | 2 => ("ShareWheel$Reader", "at", "I", false)
  | 3 => ("ShareWheel$Reader", "from", "I", false)
  | 4 => ("ShareWheel$Reader", "size", "I", false)
  | 5 => ("ShareWheel$Reader", "value", "I", false)
  | 6 => ("ShareWheel$Reader", "apart", "Z", false)
  | 7 => ("ShareWheel$Reader", "fault", "I", false)
  | _ => ("ShareWheel$Reader", "place", "I", false)
def tyX4 : Nat → FieldType := fun k => match k with
  | 0 => .object "ShareWheel$Tape"
  | 1 => .object "ShareWheel$Plan"
  | 2 => .int
  | 3 => .int
  | 4 => .int
  | 5 => .int
  | 6 => .boolean
  | 7 => .int
  | _ => .int
theorem nmX4 : ∀ a, a < 9 → ∀ b, b < 9 → a ≠ b → (TX4 a).2.1 ≠ (TX4 b).2.1 := by decide +kernel
theorem tyX4_ok : ∀ k, k < 9 → parseFieldDescriptor (TX4 k).2.2.1 = some (tyX4 k) := by decide +kernel
def RX5 : String := "ShareWheel$Scales"
def TX5 : u_T := fun k => match k with
  | 0 => ("ShareWheel$Scales", "old", "[I", true)
  | 1 => ("ShareWheel$Scales", "now", "[I", true)
  | 2 => ("ShareWheel$Scales", "part", "[I", true)
  | 3 => ("ShareWheel$Scales", "band", "[I", true)
  | 4 => ("ShareWheel$Scales", "bandSize", "[I", true)
  | 5 => ("ShareWheel$Scales", "bandSum", "[I", true)
  | 6 => ("ShareWheel$Scales", "own", "[I", true)
  | 7 => ("ShareWheel$Scales", "alias", "[I", true)
  | 8 => ("ShareWheel$Scales", "things", "I", false)
  | 9 => ("ShareWheel$Scales", "total", "I", false)
  | 10 => ("ShareWheel$Scales", "base", "I", false)
  | 11 => ("ShareWheel$Scales", "gain", "I", false)
  | 12 => ("ShareWheel$Scales", "loss", "I", false)
  | 13 => ("ShareWheel$Scales", "unlike", "I", false)
  | _ => ("ShareWheel$Scales", "grain", "I", false)
def tyX5 : Nat → FieldType := fun k => match k with
  | 0 => .array .int
  | 1 => .array .int
  | 2 => .array .int
  | 3 => .array .int
  | 4 => .array .int
  | 5 => .array .int
  | 6 => .array .int
  | 7 => .array .int
  | 8 => .int
  | 9 => .int
  | 10 => .int
  | 11 => .int
  | 12 => .int
  | 13 => .int
  | _ => .int
theorem nmX5 : ∀ a, a < 15 → ∀ b, b < 15 → a ≠ b → (TX5 a).2.1 ≠ (TX5 b).2.1 := by decide +kernel
theorem tyX5_ok : ∀ k, k < 15 → parseFieldDescriptor (TX5 k).2.2.1 = some (tyX5 k) := by decide +kernel
def RX6 : String := "ShareWheel$SeedBits"
def TX6 : u_T := fun k => match k with
  | 0 => ("ShareWheel$Bits", "words", "[I", true)
  | 1 => ("ShareWheel$Bits", "begin", "I", false)
  | 2 => ("ShareWheel$Bits", "at", "I", false)
  | 3 => ("ShareWheel$Bits", "end", "I", false)
  | _ => ("ShareWheel$SeedBits", "x", "I", false)
def tyX6 : Nat → FieldType := fun k => match k with
  | 0 => .array .int
  | 1 => .int
  | 2 => .int
  | 3 => .int
  | _ => .int
theorem nmX6 : ∀ a, a < 5 → ∀ b, b < 5 → a ≠ b → (TX6 a).2.1 ≠ (TX6 b).2.1 := by decide +kernel
theorem tyX6_ok : ∀ k, k < 5 → parseFieldDescriptor (TX6 k).2.2.1 = some (tyX6 k) := by decide +kernel
def RX7 : String := "ShareWheel$Seen"
def TX7 : u_T := fun k => match k with
  | 0 => ("ShareWheel$Seen", "rowBits", "[I", true)
  | 1 => ("ShareWheel$Seen", "rowThing", "[I", true)
  | 2 => ("ShareWheel$Seen", "trial", "LShareWheel$Scales;", true)
  | 3 => ("ShareWheel$Seen", "picker", "LShareWheel$Picker;", true)
  | 4 => ("ShareWheel$Seen", "line", "[I", true)
  | 5 => ("ShareWheel$Seen", "bits", "LShareWheel$Bits;", true)
  | 6 => ("ShareWheel$Seen", "sorted", "[I", false)
  | 7 => ("ShareWheel$Seen", "count", "I", false)
  | _ => ("ShareWheel$Seen", "unknown", "I", false)
def tyX7 : Nat → FieldType := fun k => match k with
  | 0 => .array .int
  | 1 => .array .int
  | 2 => .object "ShareWheel$Scales"
  | 3 => .object "ShareWheel$Picker"
  | 4 => .array .int
  | 5 => .object "ShareWheel$Bits"
  | 6 => .array .int
  | 7 => .int
  | _ => .int
theorem nmX7 : ∀ a, a < 9 → ∀ b, b < 9 → a ≠ b → (TX7 a).2.1 ≠ (TX7 b).2.1 := by decide +kernel
theorem tyX7_ok : ∀ k, k < 9 → parseFieldDescriptor (TX7 k).2.2.1 = some (tyX7 k) := by decide +kernel
def RX8 : String := "ShareWheel$State"
def TX8 : u_T := fun k => match k with
  | 0 => ("ShareWheel$State", "old", "[I", true)
  | 1 => ("ShareWheel$State", "now", "[I", true)
  | 2 => ("ShareWheel$State", "count", "[I", true)
  | 3 => ("ShareWheel$State", "words", "[I", true)
  | 4 => ("ShareWheel$State", "things", "I", false)
  | 5 => ("ShareWheel$State", "limit", "I", false)
  | 6 => ("ShareWheel$State", "mergings", "I", false)
  | 7 => ("ShareWheel$State", "taken", "I", false)
  | 8 => ("ShareWheel$State", "from", "I", false)
  | _ => ("ShareWheel$State", "to", "I", false)
def tyX8 : Nat → FieldType := fun k => match k with
  | 0 => .array .int
  | 1 => .array .int
  | 2 => .array .int
  | 3 => .array .int
  | 4 => .int
  | 5 => .int
  | 6 => .int
  | 7 => .int
  | 8 => .int
  | _ => .int
theorem nmX8 : ∀ a, a < 10 → ∀ b, b < 10 → a ≠ b → (TX8 a).2.1 ≠ (TX8 b).2.1 := by decide +kernel
theorem tyX8_ok : ∀ k, k < 10 → parseFieldDescriptor (TX8 k).2.2.1 = some (tyX8 k) := by decide +kernel
def RX9 : String := "ShareWheel$Tape"
def TX9 : u_T := fun k => match k with
  | 0 => ("ShareWheel$Tape", "words", "[I", true)
  | _ => ("ShareWheel$Tape", "length", "I", false)
def tyX9 : Nat → FieldType := fun k => match k with
  | 0 => .array .int
  | _ => .int
theorem nmX9 : ∀ a, a < 2 → ∀ b, b < 2 → a ≠ b → (TX9 a).2.1 ≠ (TX9 b).2.1 := by decide +kernel
theorem tyX9_ok : ∀ k, k < 2 → parseFieldDescriptor (TX9 k).2.2.1 = some (tyX9 k) := by decide +kernel
def RX10 : String := "ShareWheel$Walk"
def TX10 : u_T := fun k => match k with
  | 0 => ("ShareWheel$Walk", "line", "[I", true)
  | 1 => ("ShareWheel$Walk", "bits", "LShareWheel$Bits;", true)
  | 2 => ("ShareWheel$Walk", "size", "I", false)
  | 3 => ("ShareWheel$Walk", "row", "I", false)
  | 4 => ("ShareWheel$Walk", "span", "I", false)
  | 5 => ("ShareWheel$Walk", "used", "I", false)
  | _ => ("ShareWheel$Walk", "result", "I", false)
def tyX10 : Nat → FieldType := fun k => match k with
  | 0 => .array .int
  | 1 => .object "ShareWheel$Bits"
  | 2 => .int
  | 3 => .int
  | 4 => .int
  | 5 => .int
  | _ => .int
theorem nmX10 : ∀ a, a < 7 → ∀ b, b < 7 → a ≠ b → (TX10 a).2.1 ≠ (TX10 b).2.1 := by decide +kernel
theorem tyX10_ok : ∀ k, k < 7 → parseFieldDescriptor (TX10 k).2.2.1 = some (tyX10 k) := by decide +kernel
def RX11 : String := "ShareWheel"
def TX11 : u_T := fun k => match k with
  | 0 => ("ShareWheel", "tape", "LShareWheel$Tape;", true)
  | 1 => ("ShareWheel", "plan", "LShareWheel$Plan;", true)
  | 2 => ("ShareWheel", "reader", "LShareWheel$Reader;", true)
  | 3 => ("ShareWheel", "state", "LShareWheel$State;", true)
  | 4 => ("ShareWheel", "history", "LShareWheel$History;", true)
  | 5 => ("ShareWheel", "scales", "LShareWheel$Scales;", true)
  | 6 => ("ShareWheel", "picker", "LShareWheel$Picker;", true)
  | 7 => ("ShareWheel", "walk", "LShareWheel$Walk;", true)
  | 8 => ("ShareWheel", "seen", "LShareWheel$Seen;", true)
  | 9 => ("ShareWheel", "tapeBits", "LShareWheel$Bits;", true)
  | 10 => ("ShareWheel", "storedBits", "LShareWheel$Bits;", true)
  | 11 => ("ShareWheel", "seedBits", "LShareWheel$SeedBits;", true)
  | 12 => ("ShareWheel", "tally", "[I", true)
  | 13 => ("ShareWheel", "refused", "[I", true)
  | 14 => ("ShareWheel", "picture", "[I", true)
  | 15 => ("ShareWheel", "pictureSize", "I", false)
  | 16 => ("ShareWheel", "reason", "I", false)
  | _ => ("ShareWheel", "cause", "I", false)
def tyX11 : Nat → FieldType := fun k => match k with
  | 0 => .object "ShareWheel$Tape"
  | 1 => .object "ShareWheel$Plan"
  | 2 => .object "ShareWheel$Reader"
  | 3 => .object "ShareWheel$State"
  | 4 => .object "ShareWheel$History"
  | 5 => .object "ShareWheel$Scales"
  | 6 => .object "ShareWheel$Picker"
  | 7 => .object "ShareWheel$Walk"
  | 8 => .object "ShareWheel$Seen"
  | 9 => .object "ShareWheel$Bits"
  | 10 => .object "ShareWheel$Bits"
  | 11 => .object "ShareWheel$SeedBits"
  | 12 => .array .int
  | 13 => .array .int
  | 14 => .array .int
  | 15 => .int
  | 16 => .int
  | _ => .int
theorem nmX11 : ∀ a, a < 18 → ∀ b, b < 18 → a ≠ b → (TX11 a).2.1 ≠ (TX11 b).2.1 := by decide +kernel
theorem tyX11_ok : ∀ k, k < 18 → parseFieldDescriptor (TX11 k).2.2.1 = some (tyX11 k) := by decide +kernel
def RX12 : String := "ShareWheelModel"
def TX12 : u_T := fun k => match k with
  | 0 => ("ShareWheelModel", "isWheel", "Z", false)
  | 1 => ("ShareWheelModel", "things", "I", false)
  | 2 => ("ShareWheelModel", "names", "[I", true)
  | 3 => ("ShareWheelModel", "readMany", "I", false)
  | 4 => ("ShareWheelModel", "readMerge", "I", false)
  | 5 => ("ShareWheelModel", "readWeight", "[I", true)
  | 6 => ("ShareWheelModel", "readNames", "[I", true)
  | 7 => ("ShareWheelModel", "teams", "I", false)
  | 8 => ("ShareWheelModel", "teamSet", "[I", true)
  | 9 => ("ShareWheelModel", "teamNames", "[I", true)
  | 10 => ("ShareWheelModel", "readTeams", "I", false)
  | 11 => ("ShareWheelModel", "readSet", "[I", true)
  | 12 => ("ShareWheelModel", "readTeamNames", "[I", true)
  | 13 => ("ShareWheelModel", "tape", "[I", true)
  | 14 => ("ShareWheelModel", "taped", "I", false)
  | 15 => ("ShareWheelModel", "refused", "[I", true)
  | 16 => ("ShareWheelModel", "faultKind", "I", false)
  | 17 => ("ShareWheelModel", "faultPlace", "I", false)
  | 18 => ("ShareWheelModel", "size", "I", false)
  | 19 => ("ShareWheelModel", "at", "I", false)
  | 20 => ("ShareWheelModel", "from", "I", false)
  | 21 => ("ShareWheelModel", "wrong", "I", false)
  | 22 => ("ShareWheelModel", "wrongAt", "I", false)
  | 23 => ("ShareWheelModel", "ownLetters", "[I", true)
  | 24 => ("ShareWheelModel", "now", "[I", true)
  | 25 => ("ShareWheelModel", "kept", "[I", true)
  | 26 => ("ShareWheelModel", "undone", "I", false)
  | 27 => ("ShareWheelModel", "ownOf", "[I", true)
  | 28 => ("ShareWheelModel", "aliasOf", "[I", true)
  | 29 => ("ShareWheelModel", "rest", "[J", true)
  | 30 => ("ShareWheelModel", "isShut", "[I", true)
  | 31 => ("ShareWheelModel", "source", "I", false)
  | 32 => ("ShareWheelModel", "bitsAt", "I", false)
  | 33 => ("ShareWheelModel", "bitsMany", "I", false)
  | 34 => ("ShareWheelModel", "rowBits", "I", false)
  | 35 => ("ShareWheelModel", "isOut", "Z", false)
  | 36 => ("ShareWheelModel", "dealt", "I", false)
  | 37 => ("ShareWheelModel", "rows", "I", false)
  | 38 => ("ShareWheelModel", "unknown", "I", false)
  | 39 => ("ShareWheelModel", "seenBits", "[I", true)
  | 40 => ("ShareWheelModel", "seenThing", "[I", true)
  | 41 => ("ShareWheelModel", "isFit", "[I", true)
  | 42 => ("ShareWheelModel", "tally", "[I", true)
  | 43 => ("ShareWheelModel", "reason", "I", false)
  | 44 => ("ShareWheelModel", "cause", "I", false)
  | 45 => ("ShareWheelModel", "seed", "I", false)
  | 46 => ("ShareWheelModel", "written", "[I", true)
  | _ => ("ShareWheelModel", "outs", "I", false)
def tyX12 : Nat → FieldType := fun k => match k with
  | 0 => .boolean
  | 1 => .int
  | 2 => .array .int
  | 3 => .int
  | 4 => .int
  | 5 => .array .int
  | 6 => .array .int
  | 7 => .int
  | 8 => .array .int
  | 9 => .array .int
  | 10 => .int
  | 11 => .array .int
  | 12 => .array .int
  | 13 => .array .int
  | 14 => .int
  | 15 => .array .int
  | 16 => .int
  | 17 => .int
  | 18 => .int
  | 19 => .int
  | 20 => .int
  | 21 => .int
  | 22 => .int
  | 23 => .array .int
  | 24 => .array .int
  | 25 => .array .int
  | 26 => .int
  | 27 => .array .int
  | 28 => .array .int
  | 29 => .array .long
  | 30 => .array .int
  | 31 => .int
  | 32 => .int
  | 33 => .int
  | 34 => .int
  | 35 => .boolean
  | 36 => .int
  | 37 => .int
  | 38 => .int
  | 39 => .array .int
  | 40 => .array .int
  | 41 => .array .int
  | 42 => .array .int
  | 43 => .int
  | 44 => .int
  | 45 => .int
  | 46 => .array .int
  | _ => .int
theorem nmX12 : ∀ a, a < 48 → ∀ b, b < 48 → a ≠ b → (TX12 a).2.1 ≠ (TX12 b).2.1 := by decide +kernel
theorem tyX12_ok : ∀ k, k < 48 → parseFieldDescriptor (TX12 k).2.2.1 = some (tyX12 k) := by decide +kernel
def RJ0 : String := "java/lang/String"
def RL : String := "ShareWheelLaw"
abbrev cX0_init : ByteArray := prog_2_method_1_code
def yX0_init : MethodName := ⟨RX0, "<init>", "([I)V"⟩
abbrev cX10_init : ByteArray := prog_12_method_1_code
def yX10_init : MethodName := ⟨RX10, "<init>", "()V"⟩
abbrev cX11_band : ByteArray := prog_1_method_32_code
def yX11_band : MethodName := ⟨RX11, "band", "(II)I"⟩
abbrev cX11_called : ByteArray := prog_1_method_24_code
def yX11_called : MethodName := ⟨RX11, "called", "(II)I"⟩
abbrev cX11_chance : ByteArray := prog_1_method_54_code
def yX11_chance : MethodName := ⟨RX11, "chance", "(II)I"⟩
abbrev cX11_column : ByteArray := prog_1_method_12_code
def yX11_column : MethodName := ⟨RX11, "column", "(II)I"⟩
abbrev cX11_creditor : ByteArray := prog_1_method_22_code
def yX11_creditor : MethodName := ⟨RX11, "creditor", "(I)I"⟩
abbrev cX11_deals : ByteArray := prog_1_method_33_code
def yX11_deals : MethodName := ⟨RX11, "deals", "(I)I"⟩
abbrev cX11_deny : ByteArray := prog_1_method_65_code
def yX11_deny : MethodName := ⟨RX11, "deny", "(I)Z"⟩
abbrev cX11_draw : ByteArray := prog_1_method_58_code
def yX11_draw : MethodName := ⟨RX11, "draw", "(I)V"⟩
abbrev cX11_end : ByteArray := prog_1_method_3_code
def yX11_end : MethodName := ⟨RX11, "end", "(I)Z"⟩
abbrev cX11_fault : ByteArray := prog_1_method_5_code
def yX11_fault : MethodName := ⟨RX11, "fault", "(I)I"⟩
abbrev cX11_feed : ByteArray := prog_1_method_2_code
def yX11_feed : MethodName := ⟨RX11, "feed", "(IIIII)I"⟩
abbrev cX11_fewest : ByteArray := prog_1_method_37_code
def yX11_fewest : MethodName := ⟨RX11, "fewest", "(III)I"⟩
abbrev cX11_fits : ByteArray := prog_1_method_40_code
def yX11_fits : MethodName := ⟨RX11, "fits", "(I)I"⟩
abbrev cX11_goes : ByteArray := prog_1_method_16_code
def yX11_goes : MethodName := ⟨RX11, "goes", "(I)I"⟩
abbrev cX11_has : ByteArray := prog_1_method_6_code
def yX11_has : MethodName := ⟨RX11, "has", "(I)I"⟩
abbrev cX11_image : ByteArray := prog_1_method_57_code
def yX11_image : MethodName := ⟨RX11, "image", "()I"⟩
abbrev cX11_init : ByteArray := prog_1_method_1_code
def yX11_init : MethodName := ⟨RX11, "<init>", "()V"⟩
abbrev cX11_inside : ByteArray := prog_1_method_25_code
def yX11_inside : MethodName := ⟨RX11, "inside", "(III)I"⟩
abbrev cX11_isTeam : ByteArray := prog_1_method_67_code
def yX11_isTeam : MethodName := ⟨RX11, "isTeam", "(I)Z"⟩
abbrev cX11_isThing : ByteArray := prog_1_method_66_code
def yX11_isThing : MethodName := ⟨RX11, "isThing", "(I)Z"⟩
abbrev cX11_isWay : ByteArray := prog_1_method_69_code
def yX11_isWay : MethodName := ⟨RX11, "isWay", "(I)Z"⟩
abbrev cX11_judge : ByteArray := prog_1_method_43_code
def yX11_judge : MethodName := ⟨RX11, "judge", "(III)I"⟩
abbrev cX11_letter : ByteArray := prog_1_method_9_code
def yX11_letter : MethodName := ⟨RX11, "letter", "(II)I"⟩
abbrev cX11_longest : ByteArray := prog_1_method_38_code
def yX11_longest : MethodName := ⟨RX11, "longest", "(III)I"⟩
abbrev cX11_lowest : ByteArray := prog_1_method_73_code
def yX11_lowest : MethodName := ⟨RX11, "lowest", "(III)I"⟩
abbrev cX11_mass : ByteArray := prog_1_method_13_code
def yX11_mass : MethodName := ⟨RX11, "mass", "(I)I"⟩
abbrev cX11_merge : ByteArray := prog_1_method_47_code
def yX11_merge : MethodName := ⟨RX11, "merge", "(I)Z"⟩
abbrev cX11_merged : ByteArray := prog_1_method_48_code
def yX11_merged : MethodName := ⟨RX11, "merged", "()Z"⟩
abbrev cX11_merges : ByteArray := prog_1_method_19_code
def yX11_merges : MethodName := ⟨RX11, "merges", "(II)I"⟩
abbrev cX11_needs : ByteArray := prog_1_method_18_code
def yX11_needs : MethodName := ⟨RX11, "needs", "(III)I"⟩
abbrev cX11_nextCheck : ByteArray := prog_1_method_76_code
def yX11_nextCheck : MethodName := ⟨RX11, "nextCheck", "(II)I"⟩
abbrev cX11_octet : ByteArray := prog_1_method_60_code
def yX11_octet : MethodName := ⟨RX11, "octet", "(I)I"⟩
abbrev cX11_on : ByteArray := prog_1_method_61_code
def yX11_on : MethodName := ⟨RX11, "on", "()Z"⟩
abbrev cX11_owed : ByteArray := prog_1_method_20_code
def yX11_owed : MethodName := ⟨RX11, "owed", "(I)I"⟩
abbrev cX11_pairs : ByteArray := prog_1_method_34_code
def yX11_pairs : MethodName := ⟨RX11, "pairs", "(III)I"⟩
abbrev cX11_pick : ByteArray := prog_1_method_53_code
def yX11_pick : MethodName := ⟨RX11, "pick", "(I)I"⟩
abbrev cX11_putByte : ByteArray := prog_1_method_80_code
def yX11_putByte : MethodName := ⟨RX11, "putByte", "([III)V"⟩
abbrev cX11_quorum : ByteArray := prog_1_method_28_code
def yX11_quorum : MethodName := ⟨RX11, "quorum", "(III)I"⟩
abbrev cX11_rank : ByteArray := prog_1_method_14_code
def yX11_rank : MethodName := ⟨RX11, "rank", "(I)I"⟩
abbrev cX11_refuse : ByteArray := prog_1_method_64_code
def yX11_refuse : MethodName := ⟨RX11, "refuse", "(I)I"⟩
abbrev cX11_rows : ByteArray := prog_1_method_35_code
def yX11_rows : MethodName := ⟨RX11, "rows", "(III)I"⟩
abbrev cX11_rowsIn : ByteArray := prog_1_method_27_code
def yX11_rowsIn : MethodName := ⟨RX11, "rowsIn", "(III)I"⟩
abbrev cX11_see : ByteArray := prog_1_method_39_code
def yX11_see : MethodName := ⟨RX11, "see", "(I)I"⟩
abbrev cX11_seed : ByteArray := prog_1_method_56_code
def yX11_seed : MethodName := ⟨RX11, "seed", "(I)Z"⟩
abbrev cX11_set : ByteArray := prog_1_method_42_code
def yX11_set : MethodName := ⟨RX11, "set", "(III)I"⟩
abbrev cX11_share : ByteArray := prog_1_method_15_code
def yX11_share : MethodName := ⟨RX11, "share", "(II)I"⟩
abbrev cX11_status : ByteArray := prog_1_method_63_code
def yX11_status : MethodName := ⟨RX11, "status", "(I)I"⟩
abbrev cX11_store : ByteArray := prog_1_method_52_code
def yX11_store : MethodName := ⟨RX11, "store", "()I"⟩
abbrev cX11_swings : ByteArray := prog_1_method_29_code
def yX11_swings : MethodName := ⟨RX11, "swings", "(III)I"⟩
abbrev cX11_team : ByteArray := prog_1_method_23_code
def yX11_team : MethodName := ⟨RX11, "team", "(II)I"⟩
abbrev cX11_tells : ByteArray := prog_1_method_41_code
def yX11_tells : MethodName := ⟨RX11, "tells", "(I)I"⟩
abbrev cX11_thing : ByteArray := prog_1_method_10_code
def yX11_thing : MethodName := ⟨RX11, "thing", "(II)I"⟩
abbrev cX11_triedOnTape : ByteArray := prog_1_method_31_code
def yX11_triedOnTape : MethodName := ⟨RX11, "triedOnTape", "(III)I"⟩
abbrev cX11_tries : ByteArray := prog_1_method_30_code
def yX11_tries : MethodName := ⟨RX11, "tries", "(II)I"⟩
abbrev cX11_triesIn : ByteArray := prog_1_method_26_code
def yX11_triesIn : MethodName := ⟨RX11, "triesIn", "(II)I"⟩
abbrev cX11_turnDown : ByteArray := prog_1_method_45_code
def yX11_turnDown : MethodName := ⟨RX11, "turnDown", "(II)I"⟩
abbrev cX11_undo : ByteArray := prog_1_method_55_code
def yX11_undo : MethodName := ⟨RX11, "undo", "()Z"⟩
abbrev cX11_weight : ByteArray := prog_1_method_11_code
def yX11_weight : MethodName := ⟨RX11, "weight", "(I)J"⟩
abbrev cX11_why : ByteArray := prog_1_method_46_code
def yX11_why : MethodName := ⟨RX11, "why", "(I)I"⟩
abbrev cX11_would : ByteArray := prog_1_method_17_code
def yX11_would : MethodName := ⟨RX11, "would", "(IIII)I"⟩
abbrev cX12_band : ByteArray := prog_14_method_97_code
def yX12_band : MethodName := ⟨RX12, "band", "(II)I"⟩
abbrev cX12_byteAt : ByteArray := prog_14_method_11_code
def yX12_byteAt : MethodName := ⟨RX12, "byteAt", "(I)I"⟩
abbrev cX12_called : ByteArray := prog_14_method_86_code
def yX12_called : MethodName := ⟨RX12, "called", "(II)I"⟩
abbrev cX12_chance : ByteArray := prog_14_method_118_code
def yX12_chance : MethodName := ⟨RX12, "chance", "(II)I"⟩
abbrev cX12_column : ByteArray := prog_14_method_70_code
def yX12_column : MethodName := ⟨RX12, "column", "(II)I"⟩
abbrev cX12_creditor : ByteArray := prog_14_method_82_code
def yX12_creditor : MethodName := ⟨RX12, "creditor", "(I)I"⟩
abbrev cX12_deals : ByteArray := prog_14_method_99_code
def yX12_deals : MethodName := ⟨RX12, "deals", "(I)I"⟩
abbrev cX12_end : ByteArray := prog_14_method_9_code
def yX12_end : MethodName := ⟨RX12, "end", "(I)Z"⟩
abbrev cX12_endsWell : ByteArray := prog_14_method_20_code
def yX12_endsWell : MethodName := ⟨RX12, "endsWell", "()V"⟩
abbrev cX12_fails : ByteArray := prog_14_method_15_code
def yX12_fails : MethodName := ⟨RX12, "fails", "(II)V"⟩
abbrev cX12_fault : ByteArray := prog_14_method_34_code
def yX12_fault : MethodName := ⟨RX12, "fault", "(I)I"⟩
abbrev cX12_feed : ByteArray := prog_14_method_8_code
def yX12_feed : MethodName := ⟨RX12, "feed", "(IIIII)I"⟩
abbrev cX12_fewest : ByteArray := prog_14_method_103_code
def yX12_fewest : MethodName := ⟨RX12, "fewest", "(III)I"⟩
abbrev cX12_fits : ByteArray := prog_14_method_108_code
def yX12_fits : MethodName := ⟨RX12, "fits", "(I)I"⟩
abbrev cX12_goes : ByteArray := prog_14_method_75_code
def yX12_goes : MethodName := ⟨RX12, "goes", "(I)I"⟩
abbrev cX12_goesWell : ByteArray := prog_14_method_16_code
def yX12_goesWell : MethodName := ⟨RX12, "goesWell", "()Z"⟩
abbrev cX12_has : ByteArray := prog_14_method_66_code
def yX12_has : MethodName := ⟨RX12, "has", "(I)I"⟩
abbrev cX12_here : ByteArray := prog_14_method_14_code
def yX12_here : MethodName := ⟨RX12, "here", "()I"⟩
abbrev cX12_image : ByteArray := prog_14_method_123_code
def yX12_image : MethodName := ⟨RX12, "image", "()I"⟩
abbrev cX12_init : ByteArray := prog_14_method_1_code
def yX12_init : MethodName := ⟨RX12, "<init>", "()V"⟩
abbrev cX12_inside : ByteArray := prog_14_method_88_code
def yX12_inside : MethodName := ⟨RX12, "inside", "(III)I"⟩
abbrev cX12_isHeavy : ByteArray := prog_14_method_87_code
def yX12_isHeavy : MethodName := ⟨RX12, "isHeavy", "(I)Z"⟩
abbrev cX12_isImage : ByteArray := prog_14_method_126_code
def yX12_isImage : MethodName := ⟨RX12, "isImage", "(I)Z"⟩
abbrev cX12_isIn : ByteArray := prog_14_method_2_code
def yX12_isIn : MethodName := ⟨RX12, "isIn", "(III)Z"⟩
abbrev cX12_isRefused : ByteArray := prog_14_method_6_code
def yX12_isRefused : MethodName := ⟨RX12, "isRefused", "(I)Z"⟩
abbrev cX12_isSmall : ByteArray := prog_14_method_12_code
def yX12_isSmall : MethodName := ⟨RX12, "isSmall", "(I)Z"⟩
abbrev cX12_isTeam : ByteArray := prog_14_method_83_code
def yX12_isTeam : MethodName := ⟨RX12, "isTeam", "(I)Z"⟩
abbrev cX12_isThing : ByteArray := prog_14_method_36_code
def yX12_isThing : MethodName := ⟨RX12, "isThing", "(I)Z"⟩
abbrev cX12_isTotal : ByteArray := prog_14_method_65_code
def yX12_isTotal : MethodName := ⟨RX12, "isTotal", "()Z"⟩
abbrev cX12_lays : ByteArray := prog_14_method_7_code
def yX12_lays : MethodName := ⟨RX12, "lays", "(I)V"⟩
abbrev cX12_letter : ByteArray := prog_14_method_67_code
def yX12_letter : MethodName := ⟨RX12, "letter", "(II)I"⟩
abbrev cX12_longest : ByteArray := prog_14_method_104_code
def yX12_longest : MethodName := ⟨RX12, "longest", "(III)I"⟩
abbrev cX12_mass : ByteArray := prog_14_method_71_code
def yX12_mass : MethodName := ⟨RX12, "mass", "(I)I"⟩
abbrev cX12_merge : ByteArray := prog_14_method_114_code
def yX12_merge : MethodName := ⟨RX12, "merge", "(I)Z"⟩
abbrev cX12_merged : ByteArray := prog_14_method_115_code
def yX12_merged : MethodName := ⟨RX12, "merged", "()Z"⟩
abbrev cX12_merges : ByteArray := prog_14_method_79_code
def yX12_merges : MethodName := ⟨RX12, "merges", "(II)I"⟩
abbrev cX12_must : ByteArray := prog_14_method_19_code
def yX12_must : MethodName := ⟨RX12, "must", "(I)V"⟩
abbrev cX12_needs : ByteArray := prog_14_method_78_code
def yX12_needs : MethodName := ⟨RX12, "needs", "(III)I"⟩
abbrev cX12_number : ByteArray := prog_14_method_21_code
def yX12_number : MethodName := ⟨RX12, "number", "(II)I"⟩
abbrev cX12_octet : ByteArray := prog_14_method_124_code
def yX12_octet : MethodName := ⟨RX12, "octet", "(I)I"⟩
abbrev cX12_on : ByteArray := prog_14_method_127_code
def yX12_on : MethodName := ⟨RX12, "on", "()Z"⟩
abbrev cX12_owed : ByteArray := prog_14_method_81_code
def yX12_owed : MethodName := ⟨RX12, "owed", "(I)I"⟩
abbrev cX12_pairs : ByteArray := prog_14_method_101_code
def yX12_pairs : MethodName := ⟨RX12, "pairs", "(III)I"⟩
abbrev cX12_pick : ByteArray := prog_14_method_117_code
def yX12_pick : MethodName := ⟨RX12, "pick", "(I)I"⟩
abbrev cX12_quorum : ByteArray := prog_14_method_94_code
def yX12_quorum : MethodName := ⟨RX12, "quorum", "(III)I"⟩
abbrev cX12_rank : ByteArray := prog_14_method_72_code
def yX12_rank : MethodName := ⟨RX12, "rank", "(I)I"⟩
abbrev cX12_readsAll : ByteArray := prog_14_method_32_code
def yX12_readsAll : MethodName := ⟨RX12, "readsAll", "()I"⟩
abbrev cX12_refuses : ByteArray := prog_14_method_5_code
def yX12_refuses : MethodName := ⟨RX12, "refuses", "(I)I"⟩
abbrev cX12_refusesFor : ByteArray := prog_14_method_111_code
def yX12_refusesFor : MethodName := ⟨RX12, "refusesFor", "(II)I"⟩
abbrev cX12_rows : ByteArray := prog_14_method_102_code
def yX12_rows : MethodName := ⟨RX12, "rows", "(III)I"⟩
abbrev cX12_rowsIn : ByteArray := prog_14_method_91_code
def yX12_rowsIn : MethodName := ⟨RX12, "rowsIn", "(III)I"⟩
abbrev cX12_says : ByteArray := prog_14_method_121_code
def yX12_says : MethodName := ⟨RX12, "says", "(I)V"⟩
abbrev cX12_see : ByteArray := prog_14_method_105_code
def yX12_see : MethodName := ⟨RX12, "see", "(I)I"⟩
abbrev cX12_seed : ByteArray := prog_14_method_120_code
def yX12_seed : MethodName := ⟨RX12, "seed", "(I)Z"⟩
abbrev cX12_set : ByteArray := prog_14_method_112_code
def yX12_set : MethodName := ⟨RX12, "set", "(III)I"⟩
abbrev cX12_share : ByteArray := prog_14_method_74_code
def yX12_share : MethodName := ⟨RX12, "share", "(II)I"⟩
abbrev cX12_status : ByteArray := prog_14_method_128_code
def yX12_status : MethodName := ⟨RX12, "status", "(I)I"⟩
abbrev cX12_store : ByteArray := prog_14_method_116_code
def yX12_store : MethodName := ⟨RX12, "store", "()I"⟩
abbrev cX12_sum : ByteArray := prog_14_method_39_code
def yX12_sum : MethodName := ⟨RX12, "sum", "(I)I"⟩
abbrev cX12_swings : ByteArray := prog_14_method_95_code
def yX12_swings : MethodName := ⟨RX12, "swings", "(III)I"⟩
abbrev cX12_taken : ByteArray := prog_14_method_10_code
def yX12_taken : MethodName := ⟨RX12, "taken", "()I"⟩
abbrev cX12_team : ByteArray := prog_14_method_85_code
def yX12_team : MethodName := ⟨RX12, "team", "(II)I"⟩
abbrev cX12_tells : ByteArray := prog_14_method_110_code
def yX12_tells : MethodName := ⟨RX12, "tells", "(I)I"⟩
abbrev cX12_thing : ByteArray := prog_14_method_68_code
def yX12_thing : MethodName := ⟨RX12, "thing", "(II)I"⟩
abbrev cX12_tries : ByteArray := prog_14_method_96_code
def yX12_tries : MethodName := ⟨RX12, "tries", "(II)I"⟩
abbrev cX12_triesIn : ByteArray := prog_14_method_90_code
def yX12_triesIn : MethodName := ⟨RX12, "triesIn", "(II)I"⟩
abbrev cX12_undo : ByteArray := prog_14_method_119_code
def yX12_undo : MethodName := ⟨RX12, "undo", "()Z"⟩
abbrev cX12_unlikes : ByteArray := prog_14_method_42_code
def yX12_unlikes : MethodName := ⟨RX12, "unlikes", "()I"⟩
abbrev cX12_weight : ByteArray := prog_14_method_69_code
def yX12_weight : MethodName := ⟨RX12, "weight", "(I)J"⟩
abbrev cX12_wheel : ByteArray := prog_14_method_33_code
def yX12_wheel : MethodName := ⟨RX12, "wheel", "()I"⟩
abbrev cX12_why : ByteArray := prog_14_method_113_code
def yX12_why : MethodName := ⟨RX12, "why", "(I)I"⟩
abbrev cX12_word : ByteArray := prog_14_method_17_code
def yX12_word : MethodName := ⟨RX12, "word", "()V"⟩
abbrev cX12_would : ByteArray := prog_14_method_76_code
def yX12_would : MethodName := ⟨RX12, "would", "(IIII)I"⟩
abbrev cX1_goBack : ByteArray := prog_3_method_3_code
def yX1_goBack : MethodName := ⟨RX1, "goBack", "(LShareWheel$State;)Z"⟩
abbrev cX1_init : ByteArray := prog_3_method_1_code
def yX1_init : MethodName := ⟨RX1, "<init>", "()V"⟩
abbrev cX2_init : ByteArray := prog_4_method_1_code
def yX2_init : MethodName := ⟨RX2, "<init>", "(LShareWheel$Scales;)V"⟩
abbrev cX3_init : ByteArray := prog_5_method_1_code
def yX3_init : MethodName := ⟨RX3, "<init>", "()V"⟩
abbrev cX4_init : ByteArray := prog_6_method_1_code
def yX4_init : MethodName := ⟨RX4, "<init>", "(LShareWheel$Tape;)V"⟩
abbrev cX5_columns : ByteArray := prog_7_method_8_code
def yX5_columns : MethodName := ⟨RX5, "columns", "()I"⟩
abbrev cX5_init : ByteArray := prog_7_method_1_code
def yX5_init : MethodName := ⟨RX5, "<init>", "()V"⟩
abbrev cX5_ranked : ByteArray := prog_7_method_14_code
def yX5_ranked : MethodName := ⟨RX5, "ranked", "(I)I"⟩
abbrev cX5_together : ByteArray := prog_7_method_12_code
def yX5_together : MethodName := ⟨RX5, "together", "(I)I"⟩
abbrev cX6_init : ByteArray := prog_8_method_1_code
def yX6_init : MethodName := ⟨RX6, "<init>", "()V"⟩
abbrev cX7_init : ByteArray := prog_9_method_1_code
def yX7_init : MethodName := ⟨RX7, "<init>", "()V"⟩
abbrev cX8_init : ByteArray := prog_10_method_1_code
def yX8_init : MethodName := ⟨RX8, "<init>", "()V"⟩
abbrev cX9_add : ByteArray := prog_11_method_2_code
def yX9_add : MethodName := ⟨RX9, "add", "(I)V"⟩
abbrev cX9_init : ByteArray := prog_11_method_1_code
def yX9_init : MethodName := ⟨RX9, "<init>", "()V"⟩
abbrev cL_law : ByteArray := code
abbrev vwCl : List vw_C := [(RX0, TX0, 4), (RX1, TX1, 3), (RX2, TX2, 1), (RX3, TX3, 8), (RX4, TX4, 9), (RX5, TX5, 15), (RX6, TX6, 5), (RX7, TX7, 9), (RX8, TX8, 10), (RX9, TX9, 2), (RX10, TX10, 7), (RX11, TX11, 18), (RX12, TX12, 48)]
end
section
theorem dX0_init_0 : decode cX0_init 0 = .ok (.aload_n 0, 1) := by decide +kernel
theorem dX0_init_1 : decode cX0_init 1 = .ok (.invokespecial 3, 3) := by decide +kernel
theorem dX0_init_4 : decode cX0_init 4 = .ok (.aload_n 0, 1) := by decide +kernel
theorem dX0_init_5 : decode cX0_init 5 = .ok (.aload_n 1, 1) := by decide +kernel
theorem dX0_init_6 : decode cX0_init 6 = .ok (.putfield 9, 3) := by decide +kernel
theorem dX0_init_9 : decode cX0_init 9 = .ok (.return_, 1) := by decide +kernel
theorem dX10_init_0 : decode cX10_init 0 = .ok (.aload_n 0, 1) := by decide +kernel
theorem dX10_init_1 : decode cX10_init 1 = .ok (.invokespecial 1, 3) := by decide +kernel
theorem dX10_init_4 : decode cX10_init 4 = .ok (.aload_n 0, 1) := by decide +kernel
theorem dX10_init_5 : decode cX10_init 5 = .ok (.iconst 1, 1) := by decide +kernel
theorem dX10_init_6 : decode cX10_init 6 = .ok (.newarray .int, 2) := by decide +kernel
theorem dX10_init_8 : decode cX10_init 8 = .ok (.putfield 7, 3) := by decide +kernel
theorem dX10_init_11 : decode cX10_init 11 = .ok (.aload_n 0, 1) := by decide +kernel
theorem dX10_init_12 : decode cX10_init 12 = .ok (.new 13, 3) := by decide +kernel
theorem dX10_init_15 : decode cX10_init 15 = .ok (.dup, 1) := by decide +kernel
theorem dX10_init_16 : decode cX10_init 16 = .ok (.aload_n 0, 1) := by decide +kernel
theorem dX10_init_17 : decode cX10_init 17 = .ok (.getfield 7, 3) := by decide +kernel
theorem dX10_init_20 : decode cX10_init 20 = .ok (.invokespecial 15, 3) := by decide +kernel
theorem dX10_init_23 : decode cX10_init 23 = .ok (.putfield 18, 3) := by decide +kernel
theorem dX10_init_26 : decode cX10_init 26 = .ok (.return_, 1) := by decide +kernel
theorem dX11_band_0 : decode cX11_band 0 = .ok (.aload_n 0, 1) := by decide +kernel
theorem dX11_band_1 : decode cX11_band 1 = .ok (.iload_n 1, 1) := by decide +kernel
theorem dX11_band_2 : decode cX11_band 2 = .ok (.invokevirtual 204, 3) := by decide +kernel
theorem dX11_band_5 : decode cX11_band 5 = .ok (.ifCond .eq 15, 3) := by decide +kernel
theorem dX11_band_20 : decode cX11_band 20 = .ok (.iconst (-1), 1) := by decide +kernel
theorem dX11_band_21 : decode cX11_band 21 = .ok (.istore_n 3, 1) := by decide +kernel
theorem dX11_band_22 : decode cX11_band 22 = .ok (.iload_n 3, 1) := by decide +kernel
theorem dX11_band_23 : decode cX11_band 23 = .ok (.ifCond .lt 9, 3) := by decide +kernel
theorem dX11_band_32 : decode cX11_band 32 = .ok (.iconst (-1), 1) := by decide +kernel
theorem dX11_band_33 : decode cX11_band 33 = .ok (.ireturn, 1) := by decide +kernel
theorem dX11_called_0 : decode cX11_called 0 = .ok (.aload_n 0, 1) := by decide +kernel
theorem dX11_called_1 : decode cX11_called 1 = .ok (.iload_n 1, 1) := by decide +kernel
theorem dX11_called_2 : decode cX11_called 2 = .ok (.invokevirtual 281, 3) := by decide +kernel
theorem dX11_called_5 : decode cX11_called 5 = .ok (.ifCond .eq 19, 3) := by decide +kernel
theorem dX11_called_24 : decode cX11_called 24 = .ok (.iconst (-1), 1) := by decide +kernel
theorem dX11_called_25 : decode cX11_called 25 = .ok (.ireturn, 1) := by decide +kernel
theorem dX11_chance_0 : decode cX11_chance 0 = .ok (.aload_n 0, 1) := by decide +kernel
theorem dX11_chance_1 : decode cX11_chance 1 = .ok (.getfield 49, 3) := by decide +kernel
theorem dX11_chance_4 : decode cX11_chance 4 = .ok (.getfield 170, 3) := by decide +kernel
theorem dX11_chance_7 : decode cX11_chance 7 = .ok (.ifCond .le 21, 3) := by decide +kernel
theorem dX11_chance_28 : decode cX11_chance 28 = .ok (.aload_n 0, 1) := by decide +kernel
theorem dX11_chance_29 : decode cX11_chance 29 = .ok (.iconst 2, 1) := by decide +kernel
theorem dX11_chance_30 : decode cX11_chance 30 = .ok (.invokevirtual 116, 3) := by decide +kernel
theorem dX11_chance_33 : decode cX11_chance 33 = .ok (.ireturn, 1) := by decide +kernel
theorem dX11_column_0 : decode cX11_column 0 = .ok (.iload_n 1, 1) := by decide +kernel
theorem dX11_column_1 : decode cX11_column 1 = .ok (.ifCond .lt 14, 3) := by decide +kernel
theorem dX11_column_4 : decode cX11_column 4 = .ok (.iload_n 1, 1) := by decide +kernel
theorem dX11_column_5 : decode cX11_column 5 = .ok (.aload_n 0, 1) := by decide +kernel
theorem dX11_column_6 : decode cX11_column 6 = .ok (.getfield 49, 3) := by decide +kernel
theorem dX11_column_9 : decode cX11_column 9 = .ok (.invokevirtual 237, 3) := by decide +kernel
theorem dX11_column_12 : decode cX11_column 12 = .ok (.if_icmp .lt 5, 3) := by decide +kernel
theorem dX11_column_15 : decode cX11_column 15 = .ok (.iconst (-1), 1) := by decide +kernel
theorem dX11_column_16 : decode cX11_column 16 = .ok (.ireturn, 1) := by decide +kernel
theorem dX11_creditor_0 : decode cX11_creditor 0 = .ok (.aload_n 0, 1) := by decide +kernel
theorem dX11_creditor_1 : decode cX11_creditor 1 = .ok (.getfield 49, 3) := by decide +kernel
theorem dX11_creditor_4 : decode cX11_creditor 4 = .ok (.getfield 170, 3) := by decide +kernel
theorem dX11_creditor_7 : decode cX11_creditor 7 = .ok (.ifCond .le 12, 3) := by decide +kernel
theorem dX11_creditor_19 : decode cX11_creditor 19 = .ok (.iconst (-1), 1) := by decide +kernel
theorem dX11_creditor_20 : decode cX11_creditor 20 = .ok (.ireturn, 1) := by decide +kernel
theorem dX11_deals_0 : decode cX11_deals 0 = .ok (.aload_n 0, 1) := by decide +kernel
theorem dX11_deals_1 : decode cX11_deals 1 = .ok (.getfield 12, 3) := by decide +kernel
theorem dX11_deals_4 : decode cX11_deals 4 = .ok (.getfield 113, 3) := by decide +kernel
theorem dX11_deals_7 : decode cX11_deals 7 = .ok (.istore_n 2, 1) := by decide +kernel
theorem dX11_deals_8 : decode cX11_deals 8 = .ok (.aload_n 0, 1) := by decide +kernel
theorem dX11_deals_9 : decode cX11_deals 9 = .ok (.getfield 12, 3) := by decide +kernel
theorem dX11_deals_12 : decode cX11_deals 12 = .ok (.iconst 0, 1) := by decide +kernel
theorem dX11_deals_13 : decode cX11_deals 13 = .ok (.putfield 113, 3) := by decide +kernel
theorem dX11_deals_16 : decode cX11_deals 16 = .ok (.aload_n 0, 1) := by decide +kernel
theorem dX11_deals_17 : decode cX11_deals 17 = .ok (.getfield 49, 3) := by decide +kernel
theorem dX11_deals_20 : decode cX11_deals 20 = .ok (.getfield 170, 3) := by decide +kernel
theorem dX11_deals_23 : decode cX11_deals 23 = .ok (.ifCond .le 13, 3) := by decide +kernel
theorem dX11_deals_36 : decode cX11_deals 36 = .ok (.iconst (-1), 1) := by decide +kernel
theorem dX11_deals_37 : decode cX11_deals 37 = .ok (.ireturn, 1) := by decide +kernel
theorem dX11_deny_0 : decode cX11_deny 0 = .ok (.aload_n 0, 1) := by decide +kernel
theorem dX11_deny_1 : decode cX11_deny 1 = .ok (.iload_n 1, 1) := by decide +kernel
theorem dX11_deny_2 : decode cX11_deny 2 = .ok (.invokevirtual 116, 3) := by decide +kernel
theorem dX11_deny_5 : decode cX11_deny 5 = .ok (.pop, 1) := by decide +kernel
theorem dX11_deny_6 : decode cX11_deny 6 = .ok (.iconst 0, 1) := by decide +kernel
theorem dX11_deny_7 : decode cX11_deny 7 = .ok (.ireturn, 1) := by decide +kernel
theorem dX11_draw_0 : decode cX11_draw 0 = .ok (.aload_n 0, 1) := by decide +kernel
theorem dX11_draw_1 : decode cX11_draw 1 = .ok (.getfield 445, 3) := by decide +kernel
theorem dX11_draw_4 : decode cX11_draw 4 = .ok (.sipush 130, 3) := by decide +kernel
theorem dX11_draw_7 : decode cX11_draw 7 = .ok (.if_icmp .ge 27, 3) := by decide +kernel
theorem dX11_draw_10 : decode cX11_draw 10 = .ok (.aload_n 0, 1) := by decide +kernel
theorem dX11_draw_11 : decode cX11_draw 11 = .ok (.getfield 106, 3) := by decide +kernel
theorem dX11_draw_14 : decode cX11_draw 14 = .ok (.aload_n 0, 1) := by decide +kernel
theorem dX11_draw_15 : decode cX11_draw 15 = .ok (.getfield 445, 3) := by decide +kernel
theorem dX11_draw_18 : decode cX11_draw 18 = .ok (.iload_n 1, 1) := by decide +kernel
theorem dX11_draw_19 : decode cX11_draw 19 = .ok (.sipush 255, 3) := by decide +kernel
theorem dX11_draw_22 : decode cX11_draw 22 = .ok (.iand, 1) := by decide +kernel
theorem dX11_draw_23 : decode cX11_draw 23 = .ok (.iastore, 1) := by decide +kernel
theorem dX11_draw_24 : decode cX11_draw 24 = .ok (.aload_n 0, 1) := by decide +kernel
theorem dX11_draw_25 : decode cX11_draw 25 = .ok (.dup, 1) := by decide +kernel
theorem dX11_draw_26 : decode cX11_draw 26 = .ok (.getfield 445, 3) := by decide +kernel
theorem dX11_draw_29 : decode cX11_draw 29 = .ok (.iconst 1, 1) := by decide +kernel
theorem dX11_draw_30 : decode cX11_draw 30 = .ok (.iadd, 1) := by decide +kernel
theorem dX11_draw_31 : decode cX11_draw 31 = .ok (.putfield 445, 3) := by decide +kernel
theorem dX11_draw_34 : decode cX11_draw 34 = .ok (.return_, 1) := by decide +kernel
theorem dX11_end_0 : decode cX11_end 0 = .ok (.iload_n 1, 1) := by decide +kernel
theorem dX11_end_1 : decode cX11_end 1 = .ok (.ifCond .lt 14, 3) := by decide +kernel
theorem dX11_end_4 : decode cX11_end 4 = .ok (.iload_n 1, 1) := by decide +kernel
theorem dX11_end_5 : decode cX11_end 5 = .ok (.aload_n 0, 1) := by decide +kernel
theorem dX11_end_6 : decode cX11_end 6 = .ok (.getfield 12, 3) := by decide +kernel
theorem dX11_end_9 : decode cX11_end 9 = .ok (.getfield 113, 3) := by decide +kernel
theorem dX11_end_12 : decode cX11_end 12 = .ok (.if_icmp .le 9, 3) := by decide +kernel
theorem dX11_end_15 : decode cX11_end 15 = .ok (.aload_n 0, 1) := by decide +kernel
theorem dX11_end_16 : decode cX11_end 16 = .ok (.iconst 0, 1) := by decide +kernel
theorem dX11_end_17 : decode cX11_end 17 = .ok (.invokevirtual 124, 3) := by decide +kernel
theorem dX11_end_20 : decode cX11_end 20 = .ok (.ireturn, 1) := by decide +kernel
theorem dX11_end_21 : decode cX11_end 21 = .ok (.aload_n 0, 1) := by decide +kernel
theorem dX11_end_22 : decode cX11_end 22 = .ok (.getfield 12, 3) := by decide +kernel
theorem dX11_end_25 : decode cX11_end 25 = .ok (.iload_n 1, 1) := by decide +kernel
theorem dX11_end_26 : decode cX11_end 26 = .ok (.putfield 113, 3) := by decide +kernel
theorem dX11_end_29 : decode cX11_end 29 = .ok (.iconst 1, 1) := by decide +kernel
theorem dX11_end_30 : decode cX11_end 30 = .ok (.ireturn, 1) := by decide +kernel
theorem dX11_fault_0 : decode cX11_fault 0 = .ok (.iload_n 1, 1) := by decide +kernel
theorem dX11_fault_1 : decode cX11_fault 1 = .ok (.ifCond .ne 11, 3) := by decide +kernel
theorem dX11_fault_4 : decode cX11_fault 4 = .ok (.aload_n 0, 1) := by decide +kernel
theorem dX11_fault_5 : decode cX11_fault 5 = .ok (.getfield 28, 3) := by decide +kernel
theorem dX11_fault_8 : decode cX11_fault 8 = .ok (.getfield 152, 3) := by decide +kernel
theorem dX11_fault_11 : decode cX11_fault 11 = .ok (.ireturn, 1) := by decide +kernel
theorem dX11_fault_12 : decode cX11_fault 12 = .ok (.iload_n 1, 1) := by decide +kernel
theorem dX11_fault_13 : decode cX11_fault 13 = .ok (.iconst 1, 1) := by decide +kernel
theorem dX11_fault_14 : decode cX11_fault 14 = .ok (.if_icmp .ne 13, 3) := by decide +kernel
theorem dX11_fault_17 : decode cX11_fault 17 = .ok (.aload_n 0, 1) := by decide +kernel
theorem dX11_fault_18 : decode cX11_fault 18 = .ok (.getfield 28, 3) := by decide +kernel
theorem dX11_fault_21 : decode cX11_fault 21 = .ok (.getfield 155, 3) := by decide +kernel
theorem dX11_fault_24 : decode cX11_fault 24 = .ok (.goto 4, 3) := by decide +kernel
theorem dX11_fault_27 : decode cX11_fault 27 = .ok (.iconst (-1), 1) := by decide +kernel
theorem dX11_fault_28 : decode cX11_fault 28 = .ok (.ireturn, 1) := by decide +kernel
theorem dX11_feed_0 : decode cX11_feed 0 = .ok (.aload_n 0, 1) := by decide +kernel
theorem dX11_feed_1 : decode cX11_feed 1 = .ok (.getfield 12, 3) := by decide +kernel
theorem dX11_feed_4 : decode cX11_feed 4 = .ok (.getfield 113, 3) := by decide +kernel
theorem dX11_feed_7 : decode cX11_feed 7 = .ok (.bipush 20, 2) := by decide +kernel
theorem dX11_feed_9 : decode cX11_feed 9 = .ok (.iadd, 1) := by decide +kernel
theorem dX11_feed_10 : decode cX11_feed 10 = .ok (.sipush 1200, 3) := by decide +kernel
theorem dX11_feed_13 : decode cX11_feed 13 = .ok (.if_icmp .le 9, 3) := by decide +kernel
theorem dX11_feed_22 : decode cX11_feed 22 = .ok (.aload_n 0, 1) := by decide +kernel
theorem dX11_feed_23 : decode cX11_feed 23 = .ok (.getfield 12, 3) := by decide +kernel
theorem dX11_feed_26 : decode cX11_feed 26 = .ok (.iload_n 1, 1) := by decide +kernel
theorem dX11_feed_27 : decode cX11_feed 27 = .ok (.invokevirtual 120, 3) := by decide +kernel
theorem dX11_feed_30 : decode cX11_feed 30 = .ok (.aload_n 0, 1) := by decide +kernel
theorem dX11_feed_31 : decode cX11_feed 31 = .ok (.getfield 12, 3) := by decide +kernel
theorem dX11_feed_34 : decode cX11_feed 34 = .ok (.iload_n 2, 1) := by decide +kernel
theorem dX11_feed_35 : decode cX11_feed 35 = .ok (.invokevirtual 120, 3) := by decide +kernel
theorem dX11_feed_38 : decode cX11_feed 38 = .ok (.aload_n 0, 1) := by decide +kernel
theorem dX11_feed_39 : decode cX11_feed 39 = .ok (.getfield 12, 3) := by decide +kernel
theorem dX11_feed_42 : decode cX11_feed 42 = .ok (.iload_n 3, 1) := by decide +kernel
theorem dX11_feed_43 : decode cX11_feed 43 = .ok (.invokevirtual 120, 3) := by decide +kernel
theorem dX11_feed_46 : decode cX11_feed 46 = .ok (.aload_n 0, 1) := by decide +kernel
theorem dX11_feed_47 : decode cX11_feed 47 = .ok (.getfield 12, 3) := by decide +kernel
theorem dX11_feed_50 : decode cX11_feed 50 = .ok (.iload 4, 2) := by decide +kernel
theorem dX11_feed_52 : decode cX11_feed 52 = .ok (.invokevirtual 120, 3) := by decide +kernel
theorem dX11_feed_55 : decode cX11_feed 55 = .ok (.aload_n 0, 1) := by decide +kernel
theorem dX11_feed_56 : decode cX11_feed 56 = .ok (.getfield 12, 3) := by decide +kernel
theorem dX11_feed_59 : decode cX11_feed 59 = .ok (.iload 5, 2) := by decide +kernel
theorem dX11_feed_61 : decode cX11_feed 61 = .ok (.invokevirtual 120, 3) := by decide +kernel
theorem dX11_feed_64 : decode cX11_feed 64 = .ok (.aload_n 0, 1) := by decide +kernel
theorem dX11_feed_65 : decode cX11_feed 65 = .ok (.getfield 12, 3) := by decide +kernel
theorem dX11_feed_68 : decode cX11_feed 68 = .ok (.getfield 113, 3) := by decide +kernel
theorem dX11_feed_71 : decode cX11_feed 71 = .ok (.ireturn, 1) := by decide +kernel
theorem dX11_fewest_0 : decode cX11_fewest 0 = .ok (.aload_n 0, 1) := by decide +kernel
theorem dX11_fewest_1 : decode cX11_fewest 1 = .ok (.getfield 49, 3) := by decide +kernel
theorem dX11_fewest_4 : decode cX11_fewest 4 = .ok (.getfield 170, 3) := by decide +kernel
theorem dX11_fewest_7 : decode cX11_fewest 7 = .ok (.ifCond .le 27, 3) := by decide +kernel
theorem dX11_fewest_34 : decode cX11_fewest 34 = .ok (.iconst (-1), 1) := by decide +kernel
theorem dX11_fewest_35 : decode cX11_fewest 35 = .ok (.ireturn, 1) := by decide +kernel
theorem dX11_fits_0 : decode cX11_fits 0 = .ok (.aload_n 0, 1) := by decide +kernel
theorem dX11_fits_1 : decode cX11_fits 1 = .ok (.getfield 72, 3) := by decide +kernel
theorem dX11_fits_4 : decode cX11_fits 4 = .ok (.getfield 147, 3) := by decide +kernel
theorem dX11_fits_7 : decode cX11_fits 7 = .ok (.ifCond .ne 5, 3) := by decide +kernel
theorem dX11_fits_10 : decode cX11_fits 10 = .ok (.iconst (-1), 1) := by decide +kernel
theorem dX11_fits_11 : decode cX11_fits 11 = .ok (.ireturn, 1) := by decide +kernel
theorem dX11_goes_0 : decode cX11_goes 0 = .ok (.aload_n 0, 1) := by decide +kernel
theorem dX11_goes_1 : decode cX11_goes 1 = .ok (.getfield 49, 3) := by decide +kernel
theorem dX11_goes_4 : decode cX11_goes 4 = .ok (.getfield 173, 3) := by decide +kernel
theorem dX11_goes_7 : decode cX11_goes 7 = .ok (.aload_n 0, 1) := by decide +kernel
theorem dX11_goes_8 : decode cX11_goes 8 = .ok (.getfield 49, 3) := by decide +kernel
theorem dX11_goes_11 : decode cX11_goes 11 = .ok (.getfield 176, 3) := by decide +kernel
theorem dX11_goes_14 : decode cX11_goes 14 = .ok (.iadd, 1) := by decide +kernel
theorem dX11_goes_15 : decode cX11_goes 15 = .ok (.aload_n 0, 1) := by decide +kernel
theorem dX11_goes_16 : decode cX11_goes 16 = .ok (.getfield 49, 3) := by decide +kernel
theorem dX11_goes_19 : decode cX11_goes 19 = .ok (.getfield 170, 3) := by decide +kernel
theorem dX11_goes_22 : decode cX11_goes 22 = .ok (.iload_n 1, 1) := by decide +kernel
theorem dX11_goes_23 : decode cX11_goes 23 = .ok (.invokestatic 252, 3) := by decide +kernel
theorem dX11_goes_26 : decode cX11_goes 26 = .ok (.ireturn, 1) := by decide +kernel
theorem dX11_has_0 : decode cX11_has 0 = .ok (.iload_n 1, 1) := by decide +kernel
theorem dX11_has_1 : decode cX11_has 1 = .ok (.bipush 14, 2) := by decide +kernel
theorem dX11_has_3 : decode cX11_has 3 = .ok (.if_icmp .ne 11, 3) := by decide +kernel
theorem dX11_has_6 : decode cX11_has 6 = .ok (.aload_n 0, 1) := by decide +kernel
theorem dX11_has_7 : decode cX11_has 7 = .ok (.getfield 96, 3) := by decide +kernel
theorem dX11_has_10 : decode cX11_has 10 = .ok (.getfield 109, 3) := by decide +kernel
theorem dX11_has_13 : decode cX11_has 13 = .ok (.ireturn, 1) := by decide +kernel
theorem dX11_has_14 : decode cX11_has 14 = .ok (.iload_n 1, 1) := by decide +kernel
theorem dX11_has_15 : decode cX11_has 15 = .ok (.ifCond .lt 9, 3) := by decide +kernel
theorem dX11_has_18 : decode cX11_has 18 = .ok (.iload_n 1, 1) := by decide +kernel
theorem dX11_has_19 : decode cX11_has 19 = .ok (.bipush 14, 2) := by decide +kernel
theorem dX11_has_21 : decode cX11_has 21 = .ok (.if_icmp .le 5, 3) := by decide +kernel
theorem dX11_has_24 : decode cX11_has 24 = .ok (.iconst (-1), 1) := by decide +kernel
theorem dX11_has_25 : decode cX11_has 25 = .ok (.ireturn, 1) := by decide +kernel
theorem dX11_has_26 : decode cX11_has 26 = .ok (.aload_n 0, 1) := by decide +kernel
theorem dX11_has_27 : decode cX11_has 27 = .ok (.getfield 19, 3) := by decide +kernel
theorem dX11_has_30 : decode cX11_has 30 = .ok (.getfield 137, 3) := by decide +kernel
theorem dX11_has_33 : decode cX11_has 33 = .ok (.ifCond .ne 5, 3) := by decide +kernel
theorem dX11_has_36 : decode cX11_has 36 = .ok (.iconst 0, 1) := by decide +kernel
theorem dX11_has_37 : decode cX11_has 37 = .ok (.ireturn, 1) := by decide +kernel
theorem dX11_image_0 : decode cX11_image 0 = .ok (.aload_n 0, 1) := by decide +kernel
theorem dX11_image_1 : decode cX11_image 1 = .ok (.iconst 0, 1) := by decide +kernel
theorem dX11_image_2 : decode cX11_image 2 = .ok (.putfield 445, 3) := by decide +kernel
theorem dX11_image_5 : decode cX11_image 5 = .ok (.aload_n 0, 1) := by decide +kernel
theorem dX11_image_6 : decode cX11_image 6 = .ok (.aload_n 0, 1) := by decide +kernel
theorem dX11_image_7 : decode cX11_image 7 = .ok (.getfield 35, 3) := by decide +kernel
theorem dX11_image_10 : decode cX11_image 10 = .ok (.getfield 167, 3) := by decide +kernel
theorem dX11_image_13 : decode cX11_image 13 = .ok (.invokevirtual 448, 3) := by decide +kernel
theorem dX11_image_16 : decode cX11_image 16 = .ok (.iconst 0, 1) := by decide +kernel
theorem dX11_image_17 : decode cX11_image 17 = .ok (.istore_n 1, 1) := by decide +kernel
theorem dX11_image_18 : decode cX11_image 18 = .ok (.iload_n 1, 1) := by decide +kernel
theorem dX11_image_19 : decode cX11_image 19 = .ok (.aload_n 0, 1) := by decide +kernel
theorem dX11_image_20 : decode cX11_image 20 = .ok (.getfield 35, 3) := by decide +kernel
theorem dX11_image_23 : decode cX11_image 23 = .ok (.getfield 451, 3) := by decide +kernel
theorem dX11_image_26 : decode cX11_image 26 = .ok (.if_icmp .ge 35, 3) := by decide +kernel
theorem dX11_image_61 : decode cX11_image 61 = .ok (.sipush 179, 3) := by decide +kernel
theorem dX11_image_64 : decode cX11_image 64 = .ok (.istore_n 1, 1) := by decide +kernel
theorem dX11_image_65 : decode cX11_image 65 = .ok (.iconst 0, 1) := by decide +kernel
theorem dX11_image_66 : decode cX11_image 66 = .ok (.istore_n 2, 1) := by decide +kernel
theorem dX11_image_67 : decode cX11_image 67 = .ok (.iload_n 2, 1) := by decide +kernel
theorem dX11_image_68 : decode cX11_image 68 = .ok (.aload_n 0, 1) := by decide +kernel
theorem dX11_image_69 : decode cX11_image 69 = .ok (.getfield 445, 3) := by decide +kernel
theorem dX11_image_72 : decode cX11_image 72 = .ok (.if_icmp .ge 27, 3) := by decide +kernel
theorem dX11_image_75 : decode cX11_image 75 = .ok (.iload_n 2, 1) := by decide +kernel
theorem dX11_image_76 : decode cX11_image 76 = .ok (.sipush 130, 3) := by decide +kernel
theorem dX11_image_79 : decode cX11_image 79 = .ok (.if_icmp .ge 20, 3) := by decide +kernel
theorem dX11_image_82 : decode cX11_image 82 = .ok (.iload_n 1, 1) := by decide +kernel
theorem dX11_image_83 : decode cX11_image 83 = .ok (.aload_n 0, 1) := by decide +kernel
theorem dX11_image_84 : decode cX11_image 84 = .ok (.getfield 106, 3) := by decide +kernel
theorem dX11_image_87 : decode cX11_image 87 = .ok (.iload_n 2, 1) := by decide +kernel
theorem dX11_image_88 : decode cX11_image 88 = .ok (.iaload, 1) := by decide +kernel
theorem dX11_image_89 : decode cX11_image 89 = .ok (.invokestatic 455, 3) := by decide +kernel
theorem dX11_image_92 : decode cX11_image 92 = .ok (.istore_n 1, 1) := by decide +kernel
theorem dX11_image_93 : decode cX11_image 93 = .ok (.iinc 2 1, 3) := by decide +kernel
theorem dX11_image_96 : decode cX11_image 96 = .ok (.goto (-29), 3) := by decide +kernel
theorem dX11_image_99 : decode cX11_image 99 = .ok (.aload_n 0, 1) := by decide +kernel
theorem dX11_image_100 : decode cX11_image 100 = .ok (.iload_n 1, 1) := by decide +kernel
theorem dX11_image_101 : decode cX11_image 101 = .ok (.invokevirtual 448, 3) := by decide +kernel
theorem dX11_image_104 : decode cX11_image 104 = .ok (.aload_n 0, 1) := by decide +kernel
theorem dX11_image_105 : decode cX11_image 105 = .ok (.getfield 445, 3) := by decide +kernel
theorem dX11_image_108 : decode cX11_image 108 = .ok (.ireturn, 1) := by decide +kernel
theorem dX11_init_0 : decode cX11_init 0 = .ok (.aload_n 0, 1) := by decide +kernel
theorem dX11_init_1 : decode cX11_init 1 = .ok (.invokespecial 3, 3) := by decide +kernel
theorem dX11_init_4 : decode cX11_init 4 = .ok (.aload_n 0, 1) := by decide +kernel
theorem dX11_init_5 : decode cX11_init 5 = .ok (.new 9, 3) := by decide +kernel
theorem dX11_init_8 : decode cX11_init 8 = .ok (.dup, 1) := by decide +kernel
theorem dX11_init_9 : decode cX11_init 9 = .ok (.invokespecial 11, 3) := by decide +kernel
theorem dX11_init_12 : decode cX11_init 12 = .ok (.putfield 12, 3) := by decide +kernel
theorem dX11_init_15 : decode cX11_init 15 = .ok (.aload_n 0, 1) := by decide +kernel
theorem dX11_init_16 : decode cX11_init 16 = .ok (.new 16, 3) := by decide +kernel
theorem dX11_init_19 : decode cX11_init 19 = .ok (.dup, 1) := by decide +kernel
theorem dX11_init_20 : decode cX11_init 20 = .ok (.invokespecial 18, 3) := by decide +kernel
theorem dX11_init_23 : decode cX11_init 23 = .ok (.putfield 19, 3) := by decide +kernel
theorem dX11_init_26 : decode cX11_init 26 = .ok (.aload_n 0, 1) := by decide +kernel
theorem dX11_init_27 : decode cX11_init 27 = .ok (.new 23, 3) := by decide +kernel
theorem dX11_init_30 : decode cX11_init 30 = .ok (.dup, 1) := by decide +kernel
theorem dX11_init_31 : decode cX11_init 31 = .ok (.aload_n 0, 1) := by decide +kernel
theorem dX11_init_32 : decode cX11_init 32 = .ok (.getfield 12, 3) := by decide +kernel
theorem dX11_init_35 : decode cX11_init 35 = .ok (.invokespecial 25, 3) := by decide +kernel
theorem dX11_init_38 : decode cX11_init 38 = .ok (.putfield 28, 3) := by decide +kernel
theorem dX11_init_41 : decode cX11_init 41 = .ok (.aload_n 0, 1) := by decide +kernel
theorem dX11_init_42 : decode cX11_init 42 = .ok (.new 32, 3) := by decide +kernel
theorem dX11_init_45 : decode cX11_init 45 = .ok (.dup, 1) := by decide +kernel
theorem dX11_init_46 : decode cX11_init 46 = .ok (.invokespecial 34, 3) := by decide +kernel
theorem dX11_init_49 : decode cX11_init 49 = .ok (.putfield 35, 3) := by decide +kernel
theorem dX11_init_52 : decode cX11_init 52 = .ok (.aload_n 0, 1) := by decide +kernel
theorem dX11_init_53 : decode cX11_init 53 = .ok (.new 39, 3) := by decide +kernel
theorem dX11_init_56 : decode cX11_init 56 = .ok (.dup, 1) := by decide +kernel
theorem dX11_init_57 : decode cX11_init 57 = .ok (.invokespecial 41, 3) := by decide +kernel
theorem dX11_init_60 : decode cX11_init 60 = .ok (.putfield 42, 3) := by decide +kernel
theorem dX11_init_63 : decode cX11_init 63 = .ok (.aload_n 0, 1) := by decide +kernel
theorem dX11_init_64 : decode cX11_init 64 = .ok (.new 46, 3) := by decide +kernel
theorem dX11_init_67 : decode cX11_init 67 = .ok (.dup, 1) := by decide +kernel
theorem dX11_init_68 : decode cX11_init 68 = .ok (.invokespecial 48, 3) := by decide +kernel
theorem dX11_init_71 : decode cX11_init 71 = .ok (.putfield 49, 3) := by decide +kernel
theorem dX11_init_74 : decode cX11_init 74 = .ok (.aload_n 0, 1) := by decide +kernel
theorem dX11_init_75 : decode cX11_init 75 = .ok (.new 53, 3) := by decide +kernel
theorem dX11_init_78 : decode cX11_init 78 = .ok (.dup, 1) := by decide +kernel
theorem dX11_init_79 : decode cX11_init 79 = .ok (.aload_n 0, 1) := by decide +kernel
theorem dX11_init_80 : decode cX11_init 80 = .ok (.getfield 49, 3) := by decide +kernel
theorem dX11_init_83 : decode cX11_init 83 = .ok (.invokespecial 55, 3) := by decide +kernel
theorem dX11_init_86 : decode cX11_init 86 = .ok (.putfield 58, 3) := by decide +kernel
theorem dX11_init_89 : decode cX11_init 89 = .ok (.aload_n 0, 1) := by decide +kernel
theorem dX11_init_90 : decode cX11_init 90 = .ok (.new 62, 3) := by decide +kernel
theorem dX11_init_93 : decode cX11_init 93 = .ok (.dup, 1) := by decide +kernel
theorem dX11_init_94 : decode cX11_init 94 = .ok (.invokespecial 64, 3) := by decide +kernel
theorem dX11_init_97 : decode cX11_init 97 = .ok (.putfield 65, 3) := by decide +kernel
theorem dX11_init_100 : decode cX11_init 100 = .ok (.aload_n 0, 1) := by decide +kernel
theorem dX11_init_101 : decode cX11_init 101 = .ok (.new 69, 3) := by decide +kernel
theorem dX11_init_104 : decode cX11_init 104 = .ok (.dup, 1) := by decide +kernel
theorem dX11_init_105 : decode cX11_init 105 = .ok (.invokespecial 71, 3) := by decide +kernel
theorem dX11_init_108 : decode cX11_init 108 = .ok (.putfield 72, 3) := by decide +kernel
theorem dX11_init_111 : decode cX11_init 111 = .ok (.aload_n 0, 1) := by decide +kernel
theorem dX11_init_112 : decode cX11_init 112 = .ok (.new 76, 3) := by decide +kernel
theorem dX11_init_115 : decode cX11_init 115 = .ok (.dup, 1) := by decide +kernel
theorem dX11_init_116 : decode cX11_init 116 = .ok (.aload_n 0, 1) := by decide +kernel
theorem dX11_init_117 : decode cX11_init 117 = .ok (.getfield 12, 3) := by decide +kernel
theorem dX11_init_120 : decode cX11_init 120 = .ok (.getfield 78, 3) := by decide +kernel
theorem dX11_init_123 : decode cX11_init 123 = .ok (.invokespecial 82, 3) := by decide +kernel
theorem dX11_init_126 : decode cX11_init 126 = .ok (.putfield 85, 3) := by decide +kernel
theorem dX11_init_129 : decode cX11_init 129 = .ok (.aload_n 0, 1) := by decide +kernel
theorem dX11_init_130 : decode cX11_init 130 = .ok (.new 76, 3) := by decide +kernel
theorem dX11_init_133 : decode cX11_init 133 = .ok (.dup, 1) := by decide +kernel
theorem dX11_init_134 : decode cX11_init 134 = .ok (.aload_n 0, 1) := by decide +kernel
theorem dX11_init_135 : decode cX11_init 135 = .ok (.getfield 35, 3) := by decide +kernel
theorem dX11_init_138 : decode cX11_init 138 = .ok (.getfield 89, 3) := by decide +kernel
theorem dX11_init_141 : decode cX11_init 141 = .ok (.invokespecial 82, 3) := by decide +kernel
theorem dX11_init_144 : decode cX11_init 144 = .ok (.putfield 90, 3) := by decide +kernel
theorem dX11_init_147 : decode cX11_init 147 = .ok (.aload_n 0, 1) := by decide +kernel
theorem dX11_init_148 : decode cX11_init 148 = .ok (.new 93, 3) := by decide +kernel
theorem dX11_init_151 : decode cX11_init 151 = .ok (.dup, 1) := by decide +kernel
theorem dX11_init_152 : decode cX11_init 152 = .ok (.invokespecial 95, 3) := by decide +kernel
theorem dX11_init_155 : decode cX11_init 155 = .ok (.putfield 96, 3) := by decide +kernel
theorem dX11_init_158 : decode cX11_init 158 = .ok (.aload_n 0, 1) := by decide +kernel
theorem dX11_init_159 : decode cX11_init 159 = .ok (.bipush 16, 2) := by decide +kernel
theorem dX11_init_161 : decode cX11_init 161 = .ok (.newarray .int, 2) := by decide +kernel
theorem dX11_init_163 : decode cX11_init 163 = .ok (.putfield 100, 3) := by decide +kernel
theorem dX11_init_166 : decode cX11_init 166 = .ok (.aload_n 0, 1) := by decide +kernel
theorem dX11_init_167 : decode cX11_init 167 = .ok (.bipush 6, 2) := by decide +kernel
theorem dX11_init_169 : decode cX11_init 169 = .ok (.newarray .int, 2) := by decide +kernel
theorem dX11_init_171 : decode cX11_init 171 = .ok (.putfield 103, 3) := by decide +kernel
theorem dX11_init_174 : decode cX11_init 174 = .ok (.aload_n 0, 1) := by decide +kernel
theorem dX11_init_175 : decode cX11_init 175 = .ok (.sipush 130, 3) := by decide +kernel
theorem dX11_init_178 : decode cX11_init 178 = .ok (.newarray .int, 2) := by decide +kernel
theorem dX11_init_180 : decode cX11_init 180 = .ok (.putfield 106, 3) := by decide +kernel
theorem dX11_init_183 : decode cX11_init 183 = .ok (.aload_n 0, 1) := by decide +kernel
theorem dX11_init_184 : decode cX11_init 184 = .ok (.getfield 96, 3) := by decide +kernel
theorem dX11_init_187 : decode cX11_init 187 = .ok (.iconst 1, 1) := by decide +kernel
theorem dX11_init_188 : decode cX11_init 188 = .ok (.putfield 109, 3) := by decide +kernel
theorem dX11_init_191 : decode cX11_init 191 = .ok (.return_, 1) := by decide +kernel
theorem dX11_inside_0 : decode cX11_inside 0 = .ok (.aload_n 0, 1) := by decide +kernel
theorem dX11_inside_1 : decode cX11_inside 1 = .ok (.iload_n 1, 1) := by decide +kernel
theorem dX11_inside_2 : decode cX11_inside 2 = .ok (.invokevirtual 281, 3) := by decide +kernel
theorem dX11_inside_5 : decode cX11_inside 5 = .ok (.ifCond .eq 27, 3) := by decide +kernel
theorem dX11_inside_32 : decode cX11_inside 32 = .ok (.iconst (-1), 1) := by decide +kernel
theorem dX11_inside_33 : decode cX11_inside 33 = .ok (.ireturn, 1) := by decide +kernel
theorem dX11_isTeam_0 : decode cX11_isTeam 0 = .ok (.iload_n 1, 1) := by decide +kernel
theorem dX11_isTeam_1 : decode cX11_isTeam 1 = .ok (.ifCond .lt 23, 3) := by decide +kernel
theorem dX11_isTeam_4 : decode cX11_isTeam 4 = .ok (.iload_n 1, 1) := by decide +kernel
theorem dX11_isTeam_5 : decode cX11_isTeam 5 = .ok (.aload_n 0, 1) := by decide +kernel
theorem dX11_isTeam_6 : decode cX11_isTeam 6 = .ok (.getfield 19, 3) := by decide +kernel
theorem dX11_isTeam_9 : decode cX11_isTeam 9 = .ok (.getfield 468, 3) := by decide +kernel
theorem dX11_isTeam_12 : decode cX11_isTeam 12 = .ok (.if_icmp .ge 12, 3) := by decide +kernel
theorem dX11_isTeam_24 : decode cX11_isTeam 24 = .ok (.iconst 0, 1) := by decide +kernel
theorem dX11_isTeam_25 : decode cX11_isTeam 25 = .ok (.ireturn, 1) := by decide +kernel
theorem dX11_isThing_0 : decode cX11_isThing 0 = .ok (.iload_n 1, 1) := by decide +kernel
theorem dX11_isThing_1 : decode cX11_isThing 1 = .ok (.ifCond .lt 24, 3) := by decide +kernel
theorem dX11_isThing_4 : decode cX11_isThing 4 = .ok (.iload_n 1, 1) := by decide +kernel
theorem dX11_isThing_5 : decode cX11_isThing 5 = .ok (.aload_n 0, 1) := by decide +kernel
theorem dX11_isThing_6 : decode cX11_isThing 6 = .ok (.getfield 49, 3) := by decide +kernel
theorem dX11_isThing_9 : decode cX11_isThing 9 = .ok (.getfield 164, 3) := by decide +kernel
theorem dX11_isThing_12 : decode cX11_isThing 12 = .ok (.if_icmp .ge 13, 3) := by decide +kernel
theorem dX11_isThing_25 : decode cX11_isThing 25 = .ok (.iconst 0, 1) := by decide +kernel
theorem dX11_isThing_26 : decode cX11_isThing 26 = .ok (.ireturn, 1) := by decide +kernel
theorem dX11_isWay_0 : decode cX11_isWay 0 = .ok (.iload_n 0, 1) := by decide +kernel
theorem dX11_isWay_1 : decode cX11_isWay 1 = .ok (.ifCond .lt 12, 3) := by decide +kernel
theorem dX11_isWay_4 : decode cX11_isWay 4 = .ok (.iload_n 0, 1) := by decide +kernel
theorem dX11_isWay_5 : decode cX11_isWay 5 = .ok (.iconst 2, 1) := by decide +kernel
theorem dX11_isWay_6 : decode cX11_isWay 6 = .ok (.if_icmp .gt 7, 3) := by decide +kernel
theorem dX11_isWay_9 : decode cX11_isWay 9 = .ok (.iconst 1, 1) := by decide +kernel
theorem dX11_isWay_10 : decode cX11_isWay 10 = .ok (.goto 4, 3) := by decide +kernel
theorem dX11_isWay_13 : decode cX11_isWay 13 = .ok (.iconst 0, 1) := by decide +kernel
theorem dX11_isWay_14 : decode cX11_isWay 14 = .ok (.ireturn, 1) := by decide +kernel
theorem dX11_judge_0 : decode cX11_judge 0 = .ok (.aload_n 0, 1) := by decide +kernel
theorem dX11_judge_1 : decode cX11_judge 1 = .ok (.iload_n 1, 1) := by decide +kernel
theorem dX11_judge_2 : decode cX11_judge 2 = .ok (.invokevirtual 204, 3) := by decide +kernel
theorem dX11_judge_5 : decode cX11_judge 5 = .ok (.ifCond .ne 10, 3) := by decide +kernel
theorem dX11_judge_8 : decode cX11_judge 8 = .ok (.aload_n 0, 1) := by decide +kernel
theorem dX11_judge_9 : decode cX11_judge 9 = .ok (.iconst 1, 1) := by decide +kernel
theorem dX11_judge_10 : decode cX11_judge 10 = .ok (.iconst 0, 1) := by decide +kernel
theorem dX11_judge_11 : decode cX11_judge 11 = .ok (.invokevirtual 391, 3) := by decide +kernel
theorem dX11_judge_14 : decode cX11_judge 14 = .ok (.ireturn, 1) := by decide +kernel
theorem dX11_letter_0 : decode cX11_letter 0 = .ok (.aload_n 0, 1) := by decide +kernel
theorem dX11_letter_1 : decode cX11_letter 1 = .ok (.iload_n 1, 1) := by decide +kernel
theorem dX11_letter_2 : decode cX11_letter 2 = .ok (.invokevirtual 204, 3) := by decide +kernel
theorem dX11_letter_5 : decode cX11_letter 5 = .ok (.ifCond .eq 19, 3) := by decide +kernel
theorem dX11_letter_24 : decode cX11_letter 24 = .ok (.iconst (-1), 1) := by decide +kernel
theorem dX11_letter_25 : decode cX11_letter 25 = .ok (.ireturn, 1) := by decide +kernel
theorem dX11_longest_0 : decode cX11_longest 0 = .ok (.aload_n 0, 1) := by decide +kernel
theorem dX11_longest_1 : decode cX11_longest 1 = .ok (.getfield 49, 3) := by decide +kernel
theorem dX11_longest_4 : decode cX11_longest 4 = .ok (.getfield 170, 3) := by decide +kernel
theorem dX11_longest_7 : decode cX11_longest 7 = .ok (.ifCond .le 26, 3) := by decide +kernel
theorem dX11_longest_33 : decode cX11_longest 33 = .ok (.iconst (-1), 1) := by decide +kernel
theorem dX11_longest_34 : decode cX11_longest 34 = .ok (.ireturn, 1) := by decide +kernel
theorem dX11_lowest_0 : decode cX11_lowest 0 = .ok (.iload_n 1, 1) := by decide +kernel
theorem dX11_lowest_1 : decode cX11_lowest 1 = .ok (.ifCond .le 12, 3) := by decide +kernel
theorem dX11_lowest_13 : decode cX11_lowest 13 = .ok (.iconst (-1), 1) := by decide +kernel
theorem dX11_lowest_14 : decode cX11_lowest 14 = .ok (.ireturn, 1) := by decide +kernel
theorem dX11_mass_0 : decode cX11_mass 0 = .ok (.aload_n 0, 1) := by decide +kernel
theorem dX11_mass_1 : decode cX11_mass 1 = .ok (.iload_n 1, 1) := by decide +kernel
theorem dX11_mass_2 : decode cX11_mass 2 = .ok (.invokevirtual 204, 3) := by decide +kernel
theorem dX11_mass_5 : decode cX11_mass 5 = .ok (.ifCond .eq 13, 3) := by decide +kernel
theorem dX11_mass_18 : decode cX11_mass 18 = .ok (.iconst (-1), 1) := by decide +kernel
theorem dX11_mass_19 : decode cX11_mass 19 = .ok (.ireturn, 1) := by decide +kernel
theorem dX11_merge_0 : decode cX11_merge 0 = .ok (.aload_n 0, 1) := by decide +kernel
theorem dX11_merge_1 : decode cX11_merge 1 = .ok (.getfield 19, 3) := by decide +kernel
theorem dX11_merge_4 : decode cX11_merge 4 = .ok (.getfield 137, 3) := by decide +kernel
theorem dX11_merge_7 : decode cX11_merge 7 = .ok (.ifCond .eq 24, 3) := by decide +kernel
theorem dX11_merge_31 : decode cX11_merge 31 = .ok (.aload_n 0, 1) := by decide +kernel
theorem dX11_merge_32 : decode cX11_merge 32 = .ok (.iconst 3, 1) := by decide +kernel
theorem dX11_merge_33 : decode cX11_merge 33 = .ok (.invokevirtual 124, 3) := by decide +kernel
theorem dX11_merge_36 : decode cX11_merge 36 = .ok (.ireturn, 1) := by decide +kernel
theorem dX11_merged_0 : decode cX11_merged 0 = .ok (.aload_n 0, 1) := by decide +kernel
theorem dX11_merged_1 : decode cX11_merged 1 = .ok (.getfield 49, 3) := by decide +kernel
theorem dX11_merged_4 : decode cX11_merged 4 = .ok (.getfield 185, 3) := by decide +kernel
theorem dX11_merged_7 : decode cX11_merged 7 = .ok (.ifCond .ne 9, 3) := by decide +kernel
theorem dX11_merged_10 : decode cX11_merged 10 = .ok (.aload_n 0, 1) := by decide +kernel
theorem dX11_merged_11 : decode cX11_merged 11 = .ok (.iconst 3, 1) := by decide +kernel
theorem dX11_merged_12 : decode cX11_merged 12 = .ok (.invokevirtual 124, 3) := by decide +kernel
theorem dX11_merged_15 : decode cX11_merged 15 = .ok (.ireturn, 1) := by decide +kernel
theorem dX11_merges_0 : decode cX11_merges 0 = .ok (.aload_n 0, 1) := by decide +kernel
theorem dX11_merges_1 : decode cX11_merges 1 = .ok (.iload_n 1, 1) := by decide +kernel
theorem dX11_merges_2 : decode cX11_merges 2 = .ok (.invokevirtual 204, 3) := by decide +kernel
theorem dX11_merges_5 : decode cX11_merges 5 = .ok (.ifCond .eq 10, 3) := by decide +kernel
theorem dX11_merges_15 : decode cX11_merges 15 = .ok (.iconst (-1), 1) := by decide +kernel
theorem dX11_merges_16 : decode cX11_merges 16 = .ok (.ireturn, 1) := by decide +kernel
theorem dX11_needs_0 : decode cX11_needs 0 = .ok (.aload_n 0, 1) := by decide +kernel
theorem dX11_needs_1 : decode cX11_needs 1 = .ok (.iload_n 1, 1) := by decide +kernel
theorem dX11_needs_2 : decode cX11_needs 2 = .ok (.invokevirtual 204, 3) := by decide +kernel
theorem dX11_needs_5 : decode cX11_needs 5 = .ok (.ifCond .eq 16, 3) := by decide +kernel
theorem dX11_needs_21 : decode cX11_needs 21 = .ok (.iconst (-1), 1) := by decide +kernel
theorem dX11_needs_22 : decode cX11_needs 22 = .ok (.ireturn, 1) := by decide +kernel
theorem dX11_nextCheck_0 : decode cX11_nextCheck 0 = .ok (.iconst 3, 1) := by decide +kernel
theorem dX11_nextCheck_1 : decode cX11_nextCheck 1 = .ok (.iload_n 0, 1) := by decide +kernel
theorem dX11_nextCheck_2 : decode cX11_nextCheck 2 = .ok (.imul, 1) := by decide +kernel
theorem dX11_nextCheck_3 : decode cX11_nextCheck 3 = .ok (.iload_n 1, 1) := by decide +kernel
theorem dX11_nextCheck_4 : decode cX11_nextCheck 4 = .ok (.iadd, 1) := by decide +kernel
theorem dX11_nextCheck_5 : decode cX11_nextCheck 5 = .ok (.sipush 251, 3) := by decide +kernel
theorem dX11_nextCheck_8 : decode cX11_nextCheck 8 = .ok (.irem, 1) := by decide +kernel
theorem dX11_nextCheck_9 : decode cX11_nextCheck 9 = .ok (.ireturn, 1) := by decide +kernel
theorem dX11_octet_0 : decode cX11_octet 0 = .ok (.iload_n 1, 1) := by decide +kernel
theorem dX11_octet_1 : decode cX11_octet 1 = .ok (.ifCond .lt 27, 3) := by decide +kernel
theorem dX11_octet_4 : decode cX11_octet 4 = .ok (.iload_n 1, 1) := by decide +kernel
theorem dX11_octet_5 : decode cX11_octet 5 = .ok (.aload_n 0, 1) := by decide +kernel
theorem dX11_octet_6 : decode cX11_octet 6 = .ok (.getfield 445, 3) := by decide +kernel
theorem dX11_octet_9 : decode cX11_octet 9 = .ok (.if_icmp .ge 19, 3) := by decide +kernel
theorem dX11_octet_28 : decode cX11_octet 28 = .ok (.iconst (-1), 1) := by decide +kernel
theorem dX11_octet_29 : decode cX11_octet 29 = .ok (.ireturn, 1) := by decide +kernel
theorem dX11_on_0 : decode cX11_on 0 = .ok (.aload_n 0, 1) := by decide +kernel
theorem dX11_on_1 : decode cX11_on 1 = .ok (.getfield 19, 3) := by decide +kernel
theorem dX11_on_4 : decode cX11_on 4 = .ok (.getfield 137, 3) := by decide +kernel
theorem dX11_on_7 : decode cX11_on 7 = .ok (.ifCond .eq 14, 3) := by decide +kernel
theorem dX11_on_21 : decode cX11_on 21 = .ok (.iconst 0, 1) := by decide +kernel
theorem dX11_on_22 : decode cX11_on 22 = .ok (.istore_n 1, 1) := by decide +kernel
theorem dX11_on_23 : decode cX11_on 23 = .ok (.iload_n 1, 1) := by decide +kernel
theorem dX11_on_24 : decode cX11_on 24 = .ok (.ifCond .eq 110, 3) := by decide +kernel
theorem dX11_on_134 : decode cX11_on 134 = .ok (.aload_n 0, 1) := by decide +kernel
theorem dX11_on_135 : decode cX11_on 135 = .ok (.getfield 12, 3) := by decide +kernel
theorem dX11_on_138 : decode cX11_on 138 = .ok (.iconst 0, 1) := by decide +kernel
theorem dX11_on_139 : decode cX11_on 139 = .ok (.putfield 113, 3) := by decide +kernel
theorem dX11_on_142 : decode cX11_on 142 = .ok (.iload_n 1, 1) := by decide +kernel
theorem dX11_on_143 : decode cX11_on 143 = .ok (.ifCond .ne 11, 3) := by decide +kernel
theorem dX11_on_146 : decode cX11_on 146 = .ok (.aload_n 0, 1) := by decide +kernel
theorem dX11_on_147 : decode cX11_on 147 = .ok (.iconst 5, 1) := by decide +kernel
theorem dX11_on_148 : decode cX11_on 148 = .ok (.invokevirtual 124, 3) := by decide +kernel
theorem dX11_on_151 : decode cX11_on 151 = .ok (.ifCond .eq 7, 3) := by decide +kernel
theorem dX11_on_158 : decode cX11_on 158 = .ok (.iconst 0, 1) := by decide +kernel
theorem dX11_on_159 : decode cX11_on 159 = .ok (.ireturn, 1) := by decide +kernel
theorem dX11_owed_0 : decode cX11_owed 0 = .ok (.aload_n 0, 1) := by decide +kernel
theorem dX11_owed_1 : decode cX11_owed 1 = .ok (.iload_n 1, 1) := by decide +kernel
theorem dX11_owed_2 : decode cX11_owed 2 = .ok (.invokevirtual 204, 3) := by decide +kernel
theorem dX11_owed_5 : decode cX11_owed 5 = .ok (.ifCond .eq 13, 3) := by decide +kernel
theorem dX11_owed_18 : decode cX11_owed 18 = .ok (.ldc_w 277, 3) := by decide +kernel
theorem dX11_owed_21 : decode cX11_owed 21 = .ok (.ireturn, 1) := by decide +kernel
theorem dX11_pairs_0 : decode cX11_pairs 0 = .ok (.aload_n 0, 1) := by decide +kernel
theorem dX11_pairs_1 : decode cX11_pairs 1 = .ok (.getfield 49, 3) := by decide +kernel
theorem dX11_pairs_4 : decode cX11_pairs 4 = .ok (.getfield 170, 3) := by decide +kernel
theorem dX11_pairs_7 : decode cX11_pairs 7 = .ok (.ifCond .le 26, 3) := by decide +kernel
theorem dX11_pairs_33 : decode cX11_pairs 33 = .ok (.iconst (-1), 1) := by decide +kernel
theorem dX11_pairs_34 : decode cX11_pairs 34 = .ok (.ireturn, 1) := by decide +kernel
theorem dX11_pick_0 : decode cX11_pick 0 = .ok (.aload_n 0, 1) := by decide +kernel
theorem dX11_pick_1 : decode cX11_pick 1 = .ok (.getfield 49, 3) := by decide +kernel
theorem dX11_pick_4 : decode cX11_pick 4 = .ok (.getfield 170, 3) := by decide +kernel
theorem dX11_pick_7 : decode cX11_pick 7 = .ok (.ifCond .le 10, 3) := by decide +kernel
theorem dX11_pick_17 : decode cX11_pick 17 = .ok (.aload_n 0, 1) := by decide +kernel
theorem dX11_pick_18 : decode cX11_pick 18 = .ok (.iconst 2, 1) := by decide +kernel
theorem dX11_pick_19 : decode cX11_pick 19 = .ok (.invokevirtual 116, 3) := by decide +kernel
theorem dX11_pick_22 : decode cX11_pick 22 = .ok (.ireturn, 1) := by decide +kernel
theorem dX11_putByte_0 : decode cX11_putByte 0 = .ok (.iload_n 1, 1) := by decide +kernel
theorem dX11_putByte_1 : decode cX11_putByte 1 = .ok (.iconst 2, 1) := by decide +kernel
theorem dX11_putByte_2 : decode cX11_putByte 2 = .ok (.ishr, 1) := by decide +kernel
theorem dX11_putByte_3 : decode cX11_putByte 3 = .ok (.istore_n 3, 1) := by decide +kernel
theorem dX11_putByte_4 : decode cX11_putByte 4 = .ok (.iload_n 3, 1) := by decide +kernel
theorem dX11_putByte_5 : decode cX11_putByte 5 = .ok (.ifCond .lt 44, 3) := by decide +kernel
theorem dX11_putByte_8 : decode cX11_putByte 8 = .ok (.iload_n 3, 1) := by decide +kernel
theorem dX11_putByte_9 : decode cX11_putByte 9 = .ok (.aload_n 0, 1) := by decide +kernel
theorem dX11_putByte_10 : decode cX11_putByte 10 = .ok (.arraylength, 1) := by decide +kernel
theorem dX11_putByte_11 : decode cX11_putByte 11 = .ok (.if_icmp .ge 38, 3) := by decide +kernel
theorem dX11_putByte_14 : decode cX11_putByte 14 = .ok (.bipush 24, 2) := by decide +kernel
theorem dX11_putByte_16 : decode cX11_putByte 16 = .ok (.bipush 8, 2) := by decide +kernel
theorem dX11_putByte_18 : decode cX11_putByte 18 = .ok (.iload_n 1, 1) := by decide +kernel
theorem dX11_putByte_19 : decode cX11_putByte 19 = .ok (.iconst 3, 1) := by decide +kernel
theorem dX11_putByte_20 : decode cX11_putByte 20 = .ok (.iand, 1) := by decide +kernel
theorem dX11_putByte_21 : decode cX11_putByte 21 = .ok (.imul, 1) := by decide +kernel
theorem dX11_putByte_22 : decode cX11_putByte 22 = .ok (.isub, 1) := by decide +kernel
theorem dX11_putByte_23 : decode cX11_putByte 23 = .ok (.istore 4, 2) := by decide +kernel
theorem dX11_putByte_25 : decode cX11_putByte 25 = .ok (.aload_n 0, 1) := by decide +kernel
theorem dX11_putByte_26 : decode cX11_putByte 26 = .ok (.iload_n 3, 1) := by decide +kernel
theorem dX11_putByte_27 : decode cX11_putByte 27 = .ok (.aload_n 0, 1) := by decide +kernel
theorem dX11_putByte_28 : decode cX11_putByte 28 = .ok (.iload_n 3, 1) := by decide +kernel
theorem dX11_putByte_29 : decode cX11_putByte 29 = .ok (.iaload, 1) := by decide +kernel
theorem dX11_putByte_30 : decode cX11_putByte 30 = .ok (.sipush 255, 3) := by decide +kernel
theorem dX11_putByte_33 : decode cX11_putByte 33 = .ok (.iload 4, 2) := by decide +kernel
theorem dX11_putByte_35 : decode cX11_putByte 35 = .ok (.ishl, 1) := by decide +kernel
theorem dX11_putByte_36 : decode cX11_putByte 36 = .ok (.iconst (-1), 1) := by decide +kernel
theorem dX11_putByte_37 : decode cX11_putByte 37 = .ok (.ixor, 1) := by decide +kernel
theorem dX11_putByte_38 : decode cX11_putByte 38 = .ok (.iand, 1) := by decide +kernel
theorem dX11_putByte_39 : decode cX11_putByte 39 = .ok (.iload_n 2, 1) := by decide +kernel
theorem dX11_putByte_40 : decode cX11_putByte 40 = .ok (.sipush 255, 3) := by decide +kernel
theorem dX11_putByte_43 : decode cX11_putByte 43 = .ok (.iand, 1) := by decide +kernel
theorem dX11_putByte_44 : decode cX11_putByte 44 = .ok (.iload 4, 2) := by decide +kernel
theorem dX11_putByte_46 : decode cX11_putByte 46 = .ok (.ishl, 1) := by decide +kernel
theorem dX11_putByte_47 : decode cX11_putByte 47 = .ok (.ior, 1) := by decide +kernel
theorem dX11_putByte_48 : decode cX11_putByte 48 = .ok (.iastore, 1) := by decide +kernel
theorem dX11_putByte_49 : decode cX11_putByte 49 = .ok (.return_, 1) := by decide +kernel
theorem dX11_quorum_0 : decode cX11_quorum 0 = .ok (.aload_n 0, 1) := by decide +kernel
theorem dX11_quorum_1 : decode cX11_quorum 1 = .ok (.getfield 49, 3) := by decide +kernel
theorem dX11_quorum_4 : decode cX11_quorum 4 = .ok (.getfield 170, 3) := by decide +kernel
theorem dX11_quorum_7 : decode cX11_quorum 7 = .ok (.ifCond .le 20, 3) := by decide +kernel
theorem dX11_quorum_27 : decode cX11_quorum 27 = .ok (.iconst (-1), 1) := by decide +kernel
theorem dX11_quorum_28 : decode cX11_quorum 28 = .ok (.ireturn, 1) := by decide +kernel
theorem dX11_rank_0 : decode cX11_rank 0 = .ok (.aload_n 0, 1) := by decide +kernel
theorem dX11_rank_1 : decode cX11_rank 1 = .ok (.getfield 49, 3) := by decide +kernel
theorem dX11_rank_4 : decode cX11_rank 4 = .ok (.iload_n 1, 1) := by decide +kernel
theorem dX11_rank_5 : decode cX11_rank 5 = .ok (.invokevirtual 249, 3) := by decide +kernel
theorem dX11_rank_8 : decode cX11_rank 8 = .ok (.ireturn, 1) := by decide +kernel
theorem dX11_refuse_0 : decode cX11_refuse 0 = .ok (.iload_n 1, 1) := by decide +kernel
theorem dX11_refuse_1 : decode cX11_refuse 1 = .ok (.ifCond .lt 22, 3) := by decide +kernel
theorem dX11_refuse_4 : decode cX11_refuse 4 = .ok (.iload_n 1, 1) := by decide +kernel
theorem dX11_refuse_5 : decode cX11_refuse 5 = .ok (.aload_n 0, 1) := by decide +kernel
theorem dX11_refuse_6 : decode cX11_refuse 6 = .ok (.getfield 103, 3) := by decide +kernel
theorem dX11_refuse_9 : decode cX11_refuse 9 = .ok (.arraylength, 1) := by decide +kernel
theorem dX11_refuse_10 : decode cX11_refuse 10 = .ok (.if_icmp .ge 13, 3) := by decide +kernel
theorem dX11_refuse_13 : decode cX11_refuse 13 = .ok (.aload_n 0, 1) := by decide +kernel
theorem dX11_refuse_14 : decode cX11_refuse 14 = .ok (.getfield 103, 3) := by decide +kernel
theorem dX11_refuse_17 : decode cX11_refuse 17 = .ok (.iload_n 1, 1) := by decide +kernel
theorem dX11_refuse_18 : decode cX11_refuse 18 = .ok (.dup2, 1) := by decide +kernel
theorem dX11_refuse_19 : decode cX11_refuse 19 = .ok (.iaload, 1) := by decide +kernel
theorem dX11_refuse_20 : decode cX11_refuse 20 = .ok (.iconst 1, 1) := by decide +kernel
theorem dX11_refuse_21 : decode cX11_refuse 21 = .ok (.iadd, 1) := by decide +kernel
theorem dX11_refuse_22 : decode cX11_refuse 22 = .ok (.iastore, 1) := by decide +kernel
theorem dX11_refuse_23 : decode cX11_refuse 23 = .ok (.iconst (-1), 1) := by decide +kernel
theorem dX11_refuse_24 : decode cX11_refuse 24 = .ok (.ireturn, 1) := by decide +kernel
theorem dX11_rows_0 : decode cX11_rows 0 = .ok (.aload_n 0, 1) := by decide +kernel
theorem dX11_rows_1 : decode cX11_rows 1 = .ok (.getfield 49, 3) := by decide +kernel
theorem dX11_rows_4 : decode cX11_rows 4 = .ok (.getfield 170, 3) := by decide +kernel
theorem dX11_rows_7 : decode cX11_rows 7 = .ok (.ifCond .le 30, 3) := by decide +kernel
theorem dX11_rows_37 : decode cX11_rows 37 = .ok (.iconst (-1), 1) := by decide +kernel
theorem dX11_rows_38 : decode cX11_rows 38 = .ok (.ireturn, 1) := by decide +kernel
theorem dX11_rowsIn_0 : decode cX11_rowsIn 0 = .ok (.aload_n 0, 1) := by decide +kernel
theorem dX11_rowsIn_1 : decode cX11_rowsIn 1 = .ok (.iload_n 1, 1) := by decide +kernel
theorem dX11_rowsIn_2 : decode cX11_rowsIn 2 = .ok (.invokevirtual 281, 3) := by decide +kernel
theorem dX11_rowsIn_5 : decode cX11_rowsIn 5 = .ok (.ifCond .eq 22, 3) := by decide +kernel
theorem dX11_rowsIn_27 : decode cX11_rowsIn 27 = .ok (.iconst (-1), 1) := by decide +kernel
theorem dX11_rowsIn_28 : decode cX11_rowsIn 28 = .ok (.ireturn, 1) := by decide +kernel
theorem dX11_see_0 : decode cX11_see 0 = .ok (.aload_n 0, 1) := by decide +kernel
theorem dX11_see_1 : decode cX11_see 1 = .ok (.iload_n 1, 1) := by decide +kernel
theorem dX11_see_2 : decode cX11_see 2 = .ok (.invokevirtual 204, 3) := by decide +kernel
theorem dX11_see_5 : decode cX11_see 5 = .ok (.ifCond .eq 28, 3) := by decide +kernel
theorem dX11_see_33 : decode cX11_see 33 = .ok (.iconst 0, 1) := by decide +kernel
theorem dX11_see_34 : decode cX11_see 34 = .ok (.istore_n 2, 1) := by decide +kernel
theorem dX11_see_35 : decode cX11_see 35 = .ok (.iload_n 2, 1) := by decide +kernel
theorem dX11_see_36 : decode cX11_see 36 = .ok (.ifCond .eq 15, 3) := by decide +kernel
theorem dX11_see_51 : decode cX11_see 51 = .ok (.aload_n 0, 1) := by decide +kernel
theorem dX11_see_52 : decode cX11_see 52 = .ok (.getfield 12, 3) := by decide +kernel
theorem dX11_see_55 : decode cX11_see 55 = .ok (.iconst 0, 1) := by decide +kernel
theorem dX11_see_56 : decode cX11_see 56 = .ok (.putfield 113, 3) := by decide +kernel
theorem dX11_see_59 : decode cX11_see 59 = .ok (.iload_n 2, 1) := by decide +kernel
theorem dX11_see_60 : decode cX11_see 60 = .ok (.ifCond .eq 13, 3) := by decide +kernel
theorem dX11_see_73 : decode cX11_see 73 = .ok (.aload_n 0, 1) := by decide +kernel
theorem dX11_see_74 : decode cX11_see 74 = .ok (.iconst 5, 1) := by decide +kernel
theorem dX11_see_75 : decode cX11_see 75 = .ok (.invokevirtual 116, 3) := by decide +kernel
theorem dX11_see_78 : decode cX11_see 78 = .ok (.ireturn, 1) := by decide +kernel
theorem dX11_seed_0 : decode cX11_seed 0 = .ok (.iload_n 1, 1) := by decide +kernel
theorem dX11_seed_1 : decode cX11_seed 1 = .ok (.ifCond .ge 9, 3) := by decide +kernel
theorem dX11_seed_4 : decode cX11_seed 4 = .ok (.aload_n 0, 1) := by decide +kernel
theorem dX11_seed_5 : decode cX11_seed 5 = .ok (.iconst 5, 1) := by decide +kernel
theorem dX11_seed_6 : decode cX11_seed 6 = .ok (.invokevirtual 124, 3) := by decide +kernel
theorem dX11_seed_9 : decode cX11_seed 9 = .ok (.ireturn, 1) := by decide +kernel
theorem dX11_seed_10 : decode cX11_seed 10 = .ok (.aload_n 0, 1) := by decide +kernel
theorem dX11_seed_11 : decode cX11_seed 11 = .ok (.getfield 96, 3) := by decide +kernel
theorem dX11_seed_14 : decode cX11_seed 14 = .ok (.iload_n 1, 1) := by decide +kernel
theorem dX11_seed_15 : decode cX11_seed 15 = .ok (.putfield 109, 3) := by decide +kernel
theorem dX11_seed_18 : decode cX11_seed 18 = .ok (.iconst 1, 1) := by decide +kernel
theorem dX11_seed_19 : decode cX11_seed 19 = .ok (.ireturn, 1) := by decide +kernel
theorem dX11_set_0 : decode cX11_set 0 = .ok (.aload_n 0, 1) := by decide +kernel
theorem dX11_set_1 : decode cX11_set 1 = .ok (.iload_n 1, 1) := by decide +kernel
theorem dX11_set_2 : decode cX11_set 2 = .ok (.iload_n 2, 1) := by decide +kernel
theorem dX11_set_3 : decode cX11_set 3 = .ok (.iload_n 3, 1) := by decide +kernel
theorem dX11_set_4 : decode cX11_set 4 = .ok (.invokevirtual 381, 3) := by decide +kernel
theorem dX11_set_7 : decode cX11_set 7 = .ok (.istore 4, 2) := by decide +kernel
theorem dX11_set_9 : decode cX11_set 9 = .ok (.iload 4, 2) := by decide +kernel
theorem dX11_set_11 : decode cX11_set 11 = .ok (.ifCond .ge 9, 3) := by decide +kernel
theorem dX11_set_14 : decode cX11_set 14 = .ok (.aload_n 0, 1) := by decide +kernel
end
section
theorem dX11_set_15 : decode cX11_set 15 = .ok (.iconst 2, 1) := by decide +kernel
theorem dX11_set_16 : decode cX11_set 16 = .ok (.invokevirtual 116, 3) := by decide +kernel
theorem dX11_set_19 : decode cX11_set 19 = .ok (.ireturn, 1) := by decide +kernel
theorem dX11_share_0 : decode cX11_share 0 = .ok (.aload_n 0, 1) := by decide +kernel
theorem dX11_share_1 : decode cX11_share 1 = .ok (.iload_n 1, 1) := by decide +kernel
theorem dX11_share_2 : decode cX11_share 2 = .ok (.invokevirtual 204, 3) := by decide +kernel
theorem dX11_share_5 : decode cX11_share 5 = .ok (.ifCond .eq 26, 3) := by decide +kernel
theorem dX11_share_31 : decode cX11_share 31 = .ok (.iconst (-1), 1) := by decide +kernel
theorem dX11_share_32 : decode cX11_share 32 = .ok (.ireturn, 1) := by decide +kernel
theorem dX11_status_0 : decode cX11_status 0 = .ok (.iload_n 1, 1) := by decide +kernel
theorem dX11_status_1 : decode cX11_status 1 = .ok (.ifCond .lt 21, 3) := by decide +kernel
theorem dX11_status_4 : decode cX11_status 4 = .ok (.iload_n 1, 1) := by decide +kernel
theorem dX11_status_5 : decode cX11_status 5 = .ok (.aload_n 0, 1) := by decide +kernel
theorem dX11_status_6 : decode cX11_status 6 = .ok (.getfield 103, 3) := by decide +kernel
theorem dX11_status_9 : decode cX11_status 9 = .ok (.arraylength, 1) := by decide +kernel
theorem dX11_status_10 : decode cX11_status 10 = .ok (.if_icmp .ge 12, 3) := by decide +kernel
theorem dX11_status_13 : decode cX11_status 13 = .ok (.aload_n 0, 1) := by decide +kernel
theorem dX11_status_14 : decode cX11_status 14 = .ok (.getfield 103, 3) := by decide +kernel
theorem dX11_status_17 : decode cX11_status 17 = .ok (.iload_n 1, 1) := by decide +kernel
theorem dX11_status_18 : decode cX11_status 18 = .ok (.iaload, 1) := by decide +kernel
theorem dX11_status_19 : decode cX11_status 19 = .ok (.goto 4, 3) := by decide +kernel
theorem dX11_status_22 : decode cX11_status 22 = .ok (.iconst (-1), 1) := by decide +kernel
theorem dX11_status_23 : decode cX11_status 23 = .ok (.ireturn, 1) := by decide +kernel
theorem dX11_store_0 : decode cX11_store 0 = .ok (.aload_n 0, 1) := by decide +kernel
theorem dX11_store_1 : decode cX11_store 1 = .ok (.getfield 12, 3) := by decide +kernel
theorem dX11_store_4 : decode cX11_store 4 = .ok (.getfield 113, 3) := by decide +kernel
theorem dX11_store_7 : decode cX11_store 7 = .ok (.istore_n 1, 1) := by decide +kernel
theorem dX11_store_8 : decode cX11_store 8 = .ok (.aload_n 0, 1) := by decide +kernel
theorem dX11_store_9 : decode cX11_store 9 = .ok (.getfield 12, 3) := by decide +kernel
theorem dX11_store_12 : decode cX11_store 12 = .ok (.iconst 0, 1) := by decide +kernel
theorem dX11_store_13 : decode cX11_store 13 = .ok (.putfield 113, 3) := by decide +kernel
theorem dX11_store_16 : decode cX11_store 16 = .ok (.aload_n 0, 1) := by decide +kernel
theorem dX11_store_17 : decode cX11_store 17 = .ok (.getfield 19, 3) := by decide +kernel
theorem dX11_store_20 : decode cX11_store 20 = .ok (.getfield 137, 3) := by decide +kernel
theorem dX11_store_23 : decode cX11_store 23 = .ok (.ifCond .eq 33, 3) := by decide +kernel
theorem dX11_store_56 : decode cX11_store 56 = .ok (.aload_n 0, 1) := by decide +kernel
theorem dX11_store_57 : decode cX11_store 57 = .ok (.iconst 3, 1) := by decide +kernel
theorem dX11_store_58 : decode cX11_store 58 = .ok (.invokevirtual 116, 3) := by decide +kernel
theorem dX11_store_61 : decode cX11_store 61 = .ok (.ireturn, 1) := by decide +kernel
theorem dX11_swings_0 : decode cX11_swings 0 = .ok (.aload_n 0, 1) := by decide +kernel
theorem dX11_swings_1 : decode cX11_swings 1 = .ok (.getfield 49, 3) := by decide +kernel
theorem dX11_swings_4 : decode cX11_swings 4 = .ok (.getfield 170, 3) := by decide +kernel
theorem dX11_swings_7 : decode cX11_swings 7 = .ok (.ifCond .le 19, 3) := by decide +kernel
theorem dX11_swings_26 : decode cX11_swings 26 = .ok (.iconst (-1), 1) := by decide +kernel
theorem dX11_swings_27 : decode cX11_swings 27 = .ok (.ireturn, 1) := by decide +kernel
theorem dX11_team_0 : decode cX11_team 0 = .ok (.aload_n 0, 1) := by decide +kernel
theorem dX11_team_1 : decode cX11_team 1 = .ok (.iload_n 1, 1) := by decide +kernel
theorem dX11_team_2 : decode cX11_team 2 = .ok (.invokevirtual 281, 3) := by decide +kernel
theorem dX11_team_5 : decode cX11_team 5 = .ok (.ifCond .ne 5, 3) := by decide +kernel
theorem dX11_team_8 : decode cX11_team 8 = .ok (.iconst (-1), 1) := by decide +kernel
theorem dX11_team_9 : decode cX11_team 9 = .ok (.ireturn, 1) := by decide +kernel
theorem dX11_tells_0 : decode cX11_tells 0 = .ok (.aload_n 0, 1) := by decide +kernel
theorem dX11_tells_1 : decode cX11_tells 1 = .ok (.getfield 72, 3) := by decide +kernel
theorem dX11_tells_4 : decode cX11_tells 4 = .ok (.getfield 147, 3) := by decide +kernel
theorem dX11_tells_7 : decode cX11_tells 7 = .ok (.ifCond .eq 12, 3) := by decide +kernel
theorem dX11_tells_19 : decode cX11_tells 19 = .ok (.iconst (-1), 1) := by decide +kernel
theorem dX11_tells_20 : decode cX11_tells 20 = .ok (.ireturn, 1) := by decide +kernel
theorem dX11_thing_0 : decode cX11_thing 0 = .ok (.aload_n 0, 1) := by decide +kernel
theorem dX11_thing_1 : decode cX11_thing 1 = .ok (.iload_n 1, 1) := by decide +kernel
theorem dX11_thing_2 : decode cX11_thing 2 = .ok (.invokevirtual 204, 3) := by decide +kernel
theorem dX11_thing_5 : decode cX11_thing 5 = .ok (.ifCond .ne 5, 3) := by decide +kernel
theorem dX11_thing_8 : decode cX11_thing 8 = .ok (.iconst (-1), 1) := by decide +kernel
theorem dX11_thing_9 : decode cX11_thing 9 = .ok (.ireturn, 1) := by decide +kernel
theorem dX11_triedOnTape_0 : decode cX11_triedOnTape 0 = .ok (.aload_n 0, 1) := by decide +kernel
theorem dX11_triedOnTape_1 : decode cX11_triedOnTape 1 = .ok (.getfield 12, 3) := by decide +kernel
theorem dX11_triedOnTape_4 : decode cX11_triedOnTape 4 = .ok (.getfield 113, 3) := by decide +kernel
theorem dX11_triedOnTape_7 : decode cX11_triedOnTape 7 = .ok (.istore 4, 2) := by decide +kernel
theorem dX11_triedOnTape_9 : decode cX11_triedOnTape 9 = .ok (.aload_n 0, 1) := by decide +kernel
theorem dX11_triedOnTape_10 : decode cX11_triedOnTape 10 = .ok (.getfield 12, 3) := by decide +kernel
theorem dX11_triedOnTape_13 : decode cX11_triedOnTape 13 = .ok (.iconst 0, 1) := by decide +kernel
theorem dX11_triedOnTape_14 : decode cX11_triedOnTape 14 = .ok (.putfield 113, 3) := by decide +kernel
theorem dX11_triedOnTape_17 : decode cX11_triedOnTape 17 = .ok (.aload_n 0, 1) := by decide +kernel
theorem dX11_triedOnTape_18 : decode cX11_triedOnTape 18 = .ok (.getfield 49, 3) := by decide +kernel
theorem dX11_triedOnTape_21 : decode cX11_triedOnTape 21 = .ok (.iload_n 2, 1) := by decide +kernel
theorem dX11_triedOnTape_22 : decode cX11_triedOnTape 22 = .ok (.invokevirtual 287, 3) := by decide +kernel
theorem dX11_triedOnTape_25 : decode cX11_triedOnTape 25 = .ok (.ifCond .eq 19, 3) := by decide +kernel
theorem dX11_triedOnTape_44 : decode cX11_triedOnTape 44 = .ok (.iconst (-1), 1) := by decide +kernel
theorem dX11_triedOnTape_45 : decode cX11_triedOnTape 45 = .ok (.ireturn, 1) := by decide +kernel
theorem dX11_tries_0 : decode cX11_tries 0 = .ok (.aload_n 0, 1) := by decide +kernel
theorem dX11_tries_1 : decode cX11_tries 1 = .ok (.iload_n 1, 1) := by decide +kernel
theorem dX11_tries_2 : decode cX11_tries 2 = .ok (.iload_n 1, 1) := by decide +kernel
theorem dX11_tries_3 : decode cX11_tries 3 = .ok (.invokestatic 312, 3) := by decide +kernel
theorem dX11_tries_6 : decode cX11_tries 6 = .ok (.ifCond .eq 8, 3) := by decide +kernel
theorem dX11_tries_9 : decode cX11_tries 9 = .ok (.ldc 197, 2) := by decide +kernel
theorem dX11_tries_11 : decode cX11_tries 11 = .ok (.goto 4, 3) := by decide +kernel
theorem dX11_tries_14 : decode cX11_tries 14 = .ok (.iconst 0, 1) := by decide +kernel
theorem dX11_tries_15 : decode cX11_tries 15 = .ok (.iload_n 2, 1) := by decide +kernel
theorem dX11_tries_16 : decode cX11_tries 16 = .ok (.invokevirtual 296, 3) := by decide +kernel
theorem dX11_tries_19 : decode cX11_tries 19 = .ok (.ireturn, 1) := by decide +kernel
theorem dX11_triesIn_0 : decode cX11_triesIn 0 = .ok (.aload_n 0, 1) := by decide +kernel
theorem dX11_triesIn_1 : decode cX11_triesIn 1 = .ok (.iload_n 1, 1) := by decide +kernel
theorem dX11_triesIn_2 : decode cX11_triesIn 2 = .ok (.invokevirtual 281, 3) := by decide +kernel
theorem dX11_triesIn_5 : decode cX11_triesIn 5 = .ok (.ifCond .eq 15, 3) := by decide +kernel
theorem dX11_triesIn_20 : decode cX11_triesIn 20 = .ok (.iconst 0, 1) := by decide +kernel
theorem dX11_triesIn_21 : decode cX11_triesIn 21 = .ok (.istore_n 3, 1) := by decide +kernel
theorem dX11_triesIn_22 : decode cX11_triesIn 22 = .ok (.aload_n 0, 1) := by decide +kernel
theorem dX11_triesIn_23 : decode cX11_triesIn 23 = .ok (.iconst 1, 1) := by decide +kernel
theorem dX11_triesIn_24 : decode cX11_triesIn 24 = .ok (.iload_n 3, 1) := by decide +kernel
theorem dX11_triesIn_25 : decode cX11_triesIn 25 = .ok (.iload_n 2, 1) := by decide +kernel
theorem dX11_triesIn_26 : decode cX11_triesIn 26 = .ok (.invokevirtual 296, 3) := by decide +kernel
theorem dX11_triesIn_29 : decode cX11_triesIn 29 = .ok (.ireturn, 1) := by decide +kernel
theorem dX11_turnDown_0 : decode cX11_turnDown 0 = .ok (.aload_n 0, 1) := by decide +kernel
theorem dX11_turnDown_1 : decode cX11_turnDown 1 = .ok (.iload_n 1, 1) := by decide +kernel
theorem dX11_turnDown_2 : decode cX11_turnDown 2 = .ok (.putfield 405, 3) := by decide +kernel
theorem dX11_turnDown_5 : decode cX11_turnDown 5 = .ok (.aload_n 0, 1) := by decide +kernel
theorem dX11_turnDown_6 : decode cX11_turnDown 6 = .ok (.iload_n 2, 1) := by decide +kernel
theorem dX11_turnDown_7 : decode cX11_turnDown 7 = .ok (.putfield 408, 3) := by decide +kernel
theorem dX11_turnDown_10 : decode cX11_turnDown 10 = .ok (.iconst (-1), 1) := by decide +kernel
theorem dX11_turnDown_11 : decode cX11_turnDown 11 = .ok (.ireturn, 1) := by decide +kernel
theorem dX11_undo_0 : decode cX11_undo 0 = .ok (.aload_n 0, 1) := by decide +kernel
theorem dX11_undo_1 : decode cX11_undo 1 = .ok (.getfield 42, 3) := by decide +kernel
theorem dX11_undo_4 : decode cX11_undo 4 = .ok (.aload_n 0, 1) := by decide +kernel
theorem dX11_undo_5 : decode cX11_undo 5 = .ok (.getfield 35, 3) := by decide +kernel
theorem dX11_undo_8 : decode cX11_undo 8 = .ok (.invokevirtual 441, 3) := by decide +kernel
theorem dX11_undo_11 : decode cX11_undo 11 = .ok (.ifCond .ne 9, 3) := by decide +kernel
theorem dX11_undo_14 : decode cX11_undo 14 = .ok (.aload_n 0, 1) := by decide +kernel
theorem dX11_undo_15 : decode cX11_undo 15 = .ok (.iconst 4, 1) := by decide +kernel
theorem dX11_undo_16 : decode cX11_undo 16 = .ok (.invokevirtual 124, 3) := by decide +kernel
theorem dX11_undo_19 : decode cX11_undo 19 = .ok (.ireturn, 1) := by decide +kernel
theorem dX11_weight_0 : decode cX11_weight 0 = .ok (.aload_n 0, 1) := by decide +kernel
theorem dX11_weight_1 : decode cX11_weight 1 = .ok (.iload_n 1, 1) := by decide +kernel
theorem dX11_weight_2 : decode cX11_weight 2 = .ok (.invokevirtual 204, 3) := by decide +kernel
theorem dX11_weight_5 : decode cX11_weight 5 = .ok (.ifCond .ne 7, 3) := by decide +kernel
theorem dX11_weight_8 : decode cX11_weight 8 = .ok (.ldc2_w 228, 3) := by decide +kernel
theorem dX11_weight_11 : decode cX11_weight 11 = .ok (.lreturn, 1) := by decide +kernel
theorem dX11_why_0 : decode cX11_why 0 = .ok (.iload_n 1, 1) := by decide +kernel
theorem dX11_why_1 : decode cX11_why 1 = .ok (.ifCond .ne 8, 3) := by decide +kernel
theorem dX11_why_4 : decode cX11_why 4 = .ok (.aload_n 0, 1) := by decide +kernel
theorem dX11_why_5 : decode cX11_why 5 = .ok (.getfield 405, 3) := by decide +kernel
theorem dX11_why_8 : decode cX11_why 8 = .ok (.ireturn, 1) := by decide +kernel
theorem dX11_why_9 : decode cX11_why 9 = .ok (.iload_n 1, 1) := by decide +kernel
theorem dX11_why_10 : decode cX11_why 10 = .ok (.iconst 1, 1) := by decide +kernel
theorem dX11_why_11 : decode cX11_why 11 = .ok (.if_icmp .ne 10, 3) := by decide +kernel
theorem dX11_why_14 : decode cX11_why 14 = .ok (.aload_n 0, 1) := by decide +kernel
theorem dX11_why_15 : decode cX11_why 15 = .ok (.getfield 408, 3) := by decide +kernel
theorem dX11_why_18 : decode cX11_why 18 = .ok (.goto 4, 3) := by decide +kernel
theorem dX11_why_21 : decode cX11_why 21 = .ok (.iconst (-1), 1) := by decide +kernel
theorem dX11_why_22 : decode cX11_why 22 = .ok (.ireturn, 1) := by decide +kernel
theorem dX11_would_0 : decode cX11_would 0 = .ok (.aload_n 0, 1) := by decide +kernel
theorem dX11_would_1 : decode cX11_would 1 = .ok (.iload_n 1, 1) := by decide +kernel
theorem dX11_would_2 : decode cX11_would 2 = .ok (.invokevirtual 204, 3) := by decide +kernel
theorem dX11_would_5 : decode cX11_would 5 = .ok (.ifCond .eq 18, 3) := by decide +kernel
theorem dX11_would_23 : decode cX11_would 23 = .ok (.iconst (-1), 1) := by decide +kernel
theorem dX11_would_24 : decode cX11_would 24 = .ok (.ireturn, 1) := by decide +kernel
theorem dX12_band_0 : decode cX12_band 0 = .ok (.aload_n 0, 1) := by decide +kernel
theorem dX12_band_1 : decode cX12_band 1 = .ok (.iload_n 1, 1) := by decide +kernel
theorem dX12_band_2 : decode cX12_band 2 = .ok (.invokevirtual 335, 3) := by decide +kernel
theorem dX12_band_5 : decode cX12_band 5 = .ok (.ifCond .eq 24, 3) := by decide +kernel
theorem dX12_band_29 : decode cX12_band 29 = .ok (.iconst (-1), 1) := by decide +kernel
theorem dX12_band_30 : decode cX12_band 30 = .ok (.ireturn, 1) := by decide +kernel
theorem dX12_byteAt_0 : decode cX12_byteAt 0 = .ok (.iload_n 1, 1) := by decide +kernel
theorem dX12_byteAt_1 : decode cX12_byteAt 1 = .ok (.ifCond .lt 20, 3) := by decide +kernel
theorem dX12_byteAt_4 : decode cX12_byteAt 4 = .ok (.iload_n 1, 1) := by decide +kernel
theorem dX12_byteAt_5 : decode cX12_byteAt 5 = .ok (.aload_n 0, 1) := by decide +kernel
theorem dX12_byteAt_6 : decode cX12_byteAt 6 = .ok (.getfield 66, 3) := by decide +kernel
theorem dX12_byteAt_9 : decode cX12_byteAt 9 = .ok (.if_icmp .ge 12, 3) := by decide +kernel
theorem dX12_byteAt_21 : decode cX12_byteAt 21 = .ok (.iconst (-1), 1) := by decide +kernel
theorem dX12_byteAt_22 : decode cX12_byteAt 22 = .ok (.ireturn, 1) := by decide +kernel
theorem dX12_called_0 : decode cX12_called 0 = .ok (.aload_n 0, 1) := by decide +kernel
theorem dX12_called_1 : decode cX12_called 1 = .ok (.iload_n 1, 1) := by decide +kernel
theorem dX12_called_2 : decode cX12_called 2 = .ok (.invokevirtual 369, 3) := by decide +kernel
theorem dX12_called_5 : decode cX12_called 5 = .ok (.ifCond .eq 26, 3) := by decide +kernel
theorem dX12_called_31 : decode cX12_called 31 = .ok (.iconst (-1), 1) := by decide +kernel
theorem dX12_called_32 : decode cX12_called 32 = .ok (.ireturn, 1) := by decide +kernel
theorem dX12_chance_0 : decode cX12_chance 0 = .ok (.aload_n 0, 1) := by decide +kernel
theorem dX12_chance_1 : decode cX12_chance 1 = .ok (.invokevirtual 348, 3) := by decide +kernel
theorem dX12_chance_4 : decode cX12_chance 4 = .ok (.ifCond .eq 21, 3) := by decide +kernel
theorem dX12_chance_25 : decode cX12_chance 25 = .ok (.aload_n 0, 1) := by decide +kernel
theorem dX12_chance_26 : decode cX12_chance 26 = .ok (.iconst 2, 1) := by decide +kernel
theorem dX12_chance_27 : decode cX12_chance 27 = .ok (.invokevirtual 158, 3) := by decide +kernel
theorem dX12_chance_30 : decode cX12_chance 30 = .ok (.ireturn, 1) := by decide +kernel
theorem dX12_column_0 : decode cX12_column 0 = .ok (.aload_n 0, 1) := by decide +kernel
theorem dX12_column_1 : decode cX12_column 1 = .ok (.iload_n 1, 1) := by decide +kernel
theorem dX12_column_2 : decode cX12_column 2 = .ok (.invokevirtual 335, 3) := by decide +kernel
theorem dX12_column_5 : decode cX12_column 5 = .ok (.ifCond .eq 11, 3) := by decide +kernel
theorem dX12_column_16 : decode cX12_column 16 = .ok (.iconst (-1), 1) := by decide +kernel
theorem dX12_column_17 : decode cX12_column 17 = .ok (.ireturn, 1) := by decide +kernel
theorem dX12_creditor_0 : decode cX12_creditor 0 = .ok (.aload_n 0, 1) := by decide +kernel
theorem dX12_creditor_1 : decode cX12_creditor 1 = .ok (.invokevirtual 348, 3) := by decide +kernel
theorem dX12_creditor_4 : decode cX12_creditor 4 = .ok (.ifCond .eq 12, 3) := by decide +kernel
theorem dX12_creditor_16 : decode cX12_creditor 16 = .ok (.iconst (-1), 1) := by decide +kernel
theorem dX12_creditor_17 : decode cX12_creditor 17 = .ok (.ireturn, 1) := by decide +kernel
theorem dX12_deals_0 : decode cX12_deals 0 = .ok (.aload_n 0, 1) := by decide +kernel
theorem dX12_deals_1 : decode cX12_deals 1 = .ok (.invokevirtual 241, 3) := by decide +kernel
theorem dX12_deals_4 : decode cX12_deals 4 = .ok (.istore_n 2, 1) := by decide +kernel
theorem dX12_deals_5 : decode cX12_deals 5 = .ok (.aload_n 0, 1) := by decide +kernel
theorem dX12_deals_6 : decode cX12_deals 6 = .ok (.invokevirtual 348, 3) := by decide +kernel
theorem dX12_deals_9 : decode cX12_deals 9 = .ok (.ifCond .eq 13, 3) := by decide +kernel
theorem dX12_deals_22 : decode cX12_deals 22 = .ok (.iconst (-1), 1) := by decide +kernel
theorem dX12_deals_23 : decode cX12_deals 23 = .ok (.ireturn, 1) := by decide +kernel
theorem dX12_end_0 : decode cX12_end 0 = .ok (.iload_n 1, 1) := by decide +kernel
theorem dX12_end_1 : decode cX12_end 1 = .ok (.ifCond .lt 11, 3) := by decide +kernel
theorem dX12_end_4 : decode cX12_end 4 = .ok (.iload_n 1, 1) := by decide +kernel
theorem dX12_end_5 : decode cX12_end 5 = .ok (.aload_n 0, 1) := by decide +kernel
theorem dX12_end_6 : decode cX12_end 6 = .ok (.getfield 54, 3) := by decide +kernel
theorem dX12_end_9 : decode cX12_end 9 = .ok (.if_icmp .le 9, 3) := by decide +kernel
theorem dX12_end_12 : decode cX12_end 12 = .ok (.aload_n 0, 1) := by decide +kernel
theorem dX12_end_13 : decode cX12_end 13 = .ok (.iconst 0, 1) := by decide +kernel
theorem dX12_end_14 : decode cX12_end 14 = .ok (.invokevirtual 166, 3) := by decide +kernel
theorem dX12_end_17 : decode cX12_end 17 = .ok (.ireturn, 1) := by decide +kernel
theorem dX12_end_18 : decode cX12_end 18 = .ok (.aload_n 0, 1) := by decide +kernel
theorem dX12_end_19 : decode cX12_end 19 = .ok (.iload_n 1, 1) := by decide +kernel
theorem dX12_end_20 : decode cX12_end 20 = .ok (.putfield 54, 3) := by decide +kernel
theorem dX12_end_23 : decode cX12_end 23 = .ok (.iconst 1, 1) := by decide +kernel
theorem dX12_end_24 : decode cX12_end 24 = .ok (.ireturn, 1) := by decide +kernel
theorem dX12_endsWell_0 : decode cX12_endsWell 0 = .ok (.aload_n 0, 1) := by decide +kernel
theorem dX12_endsWell_1 : decode cX12_endsWell 1 = .ok (.invokevirtual 173, 3) := by decide +kernel
theorem dX12_endsWell_4 : decode cX12_endsWell 4 = .ok (.ifCond .ne 4, 3) := by decide +kernel
theorem dX12_endsWell_7 : decode cX12_endsWell 7 = .ok (.return_, 1) := by decide +kernel
theorem dX12_fails_0 : decode cX12_fails 0 = .ok (.aload_n 0, 1) := by decide +kernel
theorem dX12_fails_1 : decode cX12_fails 1 = .ok (.getfield 75, 3) := by decide +kernel
theorem dX12_fails_4 : decode cX12_fails 4 = .ok (.ifCond .eq 4, 3) := by decide +kernel
theorem dX12_fails_8 : decode cX12_fails 8 = .ok (.aload_n 0, 1) := by decide +kernel
theorem dX12_fails_9 : decode cX12_fails 9 = .ok (.iload_n 1, 1) := by decide +kernel
theorem dX12_fails_10 : decode cX12_fails 10 = .ok (.putfield 75, 3) := by decide +kernel
theorem dX12_fails_13 : decode cX12_fails 13 = .ok (.aload_n 0, 1) := by decide +kernel
theorem dX12_fails_14 : decode cX12_fails 14 = .ok (.iload_n 2, 1) := by decide +kernel
theorem dX12_fails_15 : decode cX12_fails 15 = .ok (.putfield 78, 3) := by decide +kernel
theorem dX12_fails_18 : decode cX12_fails 18 = .ok (.return_, 1) := by decide +kernel
theorem dX12_fault_0 : decode cX12_fault 0 = .ok (.iload_n 1, 1) := by decide +kernel
theorem dX12_fault_1 : decode cX12_fault 1 = .ok (.ifCond .ne 10, 3) := by decide +kernel
theorem dX12_fault_4 : decode cX12_fault 4 = .ok (.aload_n 0, 1) := by decide +kernel
theorem dX12_fault_5 : decode cX12_fault 5 = .ok (.getfield 60, 3) := by decide +kernel
theorem dX12_fault_8 : decode cX12_fault 8 = .ok (.goto 16, 3) := by decide +kernel
theorem dX12_fault_11 : decode cX12_fault 11 = .ok (.iload_n 1, 1) := by decide +kernel
theorem dX12_fault_12 : decode cX12_fault 12 = .ok (.iconst 1, 1) := by decide +kernel
theorem dX12_fault_13 : decode cX12_fault 13 = .ok (.if_icmp .ne 10, 3) := by decide +kernel
theorem dX12_fault_16 : decode cX12_fault 16 = .ok (.aload_n 0, 1) := by decide +kernel
theorem dX12_fault_17 : decode cX12_fault 17 = .ok (.getfield 63, 3) := by decide +kernel
theorem dX12_fault_20 : decode cX12_fault 20 = .ok (.goto 4, 3) := by decide +kernel
theorem dX12_fault_23 : decode cX12_fault 23 = .ok (.iconst (-1), 1) := by decide +kernel
theorem dX12_fault_24 : decode cX12_fault 24 = .ok (.ireturn, 1) := by decide +kernel
theorem dX12_feed_0 : decode cX12_feed 0 = .ok (.aload_n 0, 1) := by decide +kernel
theorem dX12_feed_1 : decode cX12_feed 1 = .ok (.getfield 54, 3) := by decide +kernel
theorem dX12_feed_4 : decode cX12_feed 4 = .ok (.bipush 20, 2) := by decide +kernel
theorem dX12_feed_6 : decode cX12_feed 6 = .ok (.iadd, 1) := by decide +kernel
theorem dX12_feed_7 : decode cX12_feed 7 = .ok (.sipush 1200, 3) := by decide +kernel
theorem dX12_feed_10 : decode cX12_feed 10 = .ok (.if_icmp .le 9, 3) := by decide +kernel
theorem dX12_feed_19 : decode cX12_feed 19 = .ok (.aload_n 0, 1) := by decide +kernel
theorem dX12_feed_20 : decode cX12_feed 20 = .ok (.iload_n 1, 1) := by decide +kernel
theorem dX12_feed_21 : decode cX12_feed 21 = .ok (.invokevirtual 162, 3) := by decide +kernel
theorem dX12_feed_24 : decode cX12_feed 24 = .ok (.aload_n 0, 1) := by decide +kernel
theorem dX12_feed_25 : decode cX12_feed 25 = .ok (.iload_n 2, 1) := by decide +kernel
theorem dX12_feed_26 : decode cX12_feed 26 = .ok (.invokevirtual 162, 3) := by decide +kernel
theorem dX12_feed_29 : decode cX12_feed 29 = .ok (.aload_n 0, 1) := by decide +kernel
theorem dX12_feed_30 : decode cX12_feed 30 = .ok (.iload_n 3, 1) := by decide +kernel
theorem dX12_feed_31 : decode cX12_feed 31 = .ok (.invokevirtual 162, 3) := by decide +kernel
theorem dX12_feed_34 : decode cX12_feed 34 = .ok (.aload_n 0, 1) := by decide +kernel
theorem dX12_feed_35 : decode cX12_feed 35 = .ok (.iload 4, 2) := by decide +kernel
theorem dX12_feed_37 : decode cX12_feed 37 = .ok (.invokevirtual 162, 3) := by decide +kernel
theorem dX12_feed_40 : decode cX12_feed 40 = .ok (.aload_n 0, 1) := by decide +kernel
theorem dX12_feed_41 : decode cX12_feed 41 = .ok (.iload 5, 2) := by decide +kernel
theorem dX12_feed_43 : decode cX12_feed 43 = .ok (.invokevirtual 162, 3) := by decide +kernel
theorem dX12_feed_46 : decode cX12_feed 46 = .ok (.aload_n 0, 1) := by decide +kernel
theorem dX12_feed_47 : decode cX12_feed 47 = .ok (.getfield 54, 3) := by decide +kernel
theorem dX12_feed_50 : decode cX12_feed 50 = .ok (.ireturn, 1) := by decide +kernel
theorem dX12_fewest_0 : decode cX12_fewest 0 = .ok (.aload_n 0, 1) := by decide +kernel
theorem dX12_fewest_1 : decode cX12_fewest 1 = .ok (.invokevirtual 348, 3) := by decide +kernel
theorem dX12_fewest_4 : decode cX12_fewest 4 = .ok (.ifCond .eq 28, 3) := by decide +kernel
theorem dX12_fewest_32 : decode cX12_fewest 32 = .ok (.iconst (-1), 1) := by decide +kernel
theorem dX12_fewest_33 : decode cX12_fewest 33 = .ok (.ireturn, 1) := by decide +kernel
theorem dX12_fits_0 : decode cX12_fits 0 = .ok (.aload_n 0, 1) := by decide +kernel
theorem dX12_fits_1 : decode cX12_fits 1 = .ok (.getfield 125, 3) := by decide +kernel
theorem dX12_fits_4 : decode cX12_fits 4 = .ok (.ifCond .eq 8, 3) := by decide +kernel
theorem dX12_fits_12 : decode cX12_fits 12 = .ok (.iconst (-1), 1) := by decide +kernel
theorem dX12_fits_13 : decode cX12_fits 13 = .ok (.ireturn, 1) := by decide +kernel
theorem dX12_goes_0 : decode cX12_goes 0 = .ok (.aload_n 0, 1) := by decide +kernel
theorem dX12_goes_1 : decode cX12_goes 1 = .ok (.invokevirtual 348, 3) := by decide +kernel
theorem dX12_goes_4 : decode cX12_goes 4 = .ok (.ifCond .eq 38, 3) := by decide +kernel
theorem dX12_goes_42 : decode cX12_goes 42 = .ok (.iconst (-1), 1) := by decide +kernel
theorem dX12_goes_43 : decode cX12_goes 43 = .ok (.ireturn, 1) := by decide +kernel
theorem dX12_goesWell_0 : decode cX12_goesWell 0 = .ok (.aload_n 0, 1) := by decide +kernel
theorem dX12_goesWell_1 : decode cX12_goesWell 1 = .ok (.getfield 75, 3) := by decide +kernel
theorem dX12_goesWell_4 : decode cX12_goesWell 4 = .ok (.ifCond .ne 7, 3) := by decide +kernel
theorem dX12_goesWell_7 : decode cX12_goesWell 7 = .ok (.iconst 1, 1) := by decide +kernel
theorem dX12_goesWell_8 : decode cX12_goesWell 8 = .ok (.goto 4, 3) := by decide +kernel
theorem dX12_goesWell_11 : decode cX12_goesWell 11 = .ok (.iconst 0, 1) := by decide +kernel
theorem dX12_goesWell_12 : decode cX12_goesWell 12 = .ok (.ireturn, 1) := by decide +kernel
theorem dX12_has_0 : decode cX12_has 0 = .ok (.iload_n 1, 1) := by decide +kernel
theorem dX12_has_1 : decode cX12_has 1 = .ok (.bipush 14, 2) := by decide +kernel
theorem dX12_has_3 : decode cX12_has 3 = .ok (.if_icmp .ne 8, 3) := by decide +kernel
theorem dX12_has_6 : decode cX12_has 6 = .ok (.aload_n 0, 1) := by decide +kernel
theorem dX12_has_7 : decode cX12_has 7 = .ok (.getfield 149, 3) := by decide +kernel
theorem dX12_has_10 : decode cX12_has 10 = .ok (.ireturn, 1) := by decide +kernel
theorem dX12_has_11 : decode cX12_has 11 = .ok (.aload_n 0, 1) := by decide +kernel
theorem dX12_has_12 : decode cX12_has 12 = .ok (.getfield 7, 3) := by decide +kernel
theorem dX12_has_15 : decode cX12_has 15 = .ok (.ifCond .ne 19, 3) := by decide +kernel
theorem dX12_has_18 : decode cX12_has 18 = .ok (.iload_n 1, 1) := by decide +kernel
theorem dX12_has_19 : decode cX12_has 19 = .ok (.iconst 0, 1) := by decide +kernel
theorem dX12_has_20 : decode cX12_has 20 = .ok (.bipush 13, 2) := by decide +kernel
theorem dX12_has_22 : decode cX12_has 22 = .ok (.invokestatic 197, 3) := by decide +kernel
theorem dX12_has_25 : decode cX12_has 25 = .ok (.ifCond .eq 7, 3) := by decide +kernel
theorem dX12_has_28 : decode cX12_has 28 = .ok (.iconst 0, 1) := by decide +kernel
theorem dX12_has_29 : decode cX12_has 29 = .ok (.goto 4, 3) := by decide +kernel
theorem dX12_has_32 : decode cX12_has 32 = .ok (.iconst (-1), 1) := by decide +kernel
theorem dX12_has_33 : decode cX12_has 33 = .ok (.ireturn, 1) := by decide +kernel
theorem dX12_here_0 : decode cX12_here 0 = .ok (.aload_n 0, 1) := by decide +kernel
theorem dX12_here_1 : decode cX12_here 1 = .ok (.aload_n 0, 1) := by decide +kernel
theorem dX12_here_2 : decode cX12_here 2 = .ok (.getfield 69, 3) := by decide +kernel
theorem dX12_here_5 : decode cX12_here 5 = .ok (.invokevirtual 170, 3) := by decide +kernel
theorem dX12_here_8 : decode cX12_here 8 = .ok (.bipush 10, 2) := by decide +kernel
theorem dX12_here_10 : decode cX12_here 10 = .ok (.if_icmp .eq 16, 3) := by decide +kernel
theorem dX12_here_13 : decode cX12_here 13 = .ok (.aload_n 0, 1) := by decide +kernel
theorem dX12_here_14 : decode cX12_here 14 = .ok (.aload_n 0, 1) := by decide +kernel
theorem dX12_here_15 : decode cX12_here 15 = .ok (.getfield 69, 3) := by decide +kernel
theorem dX12_here_18 : decode cX12_here 18 = .ok (.invokevirtual 170, 3) := by decide +kernel
theorem dX12_here_21 : decode cX12_here 21 = .ok (.bipush 32, 2) := by decide +kernel
theorem dX12_here_23 : decode cX12_here 23 = .ok (.if_icmp .ne 16, 3) := by decide +kernel
theorem dX12_here_39 : decode cX12_here 39 = .ok (.aload_n 0, 1) := by decide +kernel
theorem dX12_here_40 : decode cX12_here 40 = .ok (.aload_n 0, 1) := by decide +kernel
theorem dX12_here_41 : decode cX12_here 41 = .ok (.getfield 69, 3) := by decide +kernel
theorem dX12_here_44 : decode cX12_here 44 = .ok (.invokevirtual 170, 3) := by decide +kernel
theorem dX12_here_47 : decode cX12_here 47 = .ok (.ireturn, 1) := by decide +kernel
theorem dX12_image_0 : decode cX12_image 0 = .ok (.aload_n 0, 1) := by decide +kernel
theorem dX12_image_1 : decode cX12_image 1 = .ok (.iconst 0, 1) := by decide +kernel
theorem dX12_image_2 : decode cX12_image 2 = .ok (.putfield 155, 3) := by decide +kernel
theorem dX12_image_5 : decode cX12_image 5 = .ok (.aload_n 0, 1) := by decide +kernel
theorem dX12_image_6 : decode cX12_image 6 = .ok (.aload_n 0, 1) := by decide +kernel
theorem dX12_image_7 : decode cX12_image 7 = .ok (.getfield 84, 3) := by decide +kernel
theorem dX12_image_10 : decode cX12_image 10 = .ok (.iconst 0, 1) := by decide +kernel
theorem dX12_image_11 : decode cX12_image 11 = .ok (.iaload, 1) := by decide +kernel
theorem dX12_image_12 : decode cX12_image 12 = .ok (.invokevirtual 436, 3) := by decide +kernel
theorem dX12_image_15 : decode cX12_image 15 = .ok (.iconst 0, 1) := by decide +kernel
theorem dX12_image_16 : decode cX12_image 16 = .ok (.istore_n 1, 1) := by decide +kernel
theorem dX12_image_17 : decode cX12_image 17 = .ok (.iload_n 1, 1) := by decide +kernel
theorem dX12_image_18 : decode cX12_image 18 = .ok (.aload_n 0, 1) := by decide +kernel
theorem dX12_image_19 : decode cX12_image 19 = .ok (.getfield 13, 3) := by decide +kernel
theorem dX12_image_22 : decode cX12_image 22 = .ok (.if_icmp .ge 34, 3) := by decide +kernel
theorem dX12_image_56 : decode cX12_image 56 = .ok (.sipush 179, 3) := by decide +kernel
theorem dX12_image_59 : decode cX12_image 59 = .ok (.istore_n 1, 1) := by decide +kernel
theorem dX12_image_60 : decode cX12_image 60 = .ok (.iconst 0, 1) := by decide +kernel
theorem dX12_image_61 : decode cX12_image 61 = .ok (.istore_n 2, 1) := by decide +kernel
theorem dX12_image_62 : decode cX12_image 62 = .ok (.iload_n 2, 1) := by decide +kernel
theorem dX12_image_63 : decode cX12_image 63 = .ok (.aload_n 0, 1) := by decide +kernel
theorem dX12_image_64 : decode cX12_image 64 = .ok (.getfield 155, 3) := by decide +kernel
theorem dX12_image_67 : decode cX12_image 67 = .ok (.if_icmp .ge 24, 3) := by decide +kernel
theorem dX12_image_70 : decode cX12_image 70 = .ok (.iconst 3, 1) := by decide +kernel
theorem dX12_image_71 : decode cX12_image 71 = .ok (.iload_n 1, 1) := by decide +kernel
theorem dX12_image_72 : decode cX12_image 72 = .ok (.imul, 1) := by decide +kernel
theorem dX12_image_73 : decode cX12_image 73 = .ok (.aload_n 0, 1) := by decide +kernel
theorem dX12_image_74 : decode cX12_image 74 = .ok (.getfield 152, 3) := by decide +kernel
theorem dX12_image_77 : decode cX12_image 77 = .ok (.iload_n 2, 1) := by decide +kernel
theorem dX12_image_78 : decode cX12_image 78 = .ok (.iaload, 1) := by decide +kernel
theorem dX12_image_79 : decode cX12_image 79 = .ok (.iadd, 1) := by decide +kernel
theorem dX12_image_80 : decode cX12_image 80 = .ok (.sipush 251, 3) := by decide +kernel
theorem dX12_image_83 : decode cX12_image 83 = .ok (.irem, 1) := by decide +kernel
theorem dX12_image_84 : decode cX12_image 84 = .ok (.istore_n 1, 1) := by decide +kernel
theorem dX12_image_85 : decode cX12_image 85 = .ok (.iinc 2 1, 3) := by decide +kernel
theorem dX12_image_88 : decode cX12_image 88 = .ok (.goto (-26), 3) := by decide +kernel
theorem dX12_image_91 : decode cX12_image 91 = .ok (.aload_n 0, 1) := by decide +kernel
theorem dX12_image_92 : decode cX12_image 92 = .ok (.iload_n 1, 1) := by decide +kernel
theorem dX12_image_93 : decode cX12_image 93 = .ok (.invokevirtual 436, 3) := by decide +kernel
theorem dX12_image_96 : decode cX12_image 96 = .ok (.aload_n 0, 1) := by decide +kernel
theorem dX12_image_97 : decode cX12_image 97 = .ok (.getfield 155, 3) := by decide +kernel
theorem dX12_image_100 : decode cX12_image 100 = .ok (.ireturn, 1) := by decide +kernel
theorem dX12_init_0 : decode cX12_init 0 = .ok (.aload_n 0, 1) := by decide +kernel
theorem dX12_init_1 : decode cX12_init 1 = .ok (.invokespecial 1, 3) := by decide +kernel
theorem dX12_init_4 : decode cX12_init 4 = .ok (.aload_n 0, 1) := by decide +kernel
theorem dX12_init_5 : decode cX12_init 5 = .ok (.iconst 0, 1) := by decide +kernel
theorem dX12_init_6 : decode cX12_init 6 = .ok (.putfield 7, 3) := by decide +kernel
theorem dX12_init_9 : decode cX12_init 9 = .ok (.aload_n 0, 1) := by decide +kernel
theorem dX12_init_10 : decode cX12_init 10 = .ok (.iconst 0, 1) := by decide +kernel
theorem dX12_init_11 : decode cX12_init 11 = .ok (.putfield 13, 3) := by decide +kernel
theorem dX12_init_14 : decode cX12_init 14 = .ok (.aload_n 0, 1) := by decide +kernel
theorem dX12_init_15 : decode cX12_init 15 = .ok (.bipush 96, 2) := by decide +kernel
theorem dX12_init_17 : decode cX12_init 17 = .ok (.newarray .int, 2) := by decide +kernel
theorem dX12_init_19 : decode cX12_init 19 = .ok (.putfield 17, 3) := by decide +kernel
theorem dX12_init_22 : decode cX12_init 22 = .ok (.aload_n 0, 1) := by decide +kernel
theorem dX12_init_23 : decode cX12_init 23 = .ok (.iconst 0, 1) := by decide +kernel
theorem dX12_init_24 : decode cX12_init 24 = .ok (.putfield 21, 3) := by decide +kernel
theorem dX12_init_27 : decode cX12_init 27 = .ok (.aload_n 0, 1) := by decide +kernel
theorem dX12_init_28 : decode cX12_init 28 = .ok (.iconst 0, 1) := by decide +kernel
theorem dX12_init_29 : decode cX12_init 29 = .ok (.putfield 24, 3) := by decide +kernel
theorem dX12_init_32 : decode cX12_init 32 = .ok (.aload_n 0, 1) := by decide +kernel
theorem dX12_init_33 : decode cX12_init 33 = .ok (.bipush 16, 2) := by decide +kernel
theorem dX12_init_35 : decode cX12_init 35 = .ok (.newarray .int, 2) := by decide +kernel
theorem dX12_init_37 : decode cX12_init 37 = .ok (.putfield 27, 3) := by decide +kernel
theorem dX12_init_40 : decode cX12_init 40 = .ok (.aload_n 0, 1) := by decide +kernel
theorem dX12_init_41 : decode cX12_init 41 = .ok (.bipush 96, 2) := by decide +kernel
theorem dX12_init_43 : decode cX12_init 43 = .ok (.newarray .int, 2) := by decide +kernel
theorem dX12_init_45 : decode cX12_init 45 = .ok (.putfield 30, 3) := by decide +kernel
theorem dX12_init_48 : decode cX12_init 48 = .ok (.aload_n 0, 1) := by decide +kernel
theorem dX12_init_49 : decode cX12_init 49 = .ok (.iconst 0, 1) := by decide +kernel
theorem dX12_init_50 : decode cX12_init 50 = .ok (.putfield 33, 3) := by decide +kernel
theorem dX12_init_53 : decode cX12_init 53 = .ok (.aload_n 0, 1) := by decide +kernel
theorem dX12_init_54 : decode cX12_init 54 = .ok (.iconst 4, 1) := by decide +kernel
theorem dX12_init_55 : decode cX12_init 55 = .ok (.newarray .int, 2) := by decide +kernel
theorem dX12_init_57 : decode cX12_init 57 = .ok (.putfield 36, 3) := by decide +kernel
theorem dX12_init_60 : decode cX12_init 60 = .ok (.aload_n 0, 1) := by decide +kernel
theorem dX12_init_61 : decode cX12_init 61 = .ok (.bipush 24, 2) := by decide +kernel
theorem dX12_init_63 : decode cX12_init 63 = .ok (.newarray .int, 2) := by decide +kernel
theorem dX12_init_65 : decode cX12_init 65 = .ok (.putfield 39, 3) := by decide +kernel
theorem dX12_init_68 : decode cX12_init 68 = .ok (.aload_n 0, 1) := by decide +kernel
theorem dX12_init_69 : decode cX12_init 69 = .ok (.iconst 0, 1) := by decide +kernel
theorem dX12_init_70 : decode cX12_init 70 = .ok (.putfield 42, 3) := by decide +kernel
theorem dX12_init_73 : decode cX12_init 73 = .ok (.aload_n 0, 1) := by decide +kernel
theorem dX12_init_74 : decode cX12_init 74 = .ok (.iconst 4, 1) := by decide +kernel
theorem dX12_init_75 : decode cX12_init 75 = .ok (.newarray .int, 2) := by decide +kernel
theorem dX12_init_77 : decode cX12_init 77 = .ok (.putfield 45, 3) := by decide +kernel
theorem dX12_init_80 : decode cX12_init 80 = .ok (.aload_n 0, 1) := by decide +kernel
theorem dX12_init_81 : decode cX12_init 81 = .ok (.bipush 24, 2) := by decide +kernel
theorem dX12_init_83 : decode cX12_init 83 = .ok (.newarray .int, 2) := by decide +kernel
theorem dX12_init_85 : decode cX12_init 85 = .ok (.putfield 48, 3) := by decide +kernel
theorem dX12_init_88 : decode cX12_init 88 = .ok (.aload_n 0, 1) := by decide +kernel
theorem dX12_init_89 : decode cX12_init 89 = .ok (.sipush 1200, 3) := by decide +kernel
theorem dX12_init_92 : decode cX12_init 92 = .ok (.newarray .int, 2) := by decide +kernel
theorem dX12_init_94 : decode cX12_init 94 = .ok (.putfield 51, 3) := by decide +kernel
theorem dX12_init_97 : decode cX12_init 97 = .ok (.aload_n 0, 1) := by decide +kernel
theorem dX12_init_98 : decode cX12_init 98 = .ok (.iconst 0, 1) := by decide +kernel
theorem dX12_init_99 : decode cX12_init 99 = .ok (.putfield 54, 3) := by decide +kernel
theorem dX12_init_102 : decode cX12_init 102 = .ok (.aload_n 0, 1) := by decide +kernel
theorem dX12_init_103 : decode cX12_init 103 = .ok (.bipush 6, 2) := by decide +kernel
theorem dX12_init_105 : decode cX12_init 105 = .ok (.newarray .int, 2) := by decide +kernel
theorem dX12_init_107 : decode cX12_init 107 = .ok (.putfield 57, 3) := by decide +kernel
theorem dX12_init_110 : decode cX12_init 110 = .ok (.aload_n 0, 1) := by decide +kernel
theorem dX12_init_111 : decode cX12_init 111 = .ok (.iconst 0, 1) := by decide +kernel
theorem dX12_init_112 : decode cX12_init 112 = .ok (.putfield 60, 3) := by decide +kernel
theorem dX12_init_115 : decode cX12_init 115 = .ok (.aload_n 0, 1) := by decide +kernel
theorem dX12_init_116 : decode cX12_init 116 = .ok (.iconst (-1), 1) := by decide +kernel
theorem dX12_init_117 : decode cX12_init 117 = .ok (.putfield 63, 3) := by decide +kernel
theorem dX12_init_120 : decode cX12_init 120 = .ok (.aload_n 0, 1) := by decide +kernel
theorem dX12_init_121 : decode cX12_init 121 = .ok (.iconst 0, 1) := by decide +kernel
theorem dX12_init_122 : decode cX12_init 122 = .ok (.putfield 66, 3) := by decide +kernel
theorem dX12_init_125 : decode cX12_init 125 = .ok (.aload_n 0, 1) := by decide +kernel
theorem dX12_init_126 : decode cX12_init 126 = .ok (.iconst 0, 1) := by decide +kernel
theorem dX12_init_127 : decode cX12_init 127 = .ok (.putfield 69, 3) := by decide +kernel
theorem dX12_init_130 : decode cX12_init 130 = .ok (.aload_n 0, 1) := by decide +kernel
theorem dX12_init_131 : decode cX12_init 131 = .ok (.iconst 0, 1) := by decide +kernel
theorem dX12_init_132 : decode cX12_init 132 = .ok (.putfield 72, 3) := by decide +kernel
theorem dX12_init_135 : decode cX12_init 135 = .ok (.aload_n 0, 1) := by decide +kernel
theorem dX12_init_136 : decode cX12_init 136 = .ok (.iconst 0, 1) := by decide +kernel
theorem dX12_init_137 : decode cX12_init 137 = .ok (.putfield 75, 3) := by decide +kernel
theorem dX12_init_140 : decode cX12_init 140 = .ok (.aload_n 0, 1) := by decide +kernel
theorem dX12_init_141 : decode cX12_init 141 = .ok (.iconst (-1), 1) := by decide +kernel
theorem dX12_init_142 : decode cX12_init 142 = .ok (.putfield 78, 3) := by decide +kernel
theorem dX12_init_145 : decode cX12_init 145 = .ok (.aload_n 0, 1) := by decide +kernel
theorem dX12_init_146 : decode cX12_init 146 = .ok (.bipush 36, 2) := by decide +kernel
theorem dX12_init_148 : decode cX12_init 148 = .ok (.newarray .int, 2) := by decide +kernel
theorem dX12_init_150 : decode cX12_init 150 = .ok (.dup, 1) := by decide +kernel
theorem dX12_init_151 : decode cX12_init 151 = .ok (.iconst 0, 1) := by decide +kernel
theorem dX12_init_152 : decode cX12_init 152 = .ok (.bipush 23, 2) := by decide +kernel
theorem dX12_init_154 : decode cX12_init 154 = .ok (.iastore, 1) := by decide +kernel
theorem dX12_init_155 : decode cX12_init 155 = .ok (.dup, 1) := by decide +kernel
theorem dX12_init_156 : decode cX12_init 156 = .ok (.iconst 1, 1) := by decide +kernel
theorem dX12_init_157 : decode cX12_init 157 = .ok (.bipush 8, 2) := by decide +kernel
theorem dX12_init_159 : decode cX12_init 159 = .ok (.iastore, 1) := by decide +kernel
theorem dX12_init_160 : decode cX12_init 160 = .ok (.dup, 1) := by decide +kernel
theorem dX12_init_161 : decode cX12_init 161 = .ok (.iconst 2, 1) := by decide +kernel
theorem dX12_init_162 : decode cX12_init 162 = .ok (.iconst 5, 1) := by decide +kernel
theorem dX12_init_163 : decode cX12_init 163 = .ok (.iastore, 1) := by decide +kernel
theorem dX12_init_164 : decode cX12_init 164 = .ok (.dup, 1) := by decide +kernel
theorem dX12_init_165 : decode cX12_init 165 = .ok (.iconst 3, 1) := by decide +kernel
theorem dX12_init_166 : decode cX12_init 166 = .ok (.iconst 5, 1) := by decide +kernel
theorem dX12_init_167 : decode cX12_init 167 = .ok (.iastore, 1) := by decide +kernel
theorem dX12_init_168 : decode cX12_init 168 = .ok (.dup, 1) := by decide +kernel
theorem dX12_init_169 : decode cX12_init 169 = .ok (.iconst 4, 1) := by decide +kernel
theorem dX12_init_170 : decode cX12_init 170 = .ok (.bipush 12, 2) := by decide +kernel
theorem dX12_init_172 : decode cX12_init 172 = .ok (.iastore, 1) := by decide +kernel
theorem dX12_init_173 : decode cX12_init 173 = .ok (.dup, 1) := by decide +kernel
theorem dX12_init_174 : decode cX12_init 174 = .ok (.iconst 5, 1) := by decide +kernel
theorem dX12_init_175 : decode cX12_init 175 = .ok (.iconst 0, 1) := by decide +kernel
theorem dX12_init_176 : decode cX12_init 176 = .ok (.iastore, 1) := by decide +kernel
theorem dX12_init_177 : decode cX12_init 177 = .ok (.dup, 1) := by decide +kernel
theorem dX12_init_178 : decode cX12_init 178 = .ok (.bipush 6, 2) := by decide +kernel
theorem dX12_init_180 : decode cX12_init 180 = .ok (.bipush 13, 2) := by decide +kernel
theorem dX12_init_182 : decode cX12_init 182 = .ok (.iastore, 1) := by decide +kernel
theorem dX12_init_183 : decode cX12_init 183 = .ok (.dup, 1) := by decide +kernel
theorem dX12_init_184 : decode cX12_init 184 = .ok (.bipush 7, 2) := by decide +kernel
theorem dX12_init_186 : decode cX12_init 186 = .ok (.iconst 5, 1) := by decide +kernel
theorem dX12_init_187 : decode cX12_init 187 = .ok (.iastore, 1) := by decide +kernel
theorem dX12_init_188 : decode cX12_init 188 = .ok (.dup, 1) := by decide +kernel
theorem dX12_init_189 : decode cX12_init 189 = .ok (.bipush 8, 2) := by decide +kernel
theorem dX12_init_191 : decode cX12_init 191 = .ok (.bipush 18, 2) := by decide +kernel
theorem dX12_init_193 : decode cX12_init 193 = .ok (.iastore, 1) := by decide +kernel
theorem dX12_init_194 : decode cX12_init 194 = .ok (.dup, 1) := by decide +kernel
theorem dX12_init_195 : decode cX12_init 195 = .ok (.bipush 9, 2) := by decide +kernel
theorem dX12_init_197 : decode cX12_init 197 = .ok (.bipush 7, 2) := by decide +kernel
theorem dX12_init_199 : decode cX12_init 199 = .ok (.iastore, 1) := by decide +kernel
theorem dX12_init_200 : decode cX12_init 200 = .ok (.dup, 1) := by decide +kernel
theorem dX12_init_201 : decode cX12_init 201 = .ok (.bipush 10, 2) := by decide +kernel
theorem dX12_init_203 : decode cX12_init 203 = .ok (.iconst 5, 1) := by decide +kernel
theorem dX12_init_204 : decode cX12_init 204 = .ok (.iastore, 1) := by decide +kernel
theorem dX12_init_205 : decode cX12_init 205 = .ok (.dup, 1) := by decide +kernel
theorem dX12_init_206 : decode cX12_init 206 = .ok (.bipush 11, 2) := by decide +kernel
theorem dX12_init_208 : decode cX12_init 208 = .ok (.iconst 0, 1) := by decide +kernel
theorem dX12_init_209 : decode cX12_init 209 = .ok (.iastore, 1) := by decide +kernel
theorem dX12_init_210 : decode cX12_init 210 = .ok (.dup, 1) := by decide +kernel
theorem dX12_init_211 : decode cX12_init 211 = .ok (.bipush 12, 2) := by decide +kernel
theorem dX12_init_213 : decode cX12_init 213 = .ok (.bipush 20, 2) := by decide +kernel
theorem dX12_init_215 : decode cX12_init 215 = .ok (.iastore, 1) := by decide +kernel
theorem dX12_init_216 : decode cX12_init 216 = .ok (.dup, 1) := by decide +kernel
theorem dX12_init_217 : decode cX12_init 217 = .ok (.bipush 13, 2) := by decide +kernel
theorem dX12_init_219 : decode cX12_init 219 = .ok (.bipush 8, 2) := by decide +kernel
theorem dX12_init_221 : decode cX12_init 221 = .ok (.iastore, 1) := by decide +kernel
theorem dX12_init_222 : decode cX12_init 222 = .ok (.dup, 1) := by decide +kernel
theorem dX12_init_223 : decode cX12_init 223 = .ok (.bipush 14, 2) := by decide +kernel
theorem dX12_init_225 : decode cX12_init 225 = .ok (.bipush 9, 2) := by decide +kernel
theorem dX12_init_227 : decode cX12_init 227 = .ok (.iastore, 1) := by decide +kernel
theorem dX12_init_228 : decode cX12_init 228 = .ok (.dup, 1) := by decide +kernel
theorem dX12_init_229 : decode cX12_init 229 = .ok (.bipush 15, 2) := by decide +kernel
theorem dX12_init_231 : decode cX12_init 231 = .ok (.bipush 14, 2) := by decide +kernel
theorem dX12_init_233 : decode cX12_init 233 = .ok (.iastore, 1) := by decide +kernel
theorem dX12_init_234 : decode cX12_init 234 = .ok (.dup, 1) := by decide +kernel
theorem dX12_init_235 : decode cX12_init 235 = .ok (.bipush 16, 2) := by decide +kernel
theorem dX12_init_237 : decode cX12_init 237 = .ok (.bipush 7, 2) := by decide +kernel
theorem dX12_init_239 : decode cX12_init 239 = .ok (.iastore, 1) := by decide +kernel
theorem dX12_init_240 : decode cX12_init 240 = .ok (.dup, 1) := by decide +kernel
theorem dX12_init_241 : decode cX12_init 241 = .ok (.bipush 17, 2) := by decide +kernel
theorem dX12_init_243 : decode cX12_init 243 = .ok (.iconst 0, 1) := by decide +kernel
theorem dX12_init_244 : decode cX12_init 244 = .ok (.iastore, 1) := by decide +kernel
theorem dX12_init_245 : decode cX12_init 245 = .ok (.dup, 1) := by decide +kernel
theorem dX12_init_246 : decode cX12_init 246 = .ok (.bipush 18, 2) := by decide +kernel
theorem dX12_init_248 : decode cX12_init 248 = .ok (.bipush 23, 2) := by decide +kernel
theorem dX12_init_250 : decode cX12_init 250 = .ok (.iastore, 1) := by decide +kernel
theorem dX12_init_251 : decode cX12_init 251 = .ok (.dup, 1) := by decide +kernel
theorem dX12_init_252 : decode cX12_init 252 = .ok (.bipush 19, 2) := by decide +kernel
theorem dX12_init_254 : decode cX12_init 254 = .ok (.iconst 5, 1) := by decide +kernel
theorem dX12_init_255 : decode cX12_init 255 = .ok (.iastore, 1) := by decide +kernel
theorem dX12_init_256 : decode cX12_init 256 = .ok (.dup, 1) := by decide +kernel
theorem dX12_init_257 : decode cX12_init 257 = .ok (.bipush 20, 2) := by decide +kernel
theorem dX12_init_259 : decode cX12_init 259 = .ok (.bipush 9, 2) := by decide +kernel
theorem dX12_init_261 : decode cX12_init 261 = .ok (.iastore, 1) := by decide +kernel
theorem dX12_init_262 : decode cX12_init 262 = .ok (.dup, 1) := by decide +kernel
theorem dX12_init_263 : decode cX12_init 263 = .ok (.bipush 21, 2) := by decide +kernel
theorem dX12_init_265 : decode cX12_init 265 = .ok (.bipush 7, 2) := by decide +kernel
theorem dX12_init_267 : decode cX12_init 267 = .ok (.iastore, 1) := by decide +kernel
theorem dX12_init_268 : decode cX12_init 268 = .ok (.dup, 1) := by decide +kernel
theorem dX12_init_269 : decode cX12_init 269 = .ok (.bipush 22, 2) := by decide +kernel
theorem dX12_init_271 : decode cX12_init 271 = .ok (.bipush 8, 2) := by decide +kernel
theorem dX12_init_273 : decode cX12_init 273 = .ok (.iastore, 1) := by decide +kernel
theorem dX12_init_274 : decode cX12_init 274 = .ok (.dup, 1) := by decide +kernel
theorem dX12_init_275 : decode cX12_init 275 = .ok (.bipush 23, 2) := by decide +kernel
theorem dX12_init_277 : decode cX12_init 277 = .ok (.bipush 19, 2) := by decide +kernel
theorem dX12_init_279 : decode cX12_init 279 = .ok (.iastore, 1) := by decide +kernel
theorem dX12_init_280 : decode cX12_init 280 = .ok (.dup, 1) := by decide +kernel
theorem dX12_init_281 : decode cX12_init 281 = .ok (.bipush 24, 2) := by decide +kernel
theorem dX12_init_283 : decode cX12_init 283 = .ok (.iconst 0, 1) := by decide +kernel
theorem dX12_init_284 : decode cX12_init 284 = .ok (.iastore, 1) := by decide +kernel
theorem dX12_init_285 : decode cX12_init 285 = .ok (.dup, 1) := by decide +kernel
theorem dX12_init_286 : decode cX12_init 286 = .ok (.bipush 25, 2) := by decide +kernel
theorem dX12_init_288 : decode cX12_init 288 = .ok (.iconst 2, 1) := by decide +kernel
theorem dX12_init_289 : decode cX12_init 289 = .ok (.iastore, 1) := by decide +kernel
theorem dX12_init_290 : decode cX12_init 290 = .ok (.dup, 1) := by decide +kernel
theorem dX12_init_291 : decode cX12_init 291 = .ok (.bipush 26, 2) := by decide +kernel
theorem dX12_init_293 : decode cX12_init 293 = .ok (.bipush 25, 2) := by decide +kernel
theorem dX12_init_295 : decode cX12_init 295 = .ok (.iastore, 1) := by decide +kernel
theorem dX12_init_296 : decode cX12_init 296 = .ok (.dup, 1) := by decide +kernel
theorem dX12_init_297 : decode cX12_init 297 = .ok (.bipush 27, 2) := by decide +kernel
theorem dX12_init_299 : decode cX12_init 299 = .ok (.iconst 0, 1) := by decide +kernel
theorem dX12_init_300 : decode cX12_init 300 = .ok (.iastore, 1) := by decide +kernel
theorem dX12_init_301 : decode cX12_init 301 = .ok (.dup, 1) := by decide +kernel
theorem dX12_init_302 : decode cX12_init 302 = .ok (.bipush 28, 2) := by decide +kernel
theorem dX12_init_304 : decode cX12_init 304 = .ok (.bipush 20, 2) := by decide +kernel
theorem dX12_init_306 : decode cX12_init 306 = .ok (.iastore, 1) := by decide +kernel
theorem dX12_init_307 : decode cX12_init 307 = .ok (.dup, 1) := by decide +kernel
theorem dX12_init_308 : decode cX12_init 308 = .ok (.bipush 29, 2) := by decide +kernel
theorem dX12_init_310 : decode cX12_init 310 = .ok (.iconst 5, 1) := by decide +kernel
theorem dX12_init_311 : decode cX12_init 311 = .ok (.iastore, 1) := by decide +kernel
theorem dX12_init_312 : decode cX12_init 312 = .ok (.dup, 1) := by decide +kernel
theorem dX12_init_313 : decode cX12_init 313 = .ok (.bipush 30, 2) := by decide +kernel
theorem dX12_init_315 : decode cX12_init 315 = .ok (.iconst 1, 1) := by decide +kernel
theorem dX12_init_316 : decode cX12_init 316 = .ok (.iastore, 1) := by decide +kernel
theorem dX12_init_317 : decode cX12_init 317 = .ok (.dup, 1) := by decide +kernel
theorem dX12_init_318 : decode cX12_init 318 = .ok (.bipush 31, 2) := by decide +kernel
theorem dX12_init_320 : decode cX12_init 320 = .ok (.bipush 13, 2) := by decide +kernel
theorem dX12_init_322 : decode cX12_init 322 = .ok (.iastore, 1) := by decide +kernel
theorem dX12_init_323 : decode cX12_init 323 = .ok (.dup, 1) := by decide +kernel
theorem dX12_init_324 : decode cX12_init 324 = .ok (.bipush 32, 2) := by decide +kernel
theorem dX12_init_326 : decode cX12_init 326 = .ok (.iconst 0, 1) := by decide +kernel
theorem dX12_init_327 : decode cX12_init 327 = .ok (.iastore, 1) := by decide +kernel
theorem dX12_init_328 : decode cX12_init 328 = .ok (.dup, 1) := by decide +kernel
theorem dX12_init_329 : decode cX12_init 329 = .ok (.bipush 33, 2) := by decide +kernel
theorem dX12_init_331 : decode cX12_init 331 = .ok (.bipush 15, 2) := by decide +kernel
theorem dX12_init_333 : decode cX12_init 333 = .ok (.iastore, 1) := by decide +kernel
theorem dX12_init_334 : decode cX12_init 334 = .ok (.dup, 1) := by decide +kernel
theorem dX12_init_335 : decode cX12_init 335 = .ok (.bipush 34, 2) := by decide +kernel
theorem dX12_init_337 : decode cX12_init 337 = .ok (.bipush 6, 2) := by decide +kernel
theorem dX12_init_339 : decode cX12_init 339 = .ok (.iastore, 1) := by decide +kernel
theorem dX12_init_340 : decode cX12_init 340 = .ok (.dup, 1) := by decide +kernel
theorem dX12_init_341 : decode cX12_init 341 = .ok (.bipush 35, 2) := by decide +kernel
theorem dX12_init_343 : decode cX12_init 343 = .ok (.iconst 0, 1) := by decide +kernel
theorem dX12_init_344 : decode cX12_init 344 = .ok (.iastore, 1) := by decide +kernel
theorem dX12_init_345 : decode cX12_init 345 = .ok (.putfield 81, 3) := by decide +kernel
theorem dX12_init_348 : decode cX12_init 348 = .ok (.aload_n 0, 1) := by decide +kernel
theorem dX12_init_349 : decode cX12_init 349 = .ok (.sipush 3252, 3) := by decide +kernel
theorem dX12_init_352 : decode cX12_init 352 = .ok (.newarray .int, 2) := by decide +kernel
theorem dX12_init_354 : decode cX12_init 354 = .ok (.putfield 84, 3) := by decide +kernel
theorem dX12_init_357 : decode cX12_init 357 = .ok (.aload_n 0, 1) := by decide +kernel
theorem dX12_init_358 : decode cX12_init 358 = .ok (.ldc 87, 2) := by decide +kernel
theorem dX12_init_360 : decode cX12_init 360 = .ok (.newarray .int, 2) := by decide +kernel
theorem dX12_init_362 : decode cX12_init 362 = .ok (.putfield 88, 3) := by decide +kernel
theorem dX12_init_365 : decode cX12_init 365 = .ok (.aload_n 0, 1) := by decide +kernel
theorem dX12_init_366 : decode cX12_init 366 = .ok (.iconst 0, 1) := by decide +kernel
theorem dX12_init_367 : decode cX12_init 367 = .ok (.putfield 91, 3) := by decide +kernel
theorem dX12_init_370 : decode cX12_init 370 = .ok (.aload_n 0, 1) := by decide +kernel
theorem dX12_init_371 : decode cX12_init 371 = .ok (.bipush 16, 2) := by decide +kernel
theorem dX12_init_373 : decode cX12_init 373 = .ok (.newarray .int, 2) := by decide +kernel
theorem dX12_init_375 : decode cX12_init 375 = .ok (.putfield 94, 3) := by decide +kernel
theorem dX12_init_378 : decode cX12_init 378 = .ok (.aload_n 0, 1) := by decide +kernel
theorem dX12_init_379 : decode cX12_init 379 = .ok (.bipush 16, 2) := by decide +kernel
end
section
theorem dX12_init_381 : decode cX12_init 381 = .ok (.newarray .int, 2) := by decide +kernel
theorem dX12_init_383 : decode cX12_init 383 = .ok (.putfield 97, 3) := by decide +kernel
theorem dX12_init_386 : decode cX12_init 386 = .ok (.aload_n 0, 1) := by decide +kernel
theorem dX12_init_387 : decode cX12_init 387 = .ok (.bipush 16, 2) := by decide +kernel
theorem dX12_init_389 : decode cX12_init 389 = .ok (.newarray .long, 2) := by decide +kernel
theorem dX12_init_391 : decode cX12_init 391 = .ok (.putfield 100, 3) := by decide +kernel
theorem dX12_init_394 : decode cX12_init 394 = .ok (.aload_n 0, 1) := by decide +kernel
theorem dX12_init_395 : decode cX12_init 395 = .ok (.bipush 16, 2) := by decide +kernel
theorem dX12_init_397 : decode cX12_init 397 = .ok (.newarray .int, 2) := by decide +kernel
theorem dX12_init_399 : decode cX12_init 399 = .ok (.putfield 104, 3) := by decide +kernel
theorem dX12_init_402 : decode cX12_init 402 = .ok (.aload_n 0, 1) := by decide +kernel
theorem dX12_init_403 : decode cX12_init 403 = .ok (.iconst 0, 1) := by decide +kernel
theorem dX12_init_404 : decode cX12_init 404 = .ok (.putfield 107, 3) := by decide +kernel
theorem dX12_init_407 : decode cX12_init 407 = .ok (.aload_n 0, 1) := by decide +kernel
theorem dX12_init_408 : decode cX12_init 408 = .ok (.iconst 0, 1) := by decide +kernel
theorem dX12_init_409 : decode cX12_init 409 = .ok (.putfield 110, 3) := by decide +kernel
theorem dX12_init_412 : decode cX12_init 412 = .ok (.aload_n 0, 1) := by decide +kernel
theorem dX12_init_413 : decode cX12_init 413 = .ok (.iconst 0, 1) := by decide +kernel
theorem dX12_init_414 : decode cX12_init 414 = .ok (.putfield 113, 3) := by decide +kernel
theorem dX12_init_417 : decode cX12_init 417 = .ok (.aload_n 0, 1) := by decide +kernel
theorem dX12_init_418 : decode cX12_init 418 = .ok (.iconst 0, 1) := by decide +kernel
theorem dX12_init_419 : decode cX12_init 419 = .ok (.putfield 116, 3) := by decide +kernel
theorem dX12_init_422 : decode cX12_init 422 = .ok (.aload_n 0, 1) := by decide +kernel
theorem dX12_init_423 : decode cX12_init 423 = .ok (.iconst 0, 1) := by decide +kernel
theorem dX12_init_424 : decode cX12_init 424 = .ok (.putfield 119, 3) := by decide +kernel
theorem dX12_init_427 : decode cX12_init 427 = .ok (.aload_n 0, 1) := by decide +kernel
theorem dX12_init_428 : decode cX12_init 428 = .ok (.iconst 0, 1) := by decide +kernel
theorem dX12_init_429 : decode cX12_init 429 = .ok (.putfield 122, 3) := by decide +kernel
theorem dX12_init_432 : decode cX12_init 432 = .ok (.aload_n 0, 1) := by decide +kernel
theorem dX12_init_433 : decode cX12_init 433 = .ok (.iconst 0, 1) := by decide +kernel
theorem dX12_init_434 : decode cX12_init 434 = .ok (.putfield 125, 3) := by decide +kernel
theorem dX12_init_437 : decode cX12_init 437 = .ok (.aload_n 0, 1) := by decide +kernel
theorem dX12_init_438 : decode cX12_init 438 = .ok (.iconst 0, 1) := by decide +kernel
theorem dX12_init_439 : decode cX12_init 439 = .ok (.putfield 128, 3) := by decide +kernel
theorem dX12_init_442 : decode cX12_init 442 = .ok (.aload_n 0, 1) := by decide +kernel
theorem dX12_init_443 : decode cX12_init 443 = .ok (.bipush 20, 2) := by decide +kernel
theorem dX12_init_445 : decode cX12_init 445 = .ok (.newarray .int, 2) := by decide +kernel
theorem dX12_init_447 : decode cX12_init 447 = .ok (.putfield 131, 3) := by decide +kernel
theorem dX12_init_450 : decode cX12_init 450 = .ok (.aload_n 0, 1) := by decide +kernel
theorem dX12_init_451 : decode cX12_init 451 = .ok (.bipush 20, 2) := by decide +kernel
theorem dX12_init_453 : decode cX12_init 453 = .ok (.newarray .int, 2) := by decide +kernel
theorem dX12_init_455 : decode cX12_init 455 = .ok (.putfield 134, 3) := by decide +kernel
theorem dX12_init_458 : decode cX12_init 458 = .ok (.aload_n 0, 1) := by decide +kernel
theorem dX12_init_459 : decode cX12_init 459 = .ok (.bipush 32, 2) := by decide +kernel
theorem dX12_init_461 : decode cX12_init 461 = .ok (.newarray .int, 2) := by decide +kernel
theorem dX12_init_463 : decode cX12_init 463 = .ok (.putfield 137, 3) := by decide +kernel
theorem dX12_init_466 : decode cX12_init 466 = .ok (.aload_n 0, 1) := by decide +kernel
theorem dX12_init_467 : decode cX12_init 467 = .ok (.bipush 18, 2) := by decide +kernel
theorem dX12_init_469 : decode cX12_init 469 = .ok (.newarray .int, 2) := by decide +kernel
theorem dX12_init_471 : decode cX12_init 471 = .ok (.putfield 140, 3) := by decide +kernel
theorem dX12_init_474 : decode cX12_init 474 = .ok (.aload_n 0, 1) := by decide +kernel
theorem dX12_init_475 : decode cX12_init 475 = .ok (.iconst 0, 1) := by decide +kernel
theorem dX12_init_476 : decode cX12_init 476 = .ok (.putfield 143, 3) := by decide +kernel
theorem dX12_init_479 : decode cX12_init 479 = .ok (.aload_n 0, 1) := by decide +kernel
theorem dX12_init_480 : decode cX12_init 480 = .ok (.iconst 0, 1) := by decide +kernel
theorem dX12_init_481 : decode cX12_init 481 = .ok (.putfield 146, 3) := by decide +kernel
theorem dX12_init_484 : decode cX12_init 484 = .ok (.aload_n 0, 1) := by decide +kernel
theorem dX12_init_485 : decode cX12_init 485 = .ok (.iconst 1, 1) := by decide +kernel
theorem dX12_init_486 : decode cX12_init 486 = .ok (.putfield 149, 3) := by decide +kernel
theorem dX12_init_489 : decode cX12_init 489 = .ok (.aload_n 0, 1) := by decide +kernel
theorem dX12_init_490 : decode cX12_init 490 = .ok (.sipush 130, 3) := by decide +kernel
theorem dX12_init_493 : decode cX12_init 493 = .ok (.newarray .int, 2) := by decide +kernel
theorem dX12_init_495 : decode cX12_init 495 = .ok (.putfield 152, 3) := by decide +kernel
theorem dX12_init_498 : decode cX12_init 498 = .ok (.aload_n 0, 1) := by decide +kernel
theorem dX12_init_499 : decode cX12_init 499 = .ok (.iconst 0, 1) := by decide +kernel
theorem dX12_init_500 : decode cX12_init 500 = .ok (.putfield 155, 3) := by decide +kernel
theorem dX12_init_503 : decode cX12_init 503 = .ok (.return_, 1) := by decide +kernel
theorem dX12_inside_0 : decode cX12_inside 0 = .ok (.aload_n 0, 1) := by decide +kernel
theorem dX12_inside_1 : decode cX12_inside 1 = .ok (.iload_n 1, 1) := by decide +kernel
theorem dX12_inside_2 : decode cX12_inside 2 = .ok (.invokevirtual 375, 3) := by decide +kernel
theorem dX12_inside_5 : decode cX12_inside 5 = .ok (.ifCond .eq 33, 3) := by decide +kernel
theorem dX12_inside_38 : decode cX12_inside 38 = .ok (.iconst (-1), 1) := by decide +kernel
theorem dX12_inside_39 : decode cX12_inside 39 = .ok (.ireturn, 1) := by decide +kernel
theorem dX12_isHeavy_0 : decode cX12_isHeavy 0 = .ok (.aload_n 0, 1) := by decide +kernel
theorem dX12_isHeavy_1 : decode cX12_isHeavy 1 = .ok (.iload_n 1, 1) := by decide +kernel
theorem dX12_isHeavy_2 : decode cX12_isHeavy 2 = .ok (.invokevirtual 369, 3) := by decide +kernel
theorem dX12_isHeavy_5 : decode cX12_isHeavy 5 = .ok (.ifCond .eq 22, 3) := by decide +kernel
theorem dX12_isHeavy_27 : decode cX12_isHeavy 27 = .ok (.iconst 0, 1) := by decide +kernel
theorem dX12_isHeavy_28 : decode cX12_isHeavy 28 = .ok (.ireturn, 1) := by decide +kernel
theorem dX12_isImage_0 : decode cX12_isImage 0 = .ok (.aload_n 0, 1) := by decide +kernel
theorem dX12_isImage_1 : decode cX12_isImage 1 = .ok (.getfield 7, 3) := by decide +kernel
theorem dX12_isImage_4 : decode cX12_isImage 4 = .ok (.ifCond .eq 16, 3) := by decide +kernel
theorem dX12_isImage_20 : decode cX12_isImage 20 = .ok (.iconst 0, 1) := by decide +kernel
theorem dX12_isImage_21 : decode cX12_isImage 21 = .ok (.ireturn, 1) := by decide +kernel
theorem dX12_isIn_0 : decode cX12_isIn 0 = .ok (.iload_n 0, 1) := by decide +kernel
theorem dX12_isIn_1 : decode cX12_isIn 1 = .ok (.iload_n 1, 1) := by decide +kernel
theorem dX12_isIn_2 : decode cX12_isIn 2 = .ok (.if_icmp .lt 12, 3) := by decide +kernel
theorem dX12_isIn_5 : decode cX12_isIn 5 = .ok (.iload_n 0, 1) := by decide +kernel
theorem dX12_isIn_6 : decode cX12_isIn 6 = .ok (.iload_n 2, 1) := by decide +kernel
theorem dX12_isIn_7 : decode cX12_isIn 7 = .ok (.if_icmp .gt 7, 3) := by decide +kernel
theorem dX12_isIn_10 : decode cX12_isIn 10 = .ok (.iconst 1, 1) := by decide +kernel
theorem dX12_isIn_11 : decode cX12_isIn 11 = .ok (.goto 4, 3) := by decide +kernel
theorem dX12_isIn_14 : decode cX12_isIn 14 = .ok (.iconst 0, 1) := by decide +kernel
theorem dX12_isIn_15 : decode cX12_isIn 15 = .ok (.ireturn, 1) := by decide +kernel
theorem dX12_isRefused_0 : decode cX12_isRefused 0 = .ok (.aload_n 0, 1) := by decide +kernel
theorem dX12_isRefused_1 : decode cX12_isRefused 1 = .ok (.getfield 57, 3) := by decide +kernel
theorem dX12_isRefused_4 : decode cX12_isRefused 4 = .ok (.iload_n 1, 1) := by decide +kernel
theorem dX12_isRefused_5 : decode cX12_isRefused 5 = .ok (.dup2, 1) := by decide +kernel
theorem dX12_isRefused_6 : decode cX12_isRefused 6 = .ok (.iaload, 1) := by decide +kernel
theorem dX12_isRefused_7 : decode cX12_isRefused 7 = .ok (.iconst 1, 1) := by decide +kernel
theorem dX12_isRefused_8 : decode cX12_isRefused 8 = .ok (.iadd, 1) := by decide +kernel
theorem dX12_isRefused_9 : decode cX12_isRefused 9 = .ok (.iastore, 1) := by decide +kernel
theorem dX12_isRefused_10 : decode cX12_isRefused 10 = .ok (.iconst 0, 1) := by decide +kernel
theorem dX12_isRefused_11 : decode cX12_isRefused 11 = .ok (.ireturn, 1) := by decide +kernel
theorem dX12_isSmall_0 : decode cX12_isSmall 0 = .ok (.aload_n 0, 1) := by decide +kernel
theorem dX12_isSmall_1 : decode cX12_isSmall 1 = .ok (.iload_n 1, 1) := by decide +kernel
theorem dX12_isSmall_2 : decode cX12_isSmall 2 = .ok (.invokevirtual 170, 3) := by decide +kernel
theorem dX12_isSmall_5 : decode cX12_isSmall 5 = .ok (.bipush 97, 2) := by decide +kernel
theorem dX12_isSmall_7 : decode cX12_isSmall 7 = .ok (.if_icmp .lt 17, 3) := by decide +kernel
theorem dX12_isSmall_24 : decode cX12_isSmall 24 = .ok (.iconst 0, 1) := by decide +kernel
theorem dX12_isSmall_25 : decode cX12_isSmall 25 = .ok (.ireturn, 1) := by decide +kernel
theorem dX12_isTeam_0 : decode cX12_isTeam 0 = .ok (.iload_n 1, 1) := by decide +kernel
theorem dX12_isTeam_1 : decode cX12_isTeam 1 = .ok (.iconst 0, 1) := by decide +kernel
theorem dX12_isTeam_2 : decode cX12_isTeam 2 = .ok (.aload_n 0, 1) := by decide +kernel
theorem dX12_isTeam_3 : decode cX12_isTeam 3 = .ok (.getfield 33, 3) := by decide +kernel
theorem dX12_isTeam_6 : decode cX12_isTeam 6 = .ok (.iconst 1, 1) := by decide +kernel
theorem dX12_isTeam_7 : decode cX12_isTeam 7 = .ok (.isub, 1) := by decide +kernel
theorem dX12_isTeam_8 : decode cX12_isTeam 8 = .ok (.invokestatic 197, 3) := by decide +kernel
theorem dX12_isTeam_11 : decode cX12_isTeam 11 = .ok (.ireturn, 1) := by decide +kernel
theorem dX12_isThing_0 : decode cX12_isThing 0 = .ok (.iload_n 1, 1) := by decide +kernel
theorem dX12_isThing_1 : decode cX12_isThing 1 = .ok (.iconst 0, 1) := by decide +kernel
theorem dX12_isThing_2 : decode cX12_isThing 2 = .ok (.aload_n 0, 1) := by decide +kernel
theorem dX12_isThing_3 : decode cX12_isThing 3 = .ok (.getfield 13, 3) := by decide +kernel
theorem dX12_isThing_6 : decode cX12_isThing 6 = .ok (.iconst 1, 1) := by decide +kernel
theorem dX12_isThing_7 : decode cX12_isThing 7 = .ok (.isub, 1) := by decide +kernel
theorem dX12_isThing_8 : decode cX12_isThing 8 = .ok (.invokestatic 197, 3) := by decide +kernel
theorem dX12_isThing_11 : decode cX12_isThing 11 = .ok (.ireturn, 1) := by decide +kernel
theorem dX12_isTotal_0 : decode cX12_isTotal 0 = .ok (.aload_n 0, 1) := by decide +kernel
theorem dX12_isTotal_1 : decode cX12_isTotal 1 = .ok (.bipush 20, 2) := by decide +kernel
theorem dX12_isTotal_3 : decode cX12_isTotal 3 = .ok (.invokevirtual 269, 3) := by decide +kernel
theorem dX12_isTotal_6 : decode cX12_isTotal 6 = .ok (.ifCond .le 7, 3) := by decide +kernel
theorem dX12_isTotal_13 : decode cX12_isTotal 13 = .ok (.iconst 0, 1) := by decide +kernel
theorem dX12_isTotal_14 : decode cX12_isTotal 14 = .ok (.ireturn, 1) := by decide +kernel
theorem dX12_lays_0 : decode cX12_lays 0 = .ok (.iconst 0, 1) := by decide +kernel
theorem dX12_lays_1 : decode cX12_lays 1 = .ok (.istore_n 2, 1) := by decide +kernel
theorem dX12_lays_2 : decode cX12_lays 2 = .ok (.iload_n 2, 1) := by decide +kernel
theorem dX12_lays_3 : decode cX12_lays 3 = .ok (.iconst 4, 1) := by decide +kernel
theorem dX12_lays_4 : decode cX12_lays 4 = .ok (.if_icmp .ge 33, 3) := by decide +kernel
theorem dX12_lays_7 : decode cX12_lays 7 = .ok (.aload_n 0, 1) := by decide +kernel
theorem dX12_lays_8 : decode cX12_lays 8 = .ok (.getfield 51, 3) := by decide +kernel
theorem dX12_lays_11 : decode cX12_lays 11 = .ok (.aload_n 0, 1) := by decide +kernel
theorem dX12_lays_12 : decode cX12_lays 12 = .ok (.getfield 54, 3) := by decide +kernel
theorem dX12_lays_15 : decode cX12_lays 15 = .ok (.iload_n 2, 1) := by decide +kernel
theorem dX12_lays_16 : decode cX12_lays 16 = .ok (.iadd, 1) := by decide +kernel
theorem dX12_lays_17 : decode cX12_lays 17 = .ok (.iload_n 1, 1) := by decide +kernel
theorem dX12_lays_18 : decode cX12_lays 18 = .ok (.bipush 24, 2) := by decide +kernel
theorem dX12_lays_20 : decode cX12_lays 20 = .ok (.bipush 8, 2) := by decide +kernel
theorem dX12_lays_22 : decode cX12_lays 22 = .ok (.iload_n 2, 1) := by decide +kernel
theorem dX12_lays_23 : decode cX12_lays 23 = .ok (.imul, 1) := by decide +kernel
theorem dX12_lays_24 : decode cX12_lays 24 = .ok (.isub, 1) := by decide +kernel
theorem dX12_lays_25 : decode cX12_lays 25 = .ok (.ishr, 1) := by decide +kernel
theorem dX12_lays_26 : decode cX12_lays 26 = .ok (.sipush 255, 3) := by decide +kernel
theorem dX12_lays_29 : decode cX12_lays 29 = .ok (.iand, 1) := by decide +kernel
theorem dX12_lays_30 : decode cX12_lays 30 = .ok (.iastore, 1) := by decide +kernel
theorem dX12_lays_31 : decode cX12_lays 31 = .ok (.iinc 2 1, 3) := by decide +kernel
theorem dX12_lays_34 : decode cX12_lays 34 = .ok (.goto (-32), 3) := by decide +kernel
theorem dX12_lays_37 : decode cX12_lays 37 = .ok (.aload_n 0, 1) := by decide +kernel
theorem dX12_lays_38 : decode cX12_lays 38 = .ok (.dup, 1) := by decide +kernel
theorem dX12_lays_39 : decode cX12_lays 39 = .ok (.getfield 54, 3) := by decide +kernel
theorem dX12_lays_42 : decode cX12_lays 42 = .ok (.iconst 4, 1) := by decide +kernel
theorem dX12_lays_43 : decode cX12_lays 43 = .ok (.iadd, 1) := by decide +kernel
theorem dX12_lays_44 : decode cX12_lays 44 = .ok (.putfield 54, 3) := by decide +kernel
theorem dX12_lays_47 : decode cX12_lays 47 = .ok (.return_, 1) := by decide +kernel
theorem dX12_letter_0 : decode cX12_letter 0 = .ok (.aload_n 0, 1) := by decide +kernel
theorem dX12_letter_1 : decode cX12_letter 1 = .ok (.iload_n 1, 1) := by decide +kernel
theorem dX12_letter_2 : decode cX12_letter 2 = .ok (.invokevirtual 335, 3) := by decide +kernel
theorem dX12_letter_5 : decode cX12_letter 5 = .ok (.ifCond .eq 26, 3) := by decide +kernel
theorem dX12_letter_31 : decode cX12_letter 31 = .ok (.iconst (-1), 1) := by decide +kernel
theorem dX12_letter_32 : decode cX12_letter 32 = .ok (.ireturn, 1) := by decide +kernel
theorem dX12_longest_0 : decode cX12_longest 0 = .ok (.aload_n 0, 1) := by decide +kernel
theorem dX12_longest_1 : decode cX12_longest 1 = .ok (.invokevirtual 348, 3) := by decide +kernel
theorem dX12_longest_4 : decode cX12_longest 4 = .ok (.ifCond .eq 30, 3) := by decide +kernel
theorem dX12_longest_34 : decode cX12_longest 34 = .ok (.iconst (-1), 1) := by decide +kernel
theorem dX12_longest_35 : decode cX12_longest 35 = .ok (.ireturn, 1) := by decide +kernel
theorem dX12_mass_0 : decode cX12_mass 0 = .ok (.aload_n 0, 1) := by decide +kernel
theorem dX12_mass_1 : decode cX12_mass 1 = .ok (.iload_n 1, 1) := by decide +kernel
theorem dX12_mass_2 : decode cX12_mass 2 = .ok (.invokevirtual 335, 3) := by decide +kernel
theorem dX12_mass_5 : decode cX12_mass 5 = .ok (.ifCond .eq 11, 3) := by decide +kernel
theorem dX12_mass_16 : decode cX12_mass 16 = .ok (.iconst (-1), 1) := by decide +kernel
theorem dX12_mass_17 : decode cX12_mass 17 = .ok (.ireturn, 1) := by decide +kernel
theorem dX12_merge_0 : decode cX12_merge 0 = .ok (.aload_n 0, 1) := by decide +kernel
theorem dX12_merge_1 : decode cX12_merge 1 = .ok (.getfield 7, 3) := by decide +kernel
theorem dX12_merge_4 : decode cX12_merge 4 = .ok (.ifCond .eq 23, 3) := by decide +kernel
theorem dX12_merge_27 : decode cX12_merge 27 = .ok (.aload_n 0, 1) := by decide +kernel
theorem dX12_merge_28 : decode cX12_merge 28 = .ok (.iconst 3, 1) := by decide +kernel
theorem dX12_merge_29 : decode cX12_merge 29 = .ok (.invokevirtual 166, 3) := by decide +kernel
theorem dX12_merge_32 : decode cX12_merge 32 = .ok (.ireturn, 1) := by decide +kernel
theorem dX12_merged_0 : decode cX12_merged 0 = .ok (.aload_n 0, 1) := by decide +kernel
theorem dX12_merged_1 : decode cX12_merged 1 = .ok (.invokevirtual 261, 3) := by decide +kernel
theorem dX12_merged_4 : decode cX12_merged 4 = .ok (.ifCond .ne 9, 3) := by decide +kernel
theorem dX12_merged_7 : decode cX12_merged 7 = .ok (.aload_n 0, 1) := by decide +kernel
theorem dX12_merged_8 : decode cX12_merged 8 = .ok (.iconst 3, 1) := by decide +kernel
theorem dX12_merged_9 : decode cX12_merged 9 = .ok (.invokevirtual 166, 3) := by decide +kernel
theorem dX12_merged_12 : decode cX12_merged 12 = .ok (.ireturn, 1) := by decide +kernel
theorem dX12_merges_0 : decode cX12_merges 0 = .ok (.aload_n 0, 1) := by decide +kernel
theorem dX12_merges_1 : decode cX12_merges 1 = .ok (.iload_n 1, 1) := by decide +kernel
theorem dX12_merges_2 : decode cX12_merges 2 = .ok (.invokevirtual 335, 3) := by decide +kernel
theorem dX12_merges_5 : decode cX12_merges 5 = .ok (.ifCond .eq 14, 3) := by decide +kernel
theorem dX12_merges_19 : decode cX12_merges 19 = .ok (.iconst (-1), 1) := by decide +kernel
theorem dX12_merges_20 : decode cX12_merges 20 = .ok (.ireturn, 1) := by decide +kernel
theorem dX12_must_0 : decode cX12_must 0 = .ok (.aload_n 0, 1) := by decide +kernel
theorem dX12_must_1 : decode cX12_must 1 = .ok (.invokevirtual 191, 3) := by decide +kernel
theorem dX12_must_4 : decode cX12_must 4 = .ok (.aload_n 0, 1) := by decide +kernel
theorem dX12_must_5 : decode cX12_must 5 = .ok (.invokevirtual 173, 3) := by decide +kernel
theorem dX12_must_8 : decode cX12_must 8 = .ok (.ifCond .eq 20, 3) := by decide +kernel
theorem dX12_must_28 : decode cX12_must 28 = .ok (.return_, 1) := by decide +kernel
theorem dX12_needs_0 : decode cX12_needs 0 = .ok (.aload_n 0, 1) := by decide +kernel
theorem dX12_needs_1 : decode cX12_needs 1 = .ok (.iload_n 1, 1) := by decide +kernel
theorem dX12_needs_2 : decode cX12_needs 2 = .ok (.invokevirtual 335, 3) := by decide +kernel
theorem dX12_needs_5 : decode cX12_needs 5 = .ok (.ifCond .eq 25, 3) := by decide +kernel
theorem dX12_needs_30 : decode cX12_needs 30 = .ok (.iconst (-1), 1) := by decide +kernel
theorem dX12_needs_31 : decode cX12_needs 31 = .ok (.ireturn, 1) := by decide +kernel
theorem dX12_number_0 : decode cX12_number 0 = .ok (.aload_n 0, 1) := by decide +kernel
theorem dX12_number_1 : decode cX12_number 1 = .ok (.invokevirtual 173, 3) := by decide +kernel
theorem dX12_number_4 : decode cX12_number 4 = .ok (.ifCond .ne 5, 3) := by decide +kernel
theorem dX12_number_7 : decode cX12_number 7 = .ok (.iconst 0, 1) := by decide +kernel
theorem dX12_number_8 : decode cX12_number 8 = .ok (.ireturn, 1) := by decide +kernel
theorem dX12_octet_0 : decode cX12_octet 0 = .ok (.iload_n 1, 1) := by decide +kernel
theorem dX12_octet_1 : decode cX12_octet 1 = .ok (.iconst 0, 1) := by decide +kernel
theorem dX12_octet_2 : decode cX12_octet 2 = .ok (.aload_n 0, 1) := by decide +kernel
theorem dX12_octet_3 : decode cX12_octet 3 = .ok (.getfield 155, 3) := by decide +kernel
theorem dX12_octet_6 : decode cX12_octet 6 = .ok (.iconst 1, 1) := by decide +kernel
theorem dX12_octet_7 : decode cX12_octet 7 = .ok (.isub, 1) := by decide +kernel
theorem dX12_octet_8 : decode cX12_octet 8 = .ok (.invokestatic 197, 3) := by decide +kernel
theorem dX12_octet_11 : decode cX12_octet 11 = .ok (.ifCond .eq 12, 3) := by decide +kernel
theorem dX12_octet_23 : decode cX12_octet 23 = .ok (.iconst (-1), 1) := by decide +kernel
theorem dX12_octet_24 : decode cX12_octet 24 = .ok (.ireturn, 1) := by decide +kernel
theorem dX12_on_0 : decode cX12_on 0 = .ok (.aload_n 0, 1) := by decide +kernel
theorem dX12_on_1 : decode cX12_on 1 = .ok (.invokevirtual 241, 3) := by decide +kernel
theorem dX12_on_4 : decode cX12_on 4 = .ok (.istore_n 1, 1) := by decide +kernel
theorem dX12_on_5 : decode cX12_on 5 = .ok (.aload_n 0, 1) := by decide +kernel
theorem dX12_on_6 : decode cX12_on 6 = .ok (.iload_n 1, 1) := by decide +kernel
theorem dX12_on_7 : decode cX12_on 7 = .ok (.invokevirtual 445, 3) := by decide +kernel
theorem dX12_on_10 : decode cX12_on 10 = .ok (.ifCond .ne 9, 3) := by decide +kernel
theorem dX12_on_13 : decode cX12_on 13 = .ok (.aload_n 0, 1) := by decide +kernel
theorem dX12_on_14 : decode cX12_on 14 = .ok (.iconst 5, 1) := by decide +kernel
theorem dX12_on_15 : decode cX12_on 15 = .ok (.invokevirtual 166, 3) := by decide +kernel
theorem dX12_on_18 : decode cX12_on 18 = .ok (.ireturn, 1) := by decide +kernel
theorem dX12_owed_0 : decode cX12_owed 0 = .ok (.aload_n 0, 1) := by decide +kernel
theorem dX12_owed_1 : decode cX12_owed 1 = .ok (.iload_n 1, 1) := by decide +kernel
theorem dX12_owed_2 : decode cX12_owed 2 = .ok (.invokevirtual 335, 3) := by decide +kernel
theorem dX12_owed_5 : decode cX12_owed 5 = .ok (.ifCond .eq 18, 3) := by decide +kernel
theorem dX12_owed_23 : decode cX12_owed 23 = .ok (.ldc_w 368, 3) := by decide +kernel
theorem dX12_owed_26 : decode cX12_owed 26 = .ok (.ireturn, 1) := by decide +kernel
theorem dX12_pairs_0 : decode cX12_pairs 0 = .ok (.aload_n 0, 1) := by decide +kernel
theorem dX12_pairs_1 : decode cX12_pairs 1 = .ok (.invokevirtual 348, 3) := by decide +kernel
theorem dX12_pairs_4 : decode cX12_pairs 4 = .ok (.ifCond .eq 29, 3) := by decide +kernel
theorem dX12_pairs_33 : decode cX12_pairs 33 = .ok (.iconst (-1), 1) := by decide +kernel
theorem dX12_pairs_34 : decode cX12_pairs 34 = .ok (.ireturn, 1) := by decide +kernel
theorem dX12_pick_0 : decode cX12_pick 0 = .ok (.aload_n 0, 1) := by decide +kernel
theorem dX12_pick_1 : decode cX12_pick 1 = .ok (.invokevirtual 348, 3) := by decide +kernel
theorem dX12_pick_4 : decode cX12_pick 4 = .ok (.ifCond .eq 11, 3) := by decide +kernel
theorem dX12_pick_15 : decode cX12_pick 15 = .ok (.aload_n 0, 1) := by decide +kernel
theorem dX12_pick_16 : decode cX12_pick 16 = .ok (.iconst 2, 1) := by decide +kernel
theorem dX12_pick_17 : decode cX12_pick 17 = .ok (.invokevirtual 158, 3) := by decide +kernel
theorem dX12_pick_20 : decode cX12_pick 20 = .ok (.ireturn, 1) := by decide +kernel
theorem dX12_quorum_0 : decode cX12_quorum 0 = .ok (.aload_n 0, 1) := by decide +kernel
theorem dX12_quorum_1 : decode cX12_quorum 1 = .ok (.invokevirtual 348, 3) := by decide +kernel
theorem dX12_quorum_4 : decode cX12_quorum 4 = .ok (.ifCond .eq 20, 3) := by decide +kernel
theorem dX12_quorum_24 : decode cX12_quorum 24 = .ok (.iconst (-1), 1) := by decide +kernel
theorem dX12_quorum_25 : decode cX12_quorum 25 = .ok (.ireturn, 1) := by decide +kernel
theorem dX12_rank_0 : decode cX12_rank 0 = .ok (.iconst 0, 1) := by decide +kernel
theorem dX12_rank_1 : decode cX12_rank 1 = .ok (.istore_n 2, 1) := by decide +kernel
theorem dX12_rank_2 : decode cX12_rank 2 = .ok (.iload_n 2, 1) := by decide +kernel
theorem dX12_rank_3 : decode cX12_rank 3 = .ok (.aload_n 0, 1) := by decide +kernel
theorem dX12_rank_4 : decode cX12_rank 4 = .ok (.getfield 13, 3) := by decide +kernel
theorem dX12_rank_7 : decode cX12_rank 7 = .ok (.if_icmp .ge 94, 3) := by decide +kernel
theorem dX12_rank_101 : decode cX12_rank 101 = .ok (.iconst (-1), 1) := by decide +kernel
theorem dX12_rank_102 : decode cX12_rank 102 = .ok (.ireturn, 1) := by decide +kernel
theorem dX12_readsAll_0 : decode cX12_readsAll 0 = .ok (.aload_n 0, 1) := by decide +kernel
theorem dX12_readsAll_1 : decode cX12_readsAll 1 = .ok (.iconst 0, 1) := by decide +kernel
theorem dX12_readsAll_2 : decode cX12_readsAll 2 = .ok (.putfield 21, 3) := by decide +kernel
theorem dX12_readsAll_5 : decode cX12_readsAll 5 = .ok (.aload_n 0, 1) := by decide +kernel
theorem dX12_readsAll_6 : decode cX12_readsAll 6 = .ok (.iconst 0, 1) := by decide +kernel
theorem dX12_readsAll_7 : decode cX12_readsAll 7 = .ok (.putfield 42, 3) := by decide +kernel
theorem dX12_readsAll_10 : decode cX12_readsAll 10 = .ok (.aload_n 0, 1) := by decide +kernel
theorem dX12_readsAll_11 : decode cX12_readsAll 11 = .ok (.iconst 0, 1) := by decide +kernel
theorem dX12_readsAll_12 : decode cX12_readsAll 12 = .ok (.invokevirtual 216, 3) := by decide +kernel
theorem dX12_readsAll_15 : decode cX12_readsAll 15 = .ok (.aload_n 0, 1) := by decide +kernel
theorem dX12_readsAll_16 : decode cX12_readsAll 16 = .ok (.iconst 1, 1) := by decide +kernel
theorem dX12_readsAll_17 : decode cX12_readsAll 17 = .ok (.invokevirtual 216, 3) := by decide +kernel
theorem dX12_readsAll_20 : decode cX12_readsAll 20 = .ok (.aload_n 0, 1) := by decide +kernel
theorem dX12_readsAll_21 : decode cX12_readsAll 21 = .ok (.aload_n 0, 1) := by decide +kernel
theorem dX12_readsAll_22 : decode cX12_readsAll 22 = .ok (.iconst 0, 1) := by decide +kernel
theorem dX12_readsAll_23 : decode cX12_readsAll 23 = .ok (.bipush 16, 2) := by decide +kernel
theorem dX12_readsAll_25 : decode cX12_readsAll 25 = .ok (.invokevirtual 219, 3) := by decide +kernel
theorem dX12_readsAll_28 : decode cX12_readsAll 28 = .ok (.putfield 24, 3) := by decide +kernel
theorem dX12_readsAll_31 : decode cX12_readsAll 31 = .ok (.aload_n 0, 1) := by decide +kernel
theorem dX12_readsAll_32 : decode cX12_readsAll 32 = .ok (.invokevirtual 235, 3) := by decide +kernel
theorem dX12_readsAll_35 : decode cX12_readsAll 35 = .ok (.iconst 1, 1) := by decide +kernel
theorem dX12_readsAll_36 : decode cX12_readsAll 36 = .ok (.istore_n 1, 1) := by decide +kernel
theorem dX12_readsAll_37 : decode cX12_readsAll 37 = .ok (.aload_n 0, 1) := by decide +kernel
theorem dX12_readsAll_38 : decode cX12_readsAll 38 = .ok (.invokevirtual 173, 3) := by decide +kernel
theorem dX12_readsAll_41 : decode cX12_readsAll 41 = .ok (.ifCond .eq 25, 3) := by decide +kernel
theorem dX12_readsAll_66 : decode cX12_readsAll 66 = .ok (.iload_n 1, 1) := by decide +kernel
theorem dX12_readsAll_67 : decode cX12_readsAll 67 = .ok (.ireturn, 1) := by decide +kernel
theorem dX12_refuses_0 : decode cX12_refuses 0 = .ok (.aload_n 0, 1) := by decide +kernel
theorem dX12_refuses_1 : decode cX12_refuses 1 = .ok (.getfield 57, 3) := by decide +kernel
theorem dX12_refuses_4 : decode cX12_refuses 4 = .ok (.iload_n 1, 1) := by decide +kernel
theorem dX12_refuses_5 : decode cX12_refuses 5 = .ok (.dup2, 1) := by decide +kernel
theorem dX12_refuses_6 : decode cX12_refuses 6 = .ok (.iaload, 1) := by decide +kernel
theorem dX12_refuses_7 : decode cX12_refuses 7 = .ok (.iconst 1, 1) := by decide +kernel
theorem dX12_refuses_8 : decode cX12_refuses 8 = .ok (.iadd, 1) := by decide +kernel
theorem dX12_refuses_9 : decode cX12_refuses 9 = .ok (.iastore, 1) := by decide +kernel
theorem dX12_refuses_10 : decode cX12_refuses 10 = .ok (.iconst (-1), 1) := by decide +kernel
theorem dX12_refuses_11 : decode cX12_refuses 11 = .ok (.ireturn, 1) := by decide +kernel
theorem dX12_refusesFor_0 : decode cX12_refusesFor 0 = .ok (.aload_n 0, 1) := by decide +kernel
theorem dX12_refusesFor_1 : decode cX12_refusesFor 1 = .ok (.iload_n 1, 1) := by decide +kernel
theorem dX12_refusesFor_2 : decode cX12_refusesFor 2 = .ok (.putfield 143, 3) := by decide +kernel
theorem dX12_refusesFor_5 : decode cX12_refusesFor 5 = .ok (.aload_n 0, 1) := by decide +kernel
theorem dX12_refusesFor_6 : decode cX12_refusesFor 6 = .ok (.iload_n 2, 1) := by decide +kernel
theorem dX12_refusesFor_7 : decode cX12_refusesFor 7 = .ok (.putfield 146, 3) := by decide +kernel
theorem dX12_refusesFor_10 : decode cX12_refusesFor 10 = .ok (.aload_n 0, 1) := by decide +kernel
theorem dX12_refusesFor_11 : decode cX12_refusesFor 11 = .ok (.iconst 2, 1) := by decide +kernel
theorem dX12_refusesFor_12 : decode cX12_refusesFor 12 = .ok (.invokevirtual 158, 3) := by decide +kernel
theorem dX12_refusesFor_15 : decode cX12_refusesFor 15 = .ok (.ireturn, 1) := by decide +kernel
theorem dX12_rows_0 : decode cX12_rows 0 = .ok (.aload_n 0, 1) := by decide +kernel
theorem dX12_rows_1 : decode cX12_rows 1 = .ok (.invokevirtual 348, 3) := by decide +kernel
theorem dX12_rows_4 : decode cX12_rows 4 = .ok (.ifCond .eq 34, 3) := by decide +kernel
theorem dX12_rows_38 : decode cX12_rows 38 = .ok (.iconst (-1), 1) := by decide +kernel
theorem dX12_rows_39 : decode cX12_rows 39 = .ok (.ireturn, 1) := by decide +kernel
theorem dX12_rowsIn_0 : decode cX12_rowsIn 0 = .ok (.aload_n 0, 1) := by decide +kernel
theorem dX12_rowsIn_1 : decode cX12_rowsIn 1 = .ok (.iload_n 1, 1) := by decide +kernel
theorem dX12_rowsIn_2 : decode cX12_rowsIn 2 = .ok (.invokevirtual 375, 3) := by decide +kernel
theorem dX12_rowsIn_5 : decode cX12_rowsIn 5 = .ok (.ifCond .eq 26, 3) := by decide +kernel
theorem dX12_rowsIn_31 : decode cX12_rowsIn 31 = .ok (.iconst (-1), 1) := by decide +kernel
theorem dX12_rowsIn_32 : decode cX12_rowsIn 32 = .ok (.ireturn, 1) := by decide +kernel
theorem dX12_says_0 : decode cX12_says 0 = .ok (.aload_n 0, 1) := by decide +kernel
theorem dX12_says_1 : decode cX12_says 1 = .ok (.getfield 152, 3) := by decide +kernel
theorem dX12_says_4 : decode cX12_says 4 = .ok (.aload_n 0, 1) := by decide +kernel
theorem dX12_says_5 : decode cX12_says 5 = .ok (.getfield 155, 3) := by decide +kernel
theorem dX12_says_8 : decode cX12_says 8 = .ok (.iload_n 1, 1) := by decide +kernel
theorem dX12_says_9 : decode cX12_says 9 = .ok (.sipush 255, 3) := by decide +kernel
theorem dX12_says_12 : decode cX12_says 12 = .ok (.iand, 1) := by decide +kernel
theorem dX12_says_13 : decode cX12_says 13 = .ok (.iastore, 1) := by decide +kernel
theorem dX12_says_14 : decode cX12_says 14 = .ok (.aload_n 0, 1) := by decide +kernel
theorem dX12_says_15 : decode cX12_says 15 = .ok (.dup, 1) := by decide +kernel
theorem dX12_says_16 : decode cX12_says 16 = .ok (.getfield 155, 3) := by decide +kernel
theorem dX12_says_19 : decode cX12_says 19 = .ok (.iconst 1, 1) := by decide +kernel
theorem dX12_says_20 : decode cX12_says 20 = .ok (.iadd, 1) := by decide +kernel
theorem dX12_says_21 : decode cX12_says 21 = .ok (.putfield 155, 3) := by decide +kernel
theorem dX12_says_24 : decode cX12_says 24 = .ok (.return_, 1) := by decide +kernel
theorem dX12_see_0 : decode cX12_see 0 = .ok (.aload_n 0, 1) := by decide +kernel
theorem dX12_see_1 : decode cX12_see 1 = .ok (.invokevirtual 241, 3) := by decide +kernel
theorem dX12_see_4 : decode cX12_see 4 = .ok (.istore_n 2, 1) := by decide +kernel
theorem dX12_see_5 : decode cX12_see 5 = .ok (.aload_n 0, 1) := by decide +kernel
theorem dX12_see_6 : decode cX12_see 6 = .ok (.iload_n 1, 1) := by decide +kernel
theorem dX12_see_7 : decode cX12_see 7 = .ok (.invokevirtual 335, 3) := by decide +kernel
theorem dX12_see_10 : decode cX12_see 10 = .ok (.ifCond .eq 23, 3) := by decide +kernel
theorem dX12_see_33 : decode cX12_see 33 = .ok (.iconst 0, 1) := by decide +kernel
theorem dX12_see_34 : decode cX12_see 34 = .ok (.istore_n 3, 1) := by decide +kernel
theorem dX12_see_35 : decode cX12_see 35 = .ok (.iconst 0, 1) := by decide +kernel
theorem dX12_see_36 : decode cX12_see 36 = .ok (.istore 4, 2) := by decide +kernel
theorem dX12_see_38 : decode cX12_see 38 = .ok (.iload_n 3, 1) := by decide +kernel
theorem dX12_see_39 : decode cX12_see 39 = .ok (.ifCond .eq 52, 3) := by decide +kernel
theorem dX12_see_91 : decode cX12_see 91 = .ok (.iload_n 3, 1) := by decide +kernel
theorem dX12_see_92 : decode cX12_see 92 = .ok (.ifCond .ne 9, 3) := by decide +kernel
theorem dX12_see_95 : decode cX12_see 95 = .ok (.aload_n 0, 1) := by decide +kernel
theorem dX12_see_96 : decode cX12_see 96 = .ok (.iconst 5, 1) := by decide +kernel
theorem dX12_see_97 : decode cX12_see 97 = .ok (.invokevirtual 158, 3) := by decide +kernel
theorem dX12_see_100 : decode cX12_see 100 = .ok (.ireturn, 1) := by decide +kernel
theorem dX12_seed_0 : decode cX12_seed 0 = .ok (.iload_n 1, 1) := by decide +kernel
theorem dX12_seed_1 : decode cX12_seed 1 = .ok (.ifCond .ge 9, 3) := by decide +kernel
theorem dX12_seed_4 : decode cX12_seed 4 = .ok (.aload_n 0, 1) := by decide +kernel
theorem dX12_seed_5 : decode cX12_seed 5 = .ok (.iconst 5, 1) := by decide +kernel
theorem dX12_seed_6 : decode cX12_seed 6 = .ok (.invokevirtual 166, 3) := by decide +kernel
theorem dX12_seed_9 : decode cX12_seed 9 = .ok (.ireturn, 1) := by decide +kernel
theorem dX12_seed_10 : decode cX12_seed 10 = .ok (.aload_n 0, 1) := by decide +kernel
theorem dX12_seed_11 : decode cX12_seed 11 = .ok (.iload_n 1, 1) := by decide +kernel
theorem dX12_seed_12 : decode cX12_seed 12 = .ok (.putfield 149, 3) := by decide +kernel
theorem dX12_seed_15 : decode cX12_seed 15 = .ok (.iconst 1, 1) := by decide +kernel
theorem dX12_seed_16 : decode cX12_seed 16 = .ok (.ireturn, 1) := by decide +kernel
theorem dX12_set_0 : decode cX12_set 0 = .ok (.aload_n 0, 1) := by decide +kernel
theorem dX12_set_1 : decode cX12_set 1 = .ok (.iload_n 1, 1) := by decide +kernel
theorem dX12_set_2 : decode cX12_set 2 = .ok (.invokevirtual 335, 3) := by decide +kernel
theorem dX12_set_5 : decode cX12_set 5 = .ok (.ifCond .ne 10, 3) := by decide +kernel
theorem dX12_set_8 : decode cX12_set 8 = .ok (.aload_n 0, 1) := by decide +kernel
theorem dX12_set_9 : decode cX12_set 9 = .ok (.iconst 1, 1) := by decide +kernel
theorem dX12_set_10 : decode cX12_set 10 = .ok (.iconst 0, 1) := by decide +kernel
theorem dX12_set_11 : decode cX12_set 11 = .ok (.invokevirtual 417, 3) := by decide +kernel
theorem dX12_set_14 : decode cX12_set 14 = .ok (.ireturn, 1) := by decide +kernel
theorem dX12_share_0 : decode cX12_share 0 = .ok (.aload_n 0, 1) := by decide +kernel
theorem dX12_share_1 : decode cX12_share 1 = .ok (.iload_n 1, 1) := by decide +kernel
theorem dX12_share_2 : decode cX12_share 2 = .ok (.invokevirtual 335, 3) := by decide +kernel
theorem dX12_share_5 : decode cX12_share 5 = .ok (.ifCond .eq 43, 3) := by decide +kernel
theorem dX12_share_48 : decode cX12_share 48 = .ok (.iconst (-1), 1) := by decide +kernel
theorem dX12_share_49 : decode cX12_share 49 = .ok (.ireturn, 1) := by decide +kernel
theorem dX12_status_0 : decode cX12_status 0 = .ok (.iload_n 1, 1) := by decide +kernel
theorem dX12_status_1 : decode cX12_status 1 = .ok (.iconst 0, 1) := by decide +kernel
theorem dX12_status_2 : decode cX12_status 2 = .ok (.iconst 5, 1) := by decide +kernel
theorem dX12_status_3 : decode cX12_status 3 = .ok (.invokestatic 197, 3) := by decide +kernel
theorem dX12_status_6 : decode cX12_status 6 = .ok (.ifCond .eq 12, 3) := by decide +kernel
theorem dX12_status_9 : decode cX12_status 9 = .ok (.aload_n 0, 1) := by decide +kernel
theorem dX12_status_10 : decode cX12_status 10 = .ok (.getfield 57, 3) := by decide +kernel
theorem dX12_status_13 : decode cX12_status 13 = .ok (.iload_n 1, 1) := by decide +kernel
theorem dX12_status_14 : decode cX12_status 14 = .ok (.iaload, 1) := by decide +kernel
theorem dX12_status_15 : decode cX12_status 15 = .ok (.goto 4, 3) := by decide +kernel
theorem dX12_status_18 : decode cX12_status 18 = .ok (.iconst (-1), 1) := by decide +kernel
theorem dX12_status_19 : decode cX12_status 19 = .ok (.ireturn, 1) := by decide +kernel
theorem dX12_store_0 : decode cX12_store 0 = .ok (.aload_n 0, 1) := by decide +kernel
theorem dX12_store_1 : decode cX12_store 1 = .ok (.invokevirtual 241, 3) := by decide +kernel
theorem dX12_store_4 : decode cX12_store 4 = .ok (.istore_n 1, 1) := by decide +kernel
theorem dX12_store_5 : decode cX12_store 5 = .ok (.aload_n 0, 1) := by decide +kernel
theorem dX12_store_6 : decode cX12_store 6 = .ok (.getfield 7, 3) := by decide +kernel
theorem dX12_store_9 : decode cX12_store 9 = .ok (.ifCond .eq 24, 3) := by decide +kernel
theorem dX12_store_33 : decode cX12_store 33 = .ok (.aload_n 0, 1) := by decide +kernel
theorem dX12_store_34 : decode cX12_store 34 = .ok (.iconst 3, 1) := by decide +kernel
theorem dX12_store_35 : decode cX12_store 35 = .ok (.invokevirtual 158, 3) := by decide +kernel
theorem dX12_store_38 : decode cX12_store 38 = .ok (.ireturn, 1) := by decide +kernel
theorem dX12_sum_0 : decode cX12_sum 0 = .ok (.iconst 0, 1) := by decide +kernel
theorem dX12_sum_1 : decode cX12_sum 1 = .ok (.istore_n 2, 1) := by decide +kernel
theorem dX12_sum_2 : decode cX12_sum 2 = .ok (.iconst 0, 1) := by decide +kernel
theorem dX12_sum_3 : decode cX12_sum 3 = .ok (.istore_n 3, 1) := by decide +kernel
theorem dX12_sum_4 : decode cX12_sum 4 = .ok (.iload_n 3, 1) := by decide +kernel
theorem dX12_sum_5 : decode cX12_sum 5 = .ok (.aload_n 0, 1) := by decide +kernel
theorem dX12_sum_6 : decode cX12_sum 6 = .ok (.getfield 13, 3) := by decide +kernel
theorem dX12_sum_9 : decode cX12_sum 9 = .ok (.if_icmp .ge 20, 3) := by decide +kernel
theorem dX12_sum_29 : decode cX12_sum 29 = .ok (.iload_n 2, 1) := by decide +kernel
theorem dX12_sum_30 : decode cX12_sum 30 = .ok (.ireturn, 1) := by decide +kernel
theorem dX12_swings_0 : decode cX12_swings 0 = .ok (.aload_n 0, 1) := by decide +kernel
theorem dX12_swings_1 : decode cX12_swings 1 = .ok (.invokevirtual 348, 3) := by decide +kernel
theorem dX12_swings_4 : decode cX12_swings 4 = .ok (.ifCond .eq 19, 3) := by decide +kernel
theorem dX12_swings_23 : decode cX12_swings 23 = .ok (.iconst (-1), 1) := by decide +kernel
theorem dX12_swings_24 : decode cX12_swings 24 = .ok (.ireturn, 1) := by decide +kernel
theorem dX12_taken_0 : decode cX12_taken 0 = .ok (.aload_n 0, 1) := by decide +kernel
theorem dX12_taken_1 : decode cX12_taken 1 = .ok (.getfield 54, 3) := by decide +kernel
theorem dX12_taken_4 : decode cX12_taken 4 = .ok (.istore_n 1, 1) := by decide +kernel
theorem dX12_taken_5 : decode cX12_taken 5 = .ok (.aload_n 0, 1) := by decide +kernel
theorem dX12_taken_6 : decode cX12_taken 6 = .ok (.iconst 0, 1) := by decide +kernel
theorem dX12_taken_7 : decode cX12_taken 7 = .ok (.putfield 54, 3) := by decide +kernel
theorem dX12_taken_10 : decode cX12_taken 10 = .ok (.iload_n 1, 1) := by decide +kernel
theorem dX12_taken_11 : decode cX12_taken 11 = .ok (.ireturn, 1) := by decide +kernel
theorem dX12_team_0 : decode cX12_team 0 = .ok (.aload_n 0, 1) := by decide +kernel
theorem dX12_team_1 : decode cX12_team 1 = .ok (.iload_n 1, 1) := by decide +kernel
theorem dX12_team_2 : decode cX12_team 2 = .ok (.invokevirtual 369, 3) := by decide +kernel
theorem dX12_team_5 : decode cX12_team 5 = .ok (.ifCond .eq 12, 3) := by decide +kernel
theorem dX12_team_17 : decode cX12_team 17 = .ok (.iconst (-1), 1) := by decide +kernel
theorem dX12_team_18 : decode cX12_team 18 = .ok (.ireturn, 1) := by decide +kernel
theorem dX12_tells_0 : decode cX12_tells 0 = .ok (.aload_n 0, 1) := by decide +kernel
theorem dX12_tells_1 : decode cX12_tells 1 = .ok (.getfield 125, 3) := by decide +kernel
theorem dX12_tells_4 : decode cX12_tells 4 = .ok (.ifCond .eq 19, 3) := by decide +kernel
theorem dX12_tells_23 : decode cX12_tells 23 = .ok (.iconst (-1), 1) := by decide +kernel
theorem dX12_tells_24 : decode cX12_tells 24 = .ok (.ireturn, 1) := by decide +kernel
theorem dX12_thing_0 : decode cX12_thing 0 = .ok (.aload_n 0, 1) := by decide +kernel
theorem dX12_thing_1 : decode cX12_thing 1 = .ok (.iload_n 1, 1) := by decide +kernel
theorem dX12_thing_2 : decode cX12_thing 2 = .ok (.invokevirtual 335, 3) := by decide +kernel
theorem dX12_thing_5 : decode cX12_thing 5 = .ok (.ifCond .ne 5, 3) := by decide +kernel
theorem dX12_thing_8 : decode cX12_thing 8 = .ok (.iconst (-1), 1) := by decide +kernel
theorem dX12_thing_9 : decode cX12_thing 9 = .ok (.ireturn, 1) := by decide +kernel
theorem dX12_tries_0 : decode cX12_tries 0 = .ok (.aload_n 0, 1) := by decide +kernel
theorem dX12_tries_1 : decode cX12_tries 1 = .ok (.invokevirtual 241, 3) := by decide +kernel
theorem dX12_tries_4 : decode cX12_tries 4 = .ok (.istore_n 3, 1) := by decide +kernel
theorem dX12_tries_5 : decode cX12_tries 5 = .ok (.aload_n 0, 1) := by decide +kernel
theorem dX12_tries_6 : decode cX12_tries 6 = .ok (.invokevirtual 348, 3) := by decide +kernel
theorem dX12_tries_9 : decode cX12_tries 9 = .ok (.ifCond .eq 26, 3) := by decide +kernel
theorem dX12_tries_35 : decode cX12_tries 35 = .ok (.iconst (-1), 1) := by decide +kernel
theorem dX12_tries_36 : decode cX12_tries 36 = .ok (.ireturn, 1) := by decide +kernel
theorem dX12_triesIn_0 : decode cX12_triesIn 0 = .ok (.aload_n 0, 1) := by decide +kernel
theorem dX12_triesIn_1 : decode cX12_triesIn 1 = .ok (.invokevirtual 241, 3) := by decide +kernel
theorem dX12_triesIn_4 : decode cX12_triesIn 4 = .ok (.istore_n 3, 1) := by decide +kernel
theorem dX12_triesIn_5 : decode cX12_triesIn 5 = .ok (.aload_n 0, 1) := by decide +kernel
theorem dX12_triesIn_6 : decode cX12_triesIn 6 = .ok (.iload_n 1, 1) := by decide +kernel
theorem dX12_triesIn_7 : decode cX12_triesIn 7 = .ok (.invokevirtual 375, 3) := by decide +kernel
theorem dX12_triesIn_10 : decode cX12_triesIn 10 = .ok (.ifCond .eq 18, 3) := by decide +kernel
theorem dX12_triesIn_28 : decode cX12_triesIn 28 = .ok (.iconst (-1), 1) := by decide +kernel
theorem dX12_triesIn_29 : decode cX12_triesIn 29 = .ok (.ireturn, 1) := by decide +kernel
theorem dX12_undo_0 : decode cX12_undo 0 = .ok (.aload_n 0, 1) := by decide +kernel
theorem dX12_undo_1 : decode cX12_undo 1 = .ok (.getfield 91, 3) := by decide +kernel
theorem dX12_undo_4 : decode cX12_undo 4 = .ok (.ifCond .ne 9, 3) := by decide +kernel
theorem dX12_undo_7 : decode cX12_undo 7 = .ok (.aload_n 0, 1) := by decide +kernel
theorem dX12_undo_8 : decode cX12_undo 8 = .ok (.iconst 4, 1) := by decide +kernel
theorem dX12_undo_9 : decode cX12_undo 9 = .ok (.invokevirtual 166, 3) := by decide +kernel
theorem dX12_undo_12 : decode cX12_undo 12 = .ok (.ireturn, 1) := by decide +kernel
theorem dX12_unlikes_0 : decode cX12_unlikes 0 = .ok (.iconst 0, 1) := by decide +kernel
theorem dX12_unlikes_1 : decode cX12_unlikes 1 = .ok (.istore_n 1, 1) := by decide +kernel
theorem dX12_unlikes_2 : decode cX12_unlikes 2 = .ok (.iconst 0, 1) := by decide +kernel
theorem dX12_unlikes_3 : decode cX12_unlikes 3 = .ok (.istore_n 2, 1) := by decide +kernel
theorem dX12_unlikes_4 : decode cX12_unlikes 4 = .ok (.iload_n 2, 1) := by decide +kernel
theorem dX12_unlikes_5 : decode cX12_unlikes 5 = .ok (.aload_n 0, 1) := by decide +kernel
theorem dX12_unlikes_6 : decode cX12_unlikes 6 = .ok (.getfield 13, 3) := by decide +kernel
theorem dX12_unlikes_9 : decode cX12_unlikes 9 = .ok (.if_icmp .ge 37, 3) := by decide +kernel
theorem dX12_unlikes_46 : decode cX12_unlikes 46 = .ok (.iload_n 1, 1) := by decide +kernel
theorem dX12_unlikes_47 : decode cX12_unlikes 47 = .ok (.ireturn, 1) := by decide +kernel
theorem dX12_weight_0 : decode cX12_weight 0 = .ok (.aload_n 0, 1) := by decide +kernel
theorem dX12_weight_1 : decode cX12_weight 1 = .ok (.iload_n 1, 1) := by decide +kernel
theorem dX12_weight_2 : decode cX12_weight 2 = .ok (.invokevirtual 335, 3) := by decide +kernel
theorem dX12_weight_5 : decode cX12_weight 5 = .ok (.ifCond .eq 23, 3) := by decide +kernel
theorem dX12_weight_28 : decode cX12_weight 28 = .ok (.ldc2_w 346, 3) := by decide +kernel
theorem dX12_weight_31 : decode cX12_weight 31 = .ok (.lreturn, 1) := by decide +kernel
theorem dX12_wheel_0 : decode cX12_wheel 0 = .ok (.aload_n 0, 1) := by decide +kernel
theorem dX12_wheel_1 : decode cX12_wheel 1 = .ok (.aload_n 0, 1) := by decide +kernel
theorem dX12_wheel_2 : decode cX12_wheel 2 = .ok (.invokevirtual 241, 3) := by decide +kernel
theorem dX12_wheel_5 : decode cX12_wheel 5 = .ok (.putfield 66, 3) := by decide +kernel
theorem dX12_wheel_8 : decode cX12_wheel 8 = .ok (.aload_n 0, 1) := by decide +kernel
theorem dX12_wheel_9 : decode cX12_wheel 9 = .ok (.iconst 0, 1) := by decide +kernel
theorem dX12_wheel_10 : decode cX12_wheel 10 = .ok (.putfield 69, 3) := by decide +kernel
theorem dX12_wheel_13 : decode cX12_wheel 13 = .ok (.aload_n 0, 1) := by decide +kernel
theorem dX12_wheel_14 : decode cX12_wheel 14 = .ok (.iconst 0, 1) := by decide +kernel
theorem dX12_wheel_15 : decode cX12_wheel 15 = .ok (.putfield 75, 3) := by decide +kernel
theorem dX12_wheel_18 : decode cX12_wheel 18 = .ok (.aload_n 0, 1) := by decide +kernel
theorem dX12_wheel_19 : decode cX12_wheel 19 = .ok (.iconst (-1), 1) := by decide +kernel
theorem dX12_wheel_20 : decode cX12_wheel 20 = .ok (.putfield 78, 3) := by decide +kernel
theorem dX12_wheel_23 : decode cX12_wheel 23 = .ok (.aload_n 0, 1) := by decide +kernel
theorem dX12_wheel_24 : decode cX12_wheel 24 = .ok (.invokevirtual 244, 3) := by decide +kernel
theorem dX12_wheel_27 : decode cX12_wheel 27 = .ok (.istore_n 1, 1) := by decide +kernel
theorem dX12_wheel_28 : decode cX12_wheel 28 = .ok (.aload_n 0, 1) := by decide +kernel
theorem dX12_wheel_29 : decode cX12_wheel 29 = .ok (.aload_n 0, 1) := by decide +kernel
theorem dX12_wheel_30 : decode cX12_wheel 30 = .ok (.getfield 75, 3) := by decide +kernel
theorem dX12_wheel_33 : decode cX12_wheel 33 = .ok (.putfield 60, 3) := by decide +kernel
theorem dX12_wheel_36 : decode cX12_wheel 36 = .ok (.aload_n 0, 1) := by decide +kernel
theorem dX12_wheel_37 : decode cX12_wheel 37 = .ok (.aload_n 0, 1) := by decide +kernel
theorem dX12_wheel_38 : decode cX12_wheel 38 = .ok (.getfield 78, 3) := by decide +kernel
theorem dX12_wheel_41 : decode cX12_wheel 41 = .ok (.putfield 63, 3) := by decide +kernel
theorem dX12_wheel_44 : decode cX12_wheel 44 = .ok (.aload_n 0, 1) := by decide +kernel
theorem dX12_wheel_45 : decode cX12_wheel 45 = .ok (.getfield 75, 3) := by decide +kernel
theorem dX12_wheel_48 : decode cX12_wheel 48 = .ok (.ifCond .eq 9, 3) := by decide +kernel
theorem dX12_wheel_51 : decode cX12_wheel 51 = .ok (.aload_n 0, 1) := by decide +kernel
theorem dX12_wheel_52 : decode cX12_wheel 52 = .ok (.iconst 1, 1) := by decide +kernel
theorem dX12_wheel_53 : decode cX12_wheel 53 = .ok (.invokevirtual 158, 3) := by decide +kernel
theorem dX12_wheel_56 : decode cX12_wheel 56 = .ok (.ireturn, 1) := by decide +kernel
theorem dX12_why_0 : decode cX12_why 0 = .ok (.iload_n 1, 1) := by decide +kernel
theorem dX12_why_1 : decode cX12_why 1 = .ok (.ifCond .ne 10, 3) := by decide +kernel
theorem dX12_why_4 : decode cX12_why 4 = .ok (.aload_n 0, 1) := by decide +kernel
theorem dX12_why_5 : decode cX12_why 5 = .ok (.getfield 143, 3) := by decide +kernel
theorem dX12_why_8 : decode cX12_why 8 = .ok (.goto 16, 3) := by decide +kernel
theorem dX12_why_11 : decode cX12_why 11 = .ok (.iload_n 1, 1) := by decide +kernel
theorem dX12_why_12 : decode cX12_why 12 = .ok (.iconst 1, 1) := by decide +kernel
theorem dX12_why_13 : decode cX12_why 13 = .ok (.if_icmp .ne 10, 3) := by decide +kernel
theorem dX12_why_16 : decode cX12_why 16 = .ok (.aload_n 0, 1) := by decide +kernel
theorem dX12_why_17 : decode cX12_why 17 = .ok (.getfield 146, 3) := by decide +kernel
theorem dX12_why_20 : decode cX12_why 20 = .ok (.goto 4, 3) := by decide +kernel
theorem dX12_why_23 : decode cX12_why 23 = .ok (.iconst (-1), 1) := by decide +kernel
theorem dX12_why_24 : decode cX12_why 24 = .ok (.ireturn, 1) := by decide +kernel
theorem dX12_word_0 : decode cX12_word 0 = .ok (.aload_n 0, 1) := by decide +kernel
theorem dX12_word_1 : decode cX12_word 1 = .ok (.invokevirtual 173, 3) := by decide +kernel
theorem dX12_word_4 : decode cX12_word 4 = .ok (.ifCond .ne 4, 3) := by decide +kernel
theorem dX12_word_7 : decode cX12_word 7 = .ok (.return_, 1) := by decide +kernel
theorem dX12_word_8 : decode cX12_word 8 = .ok (.aload_n 0, 1) := by decide +kernel
theorem dX12_word_9 : decode cX12_word 9 = .ok (.invokevirtual 177, 3) := by decide +kernel
theorem dX12_word_12 : decode cX12_word 12 = .ok (.pop, 1) := by decide +kernel
theorem dX12_word_13 : decode cX12_word 13 = .ok (.aload_n 0, 1) := by decide +kernel
theorem dX12_word_14 : decode cX12_word 14 = .ok (.aload_n 0, 1) := by decide +kernel
theorem dX12_word_15 : decode cX12_word 15 = .ok (.getfield 69, 3) := by decide +kernel
theorem dX12_word_18 : decode cX12_word 18 = .ok (.putfield 72, 3) := by decide +kernel
theorem dX12_word_21 : decode cX12_word 21 = .ok (.aload_n 0, 1) := by decide +kernel
theorem dX12_word_22 : decode cX12_word 22 = .ok (.aload_n 0, 1) := by decide +kernel
theorem dX12_word_23 : decode cX12_word 23 = .ok (.getfield 69, 3) := by decide +kernel
theorem dX12_word_26 : decode cX12_word 26 = .ok (.invokevirtual 181, 3) := by decide +kernel
theorem dX12_word_29 : decode cX12_word 29 = .ok (.ifCond .eq 29, 3) := by decide +kernel
theorem dX12_word_58 : decode cX12_word 58 = .ok (.aload_n 0, 1) := by decide +kernel
theorem dX12_word_59 : decode cX12_word 59 = .ok (.iconst 1, 1) := by decide +kernel
theorem dX12_word_60 : decode cX12_word 60 = .ok (.aload_n 0, 1) := by decide +kernel
theorem dX12_word_61 : decode cX12_word 61 = .ok (.getfield 69, 3) := by decide +kernel
theorem dX12_word_64 : decode cX12_word 64 = .ok (.invokevirtual 187, 3) := by decide +kernel
theorem dX12_word_67 : decode cX12_word 67 = .ok (.return_, 1) := by decide +kernel
theorem dX12_would_0 : decode cX12_would 0 = .ok (.aload_n 0, 1) := by decide +kernel
theorem dX12_would_1 : decode cX12_would 1 = .ok (.iload_n 1, 1) := by decide +kernel
theorem dX12_would_2 : decode cX12_would 2 = .ok (.invokevirtual 335, 3) := by decide +kernel
theorem dX12_would_5 : decode cX12_would 5 = .ok (.ifCond .eq 32, 3) := by decide +kernel
theorem dX12_would_37 : decode cX12_would 37 = .ok (.iconst (-1), 1) := by decide +kernel
theorem dX12_would_38 : decode cX12_would 38 = .ok (.ireturn, 1) := by decide +kernel
theorem dX1_goBack_0 : decode cX1_goBack 0 = .ok (.aload_n 0, 1) := by decide +kernel
theorem dX1_goBack_1 : decode cX1_goBack 1 = .ok (.getfield 17, 3) := by decide +kernel
theorem dX1_goBack_4 : decode cX1_goBack 4 = .ok (.bipush 20, 2) := by decide +kernel
theorem dX1_goBack_6 : decode cX1_goBack 6 = .ok (.iadd, 1) := by decide +kernel
theorem dX1_goBack_7 : decode cX1_goBack 7 = .ok (.iconst 1, 1) := by decide +kernel
theorem dX1_goBack_8 : decode cX1_goBack 8 = .ok (.isub, 1) := by decide +kernel
theorem dX1_goBack_9 : decode cX1_goBack 9 = .ok (.bipush 20, 2) := by decide +kernel
theorem dX1_goBack_11 : decode cX1_goBack 11 = .ok (.irem, 1) := by decide +kernel
theorem dX1_goBack_12 : decode cX1_goBack 12 = .ok (.istore_n 2, 1) := by decide +kernel
theorem dX1_goBack_13 : decode cX1_goBack 13 = .ok (.aload_n 0, 1) := by decide +kernel
theorem dX1_goBack_14 : decode cX1_goBack 14 = .ok (.getfield 26, 3) := by decide +kernel
theorem dX1_goBack_17 : decode cX1_goBack 17 = .ok (.ifCond .eq 16, 3) := by decide +kernel
theorem dX1_goBack_33 : decode cX1_goBack 33 = .ok (.iconst 0, 1) := by decide +kernel
theorem dX1_goBack_34 : decode cX1_goBack 34 = .ok (.ireturn, 1) := by decide +kernel
theorem dX1_init_0 : decode cX1_init 0 = .ok (.aload_n 0, 1) := by decide +kernel
theorem dX1_init_1 : decode cX1_init 1 = .ok (.invokespecial 3, 3) := by decide +kernel
theorem dX1_init_4 : decode cX1_init 4 = .ok (.aload_n 0, 1) := by decide +kernel
theorem dX1_init_5 : decode cX1_init 5 = .ok (.bipush 20, 2) := by decide +kernel
theorem dX1_init_7 : decode cX1_init 7 = .ok (.anewarray 9, 3) := by decide +kernel
theorem dX1_init_10 : decode cX1_init 10 = .ok (.putfield 11, 3) := by decide +kernel
theorem dX1_init_13 : decode cX1_init 13 = .ok (.return_, 1) := by decide +kernel
theorem dX2_init_0 : decode cX2_init 0 = .ok (.aload_n 0, 1) := by decide +kernel
theorem dX2_init_1 : decode cX2_init 1 = .ok (.invokespecial 3, 3) := by decide +kernel
theorem dX2_init_4 : decode cX2_init 4 = .ok (.aload_n 0, 1) := by decide +kernel
theorem dX2_init_5 : decode cX2_init 5 = .ok (.aload_n 1, 1) := by decide +kernel
theorem dX2_init_6 : decode cX2_init 6 = .ok (.putfield 9, 3) := by decide +kernel
theorem dX2_init_9 : decode cX2_init 9 = .ok (.return_, 1) := by decide +kernel
theorem dX3_init_0 : decode cX3_init 0 = .ok (.aload_n 0, 1) := by decide +kernel
theorem dX3_init_1 : decode cX3_init 1 = .ok (.invokespecial 3, 3) := by decide +kernel
theorem dX3_init_4 : decode cX3_init 4 = .ok (.aload_n 0, 1) := by decide +kernel
theorem dX3_init_5 : decode cX3_init 5 = .ok (.bipush 16, 2) := by decide +kernel
theorem dX3_init_7 : decode cX3_init 7 = .ok (.newarray .int, 2) := by decide +kernel
theorem dX3_init_9 : decode cX3_init 9 = .ok (.putfield 9, 3) := by decide +kernel
theorem dX3_init_12 : decode cX3_init 12 = .ok (.aload_n 0, 1) := by decide +kernel
theorem dX3_init_13 : decode cX3_init 13 = .ok (.bipush 16, 2) := by decide +kernel
theorem dX3_init_15 : decode cX3_init 15 = .ok (.newarray .int, 2) := by decide +kernel
theorem dX3_init_17 : decode cX3_init 17 = .ok (.putfield 15, 3) := by decide +kernel
theorem dX3_init_20 : decode cX3_init 20 = .ok (.aload_n 0, 1) := by decide +kernel
theorem dX3_init_21 : decode cX3_init 21 = .ok (.iconst 4, 1) := by decide +kernel
end
section
theorem dX3_init_22 : decode cX3_init 22 = .ok (.newarray .int, 2) := by decide +kernel
theorem dX3_init_24 : decode cX3_init 24 = .ok (.putfield 18, 3) := by decide +kernel
theorem dX3_init_27 : decode cX3_init 27 = .ok (.aload_n 0, 1) := by decide +kernel
theorem dX3_init_28 : decode cX3_init 28 = .ok (.iconst 4, 1) := by decide +kernel
theorem dX3_init_29 : decode cX3_init 29 = .ok (.newarray .int, 2) := by decide +kernel
theorem dX3_init_31 : decode cX3_init 31 = .ok (.putfield 21, 3) := by decide +kernel
theorem dX3_init_34 : decode cX3_init 34 = .ok (.return_, 1) := by decide +kernel
theorem dX4_init_0 : decode cX4_init 0 = .ok (.aload_n 0, 1) := by decide +kernel
theorem dX4_init_1 : decode cX4_init 1 = .ok (.invokespecial 3, 3) := by decide +kernel
theorem dX4_init_4 : decode cX4_init 4 = .ok (.aload_n 0, 1) := by decide +kernel
theorem dX4_init_5 : decode cX4_init 5 = .ok (.new 9, 3) := by decide +kernel
theorem dX4_init_8 : decode cX4_init 8 = .ok (.dup, 1) := by decide +kernel
theorem dX4_init_9 : decode cX4_init 9 = .ok (.invokespecial 11, 3) := by decide +kernel
theorem dX4_init_12 : decode cX4_init 12 = .ok (.putfield 12, 3) := by decide +kernel
theorem dX4_init_15 : decode cX4_init 15 = .ok (.aload_n 0, 1) := by decide +kernel
theorem dX4_init_16 : decode cX4_init 16 = .ok (.iconst (-1), 1) := by decide +kernel
theorem dX4_init_17 : decode cX4_init 17 = .ok (.putfield 18, 3) := by decide +kernel
theorem dX4_init_20 : decode cX4_init 20 = .ok (.aload_n 0, 1) := by decide +kernel
theorem dX4_init_21 : decode cX4_init 21 = .ok (.aload_n 1, 1) := by decide +kernel
theorem dX4_init_22 : decode cX4_init 22 = .ok (.putfield 22, 3) := by decide +kernel
theorem dX4_init_25 : decode cX4_init 25 = .ok (.return_, 1) := by decide +kernel
theorem dX5_columns_0 : decode cX5_columns 0 = .ok (.aload_n 0, 1) := by decide +kernel
theorem dX5_columns_1 : decode cX5_columns 1 = .ok (.getfield 62, 3) := by decide +kernel
theorem dX5_columns_4 : decode cX5_columns 4 = .ok (.ifCond .le 10, 3) := by decide +kernel
theorem dX5_columns_14 : decode cX5_columns 14 = .ok (.iconst 0, 1) := by decide +kernel
theorem dX5_columns_15 : decode cX5_columns 15 = .ok (.ireturn, 1) := by decide +kernel
theorem dX5_init_0 : decode cX5_init 0 = .ok (.aload_n 0, 1) := by decide +kernel
theorem dX5_init_1 : decode cX5_init 1 = .ok (.invokespecial 3, 3) := by decide +kernel
theorem dX5_init_4 : decode cX5_init 4 = .ok (.aload_n 0, 1) := by decide +kernel
theorem dX5_init_5 : decode cX5_init 5 = .ok (.bipush 16, 2) := by decide +kernel
theorem dX5_init_7 : decode cX5_init 7 = .ok (.newarray .int, 2) := by decide +kernel
theorem dX5_init_9 : decode cX5_init 9 = .ok (.putfield 9, 3) := by decide +kernel
theorem dX5_init_12 : decode cX5_init 12 = .ok (.aload_n 0, 1) := by decide +kernel
theorem dX5_init_13 : decode cX5_init 13 = .ok (.bipush 16, 2) := by decide +kernel
theorem dX5_init_15 : decode cX5_init 15 = .ok (.newarray .int, 2) := by decide +kernel
theorem dX5_init_17 : decode cX5_init 17 = .ok (.putfield 15, 3) := by decide +kernel
theorem dX5_init_20 : decode cX5_init 20 = .ok (.aload_n 0, 1) := by decide +kernel
theorem dX5_init_21 : decode cX5_init 21 = .ok (.bipush 16, 2) := by decide +kernel
theorem dX5_init_23 : decode cX5_init 23 = .ok (.newarray .int, 2) := by decide +kernel
theorem dX5_init_25 : decode cX5_init 25 = .ok (.putfield 18, 3) := by decide +kernel
theorem dX5_init_28 : decode cX5_init 28 = .ok (.aload_n 0, 1) := by decide +kernel
theorem dX5_init_29 : decode cX5_init 29 = .ok (.bipush 16, 2) := by decide +kernel
theorem dX5_init_31 : decode cX5_init 31 = .ok (.newarray .int, 2) := by decide +kernel
theorem dX5_init_33 : decode cX5_init 33 = .ok (.putfield 21, 3) := by decide +kernel
theorem dX5_init_36 : decode cX5_init 36 = .ok (.aload_n 0, 1) := by decide +kernel
theorem dX5_init_37 : decode cX5_init 37 = .ok (.bipush 24, 2) := by decide +kernel
theorem dX5_init_39 : decode cX5_init 39 = .ok (.newarray .int, 2) := by decide +kernel
theorem dX5_init_41 : decode cX5_init 41 = .ok (.putfield 24, 3) := by decide +kernel
theorem dX5_init_44 : decode cX5_init 44 = .ok (.aload_n 0, 1) := by decide +kernel
theorem dX5_init_45 : decode cX5_init 45 = .ok (.bipush 24, 2) := by decide +kernel
theorem dX5_init_47 : decode cX5_init 47 = .ok (.newarray .int, 2) := by decide +kernel
theorem dX5_init_49 : decode cX5_init 49 = .ok (.putfield 27, 3) := by decide +kernel
theorem dX5_init_52 : decode cX5_init 52 = .ok (.aload_n 0, 1) := by decide +kernel
theorem dX5_init_53 : decode cX5_init 53 = .ok (.bipush 16, 2) := by decide +kernel
theorem dX5_init_55 : decode cX5_init 55 = .ok (.newarray .int, 2) := by decide +kernel
theorem dX5_init_57 : decode cX5_init 57 = .ok (.putfield 30, 3) := by decide +kernel
theorem dX5_init_60 : decode cX5_init 60 = .ok (.aload_n 0, 1) := by decide +kernel
theorem dX5_init_61 : decode cX5_init 61 = .ok (.bipush 16, 2) := by decide +kernel
theorem dX5_init_63 : decode cX5_init 63 = .ok (.newarray .int, 2) := by decide +kernel
theorem dX5_init_65 : decode cX5_init 65 = .ok (.putfield 33, 3) := by decide +kernel
theorem dX5_init_68 : decode cX5_init 68 = .ok (.return_, 1) := by decide +kernel
theorem dX5_ranked_0 : decode cX5_ranked 0 = .ok (.iconst 0, 1) := by decide +kernel
theorem dX5_ranked_1 : decode cX5_ranked 1 = .ok (.istore_n 2, 1) := by decide +kernel
theorem dX5_ranked_2 : decode cX5_ranked 2 = .ok (.iload_n 2, 1) := by decide +kernel
theorem dX5_ranked_3 : decode cX5_ranked 3 = .ok (.aload_n 0, 1) := by decide +kernel
theorem dX5_ranked_4 : decode cX5_ranked 4 = .ok (.getfield 58, 3) := by decide +kernel
theorem dX5_ranked_7 : decode cX5_ranked 7 = .ok (.if_icmp .ge 82, 3) := by decide +kernel
theorem dX5_ranked_89 : decode cX5_ranked 89 = .ok (.iconst (-1), 1) := by decide +kernel
theorem dX5_ranked_90 : decode cX5_ranked 90 = .ok (.ireturn, 1) := by decide +kernel
theorem dX5_together_0 : decode cX5_together 0 = .ok (.iconst 0, 1) := by decide +kernel
theorem dX5_together_1 : decode cX5_together 1 = .ok (.istore_n 2, 1) := by decide +kernel
theorem dX5_together_2 : decode cX5_together 2 = .ok (.iconst 0, 1) := by decide +kernel
theorem dX5_together_3 : decode cX5_together 3 = .ok (.istore_n 3, 1) := by decide +kernel
theorem dX5_together_4 : decode cX5_together 4 = .ok (.iload_n 3, 1) := by decide +kernel
theorem dX5_together_5 : decode cX5_together 5 = .ok (.aload_n 0, 1) := by decide +kernel
theorem dX5_together_6 : decode cX5_together 6 = .ok (.getfield 58, 3) := by decide +kernel
theorem dX5_together_9 : decode cX5_together 9 = .ok (.if_icmp .ge 30, 3) := by decide +kernel
theorem dX5_together_39 : decode cX5_together 39 = .ok (.iload_n 2, 1) := by decide +kernel
theorem dX5_together_40 : decode cX5_together 40 = .ok (.ireturn, 1) := by decide +kernel
theorem dX6_init_0 : decode cX6_init 0 = .ok (.aload_n 0, 1) := by decide +kernel
theorem dX6_init_1 : decode cX6_init 1 = .ok (.iconst 0, 1) := by decide +kernel
theorem dX6_init_2 : decode cX6_init 2 = .ok (.newarray .int, 2) := by decide +kernel
theorem dX6_init_4 : decode cX6_init 4 = .ok (.invokespecial 3, 3) := by decide +kernel
theorem dX6_init_7 : decode cX6_init 7 = .ok (.return_, 1) := by decide +kernel
theorem dX7_init_0 : decode cX7_init 0 = .ok (.aload_n 0, 1) := by decide +kernel
theorem dX7_init_1 : decode cX7_init 1 = .ok (.invokespecial 3, 3) := by decide +kernel
theorem dX7_init_4 : decode cX7_init 4 = .ok (.aload_n 0, 1) := by decide +kernel
theorem dX7_init_5 : decode cX7_init 5 = .ok (.bipush 20, 2) := by decide +kernel
theorem dX7_init_7 : decode cX7_init 7 = .ok (.newarray .int, 2) := by decide +kernel
theorem dX7_init_9 : decode cX7_init 9 = .ok (.putfield 9, 3) := by decide +kernel
theorem dX7_init_12 : decode cX7_init 12 = .ok (.aload_n 0, 1) := by decide +kernel
theorem dX7_init_13 : decode cX7_init 13 = .ok (.bipush 20, 2) := by decide +kernel
theorem dX7_init_15 : decode cX7_init 15 = .ok (.newarray .int, 2) := by decide +kernel
theorem dX7_init_17 : decode cX7_init 17 = .ok (.putfield 15, 3) := by decide +kernel
theorem dX7_init_20 : decode cX7_init 20 = .ok (.aload_n 0, 1) := by decide +kernel
theorem dX7_init_21 : decode cX7_init 21 = .ok (.new 18, 3) := by decide +kernel
theorem dX7_init_24 : decode cX7_init 24 = .ok (.dup, 1) := by decide +kernel
theorem dX7_init_25 : decode cX7_init 25 = .ok (.invokespecial 20, 3) := by decide +kernel
theorem dX7_init_28 : decode cX7_init 28 = .ok (.putfield 21, 3) := by decide +kernel
theorem dX7_init_31 : decode cX7_init 31 = .ok (.aload_n 0, 1) := by decide +kernel
theorem dX7_init_32 : decode cX7_init 32 = .ok (.new 25, 3) := by decide +kernel
theorem dX7_init_35 : decode cX7_init 35 = .ok (.dup, 1) := by decide +kernel
theorem dX7_init_36 : decode cX7_init 36 = .ok (.aload_n 0, 1) := by decide +kernel
theorem dX7_init_37 : decode cX7_init 37 = .ok (.getfield 21, 3) := by decide +kernel
theorem dX7_init_40 : decode cX7_init 40 = .ok (.invokespecial 27, 3) := by decide +kernel
theorem dX7_init_43 : decode cX7_init 43 = .ok (.putfield 30, 3) := by decide +kernel
theorem dX7_init_46 : decode cX7_init 46 = .ok (.aload_n 0, 1) := by decide +kernel
theorem dX7_init_47 : decode cX7_init 47 = .ok (.iconst 1, 1) := by decide +kernel
theorem dX7_init_48 : decode cX7_init 48 = .ok (.newarray .int, 2) := by decide +kernel
theorem dX7_init_50 : decode cX7_init 50 = .ok (.putfield 34, 3) := by decide +kernel
theorem dX7_init_53 : decode cX7_init 53 = .ok (.aload_n 0, 1) := by decide +kernel
theorem dX7_init_54 : decode cX7_init 54 = .ok (.new 37, 3) := by decide +kernel
theorem dX7_init_57 : decode cX7_init 57 = .ok (.dup, 1) := by decide +kernel
theorem dX7_init_58 : decode cX7_init 58 = .ok (.aload_n 0, 1) := by decide +kernel
theorem dX7_init_59 : decode cX7_init 59 = .ok (.getfield 34, 3) := by decide +kernel
theorem dX7_init_62 : decode cX7_init 62 = .ok (.invokespecial 39, 3) := by decide +kernel
theorem dX7_init_65 : decode cX7_init 65 = .ok (.putfield 42, 3) := by decide +kernel
theorem dX7_init_68 : decode cX7_init 68 = .ok (.return_, 1) := by decide +kernel
theorem dX8_init_0 : decode cX8_init 0 = .ok (.aload_n 0, 1) := by decide +kernel
theorem dX8_init_1 : decode cX8_init 1 = .ok (.invokespecial 3, 3) := by decide +kernel
theorem dX8_init_4 : decode cX8_init 4 = .ok (.aload_n 0, 1) := by decide +kernel
theorem dX8_init_5 : decode cX8_init 5 = .ok (.bipush 16, 2) := by decide +kernel
theorem dX8_init_7 : decode cX8_init 7 = .ok (.newarray .int, 2) := by decide +kernel
theorem dX8_init_9 : decode cX8_init 9 = .ok (.putfield 9, 3) := by decide +kernel
theorem dX8_init_12 : decode cX8_init 12 = .ok (.aload_n 0, 1) := by decide +kernel
theorem dX8_init_13 : decode cX8_init 13 = .ok (.bipush 16, 2) := by decide +kernel
theorem dX8_init_15 : decode cX8_init 15 = .ok (.newarray .int, 2) := by decide +kernel
theorem dX8_init_17 : decode cX8_init 17 = .ok (.putfield 15, 3) := by decide +kernel
theorem dX8_init_20 : decode cX8_init 20 = .ok (.aload_n 0, 1) := by decide +kernel
theorem dX8_init_21 : decode cX8_init 21 = .ok (.bipush 16, 2) := by decide +kernel
theorem dX8_init_23 : decode cX8_init 23 = .ok (.newarray .int, 2) := by decide +kernel
theorem dX8_init_25 : decode cX8_init 25 = .ok (.putfield 18, 3) := by decide +kernel
theorem dX8_init_28 : decode cX8_init 28 = .ok (.aload_n 0, 1) := by decide +kernel
theorem dX8_init_29 : decode cX8_init 29 = .ok (.bipush 101, 2) := by decide +kernel
theorem dX8_init_31 : decode cX8_init 31 = .ok (.newarray .int, 2) := by decide +kernel
theorem dX8_init_33 : decode cX8_init 33 = .ok (.putfield 21, 3) := by decide +kernel
theorem dX8_init_36 : decode cX8_init 36 = .ok (.return_, 1) := by decide +kernel
theorem dX9_add_0 : decode cX9_add 0 = .ok (.bipush 24, 2) := by decide +kernel
theorem dX9_add_2 : decode cX9_add 2 = .ok (.istore_n 2, 1) := by decide +kernel
theorem dX9_add_3 : decode cX9_add 3 = .ok (.iload_n 2, 1) := by decide +kernel
theorem dX9_add_4 : decode cX9_add 4 = .ok (.ifCond .lt 33, 3) := by decide +kernel
theorem dX9_add_7 : decode cX9_add 7 = .ok (.aload_n 0, 1) := by decide +kernel
theorem dX9_add_8 : decode cX9_add 8 = .ok (.getfield 9, 3) := by decide +kernel
theorem dX9_add_11 : decode cX9_add 11 = .ok (.aload_n 0, 1) := by decide +kernel
theorem dX9_add_12 : decode cX9_add 12 = .ok (.getfield 15, 3) := by decide +kernel
theorem dX9_add_15 : decode cX9_add 15 = .ok (.iload_n 1, 1) := by decide +kernel
theorem dX9_add_16 : decode cX9_add 16 = .ok (.iload_n 2, 1) := by decide +kernel
theorem dX9_add_17 : decode cX9_add 17 = .ok (.iushr, 1) := by decide +kernel
theorem dX9_add_18 : decode cX9_add 18 = .ok (.invokestatic 19, 3) := by decide +kernel
theorem dX9_add_21 : decode cX9_add 21 = .ok (.aload_n 0, 1) := by decide +kernel
theorem dX9_add_22 : decode cX9_add 22 = .ok (.dup, 1) := by decide +kernel
theorem dX9_add_23 : decode cX9_add 23 = .ok (.getfield 15, 3) := by decide +kernel
theorem dX9_add_26 : decode cX9_add 26 = .ok (.iconst 1, 1) := by decide +kernel
theorem dX9_add_27 : decode cX9_add 27 = .ok (.iadd, 1) := by decide +kernel
theorem dX9_add_28 : decode cX9_add 28 = .ok (.putfield 15, 3) := by decide +kernel
theorem dX9_add_31 : decode cX9_add 31 = .ok (.iinc 2 (-8), 3) := by decide +kernel
theorem dX9_add_34 : decode cX9_add 34 = .ok (.goto (-31), 3) := by decide +kernel
theorem dX9_add_37 : decode cX9_add 37 = .ok (.return_, 1) := by decide +kernel
theorem dX9_init_0 : decode cX9_init 0 = .ok (.aload_n 0, 1) := by decide +kernel
theorem dX9_init_1 : decode cX9_init 1 = .ok (.invokespecial 3, 3) := by decide +kernel
theorem dX9_init_4 : decode cX9_init 4 = .ok (.aload_n 0, 1) := by decide +kernel
theorem dX9_init_5 : decode cX9_init 5 = .ok (.sipush 300, 3) := by decide +kernel
theorem dX9_init_8 : decode cX9_init 8 = .ok (.newarray .int, 2) := by decide +kernel
theorem dX9_init_10 : decode cX9_init 10 = .ok (.putfield 9, 3) := by decide +kernel
theorem dX9_init_13 : decode cX9_init 13 = .ok (.return_, 1) := by decide +kernel
end
section
/-! the words by their places in the tables -/
theorem sw_0 : (Cond.selects RX11 yX11_refuse yX11_refuse) ∈ sw_all := sw_i 0 (by decide +kernel)
theorem sw_1 : (Cond.selects RX11 yX11_deny yX11_deny) ∈ sw_all := sw_i 1 (by decide +kernel)
theorem sw_21 : (Cond.selects RX11 yX11_isThing yX11_isThing) ∈ sw_all := sw_i 21 (by decide +kernel)
theorem sw_24 : (Cond.selects RX11 yX11_isTeam yX11_isTeam) ∈ sw_all := sw_i 24 (by decide +kernel)
theorem sw_25 : (Cond.selects RX11 yX11_triedOnTape yX11_triedOnTape) ∈ sw_all := sw_i 25 (by decide +kernel)
theorem sw_35 : (Cond.selects RX11 yX11_judge yX11_judge) ∈ sw_all := sw_i 35 (by decide +kernel)
theorem sw_36 : (Cond.selects RX11 yX11_turnDown yX11_turnDown) ∈ sw_all := sw_i 36 (by decide +kernel)
theorem sw_40 : (Cond.selects RX11 yX11_draw yX11_draw) ∈ sw_all := sw_i 40 (by decide +kernel)
theorem sw_43 : (Cond.selects RX12 yX12_refuses yX12_refuses) ∈ sw_all := sw_i 43 (by decide +kernel)
theorem sw_44 : (Cond.selects RX12 yX12_lays yX12_lays) ∈ sw_all := sw_i 44 (by decide +kernel)
theorem sw_45 : (Cond.selects RX12 yX12_isRefused yX12_isRefused) ∈ sw_all := sw_i 45 (by decide +kernel)
theorem sw_46 : (Cond.selects RX12 yX12_taken yX12_taken) ∈ sw_all := sw_i 46 (by decide +kernel)
theorem sw_47 : (Cond.selects RX12 yX12_readsAll yX12_readsAll) ∈ sw_all := sw_i 47 (by decide +kernel)
theorem sw_48 : (Cond.selects RX12 yX12_must yX12_must) ∈ sw_all := sw_i 48 (by decide +kernel)
theorem sw_49 : (Cond.selects RX12 yX12_word yX12_word) ∈ sw_all := sw_i 49 (by decide +kernel)
theorem sw_50 : (Cond.selects RX12 yX12_goesWell yX12_goesWell) ∈ sw_all := sw_i 50 (by decide +kernel)
theorem sw_51 : (Cond.selects RX12 yX12_here yX12_here) ∈ sw_all := sw_i 51 (by decide +kernel)
theorem sw_52 : (Cond.selects RX12 yX12_byteAt yX12_byteAt) ∈ sw_all := sw_i 52 (by decide +kernel)
theorem sw_53 : (Cond.selects RX12 yX12_isSmall yX12_isSmall) ∈ sw_all := sw_i 53 (by decide +kernel)
theorem sw_55 : (Cond.selects RX12 yX12_fails yX12_fails) ∈ sw_all := sw_i 55 (by decide +kernel)
theorem sw_57 : (Cond.selects RX12 yX12_number yX12_number) ∈ sw_all := sw_i 57 (by decide +kernel)
theorem sw_58 : (Cond.selects RX12 yX12_endsWell yX12_endsWell) ∈ sw_all := sw_i 58 (by decide +kernel)
theorem sw_68 : (Cond.selects RX12 yX12_sum yX12_sum) ∈ sw_all := sw_i 68 (by decide +kernel)
theorem sw_74 : (Cond.selects RX12 yX12_unlikes yX12_unlikes) ∈ sw_all := sw_i 74 (by decide +kernel)
theorem sw_75 : (Cond.selects RX12 yX12_isThing yX12_isThing) ∈ sw_all := sw_i 75 (by decide +kernel)
theorem sw_79 : (Cond.selects RX12 yX12_isTotal yX12_isTotal) ∈ sw_all := sw_i 79 (by decide +kernel)
theorem sw_82 : (Cond.selects RX12 yX12_isTeam yX12_isTeam) ∈ sw_all := sw_i 82 (by decide +kernel)
theorem sw_84 : (Cond.selects RX12 yX12_isHeavy yX12_isHeavy) ∈ sw_all := sw_i 84 (by decide +kernel)
theorem sw_107 : (Cond.selects RX12 yX12_refusesFor yX12_refusesFor) ∈ sw_all := sw_i 107 (by decide +kernel)
theorem sw_110 : (Cond.selects RX12 yX12_says yX12_says) ∈ sw_all := sw_i 110 (by decide +kernel)
theorem sw_112 : (Cond.selects RX12 yX12_isImage yX12_isImage) ∈ sw_all := sw_i 112 (by decide +kernel)
theorem sw_115 : (Cond.initialized RX11) ∈ sw_all := sw_i 115 (by decide +kernel)
theorem sw_116 : (Cond.initialized RX9) ∈ sw_all := sw_i 116 (by decide +kernel)
theorem sw_117 : (Cond.initialized RX3) ∈ sw_all := sw_i 117 (by decide +kernel)
theorem sw_118 : (Cond.initialized RX4) ∈ sw_all := sw_i 118 (by decide +kernel)
theorem sw_119 : (Cond.initialized RX8) ∈ sw_all := sw_i 119 (by decide +kernel)
theorem sw_120 : (Cond.initialized RX1) ∈ sw_all := sw_i 120 (by decide +kernel)
theorem sw_121 : (Cond.initialized RX5) ∈ sw_all := sw_i 121 (by decide +kernel)
theorem sw_122 : (Cond.initialized RX2) ∈ sw_all := sw_i 122 (by decide +kernel)
theorem sw_123 : (Cond.initialized RX10) ∈ sw_all := sw_i 123 (by decide +kernel)
theorem sw_124 : (Cond.initialized RX0) ∈ sw_all := sw_i 124 (by decide +kernel)
theorem sw_125 : (Cond.initialized RX7) ∈ sw_all := sw_i 125 (by decide +kernel)
theorem sw_126 : (Cond.initialized RX6) ∈ sw_all := sw_i 126 (by decide +kernel)
theorem sw_127 : (Cond.initialized RX12) ∈ sw_all := sw_i 127 (by decide +kernel)
theorem sw_143 : (Cond.methodLink RX11 3 objectInit) ∈ sw_all := sw_i 143 (by decide +kernel)
theorem sw_144 : (Cond.instanceMethod objectInit) ∈ sw_all := sw_i 144 (by decide +kernel)
theorem sw_145 : (Cond.code objectInit ⟨#[0xb1]⟩ 1 none) ∈ sw_all := sw_i 145 (by decide +kernel)
theorem sw_146 : (Cond.classLink RX11 9 RX9) ∈ sw_all := sw_i 146 (by decide +kernel)
theorem sw_147 : (Cond.instantiable RX9 2) ∈ sw_all := sw_i 147 (by decide +kernel)
theorem sw_148 : (Cond.methodLinkNest RX11 11 yX9_init "ShareWheel") ∈ sw_all := sw_i 148 (by decide +kernel)
theorem sw_149 : (Cond.instanceMethod yX9_init) ∈ sw_all := sw_i 149 (by decide +kernel)
theorem sw_150 : (Cond.code yX9_init cX9_init 1 none) ∈ sw_all := sw_i 150 (by decide +kernel)
theorem sw_151 : (Cond.methodLink RX9 3 objectInit) ∈ sw_all := sw_i 151 (by decide +kernel)
theorem sw_152 : (Cond.fieldLink RX9 9 "ShareWheel$Tape" "words" "[I") ∈ sw_all := sw_i 152 (by decide +kernel)
theorem sw_153 : (Cond.fieldLinkNest RX11 78 "ShareWheel$Tape" "words" "[I" "ShareWheel") ∈ sw_all := sw_i 153 (by decide +kernel)
theorem sw_157 : (Cond.fieldLinkNest RX11 113 "ShareWheel$Tape" "length" "I" "ShareWheel") ∈ sw_all := sw_i 157 (by decide +kernel)
theorem sw_158 : (Cond.fieldLink RX9 15 "ShareWheel$Tape" "length" "I") ∈ sw_all := sw_i 158 (by decide +kernel)
theorem sw_165 : (Cond.arrayClass .int) ∈ sw_all := sw_i 165 (by decide +kernel)
theorem sw_166 : (Cond.classLink RX11 16 RX3) ∈ sw_all := sw_i 166 (by decide +kernel)
theorem sw_167 : (Cond.instantiable RX3 8) ∈ sw_all := sw_i 167 (by decide +kernel)
theorem sw_168 : (Cond.methodLinkNest RX11 18 yX3_init "ShareWheel") ∈ sw_all := sw_i 168 (by decide +kernel)
theorem sw_169 : (Cond.instanceMethod yX3_init) ∈ sw_all := sw_i 169 (by decide +kernel)
theorem sw_170 : (Cond.code yX3_init cX3_init 1 none) ∈ sw_all := sw_i 170 (by decide +kernel)
theorem sw_171 : (Cond.methodLink RX3 3 objectInit) ∈ sw_all := sw_i 171 (by decide +kernel)
theorem sw_172 : (Cond.fieldLink RX3 9 "ShareWheel$Plan" "names" "[I") ∈ sw_all := sw_i 172 (by decide +kernel)
theorem sw_174 : (Cond.fieldLink RX3 15 "ShareWheel$Plan" "weights" "[I") ∈ sw_all := sw_i 174 (by decide +kernel)
theorem sw_176 : (Cond.fieldLink RX3 18 "ShareWheel$Plan" "teamNames" "[I") ∈ sw_all := sw_i 176 (by decide +kernel)
theorem sw_178 : (Cond.fieldLink RX3 21 "ShareWheel$Plan" "masks" "[I") ∈ sw_all := sw_i 178 (by decide +kernel)
theorem sw_180 : (Cond.fieldLinkNest RX11 137 "ShareWheel$Plan" "told" "Z" "ShareWheel") ∈ sw_all := sw_i 180 (by decide +kernel)
theorem sw_189 : (Cond.fieldLinkNest RX11 468 "ShareWheel$Plan" "teams" "I" "ShareWheel") ∈ sw_all := sw_i 189 (by decide +kernel)
theorem sw_207 : (Cond.classLink RX11 23 RX4) ∈ sw_all := sw_i 207 (by decide +kernel)
theorem sw_208 : (Cond.instantiable RX4 9) ∈ sw_all := sw_i 208 (by decide +kernel)
theorem sw_209 : (Cond.methodLink RX11 25 yX4_init) ∈ sw_all := sw_i 209 (by decide +kernel)
theorem sw_210 : (Cond.instanceMethod yX4_init) ∈ sw_all := sw_i 210 (by decide +kernel)
theorem sw_211 : (Cond.code yX4_init cX4_init 2 none) ∈ sw_all := sw_i 211 (by decide +kernel)
theorem sw_212 : (Cond.methodLink RX4 3 objectInit) ∈ sw_all := sw_i 212 (by decide +kernel)
theorem sw_213 : (Cond.classLink RX4 9 RX3) ∈ sw_all := sw_i 213 (by decide +kernel)
theorem sw_214 : (Cond.methodLinkNest RX4 11 yX3_init "ShareWheel") ∈ sw_all := sw_i 214 (by decide +kernel)
theorem sw_215 : (Cond.fieldLink RX4 22 "ShareWheel$Reader" "tape" "LShareWheel$Tape;") ∈ sw_all := sw_i 215 (by decide +kernel)
theorem sw_216 : (Cond.fieldLink RX4 12 "ShareWheel$Reader" "plan" "LShareWheel$Plan;") ∈ sw_all := sw_i 216 (by decide +kernel)
theorem sw_224 : (Cond.fieldLinkNest RX11 152 "ShareWheel$Reader" "fault" "I" "ShareWheel") ∈ sw_all := sw_i 224 (by decide +kernel)
theorem sw_225 : (Cond.fieldLink RX4 18 "ShareWheel$Reader" "place" "I") ∈ sw_all := sw_i 225 (by decide +kernel)
theorem sw_226 : (Cond.fieldLinkNest RX11 155 "ShareWheel$Reader" "place" "I" "ShareWheel") ∈ sw_all := sw_i 226 (by decide +kernel)
theorem sw_246 : (Cond.classLink RX11 32 RX8) ∈ sw_all := sw_i 246 (by decide +kernel)
theorem sw_247 : (Cond.instantiable RX8 10) ∈ sw_all := sw_i 247 (by decide +kernel)
theorem sw_248 : (Cond.methodLinkNest RX11 34 yX8_init "ShareWheel") ∈ sw_all := sw_i 248 (by decide +kernel)
theorem sw_249 : (Cond.instanceMethod yX8_init) ∈ sw_all := sw_i 249 (by decide +kernel)
theorem sw_250 : (Cond.code yX8_init cX8_init 1 none) ∈ sw_all := sw_i 250 (by decide +kernel)
theorem sw_251 : (Cond.methodLink RX8 3 objectInit) ∈ sw_all := sw_i 251 (by decide +kernel)
theorem sw_252 : (Cond.fieldLink RX8 9 "ShareWheel$State" "old" "[I") ∈ sw_all := sw_i 252 (by decide +kernel)
theorem sw_255 : (Cond.fieldLink RX8 15 "ShareWheel$State" "now" "[I") ∈ sw_all := sw_i 255 (by decide +kernel)
theorem sw_258 : (Cond.fieldLink RX8 18 "ShareWheel$State" "count" "[I") ∈ sw_all := sw_i 258 (by decide +kernel)
theorem sw_260 : (Cond.fieldLink RX8 21 "ShareWheel$State" "words" "[I") ∈ sw_all := sw_i 260 (by decide +kernel)
theorem sw_261 : (Cond.fieldLinkNest RX11 89 "ShareWheel$State" "words" "[I" "ShareWheel") ∈ sw_all := sw_i 261 (by decide +kernel)
theorem sw_264 : (Cond.fieldLinkNest RX11 451 "ShareWheel$State" "things" "I" "ShareWheel") ∈ sw_all := sw_i 264 (by decide +kernel)
theorem sw_266 : (Cond.fieldLinkNest RX11 167 "ShareWheel$State" "limit" "I" "ShareWheel") ∈ sw_all := sw_i 266 (by decide +kernel)
theorem sw_296 : (Cond.classLink RX11 39 RX1) ∈ sw_all := sw_i 296 (by decide +kernel)
theorem sw_297 : (Cond.instantiable RX1 3) ∈ sw_all := sw_i 297 (by decide +kernel)
theorem sw_298 : (Cond.methodLinkNest RX11 41 yX1_init "ShareWheel") ∈ sw_all := sw_i 298 (by decide +kernel)
theorem sw_299 : (Cond.instanceMethod yX1_init) ∈ sw_all := sw_i 299 (by decide +kernel)
theorem sw_300 : (Cond.code yX1_init cX1_init 1 none) ∈ sw_all := sw_i 300 (by decide +kernel)
theorem sw_301 : (Cond.methodLink RX1 3 objectInit) ∈ sw_all := sw_i 301 (by decide +kernel)
theorem sw_302 : (Cond.classLink RX1 9 RX8) ∈ sw_all := sw_i 302 (by decide +kernel)
theorem sw_303 : (Cond.arrayOver (.object "ShareWheel$State")) ∈ sw_all := sw_i 303 (by decide +kernel)
theorem sw_304 : (Cond.fieldLink RX1 11 "ShareWheel$History" "ring" "[LShareWheel$State;") ∈ sw_all := sw_i 304 (by decide +kernel)
theorem sw_305 : (Cond.fieldLink RX1 17 "ShareWheel$History" "next" "I") ∈ sw_all := sw_i 305 (by decide +kernel)
theorem sw_306 : (Cond.fieldLink RX1 26 "ShareWheel$History" "count" "I") ∈ sw_all := sw_i 306 (by decide +kernel)
theorem sw_315 : (Cond.classLink RX11 46 RX5) ∈ sw_all := sw_i 315 (by decide +kernel)
theorem sw_316 : (Cond.instantiable RX5 15) ∈ sw_all := sw_i 316 (by decide +kernel)
theorem sw_317 : (Cond.methodLinkNest RX11 48 yX5_init "ShareWheel") ∈ sw_all := sw_i 317 (by decide +kernel)
theorem sw_318 : (Cond.instanceMethod yX5_init) ∈ sw_all := sw_i 318 (by decide +kernel)
theorem sw_319 : (Cond.code yX5_init cX5_init 1 none) ∈ sw_all := sw_i 319 (by decide +kernel)
theorem sw_320 : (Cond.methodLink RX5 3 objectInit) ∈ sw_all := sw_i 320 (by decide +kernel)
theorem sw_321 : (Cond.fieldLink RX5 9 "ShareWheel$Scales" "old" "[I") ∈ sw_all := sw_i 321 (by decide +kernel)
theorem sw_324 : (Cond.fieldLink RX5 15 "ShareWheel$Scales" "now" "[I") ∈ sw_all := sw_i 324 (by decide +kernel)
theorem sw_326 : (Cond.fieldLink RX5 18 "ShareWheel$Scales" "part" "[I") ∈ sw_all := sw_i 326 (by decide +kernel)
theorem sw_328 : (Cond.fieldLink RX5 21 "ShareWheel$Scales" "band" "[I") ∈ sw_all := sw_i 328 (by decide +kernel)
theorem sw_331 : (Cond.fieldLink RX5 24 "ShareWheel$Scales" "bandSize" "[I") ∈ sw_all := sw_i 331 (by decide +kernel)
theorem sw_334 : (Cond.fieldLink RX5 27 "ShareWheel$Scales" "bandSum" "[I") ∈ sw_all := sw_i 334 (by decide +kernel)
theorem sw_337 : (Cond.fieldLink RX5 30 "ShareWheel$Scales" "own" "[I") ∈ sw_all := sw_i 337 (by decide +kernel)
theorem sw_340 : (Cond.fieldLink RX5 33 "ShareWheel$Scales" "alias" "[I") ∈ sw_all := sw_i 340 (by decide +kernel)
theorem sw_343 : (Cond.fieldLink RX5 58 "ShareWheel$Scales" "things" "I") ∈ sw_all := sw_i 343 (by decide +kernel)
theorem sw_345 : (Cond.fieldLinkNest RX11 164 "ShareWheel$Scales" "things" "I" "ShareWheel") ∈ sw_all := sw_i 345 (by decide +kernel)
theorem sw_349 : (Cond.fieldLinkNest RX11 170 "ShareWheel$Scales" "total" "I" "ShareWheel") ∈ sw_all := sw_i 349 (by decide +kernel)
theorem sw_350 : (Cond.fieldLink RX5 62 "ShareWheel$Scales" "base" "I") ∈ sw_all := sw_i 350 (by decide +kernel)
theorem sw_352 : (Cond.fieldLinkNest RX11 173 "ShareWheel$Scales" "base" "I" "ShareWheel") ∈ sw_all := sw_i 352 (by decide +kernel)
theorem sw_355 : (Cond.fieldLinkNest RX11 176 "ShareWheel$Scales" "gain" "I" "ShareWheel") ∈ sw_all := sw_i 355 (by decide +kernel)
theorem sw_359 : (Cond.fieldLinkNest RX11 185 "ShareWheel$Scales" "unlike" "I" "ShareWheel") ∈ sw_all := sw_i 359 (by decide +kernel)
theorem sw_393 : (Cond.classLink RX11 53 RX2) ∈ sw_all := sw_i 393 (by decide +kernel)
theorem sw_394 : (Cond.instantiable RX2 1) ∈ sw_all := sw_i 394 (by decide +kernel)
theorem sw_395 : (Cond.methodLink RX11 55 yX2_init) ∈ sw_all := sw_i 395 (by decide +kernel)
theorem sw_396 : (Cond.instanceMethod yX2_init) ∈ sw_all := sw_i 396 (by decide +kernel)
theorem sw_397 : (Cond.code yX2_init cX2_init 2 none) ∈ sw_all := sw_i 397 (by decide +kernel)
theorem sw_398 : (Cond.methodLink RX2 3 objectInit) ∈ sw_all := sw_i 398 (by decide +kernel)
theorem sw_399 : (Cond.fieldLink RX2 9 "ShareWheel$Picker" "scales" "LShareWheel$Scales;") ∈ sw_all := sw_i 399 (by decide +kernel)
theorem sw_403 : (Cond.classLink RX11 62 RX10) ∈ sw_all := sw_i 403 (by decide +kernel)
theorem sw_404 : (Cond.instantiable RX10 7) ∈ sw_all := sw_i 404 (by decide +kernel)
theorem sw_405 : (Cond.methodLinkNest RX11 64 yX10_init "ShareWheel") ∈ sw_all := sw_i 405 (by decide +kernel)
theorem sw_406 : (Cond.instanceMethod yX10_init) ∈ sw_all := sw_i 406 (by decide +kernel)
theorem sw_407 : (Cond.code yX10_init cX10_init 1 none) ∈ sw_all := sw_i 407 (by decide +kernel)
theorem sw_408 : (Cond.methodLink RX10 1 objectInit) ∈ sw_all := sw_i 408 (by decide +kernel)
theorem sw_409 : (Cond.classLink RX10 13 RX0) ∈ sw_all := sw_i 409 (by decide +kernel)
theorem sw_410 : (Cond.instantiable RX0 4) ∈ sw_all := sw_i 410 (by decide +kernel)
theorem sw_411 : (Cond.methodLink RX10 15 yX0_init) ∈ sw_all := sw_i 411 (by decide +kernel)
theorem sw_412 : (Cond.instanceMethod yX0_init) ∈ sw_all := sw_i 412 (by decide +kernel)
theorem sw_413 : (Cond.code yX0_init cX0_init 2 none) ∈ sw_all := sw_i 413 (by decide +kernel)
theorem sw_414 : (Cond.methodLink RX0 3 objectInit) ∈ sw_all := sw_i 414 (by decide +kernel)
theorem sw_415 : (Cond.fieldLink RX0 9 "ShareWheel$Bits" "words" "[I") ∈ sw_all := sw_i 415 (by decide +kernel)
theorem sw_428 : (Cond.fieldLink RX10 7 "ShareWheel$Walk" "line" "[I") ∈ sw_all := sw_i 428 (by decide +kernel)
theorem sw_429 : (Cond.fieldLink RX10 18 "ShareWheel$Walk" "bits" "LShareWheel$Bits;") ∈ sw_all := sw_i 429 (by decide +kernel)
theorem sw_457 : (Cond.classLink RX11 69 RX7) ∈ sw_all := sw_i 457 (by decide +kernel)
theorem sw_458 : (Cond.instantiable RX7 9) ∈ sw_all := sw_i 458 (by decide +kernel)
theorem sw_459 : (Cond.methodLinkNest RX11 71 yX7_init "ShareWheel") ∈ sw_all := sw_i 459 (by decide +kernel)
theorem sw_460 : (Cond.instanceMethod yX7_init) ∈ sw_all := sw_i 460 (by decide +kernel)
theorem sw_461 : (Cond.code yX7_init cX7_init 1 none) ∈ sw_all := sw_i 461 (by decide +kernel)
theorem sw_462 : (Cond.methodLink RX7 3 objectInit) ∈ sw_all := sw_i 462 (by decide +kernel)
theorem sw_463 : (Cond.classLink RX7 18 RX5) ∈ sw_all := sw_i 463 (by decide +kernel)
theorem sw_464 : (Cond.methodLinkNest RX7 20 yX5_init "ShareWheel") ∈ sw_all := sw_i 464 (by decide +kernel)
theorem sw_465 : (Cond.classLink RX7 25 RX2) ∈ sw_all := sw_i 465 (by decide +kernel)
theorem sw_466 : (Cond.methodLink RX7 27 yX2_init) ∈ sw_all := sw_i 466 (by decide +kernel)
theorem sw_467 : (Cond.classLink RX7 37 RX0) ∈ sw_all := sw_i 467 (by decide +kernel)
theorem sw_468 : (Cond.methodLink RX7 39 yX0_init) ∈ sw_all := sw_i 468 (by decide +kernel)
theorem sw_469 : (Cond.fieldLink RX7 9 "ShareWheel$Seen" "rowBits" "[I") ∈ sw_all := sw_i 469 (by decide +kernel)
theorem sw_470 : (Cond.fieldLink RX7 15 "ShareWheel$Seen" "rowThing" "[I") ∈ sw_all := sw_i 470 (by decide +kernel)
theorem sw_471 : (Cond.fieldLink RX7 21 "ShareWheel$Seen" "trial" "LShareWheel$Scales;") ∈ sw_all := sw_i 471 (by decide +kernel)
theorem sw_472 : (Cond.fieldLink RX7 30 "ShareWheel$Seen" "picker" "LShareWheel$Picker;") ∈ sw_all := sw_i 472 (by decide +kernel)
theorem sw_473 : (Cond.fieldLink RX7 34 "ShareWheel$Seen" "line" "[I") ∈ sw_all := sw_i 473 (by decide +kernel)
theorem sw_474 : (Cond.fieldLink RX7 42 "ShareWheel$Seen" "bits" "LShareWheel$Bits;") ∈ sw_all := sw_i 474 (by decide +kernel)
theorem sw_477 : (Cond.fieldLinkNest RX11 147 "ShareWheel$Seen" "count" "I" "ShareWheel") ∈ sw_all := sw_i 477 (by decide +kernel)
theorem sw_498 : (Cond.classLink RX11 76 RX0) ∈ sw_all := sw_i 498 (by decide +kernel)
theorem sw_499 : (Cond.methodLink RX11 82 yX0_init) ∈ sw_all := sw_i 499 (by decide +kernel)
theorem sw_500 : (Cond.classLink RX11 93 RX6) ∈ sw_all := sw_i 500 (by decide +kernel)
theorem sw_501 : (Cond.instantiable RX6 5) ∈ sw_all := sw_i 501 (by decide +kernel)
theorem sw_502 : (Cond.methodLink RX11 95 yX6_init) ∈ sw_all := sw_i 502 (by decide +kernel)
theorem sw_503 : (Cond.instanceMethod yX6_init) ∈ sw_all := sw_i 503 (by decide +kernel)
theorem sw_504 : (Cond.code yX6_init cX6_init 1 none) ∈ sw_all := sw_i 504 (by decide +kernel)
theorem sw_505 : (Cond.methodLink RX6 3 yX0_init) ∈ sw_all := sw_i 505 (by decide +kernel)
theorem sw_506 : (Cond.fieldLinkNest RX11 109 "ShareWheel$SeedBits" "x" "I" "ShareWheel") ∈ sw_all := sw_i 506 (by decide +kernel)
theorem sw_515 : (Cond.fieldLink RX11 12 "ShareWheel" "tape" "LShareWheel$Tape;") ∈ sw_all := sw_i 515 (by decide +kernel)
theorem sw_516 : (Cond.fieldLink RX11 19 "ShareWheel" "plan" "LShareWheel$Plan;") ∈ sw_all := sw_i 516 (by decide +kernel)
theorem sw_517 : (Cond.fieldLink RX11 28 "ShareWheel" "reader" "LShareWheel$Reader;") ∈ sw_all := sw_i 517 (by decide +kernel)
theorem sw_518 : (Cond.fieldLink RX11 35 "ShareWheel" "state" "LShareWheel$State;") ∈ sw_all := sw_i 518 (by decide +kernel)
theorem sw_519 : (Cond.fieldLink RX11 42 "ShareWheel" "history" "LShareWheel$History;") ∈ sw_all := sw_i 519 (by decide +kernel)
theorem sw_520 : (Cond.fieldLink RX11 49 "ShareWheel" "scales" "LShareWheel$Scales;") ∈ sw_all := sw_i 520 (by decide +kernel)
theorem sw_521 : (Cond.fieldLink RX11 58 "ShareWheel" "picker" "LShareWheel$Picker;") ∈ sw_all := sw_i 521 (by decide +kernel)
theorem sw_522 : (Cond.fieldLink RX11 65 "ShareWheel" "walk" "LShareWheel$Walk;") ∈ sw_all := sw_i 522 (by decide +kernel)
theorem sw_523 : (Cond.fieldLink RX11 72 "ShareWheel" "seen" "LShareWheel$Seen;") ∈ sw_all := sw_i 523 (by decide +kernel)
theorem sw_524 : (Cond.fieldLink RX11 85 "ShareWheel" "tapeBits" "LShareWheel$Bits;") ∈ sw_all := sw_i 524 (by decide +kernel)
theorem sw_525 : (Cond.fieldLink RX11 90 "ShareWheel" "storedBits" "LShareWheel$Bits;") ∈ sw_all := sw_i 525 (by decide +kernel)
theorem sw_526 : (Cond.fieldLink RX11 96 "ShareWheel" "seedBits" "LShareWheel$SeedBits;") ∈ sw_all := sw_i 526 (by decide +kernel)
theorem sw_527 : (Cond.fieldLink RX11 100 "ShareWheel" "tally" "[I") ∈ sw_all := sw_i 527 (by decide +kernel)
theorem sw_528 : (Cond.fieldLink RX11 103 "ShareWheel" "refused" "[I") ∈ sw_all := sw_i 528 (by decide +kernel)
theorem sw_529 : (Cond.fieldLink RX11 106 "ShareWheel" "picture" "[I") ∈ sw_all := sw_i 529 (by decide +kernel)
theorem sw_530 : (Cond.fieldLink RX11 445 "ShareWheel" "pictureSize" "I") ∈ sw_all := sw_i 530 (by decide +kernel)
theorem sw_531 : (Cond.fieldLink RX11 405 "ShareWheel" "reason" "I") ∈ sw_all := sw_i 531 (by decide +kernel)
theorem sw_532 : (Cond.fieldLink RX11 408 "ShareWheel" "cause" "I") ∈ sw_all := sw_i 532 (by decide +kernel)
theorem sw_574 : (Cond.methodLink RX11 116 yX11_refuse) ∈ sw_all := sw_i 574 (by decide +kernel)
theorem sw_576 : (Cond.instanceMethod yX11_refuse) ∈ sw_all := sw_i 576 (by decide +kernel)
theorem sw_577 : (Cond.code yX11_refuse cX11_refuse 2 (some .int)) ∈ sw_all := sw_i 577 (by decide +kernel)
theorem sw_578 : (Cond.methodLink RX11 120 yX9_add) ∈ sw_all := sw_i 578 (by decide +kernel)
theorem sw_579 : (Cond.instanceMethod yX9_add) ∈ sw_all := sw_i 579 (by decide +kernel)
theorem sw_580 : (Cond.selects RX9 yX9_add yX9_add) ∈ sw_all := sw_i 580 (by decide +kernel)
theorem sw_581 : (Cond.code yX9_add cX9_add 3 none) ∈ sw_all := sw_i 581 (by decide +kernel)
theorem sw_582 : (Cond.methodLinkNest RX9 19 yX11_putByte "ShareWheel") ∈ sw_all := sw_i 582 (by decide +kernel)
theorem sw_583 : (Cond.static yX11_putByte) ∈ sw_all := sw_i 583 (by decide +kernel)
theorem sw_584 : (Cond.code yX11_putByte cX11_putByte 5 none) ∈ sw_all := sw_i 584 (by decide +kernel)
theorem sw_589 : (Cond.methodLink RX11 124 yX11_deny) ∈ sw_all := sw_i 589 (by decide +kernel)
theorem sw_591 : (Cond.instanceMethod yX11_deny) ∈ sw_all := sw_i 591 (by decide +kernel)
theorem sw_592 : (Cond.code yX11_deny cX11_deny 2 (some .boolean)) ∈ sw_all := sw_i 592 (by decide +kernel)
theorem sw_821 : (Cond.constant RX11 197 (65535)) ∈ sw_all := sw_i 821 (by decide +kernel)
theorem sw_830 : (Cond.methodLink RX11 204 yX11_isThing) ∈ sw_all := sw_i 830 (by decide +kernel)
theorem sw_832 : (Cond.instanceMethod yX11_isThing) ∈ sw_all := sw_i 832 (by decide +kernel)
theorem sw_833 : (Cond.code yX11_isThing cX11_isThing 2 (some .boolean)) ∈ sw_all := sw_i 833 (by decide +kernel)
theorem sw_847 : (Cond.constantLong RX11 228 (-1)) ∈ sw_all := sw_i 847 (by decide +kernel)
theorem sw_854 : (Cond.methodLink RX11 237 yX5_columns) ∈ sw_all := sw_i 854 (by decide +kernel)
theorem sw_855 : (Cond.instanceMethod yX5_columns) ∈ sw_all := sw_i 855 (by decide +kernel)
theorem sw_856 : (Cond.selects RX5 yX5_columns yX5_columns) ∈ sw_all := sw_i 856 (by decide +kernel)
theorem sw_857 : (Cond.code yX5_columns cX5_columns 1 (some .int)) ∈ sw_all := sw_i 857 (by decide +kernel)
theorem sw_867 : (Cond.methodLink RX11 249 yX5_ranked) ∈ sw_all := sw_i 867 (by decide +kernel)
theorem sw_868 : (Cond.instanceMethod yX5_ranked) ∈ sw_all := sw_i 868 (by decide +kernel)
theorem sw_869 : (Cond.selects RX5 yX5_ranked yX5_ranked) ∈ sw_all := sw_i 869 (by decide +kernel)
theorem sw_870 : (Cond.code yX5_ranked cX5_ranked 5 (some .int)) ∈ sw_all := sw_i 870 (by decide +kernel)
theorem sw_875 : (Cond.methodLink RX11 252 yX11_lowest) ∈ sw_all := sw_i 875 (by decide +kernel)
theorem sw_876 : (Cond.static yX11_lowest) ∈ sw_all := sw_i 876 (by decide +kernel)
theorem sw_877 : (Cond.code yX11_lowest cX11_lowest 4 (some .int)) ∈ sw_all := sw_i 877 (by decide +kernel)
theorem sw_915 : (Cond.constant RX11 277 (-1000000)) ∈ sw_all := sw_i 915 (by decide +kernel)
theorem sw_928 : (Cond.methodLink RX11 281 yX11_isTeam) ∈ sw_all := sw_i 928 (by decide +kernel)
theorem sw_930 : (Cond.instanceMethod yX11_isTeam) ∈ sw_all := sw_i 930 (by decide +kernel)
theorem sw_931 : (Cond.code yX11_isTeam cX11_isTeam 2 (some .boolean)) ∈ sw_all := sw_i 931 (by decide +kernel)
theorem sw_932 : (Cond.methodLink RX11 287 yX5_together) ∈ sw_all := sw_i 932 (by decide +kernel)
theorem sw_933 : (Cond.instanceMethod yX5_together) ∈ sw_all := sw_i 933 (by decide +kernel)
theorem sw_934 : (Cond.selects RX5 yX5_together yX5_together) ∈ sw_all := sw_i 934 (by decide +kernel)
theorem sw_935 : (Cond.code yX5_together cX5_together 4 (some .int)) ∈ sw_all := sw_i 935 (by decide +kernel)
theorem sw_952 : (Cond.methodLink RX11 296 yX11_triedOnTape) ∈ sw_all := sw_i 952 (by decide +kernel)
theorem sw_954 : (Cond.instanceMethod yX11_triedOnTape) ∈ sw_all := sw_i 954 (by decide +kernel)
theorem sw_955 : (Cond.code yX11_triedOnTape cX11_triedOnTape 6 (some .int)) ∈ sw_all := sw_i 955 (by decide +kernel)
theorem sw_1068 : (Cond.methodLink RX11 312 yX11_isWay) ∈ sw_all := sw_i 1068 (by decide +kernel)
theorem sw_1069 : (Cond.static yX11_isWay) ∈ sw_all := sw_i 1069 (by decide +kernel)
theorem sw_1070 : (Cond.code yX11_isWay cX11_isWay 1 (some .boolean)) ∈ sw_all := sw_i 1070 (by decide +kernel)
theorem sw_1157 : (Cond.methodLink RX11 381 yX11_judge) ∈ sw_all := sw_i 1157 (by decide +kernel)
theorem sw_1159 : (Cond.instanceMethod yX11_judge) ∈ sw_all := sw_i 1159 (by decide +kernel)
theorem sw_1160 : (Cond.code yX11_judge cX11_judge 7 (some .int)) ∈ sw_all := sw_i 1160 (by decide +kernel)
theorem sw_1161 : (Cond.methodLink RX11 391 yX11_turnDown) ∈ sw_all := sw_i 1161 (by decide +kernel)
theorem sw_1163 : (Cond.instanceMethod yX11_turnDown) ∈ sw_all := sw_i 1163 (by decide +kernel)
theorem sw_1164 : (Cond.code yX11_turnDown cX11_turnDown 3 (some .int)) ∈ sw_all := sw_i 1164 (by decide +kernel)
theorem sw_1236 : (Cond.methodLink RX11 441 yX1_goBack) ∈ sw_all := sw_i 1236 (by decide +kernel)
theorem sw_1237 : (Cond.instanceMethod yX1_goBack) ∈ sw_all := sw_i 1237 (by decide +kernel)
theorem sw_1238 : (Cond.selects RX1 yX1_goBack yX1_goBack) ∈ sw_all := sw_i 1238 (by decide +kernel)
theorem sw_1239 : (Cond.code yX1_goBack cX1_goBack 3 (some .boolean)) ∈ sw_all := sw_i 1239 (by decide +kernel)
theorem sw_1248 : (Cond.methodLink RX11 448 yX11_draw) ∈ sw_all := sw_i 1248 (by decide +kernel)
theorem sw_1250 : (Cond.instanceMethod yX11_draw) ∈ sw_all := sw_i 1250 (by decide +kernel)
theorem sw_1251 : (Cond.code yX11_draw cX11_draw 2 none) ∈ sw_all := sw_i 1251 (by decide +kernel)
theorem sw_1256 : (Cond.methodLink RX11 455 yX11_nextCheck) ∈ sw_all := sw_i 1256 (by decide +kernel)
theorem sw_1257 : (Cond.static yX11_nextCheck) ∈ sw_all := sw_i 1257 (by decide +kernel)
theorem sw_1258 : (Cond.code yX11_nextCheck cX11_nextCheck 2 (some .int)) ∈ sw_all := sw_i 1258 (by decide +kernel)
theorem sw_1286 : (Cond.methodLink RX12 1 objectInit) ∈ sw_all := sw_i 1286 (by decide +kernel)
theorem sw_1287 : (Cond.constant RX12 87 (65040)) ∈ sw_all := sw_i 1287 (by decide +kernel)
theorem sw_1288 : (Cond.fieldLink RX12 7 "ShareWheelModel" "isWheel" "Z") ∈ sw_all := sw_i 1288 (by decide +kernel)
theorem sw_1289 : (Cond.fieldLink RX12 13 "ShareWheelModel" "things" "I") ∈ sw_all := sw_i 1289 (by decide +kernel)
theorem sw_1290 : (Cond.fieldLink RX12 17 "ShareWheelModel" "names" "[I") ∈ sw_all := sw_i 1290 (by decide +kernel)
theorem sw_1291 : (Cond.fieldLink RX12 21 "ShareWheelModel" "readMany" "I") ∈ sw_all := sw_i 1291 (by decide +kernel)
theorem sw_1292 : (Cond.fieldLink RX12 24 "ShareWheelModel" "readMerge" "I") ∈ sw_all := sw_i 1292 (by decide +kernel)
theorem sw_1293 : (Cond.fieldLink RX12 27 "ShareWheelModel" "readWeight" "[I") ∈ sw_all := sw_i 1293 (by decide +kernel)
theorem sw_1294 : (Cond.fieldLink RX12 30 "ShareWheelModel" "readNames" "[I") ∈ sw_all := sw_i 1294 (by decide +kernel)
theorem sw_1295 : (Cond.fieldLink RX12 33 "ShareWheelModel" "teams" "I") ∈ sw_all := sw_i 1295 (by decide +kernel)
theorem sw_1296 : (Cond.fieldLink RX12 36 "ShareWheelModel" "teamSet" "[I") ∈ sw_all := sw_i 1296 (by decide +kernel)
theorem sw_1297 : (Cond.fieldLink RX12 39 "ShareWheelModel" "teamNames" "[I") ∈ sw_all := sw_i 1297 (by decide +kernel)
theorem sw_1298 : (Cond.fieldLink RX12 42 "ShareWheelModel" "readTeams" "I") ∈ sw_all := sw_i 1298 (by decide +kernel)
theorem sw_1299 : (Cond.fieldLink RX12 45 "ShareWheelModel" "readSet" "[I") ∈ sw_all := sw_i 1299 (by decide +kernel)
theorem sw_1300 : (Cond.fieldLink RX12 48 "ShareWheelModel" "readTeamNames" "[I") ∈ sw_all := sw_i 1300 (by decide +kernel)
theorem sw_1301 : (Cond.fieldLink RX12 51 "ShareWheelModel" "tape" "[I") ∈ sw_all := sw_i 1301 (by decide +kernel)
theorem sw_1302 : (Cond.fieldLink RX12 54 "ShareWheelModel" "taped" "I") ∈ sw_all := sw_i 1302 (by decide +kernel)
theorem sw_1303 : (Cond.fieldLink RX12 57 "ShareWheelModel" "refused" "[I") ∈ sw_all := sw_i 1303 (by decide +kernel)
theorem sw_1304 : (Cond.fieldLink RX12 60 "ShareWheelModel" "faultKind" "I") ∈ sw_all := sw_i 1304 (by decide +kernel)
theorem sw_1305 : (Cond.fieldLink RX12 63 "ShareWheelModel" "faultPlace" "I") ∈ sw_all := sw_i 1305 (by decide +kernel)
theorem sw_1306 : (Cond.fieldLink RX12 66 "ShareWheelModel" "size" "I") ∈ sw_all := sw_i 1306 (by decide +kernel)
theorem sw_1307 : (Cond.fieldLink RX12 69 "ShareWheelModel" "at" "I") ∈ sw_all := sw_i 1307 (by decide +kernel)
theorem sw_1308 : (Cond.fieldLink RX12 72 "ShareWheelModel" "from" "I") ∈ sw_all := sw_i 1308 (by decide +kernel)
theorem sw_1309 : (Cond.fieldLink RX12 75 "ShareWheelModel" "wrong" "I") ∈ sw_all := sw_i 1309 (by decide +kernel)
theorem sw_1310 : (Cond.fieldLink RX12 78 "ShareWheelModel" "wrongAt" "I") ∈ sw_all := sw_i 1310 (by decide +kernel)
theorem sw_1311 : (Cond.fieldLink RX12 81 "ShareWheelModel" "ownLetters" "[I") ∈ sw_all := sw_i 1311 (by decide +kernel)
theorem sw_1312 : (Cond.fieldLink RX12 84 "ShareWheelModel" "now" "[I") ∈ sw_all := sw_i 1312 (by decide +kernel)
theorem sw_1313 : (Cond.fieldLink RX12 88 "ShareWheelModel" "kept" "[I") ∈ sw_all := sw_i 1313 (by decide +kernel)
theorem sw_1314 : (Cond.fieldLink RX12 91 "ShareWheelModel" "undone" "I") ∈ sw_all := sw_i 1314 (by decide +kernel)
theorem sw_1315 : (Cond.fieldLink RX12 94 "ShareWheelModel" "ownOf" "[I") ∈ sw_all := sw_i 1315 (by decide +kernel)
theorem sw_1316 : (Cond.fieldLink RX12 97 "ShareWheelModel" "aliasOf" "[I") ∈ sw_all := sw_i 1316 (by decide +kernel)
theorem sw_1317 : (Cond.fieldLink RX12 100 "ShareWheelModel" "rest" "[J") ∈ sw_all := sw_i 1317 (by decide +kernel)
theorem sw_1318 : (Cond.fieldLink RX12 104 "ShareWheelModel" "isShut" "[I") ∈ sw_all := sw_i 1318 (by decide +kernel)
theorem sw_1319 : (Cond.fieldLink RX12 107 "ShareWheelModel" "source" "I") ∈ sw_all := sw_i 1319 (by decide +kernel)
theorem sw_1320 : (Cond.fieldLink RX12 110 "ShareWheelModel" "bitsAt" "I") ∈ sw_all := sw_i 1320 (by decide +kernel)
theorem sw_1321 : (Cond.fieldLink RX12 113 "ShareWheelModel" "bitsMany" "I") ∈ sw_all := sw_i 1321 (by decide +kernel)
theorem sw_1322 : (Cond.fieldLink RX12 116 "ShareWheelModel" "rowBits" "I") ∈ sw_all := sw_i 1322 (by decide +kernel)
theorem sw_1323 : (Cond.fieldLink RX12 119 "ShareWheelModel" "isOut" "Z") ∈ sw_all := sw_i 1323 (by decide +kernel)
theorem sw_1324 : (Cond.fieldLink RX12 122 "ShareWheelModel" "dealt" "I") ∈ sw_all := sw_i 1324 (by decide +kernel)
theorem sw_1325 : (Cond.fieldLink RX12 125 "ShareWheelModel" "rows" "I") ∈ sw_all := sw_i 1325 (by decide +kernel)
theorem sw_1326 : (Cond.fieldLink RX12 128 "ShareWheelModel" "unknown" "I") ∈ sw_all := sw_i 1326 (by decide +kernel)
theorem sw_1327 : (Cond.fieldLink RX12 131 "ShareWheelModel" "seenBits" "[I") ∈ sw_all := sw_i 1327 (by decide +kernel)
theorem sw_1328 : (Cond.fieldLink RX12 134 "ShareWheelModel" "seenThing" "[I") ∈ sw_all := sw_i 1328 (by decide +kernel)
theorem sw_1329 : (Cond.fieldLink RX12 137 "ShareWheelModel" "isFit" "[I") ∈ sw_all := sw_i 1329 (by decide +kernel)
theorem sw_1330 : (Cond.fieldLink RX12 140 "ShareWheelModel" "tally" "[I") ∈ sw_all := sw_i 1330 (by decide +kernel)
theorem sw_1331 : (Cond.fieldLink RX12 143 "ShareWheelModel" "reason" "I") ∈ sw_all := sw_i 1331 (by decide +kernel)
theorem sw_1332 : (Cond.fieldLink RX12 146 "ShareWheelModel" "cause" "I") ∈ sw_all := sw_i 1332 (by decide +kernel)
theorem sw_1333 : (Cond.fieldLink RX12 149 "ShareWheelModel" "seed" "I") ∈ sw_all := sw_i 1333 (by decide +kernel)
theorem sw_1334 : (Cond.fieldLink RX12 152 "ShareWheelModel" "written" "[I") ∈ sw_all := sw_i 1334 (by decide +kernel)
theorem sw_1335 : (Cond.fieldLink RX12 155 "ShareWheelModel" "outs" "I") ∈ sw_all := sw_i 1335 (by decide +kernel)
theorem sw_1433 : (Cond.arrayClass .long) ∈ sw_all := sw_i 1433 (by decide +kernel)
theorem sw_1438 : (Cond.methodLink RX12 158 yX12_refuses) ∈ sw_all := sw_i 1438 (by decide +kernel)
theorem sw_1440 : (Cond.instanceMethod yX12_refuses) ∈ sw_all := sw_i 1440 (by decide +kernel)
theorem sw_1441 : (Cond.code yX12_refuses cX12_refuses 2 (some .int)) ∈ sw_all := sw_i 1441 (by decide +kernel)
theorem sw_1442 : (Cond.methodLink RX12 162 yX12_lays) ∈ sw_all := sw_i 1442 (by decide +kernel)
theorem sw_1444 : (Cond.instanceMethod yX12_lays) ∈ sw_all := sw_i 1444 (by decide +kernel)
theorem sw_1445 : (Cond.code yX12_lays cX12_lays 3 none) ∈ sw_all := sw_i 1445 (by decide +kernel)
theorem sw_1450 : (Cond.methodLink RX12 166 yX12_isRefused) ∈ sw_all := sw_i 1450 (by decide +kernel)
theorem sw_1452 : (Cond.instanceMethod yX12_isRefused) ∈ sw_all := sw_i 1452 (by decide +kernel)
theorem sw_1453 : (Cond.code yX12_isRefused cX12_isRefused 2 (some .boolean)) ∈ sw_all := sw_i 1453 (by decide +kernel)
theorem sw_1458 : (Cond.methodLink RX12 241 yX12_taken) ∈ sw_all := sw_i 1458 (by decide +kernel)
theorem sw_1460 : (Cond.instanceMethod yX12_taken) ∈ sw_all := sw_i 1460 (by decide +kernel)
theorem sw_1461 : (Cond.code yX12_taken cX12_taken 2 (some .int)) ∈ sw_all := sw_i 1461 (by decide +kernel)
theorem sw_1462 : (Cond.methodLink RX12 244 yX12_readsAll) ∈ sw_all := sw_i 1462 (by decide +kernel)
theorem sw_1464 : (Cond.instanceMethod yX12_readsAll) ∈ sw_all := sw_i 1464 (by decide +kernel)
theorem sw_1465 : (Cond.code yX12_readsAll cX12_readsAll 2 (some .int)) ∈ sw_all := sw_i 1465 (by decide +kernel)
theorem sw_1466 : (Cond.methodLink RX12 216 yX12_must) ∈ sw_all := sw_i 1466 (by decide +kernel)
theorem sw_1468 : (Cond.instanceMethod yX12_must) ∈ sw_all := sw_i 1468 (by decide +kernel)
theorem sw_1469 : (Cond.code yX12_must cX12_must 2 none) ∈ sw_all := sw_i 1469 (by decide +kernel)
theorem sw_1470 : (Cond.methodLink RX12 191 yX12_word) ∈ sw_all := sw_i 1470 (by decide +kernel)
theorem sw_1472 : (Cond.instanceMethod yX12_word) ∈ sw_all := sw_i 1472 (by decide +kernel)
theorem sw_1473 : (Cond.code yX12_word cX12_word 1 none) ∈ sw_all := sw_i 1473 (by decide +kernel)
theorem sw_1474 : (Cond.methodLink RX12 173 yX12_goesWell) ∈ sw_all := sw_i 1474 (by decide +kernel)
theorem sw_1476 : (Cond.instanceMethod yX12_goesWell) ∈ sw_all := sw_i 1476 (by decide +kernel)
theorem sw_1477 : (Cond.code yX12_goesWell cX12_goesWell 1 (some .boolean)) ∈ sw_all := sw_i 1477 (by decide +kernel)
theorem sw_1478 : (Cond.methodLink RX12 177 yX12_here) ∈ sw_all := sw_i 1478 (by decide +kernel)
theorem sw_1480 : (Cond.instanceMethod yX12_here) ∈ sw_all := sw_i 1480 (by decide +kernel)
theorem sw_1481 : (Cond.code yX12_here cX12_here 1 (some .int)) ∈ sw_all := sw_i 1481 (by decide +kernel)
theorem sw_1482 : (Cond.methodLink RX12 170 yX12_byteAt) ∈ sw_all := sw_i 1482 (by decide +kernel)
theorem sw_1484 : (Cond.instanceMethod yX12_byteAt) ∈ sw_all := sw_i 1484 (by decide +kernel)
theorem sw_1485 : (Cond.code yX12_byteAt cX12_byteAt 2 (some .int)) ∈ sw_all := sw_i 1485 (by decide +kernel)
theorem sw_1486 : (Cond.methodLink RX12 181 yX12_isSmall) ∈ sw_all := sw_i 1486 (by decide +kernel)
theorem sw_1488 : (Cond.instanceMethod yX12_isSmall) ∈ sw_all := sw_i 1488 (by decide +kernel)
theorem sw_1489 : (Cond.code yX12_isSmall cX12_isSmall 2 (some .boolean)) ∈ sw_all := sw_i 1489 (by decide +kernel)
theorem sw_1494 : (Cond.methodLink RX12 187 yX12_fails) ∈ sw_all := sw_i 1494 (by decide +kernel)
theorem sw_1496 : (Cond.instanceMethod yX12_fails) ∈ sw_all := sw_i 1496 (by decide +kernel)
theorem sw_1497 : (Cond.code yX12_fails cX12_fails 3 none) ∈ sw_all := sw_i 1497 (by decide +kernel)
theorem sw_1502 : (Cond.methodLink RX12 219 yX12_number) ∈ sw_all := sw_i 1502 (by decide +kernel)
theorem sw_1504 : (Cond.instanceMethod yX12_number) ∈ sw_all := sw_i 1504 (by decide +kernel)
theorem sw_1505 : (Cond.code yX12_number cX12_number 4 (some .int)) ∈ sw_all := sw_i 1505 (by decide +kernel)
theorem sw_1506 : (Cond.methodLink RX12 197 yX12_isIn) ∈ sw_all := sw_i 1506 (by decide +kernel)
theorem sw_1507 : (Cond.static yX12_isIn) ∈ sw_all := sw_i 1507 (by decide +kernel)
theorem sw_1508 : (Cond.code yX12_isIn cX12_isIn 3 (some .boolean)) ∈ sw_all := sw_i 1508 (by decide +kernel)
theorem sw_1509 : (Cond.methodLink RX12 235 yX12_endsWell) ∈ sw_all := sw_i 1509 (by decide +kernel)
theorem sw_1511 : (Cond.instanceMethod yX12_endsWell) ∈ sw_all := sw_i 1511 (by decide +kernel)
theorem sw_1512 : (Cond.code yX12_endsWell cX12_endsWell 1 none) ∈ sw_all := sw_i 1512 (by decide +kernel)
theorem sw_1560 : (Cond.methodLink RX12 269 yX12_sum) ∈ sw_all := sw_i 1560 (by decide +kernel)
theorem sw_1562 : (Cond.instanceMethod yX12_sum) ∈ sw_all := sw_i 1562 (by decide +kernel)
theorem sw_1563 : (Cond.code yX12_sum cX12_sum 4 (some .int)) ∈ sw_all := sw_i 1563 (by decide +kernel)
theorem sw_1590 : (Cond.methodLink RX12 261 yX12_unlikes) ∈ sw_all := sw_i 1590 (by decide +kernel)
theorem sw_1592 : (Cond.instanceMethod yX12_unlikes) ∈ sw_all := sw_i 1592 (by decide +kernel)
theorem sw_1593 : (Cond.code yX12_unlikes cX12_unlikes 3 (some .int)) ∈ sw_all := sw_i 1593 (by decide +kernel)
theorem sw_1598 : (Cond.methodLink RX12 335 yX12_isThing) ∈ sw_all := sw_i 1598 (by decide +kernel)
theorem sw_1600 : (Cond.instanceMethod yX12_isThing) ∈ sw_all := sw_i 1600 (by decide +kernel)
theorem sw_1601 : (Cond.code yX12_isThing cX12_isThing 2 (some .boolean)) ∈ sw_all := sw_i 1601 (by decide +kernel)
theorem sw_1621 : (Cond.constantLong RX12 346 (-1)) ∈ sw_all := sw_i 1621 (by decide +kernel)
theorem sw_1650 : (Cond.methodLink RX12 348 yX12_isTotal) ∈ sw_all := sw_i 1650 (by decide +kernel)
theorem sw_1652 : (Cond.instanceMethod yX12_isTotal) ∈ sw_all := sw_i 1652 (by decide +kernel)
theorem sw_1653 : (Cond.code yX12_isTotal cX12_isTotal 1 (some .boolean)) ∈ sw_all := sw_i 1653 (by decide +kernel)
theorem sw_1691 : (Cond.constant RX12 368 (-1000000)) ∈ sw_all := sw_i 1691 (by decide +kernel)
theorem sw_1700 : (Cond.methodLink RX12 369 yX12_isTeam) ∈ sw_all := sw_i 1700 (by decide +kernel)
theorem sw_1702 : (Cond.instanceMethod yX12_isTeam) ∈ sw_all := sw_i 1702 (by decide +kernel)
theorem sw_1703 : (Cond.code yX12_isTeam cX12_isTeam 2 (some .boolean)) ∈ sw_all := sw_i 1703 (by decide +kernel)
theorem sw_1716 : (Cond.methodLink RX12 375 yX12_isHeavy) ∈ sw_all := sw_i 1716 (by decide +kernel)
theorem sw_1718 : (Cond.instanceMethod yX12_isHeavy) ∈ sw_all := sw_i 1718 (by decide +kernel)
theorem sw_1719 : (Cond.code yX12_isHeavy cX12_isHeavy 2 (some .boolean)) ∈ sw_all := sw_i 1719 (by decide +kernel)
theorem sw_1880 : (Cond.methodLink RX12 417 yX12_refusesFor) ∈ sw_all := sw_i 1880 (by decide +kernel)
theorem sw_1882 : (Cond.instanceMethod yX12_refusesFor) ∈ sw_all := sw_i 1882 (by decide +kernel)
theorem sw_1883 : (Cond.code yX12_refusesFor cX12_refusesFor 3 (some .int)) ∈ sw_all := sw_i 1883 (by decide +kernel)
theorem sw_1935 : (Cond.methodLink RX12 436 yX12_says) ∈ sw_all := sw_i 1935 (by decide +kernel)
theorem sw_1937 : (Cond.instanceMethod yX12_says) ∈ sw_all := sw_i 1937 (by decide +kernel)
theorem sw_1938 : (Cond.code yX12_says cX12_says 2 none) ∈ sw_all := sw_i 1938 (by decide +kernel)
theorem sw_1951 : (Cond.methodLink RX12 445 yX12_isImage) ∈ sw_all := sw_i 1951 (by decide +kernel)
theorem sw_1953 : (Cond.instanceMethod yX12_isImage) ∈ sw_all := sw_i 1953 (by decide +kernel)
theorem sw_1954 : (Cond.code yX12_isImage cX12_isImage 5 (some .boolean)) ∈ sw_all := sw_i 1954 (by decide +kernel)
theorem ix_0 : ∀ w ∈ u_ws RX0 TX0 4, w ∈ sw_all := sw_sub _ [419, 421, 423, 425] (by decide +kernel)
theorem ix_1 : ∀ w ∈ u_ws RX1 TX1 3, w ∈ sw_all := sw_sub _ [308, 310, 312] (by decide +kernel)
theorem ix_2 : ∀ w ∈ u_ws RX2 TX2 1, w ∈ sw_all := sw_sub _ [400] (by decide +kernel)
theorem ix_3 : ∀ w ∈ u_ws RX3 TX3 8, w ∈ sw_all := sw_sub _ [190, 192, 194, 196, 198, 200, 202, 204] (by decide +kernel)
theorem ix_4 : ∀ w ∈ u_ws RX4 TX4 9, w ∈ sw_all := sw_sub _ [227, 229, 231, 233, 235, 237, 239, 241, 243] (by decide +kernel)
theorem ix_5 : ∀ w ∈ u_ws RX5 TX5 15, w ∈ sw_all := sw_sub _ [362, 364, 366, 368, 370, 372, 374, 376, 378, 380, 382, 384, 386, 388, 390] (by decide +kernel)
theorem ix_6 : ∀ w ∈ u_ws RX6 TX6 5, w ∈ sw_all := sw_sub _ [510, 511, 512, 513, 508] (by decide +kernel)
theorem ix_7 : ∀ w ∈ u_ws RX7 TX7 9, w ∈ sw_all := sw_sub _ [479, 481, 483, 485, 487, 489, 491, 493, 495] (by decide +kernel)
theorem ix_8 : ∀ w ∈ u_ws RX8 TX8 10, w ∈ sw_all := sw_sub _ [275, 277, 279, 281, 283, 285, 287, 289, 291, 293] (by decide +kernel)
theorem ix_9 : ∀ w ∈ u_ws RX9 TX9 2, w ∈ sw_all := sw_sub _ [160, 162] (by decide +kernel)
theorem ix_10 : ∀ w ∈ u_ws RX10 TX10 7, w ∈ sw_all := sw_sub _ [442, 444, 446, 448, 450, 452, 454] (by decide +kernel)
theorem ix_11 : ∀ w ∈ u_ws RX11 TX11 18, w ∈ sw_all := sw_sub _ [533, 535, 537, 539, 541, 543, 545, 547, 549, 551, 553, 555, 557, 559, 561, 563, 565, 567] (by decide +kernel)
theorem ix_12 : ∀ w ∈ u_ws RX12 TX12 48, w ∈ sw_all := sw_sub _ [1336, 1338, 1340, 1342, 1344, 1346, 1348, 1350, 1352, 1354, 1356, 1358, 1360, 1362, 1364, 1366, 1368, 1370, 1372, 1374, 1376, 1378, 1380, 1382, 1384, 1386, 1388, 1390, 1392, 1394, 1396, 1398, 1400, 1402, 1404, 1406, 1408, 1410, 1412, 1414, 1416, 1418, 1420, 1422, 1424, 1426, 1428, 1430] (by decide +kernel)
theorem lki_X0_init : lk_i yX0_init cX0_init 2 1 := ⟨⟨sw_413, sw_124, by decide +kernel⟩, rfl, sw_412⟩
theorem lki_X10_init : lk_i yX10_init cX10_init 1 0 := ⟨⟨sw_407, sw_123, by decide +kernel⟩, rfl, sw_406⟩
theorem lki_X1_init : lk_i yX1_init cX1_init 1 0 := ⟨⟨sw_300, sw_120, by decide +kernel⟩, rfl, sw_299⟩
theorem lki_X2_init : lk_i yX2_init cX2_init 2 1 := ⟨⟨sw_397, sw_122, by decide +kernel⟩, rfl, sw_396⟩
theorem lki_X3_init : lk_i yX3_init cX3_init 1 0 := ⟨⟨sw_170, sw_117, by decide +kernel⟩, rfl, sw_169⟩
theorem lki_X4_init : lk_i yX4_init cX4_init 2 1 := ⟨⟨sw_211, sw_118, by decide +kernel⟩, rfl, sw_210⟩
theorem lki_X5_init : lk_i yX5_init cX5_init 1 0 := ⟨⟨sw_319, sw_121, by decide +kernel⟩, rfl, sw_318⟩
theorem lki_X6_init : lk_i yX6_init cX6_init 1 0 := ⟨⟨sw_504, sw_126, by decide +kernel⟩, rfl, sw_503⟩
theorem lki_X7_init : lk_i yX7_init cX7_init 1 0 := ⟨⟨sw_461, sw_125, by decide +kernel⟩, rfl, sw_460⟩
theorem lki_X8_init : lk_i yX8_init cX8_init 1 0 := ⟨⟨sw_250, sw_119, by decide +kernel⟩, rfl, sw_249⟩
theorem lki_X9_init : lk_i yX9_init cX9_init 1 0 := ⟨⟨sw_150, sw_116, by decide +kernel⟩, rfl, sw_149⟩
theorem lks_X11_isWay : lk_s yX11_isWay cX11_isWay 1 (some .boolean) 1 := ⟨⟨sw_1070, sw_115, by decide +kernel⟩, sw_1069⟩
theorem lks_X11_lowest : lk_s yX11_lowest cX11_lowest 4 (some .int) 3 := ⟨⟨sw_877, sw_115, by decide +kernel⟩, sw_876⟩
theorem lks_X11_nextCheck : lk_s yX11_nextCheck cX11_nextCheck 2 (some .int) 2 := ⟨⟨sw_1258, sw_115, by decide +kernel⟩, sw_1257⟩
theorem lks_X11_putByte : lk_s yX11_putByte cX11_putByte 5 none 3 := ⟨⟨sw_584, sw_115, by decide +kernel⟩, sw_583⟩
theorem lks_X12_isIn : lk_s yX12_isIn cX12_isIn 3 (some .boolean) 3 := ⟨⟨sw_1508, sw_127, by decide +kernel⟩, sw_1507⟩
theorem lkv_X11_deny : lk_v yX11_deny cX11_deny 2 (some .boolean) 1 := ⟨⟨sw_592, sw_115, by decide +kernel⟩, sw_591, sw_1⟩
theorem lkv_X11_draw : lk_v yX11_draw cX11_draw 2 none 1 := ⟨⟨sw_1251, sw_115, by decide +kernel⟩, sw_1250, sw_40⟩
theorem lkv_X11_isTeam : lk_v yX11_isTeam cX11_isTeam 2 (some .boolean) 1 := ⟨⟨sw_931, sw_115, by decide +kernel⟩, sw_930, sw_24⟩
theorem lkv_X11_isThing : lk_v yX11_isThing cX11_isThing 2 (some .boolean) 1 := ⟨⟨sw_833, sw_115, by decide +kernel⟩, sw_832, sw_21⟩
theorem lkv_X11_judge : lk_v yX11_judge cX11_judge 7 (some .int) 3 := ⟨⟨sw_1160, sw_115, by decide +kernel⟩, sw_1159, sw_35⟩
theorem lkv_X11_refuse : lk_v yX11_refuse cX11_refuse 2 (some .int) 1 := ⟨⟨sw_577, sw_115, by decide +kernel⟩, sw_576, sw_0⟩
theorem lkv_X11_triedOnTape : lk_v yX11_triedOnTape cX11_triedOnTape 6 (some .int) 3 := ⟨⟨sw_955, sw_115, by decide +kernel⟩, sw_954, sw_25⟩
theorem lkv_X11_turnDown : lk_v yX11_turnDown cX11_turnDown 3 (some .int) 2 := ⟨⟨sw_1164, sw_115, by decide +kernel⟩, sw_1163, sw_36⟩
theorem lkv_X12_byteAt : lk_v yX12_byteAt cX12_byteAt 2 (some .int) 1 := ⟨⟨sw_1485, sw_127, by decide +kernel⟩, sw_1484, sw_52⟩
theorem lkv_X12_endsWell : lk_v yX12_endsWell cX12_endsWell 1 none 0 := ⟨⟨sw_1512, sw_127, by decide +kernel⟩, sw_1511, sw_58⟩
theorem lkv_X12_fails : lk_v yX12_fails cX12_fails 3 none 2 := ⟨⟨sw_1497, sw_127, by decide +kernel⟩, sw_1496, sw_55⟩
theorem lkv_X12_goesWell : lk_v yX12_goesWell cX12_goesWell 1 (some .boolean) 0 := ⟨⟨sw_1477, sw_127, by decide +kernel⟩, sw_1476, sw_50⟩
theorem lkv_X12_here : lk_v yX12_here cX12_here 1 (some .int) 0 := ⟨⟨sw_1481, sw_127, by decide +kernel⟩, sw_1480, sw_51⟩
theorem lkv_X12_isHeavy : lk_v yX12_isHeavy cX12_isHeavy 2 (some .boolean) 1 := ⟨⟨sw_1719, sw_127, by decide +kernel⟩, sw_1718, sw_84⟩
theorem lkv_X12_isImage : lk_v yX12_isImage cX12_isImage 5 (some .boolean) 1 := ⟨⟨sw_1954, sw_127, by decide +kernel⟩, sw_1953, sw_112⟩
theorem lkv_X12_isRefused : lk_v yX12_isRefused cX12_isRefused 2 (some .boolean) 1 := ⟨⟨sw_1453, sw_127, by decide +kernel⟩, sw_1452, sw_45⟩
theorem lkv_X12_isSmall : lk_v yX12_isSmall cX12_isSmall 2 (some .boolean) 1 := ⟨⟨sw_1489, sw_127, by decide +kernel⟩, sw_1488, sw_53⟩
theorem lkv_X12_isTeam : lk_v yX12_isTeam cX12_isTeam 2 (some .boolean) 1 := ⟨⟨sw_1703, sw_127, by decide +kernel⟩, sw_1702, sw_82⟩
theorem lkv_X12_isThing : lk_v yX12_isThing cX12_isThing 2 (some .boolean) 1 := ⟨⟨sw_1601, sw_127, by decide +kernel⟩, sw_1600, sw_75⟩
theorem lkv_X12_isTotal : lk_v yX12_isTotal cX12_isTotal 1 (some .boolean) 0 := ⟨⟨sw_1653, sw_127, by decide +kernel⟩, sw_1652, sw_79⟩
theorem lkv_X12_lays : lk_v yX12_lays cX12_lays 3 none 1 := ⟨⟨sw_1445, sw_127, by decide +kernel⟩, sw_1444, sw_44⟩
theorem lkv_X12_must : lk_v yX12_must cX12_must 2 none 1 := ⟨⟨sw_1469, sw_127, by decide +kernel⟩, sw_1468, sw_48⟩
theorem lkv_X12_number : lk_v yX12_number cX12_number 4 (some .int) 2 := ⟨⟨sw_1505, sw_127, by decide +kernel⟩, sw_1504, sw_57⟩
theorem lkv_X12_readsAll : lk_v yX12_readsAll cX12_readsAll 2 (some .int) 0 := ⟨⟨sw_1465, sw_127, by decide +kernel⟩, sw_1464, sw_47⟩
theorem lkv_X12_refuses : lk_v yX12_refuses cX12_refuses 2 (some .int) 1 := ⟨⟨sw_1441, sw_127, by decide +kernel⟩, sw_1440, sw_43⟩
theorem lkv_X12_refusesFor : lk_v yX12_refusesFor cX12_refusesFor 3 (some .int) 2 := ⟨⟨sw_1883, sw_127, by decide +kernel⟩, sw_1882, sw_107⟩
theorem lkv_X12_says : lk_v yX12_says cX12_says 2 none 1 := ⟨⟨sw_1938, sw_127, by decide +kernel⟩, sw_1937, sw_110⟩
theorem lkv_X12_sum : lk_v yX12_sum cX12_sum 4 (some .int) 1 := ⟨⟨sw_1563, sw_127, by decide +kernel⟩, sw_1562, sw_68⟩
theorem lkv_X12_taken : lk_v yX12_taken cX12_taken 2 (some .int) 0 := ⟨⟨sw_1461, sw_127, by decide +kernel⟩, sw_1460, sw_46⟩
theorem lkv_X12_unlikes : lk_v yX12_unlikes cX12_unlikes 3 (some .int) 0 := ⟨⟨sw_1593, sw_127, by decide +kernel⟩, sw_1592, sw_74⟩
theorem lkv_X12_word : lk_v yX12_word cX12_word 1 none 0 := ⟨⟨sw_1473, sw_127, by decide +kernel⟩, sw_1472, sw_49⟩
theorem lkv_X1_goBack : lk_v yX1_goBack cX1_goBack 3 (some .boolean) 1 := ⟨⟨sw_1239, sw_120, by decide +kernel⟩, sw_1237, sw_1238⟩
theorem lkv_X5_columns : lk_v yX5_columns cX5_columns 1 (some .int) 0 := ⟨⟨sw_857, sw_121, by decide +kernel⟩, sw_855, sw_856⟩
theorem lkv_X5_ranked : lk_v yX5_ranked cX5_ranked 5 (some .int) 1 := ⟨⟨sw_870, sw_121, by decide +kernel⟩, sw_868, sw_869⟩
theorem lkv_X5_together : lk_v yX5_together cX5_together 4 (some .int) 1 := ⟨⟨sw_935, sw_121, by decide +kernel⟩, sw_933, sw_934⟩
theorem lkv_X9_add : lk_v yX9_add cX9_add 3 none 1 := ⟨⟨sw_581, sw_116, by decide +kernel⟩, sw_579, sw_580⟩
end
section
/-! what a fresh object answers, where it hangs on the argument -/
def sp_isIn (v lo hi : Int32) : Int32 := if lo ≤ v ∧ v ≤ hi then 1 else 0
def sp_end (n : Int32) : Int32 := if n = 0 then 1 else 0
def sp_seed (n : Int32) : Int32 := if n < 0 then 0 else 1
def sp_fault (w : Int32) : Int32 := if w = 0 then 0 else -1
def sp_why (w : Int32) : Int32 := if w = 0 then 0 else if w = 1 then 0 else -1
def sp_has (w : Int32) : Int32 := if w = 14 then 1 else if 0 ≤ w ∧ w ≤ 13 then 0 else -1
def sp_status (w : Int32) : Int32 := if 0 ≤ w ∧ w ≤ 5 then 0 else -1
theorem sp_isIn_e {v lo hi : Int32} (h : hi < lo) : sp_isIn v lo hi = 0 := by
  unfold sp_isIn
  rw [if_neg]
  intro q
  rw [Int32.lt_iff_toInt_lt] at h
  have h1 := Int32.le_iff_toInt_le.mp q.1
  have h2 := Int32.le_iff_toInt_le.mp q.2
  omega
theorem sp_isIn_or (v lo hi : Int32) : (sp_isIn v lo hi = 1 ∧ lo ≤ v ∧ v ≤ hi) ∨ (sp_isIn v lo hi = 0 ∧ ¬ (lo ≤ v ∧ v ≤ hi)) := by
  unfold sp_isIn
  by_cases h : lo ≤ v ∧ v ≤ hi
  · exact Or.inl ⟨if_pos h, h.1, h.2⟩
  · exact Or.inr ⟨if_neg h, h⟩
theorem nz_sp_isIn (v lo hi : Int32) : narrow .boolean (.int (sp_isIn v lo hi)) = .int (sp_isIn v lo hi) := by unfold sp_isIn; split <;> rfl
theorem nz_sp_end (n : Int32) : narrow .boolean (.int (sp_end n)) = .int (sp_end n) := by unfold sp_end; split <;> rfl
theorem nz_sp_seed (n : Int32) : narrow .boolean (.int (sp_seed n)) = .int (sp_seed n) := by unfold sp_seed; split <;> rfl
theorem pl_0 (x0 : Int32) (c0 : ¬ x0 < 0) (c1 : ¬ 300 ≤ x0) : vp_in x0 300 := by
  have e0 : (0 : Int32).toInt = 0 := by decide
  have e1 : (300 : Int32).toInt = 300 := by decide
  try simp only [sp_isIn, sp_end, sp_seed, sp_fault, sp_why, sp_has, sp_status, vp_in_iff]
  try simp only [Int32.le_iff_toInt_le, Int32.lt_iff_toInt_lt, ← Int32.toInt_inj] at *
  (repeat' split) <;> (first | omega | rfl)
theorem pl_1 (x0 : Int32) (c0 : x0 < 0) : 0 = sp_end x0 := by
  have e0 : (0 : Int32).toInt = 0 := by decide
  try simp only [sp_isIn, sp_end, sp_seed, sp_fault, sp_why, sp_has, sp_status, vp_in_iff]
  try simp only [Int32.le_iff_toInt_le, Int32.lt_iff_toInt_lt, ← Int32.toInt_inj] at *
  (repeat' split) <;> (first | omega | rfl)
theorem pl_2 (x0 : Int32) (c0 : ¬ x0 < 0) (c1 : x0 ≤ 0) : 1 = sp_end x0 := by
  have e0 : (0 : Int32).toInt = 0 := by decide
  have e1 : (1 : Int32).toInt = 1 := by decide
  try simp only [sp_isIn, sp_end, sp_seed, sp_fault, sp_why, sp_has, sp_status, vp_in_iff]
  try simp only [Int32.le_iff_toInt_le, Int32.lt_iff_toInt_lt, ← Int32.toInt_inj] at *
  (repeat' split) <;> (first | omega | rfl)
theorem pl_3 (x0 : Int32) (c0 : ¬ x0 < 0) (c1 : ¬ x0 ≤ 0) : 0 = sp_end x0 := by
  have e0 : (0 : Int32).toInt = 0 := by decide
  try simp only [sp_isIn, sp_end, sp_seed, sp_fault, sp_why, sp_has, sp_status, vp_in_iff]
  try simp only [Int32.le_iff_toInt_le, Int32.lt_iff_toInt_lt, ← Int32.toInt_inj] at *
  (repeat' split) <;> (first | omega | rfl)
theorem pl_4 (x0 : Int32) (c0 : ¬ x0 = 0) (c1 : ¬ x0 = 1) : (-1) = sp_fault x0 := by
  have e0 : ((-1) : Int32).toInt = -1 := by decide
  have e1 : (0 : Int32).toInt = 0 := by decide
  have e2 : (1 : Int32).toInt = 1 := by decide
  try simp only [sp_isIn, sp_end, sp_seed, sp_fault, sp_why, sp_has, sp_status, vp_in_iff]
  try simp only [Int32.le_iff_toInt_le, Int32.lt_iff_toInt_lt, ← Int32.toInt_inj] at *
  (repeat' split) <;> (first | omega | rfl)
theorem pl_5 (x0 : Int32) (c0 : ¬ x0 = 0) (c1 : ¬ ¬ x0 = 1) : (-1) = sp_fault x0 := by
  have e0 : ((-1) : Int32).toInt = -1 := by decide
  have e1 : (0 : Int32).toInt = 0 := by decide
  have e2 : (1 : Int32).toInt = 1 := by decide
  try simp only [sp_isIn, sp_end, sp_seed, sp_fault, sp_why, sp_has, sp_status, vp_in_iff]
  try simp only [Int32.le_iff_toInt_le, Int32.lt_iff_toInt_lt, ← Int32.toInt_inj] at *
  (repeat' split) <;> (first | omega | rfl)
theorem pl_6 (x0 : Int32) (c0 : ¬ ¬ x0 = 0) : 0 = sp_fault x0 := by
  have e0 : (0 : Int32).toInt = 0 := by decide
  try simp only [sp_isIn, sp_end, sp_seed, sp_fault, sp_why, sp_has, sp_status, vp_in_iff]
  try simp only [Int32.le_iff_toInt_le, Int32.lt_iff_toInt_lt, ← Int32.toInt_inj] at *
  (repeat' split) <;> (first | omega | rfl)
theorem pl_7 (x0 : Int32) (c0 : ¬ x0 = 14) (c1 : x0 < 0) : (-1) = sp_has x0 := by
  have e0 : ((-1) : Int32).toInt = -1 := by decide
  have e1 : (0 : Int32).toInt = 0 := by decide
  have e2 : (14 : Int32).toInt = 14 := by decide
  try simp only [sp_isIn, sp_end, sp_seed, sp_fault, sp_why, sp_has, sp_status, vp_in_iff]
  try simp only [Int32.le_iff_toInt_le, Int32.lt_iff_toInt_lt, ← Int32.toInt_inj] at *
  (repeat' split) <;> (first | omega | rfl)
theorem pl_8 (x0 : Int32) (c0 : ¬ x0 = 14) (c1 : ¬ x0 < 0) (c2 : x0 ≤ 14) : 0 = sp_has x0 := by
  have e0 : (0 : Int32).toInt = 0 := by decide
  have e1 : (14 : Int32).toInt = 14 := by decide
  try simp only [sp_isIn, sp_end, sp_seed, sp_fault, sp_why, sp_has, sp_status, vp_in_iff]
  try simp only [Int32.le_iff_toInt_le, Int32.lt_iff_toInt_lt, ← Int32.toInt_inj] at *
  (repeat' split) <;> (first | omega | rfl)
theorem pl_9 (x0 : Int32) (c0 : ¬ x0 = 14) (c1 : ¬ x0 < 0) (c2 : ¬ x0 ≤ 14) : (-1) = sp_has x0 := by
  have e0 : ((-1) : Int32).toInt = -1 := by decide
  have e1 : (0 : Int32).toInt = 0 := by decide
  have e2 : (14 : Int32).toInt = 14 := by decide
  try simp only [sp_isIn, sp_end, sp_seed, sp_fault, sp_why, sp_has, sp_status, vp_in_iff]
  try simp only [Int32.le_iff_toInt_le, Int32.lt_iff_toInt_lt, ← Int32.toInt_inj] at *
  (repeat' split) <;> (first | omega | rfl)
theorem pl_10 (x0 : Int32) (c0 : ¬ ¬ x0 = 14) : 1 = sp_has x0 := by
  have e0 : (1 : Int32).toInt = 1 := by decide
  have e1 : (14 : Int32).toInt = 14 := by decide
  try simp only [sp_isIn, sp_end, sp_seed, sp_fault, sp_why, sp_has, sp_status, vp_in_iff]
  try simp only [Int32.le_iff_toInt_le, Int32.lt_iff_toInt_lt, ← Int32.toInt_inj] at *
  (repeat' split) <;> (first | omega | rfl)
theorem pl_11 (x0 : Int32) (c0 : ¬ x0 < 0) (c1 : ¬ 0 ≤ x0) : False := by
  have e0 : (0 : Int32).toInt = 0 := by decide
  try simp only [sp_isIn, sp_end, sp_seed, sp_fault, sp_why, sp_has, sp_status, vp_in_iff]
  try simp only [Int32.le_iff_toInt_le, Int32.lt_iff_toInt_lt, ← Int32.toInt_inj] at *
  (repeat' split) <;> (first | omega | rfl)
theorem pl_12 (x0 : Int32) (c0 : ¬ x0 < 0) (c1 : x0 < 0) : False := by
  have e0 : (0 : Int32).toInt = 0 := by decide
  try simp only [sp_isIn, sp_end, sp_seed, sp_fault, sp_why, sp_has, sp_status, vp_in_iff]
  try simp only [Int32.le_iff_toInt_le, Int32.lt_iff_toInt_lt, ← Int32.toInt_inj] at *
  (repeat' split) <;> (first | omega | rfl)
theorem pl_13 (x0 : Int32) (c0 : x0 < 0) : 0 = sp_isIn x0 0 2 := by
  have e0 : (0 : Int32).toInt = 0 := by decide
  have e1 : (2 : Int32).toInt = 2 := by decide
  try simp only [sp_isIn, sp_end, sp_seed, sp_fault, sp_why, sp_has, sp_status, vp_in_iff]
  try simp only [Int32.le_iff_toInt_le, Int32.lt_iff_toInt_lt, ← Int32.toInt_inj] at *
  (repeat' split) <;> (first | omega | rfl)
theorem pl_14 (x0 : Int32) (c0 : ¬ x0 < 0) (c1 : 2 < x0) : 0 = sp_isIn x0 0 2 := by
  have e0 : (0 : Int32).toInt = 0 := by decide
  have e1 : (2 : Int32).toInt = 2 := by decide
  try simp only [sp_isIn, sp_end, sp_seed, sp_fault, sp_why, sp_has, sp_status, vp_in_iff]
  try simp only [Int32.le_iff_toInt_le, Int32.lt_iff_toInt_lt, ← Int32.toInt_inj] at *
  (repeat' split) <;> (first | omega | rfl)
theorem pl_15 (x0 : Int32) (c0 : ¬ x0 < 0) (c1 : ¬ 2 < x0) : 1 = sp_isIn x0 0 2 := by
  have e0 : (0 : Int32).toInt = 0 := by decide
  have e1 : (1 : Int32).toInt = 1 := by decide
  have e2 : (2 : Int32).toInt = 2 := by decide
  try simp only [sp_isIn, sp_end, sp_seed, sp_fault, sp_why, sp_has, sp_status, vp_in_iff]
  try simp only [Int32.le_iff_toInt_le, Int32.lt_iff_toInt_lt, ← Int32.toInt_inj] at *
  (repeat' split) <;> (first | omega | rfl)
theorem pl_16 (x0 : Int32) (c0 : ¬ x0 = 0) (c1 : ¬ x0 = 1) : (-1) = sp_why x0 := by
  have e0 : ((-1) : Int32).toInt = -1 := by decide
  have e1 : (0 : Int32).toInt = 0 := by decide
  have e2 : (1 : Int32).toInt = 1 := by decide
  try simp only [sp_isIn, sp_end, sp_seed, sp_fault, sp_why, sp_has, sp_status, vp_in_iff]
  try simp only [Int32.le_iff_toInt_le, Int32.lt_iff_toInt_lt, ← Int32.toInt_inj] at *
  (repeat' split) <;> (first | omega | rfl)
theorem pl_17 (x0 : Int32) (c0 : ¬ x0 = 0) (c1 : ¬ ¬ x0 = 1) : 0 = sp_why x0 := by
  have e0 : (0 : Int32).toInt = 0 := by decide
  have e1 : (1 : Int32).toInt = 1 := by decide
  try simp only [sp_isIn, sp_end, sp_seed, sp_fault, sp_why, sp_has, sp_status, vp_in_iff]
  try simp only [Int32.le_iff_toInt_le, Int32.lt_iff_toInt_lt, ← Int32.toInt_inj] at *
  (repeat' split) <;> (first | omega | rfl)
theorem pl_18 (x0 : Int32) (c0 : ¬ ¬ x0 = 0) : 0 = sp_why x0 := by
  have e0 : (0 : Int32).toInt = 0 := by decide
  try simp only [sp_isIn, sp_end, sp_seed, sp_fault, sp_why, sp_has, sp_status, vp_in_iff]
  try simp only [Int32.le_iff_toInt_le, Int32.lt_iff_toInt_lt, ← Int32.toInt_inj] at *
  (repeat' split) <;> (first | omega | rfl)
theorem pl_19 (x0 : Int32) (c0 : 0 ≤ x0) : 1 = sp_seed x0 := by
  have e0 : (0 : Int32).toInt = 0 := by decide
  have e1 : (1 : Int32).toInt = 1 := by decide
  try simp only [sp_isIn, sp_end, sp_seed, sp_fault, sp_why, sp_has, sp_status, vp_in_iff]
  try simp only [Int32.le_iff_toInt_le, Int32.lt_iff_toInt_lt, ← Int32.toInt_inj] at *
  (repeat' split) <;> (first | omega | rfl)
theorem pl_20 (x0 : Int32) (c0 : ¬ 0 ≤ x0) : 0 = sp_seed x0 := by
  have e0 : (0 : Int32).toInt = 0 := by decide
  try simp only [sp_isIn, sp_end, sp_seed, sp_fault, sp_why, sp_has, sp_status, vp_in_iff]
  try simp only [Int32.le_iff_toInt_le, Int32.lt_iff_toInt_lt, ← Int32.toInt_inj] at *
  (repeat' split) <;> (first | omega | rfl)
theorem pl_21 (x0 : Int32) (c0 : x0 < 0) : (-1) = sp_status x0 := by
  have e0 : ((-1) : Int32).toInt = -1 := by decide
  have e1 : (0 : Int32).toInt = 0 := by decide
  try simp only [sp_isIn, sp_end, sp_seed, sp_fault, sp_why, sp_has, sp_status, vp_in_iff]
  try simp only [Int32.le_iff_toInt_le, Int32.lt_iff_toInt_lt, ← Int32.toInt_inj] at *
  (repeat' split) <;> (first | omega | rfl)
theorem pl_22 (x0 : Int32) (c0 : ¬ x0 < 0) (c1 : 6 ≤ x0) : (-1) = sp_status x0 := by
  have e0 : ((-1) : Int32).toInt = -1 := by decide
  have e1 : (0 : Int32).toInt = 0 := by decide
  have e2 : (6 : Int32).toInt = 6 := by decide
  try simp only [sp_isIn, sp_end, sp_seed, sp_fault, sp_why, sp_has, sp_status, vp_in_iff]
  try simp only [Int32.le_iff_toInt_le, Int32.lt_iff_toInt_lt, ← Int32.toInt_inj] at *
  (repeat' split) <;> (first | omega | rfl)
theorem pl_23 (x0 : Int32) (c0 : ¬ x0 < 0) (c1 : ¬ 6 ≤ x0) : vp_in x0 6 := by
  have e0 : (0 : Int32).toInt = 0 := by decide
  have e1 : (6 : Int32).toInt = 6 := by decide
  try simp only [sp_isIn, sp_end, sp_seed, sp_fault, sp_why, sp_has, sp_status, vp_in_iff]
  try simp only [Int32.le_iff_toInt_le, Int32.lt_iff_toInt_lt, ← Int32.toInt_inj] at *
  (repeat' split) <;> (first | omega | rfl)
theorem pl_24 (x0 : Int32) (c0 : ¬ x0 < 0) (c1 : ¬ 6 ≤ x0) : 0 = sp_status x0 := by
  have e0 : (0 : Int32).toInt = 0 := by decide
  have e1 : (6 : Int32).toInt = 6 := by decide
  try simp only [sp_isIn, sp_end, sp_seed, sp_fault, sp_why, sp_has, sp_status, vp_in_iff]
  try simp only [Int32.le_iff_toInt_le, Int32.lt_iff_toInt_lt, ← Int32.toInt_inj] at *
  (repeat' split) <;> (first | omega | rfl)
theorem pl_25 (x0 x1 x2 : Int32) (c0 : x0 < x1) : 0 = sp_isIn x0 x1 x2 := by
  have e0 : (0 : Int32).toInt = 0 := by decide
  try simp only [sp_isIn, sp_end, sp_seed, sp_fault, sp_why, sp_has, sp_status, vp_in_iff]
  try simp only [Int32.le_iff_toInt_le, Int32.lt_iff_toInt_lt, ← Int32.toInt_inj] at *
  (repeat' split) <;> (first | omega | rfl)
theorem pl_26 (x0 x1 x2 : Int32) (c0 : ¬ x0 < x1) (c1 : x2 < x0) : 0 = sp_isIn x0 x1 x2 := by
  have e0 : (0 : Int32).toInt = 0 := by decide
  try simp only [sp_isIn, sp_end, sp_seed, sp_fault, sp_why, sp_has, sp_status, vp_in_iff]
  try simp only [Int32.le_iff_toInt_le, Int32.lt_iff_toInt_lt, ← Int32.toInt_inj] at *
  (repeat' split) <;> (first | omega | rfl)
theorem pl_27 (x0 x1 x2 : Int32) (c0 : ¬ x0 < x1) (c1 : ¬ x2 < x0) : 1 = sp_isIn x0 x1 x2 := by
  have e0 : (1 : Int32).toInt = 1 := by decide
  try simp only [sp_isIn, sp_end, sp_seed, sp_fault, sp_why, sp_has, sp_status, vp_in_iff]
  try simp only [Int32.le_iff_toInt_le, Int32.lt_iff_toInt_lt, ← Int32.toInt_inj] at *
  (repeat' split) <;> (first | omega | rfl)
theorem pl_28 (x0 : Int32) (c0 : ¬ x0 = 14) (c1 : 0 ≤ x0) (c2 : x0 ≤ 13) : 0 = sp_has x0 := by
  have e0 : (0 : Int32).toInt = 0 := by decide
  have e1 : (13 : Int32).toInt = 13 := by decide
  have e2 : (14 : Int32).toInt = 14 := by decide
  try simp only [sp_isIn, sp_end, sp_seed, sp_fault, sp_why, sp_has, sp_status, vp_in_iff]
  try simp only [Int32.le_iff_toInt_le, Int32.lt_iff_toInt_lt, ← Int32.toInt_inj] at *
  (repeat' split) <;> (first | omega | rfl)
theorem pl_29 (x0 : Int32) (c0 : ¬ x0 = 14) (c1 : ¬ (0 ≤ x0 ∧ x0 ≤ 13)) : (-1) = sp_has x0 := by
  have e0 : ((-1) : Int32).toInt = -1 := by decide
  have e1 : (0 : Int32).toInt = 0 := by decide
  have e2 : (13 : Int32).toInt = 13 := by decide
  have e3 : (14 : Int32).toInt = 14 := by decide
  try simp only [sp_isIn, sp_end, sp_seed, sp_fault, sp_why, sp_has, sp_status, vp_in_iff]
  try simp only [Int32.le_iff_toInt_le, Int32.lt_iff_toInt_lt, ← Int32.toInt_inj] at *
  (repeat' split) <;> (first | omega | rfl)
theorem pl_30 (x0 : Int32) (c0 : 0 ≤ x0) (c1 : x0 ≤ 5) : vp_in x0 6 := by
  have e0 : (0 : Int32).toInt = 0 := by decide
  have e1 : (5 : Int32).toInt = 5 := by decide
  have e2 : (6 : Int32).toInt = 6 := by decide
  try simp only [sp_isIn, sp_end, sp_seed, sp_fault, sp_why, sp_has, sp_status, vp_in_iff]
  try simp only [Int32.le_iff_toInt_le, Int32.lt_iff_toInt_lt, ← Int32.toInt_inj] at *
  (repeat' split) <;> (first | omega | rfl)
theorem pl_31 (x0 : Int32) (c0 : 0 ≤ x0) (c1 : x0 ≤ 5) : 0 = sp_status x0 := by
  have e0 : (0 : Int32).toInt = 0 := by decide
  have e1 : (5 : Int32).toInt = 5 := by decide
  try simp only [sp_isIn, sp_end, sp_seed, sp_fault, sp_why, sp_has, sp_status, vp_in_iff]
  try simp only [Int32.le_iff_toInt_le, Int32.lt_iff_toInt_lt, ← Int32.toInt_inj] at *
  (repeat' split) <;> (first | omega | rfl)
theorem pl_32 (x0 : Int32) (c0 : ¬ (0 ≤ x0 ∧ x0 ≤ 5)) : (-1) = sp_status x0 := by
  have e0 : ((-1) : Int32).toInt = -1 := by decide
  have e1 : (0 : Int32).toInt = 0 := by decide
  have e2 : (5 : Int32).toInt = 5 := by decide
  try simp only [sp_isIn, sp_end, sp_seed, sp_fault, sp_why, sp_has, sp_status, vp_in_iff]
  try simp only [Int32.le_iff_toInt_le, Int32.lt_iff_toInt_lt, ← Int32.toInt_inj] at *
  (repeat' split) <;> (first | omega | rfl)
end
