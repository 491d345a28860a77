-- ===== PART A: goes FIRST, ahead of the names: the tables' words, and 'selects' of the private methods out of them =====
/-- a private method of a class that the tables say can be made, by its rows of tables_1 -/
def lw_okq (q : MethodName × Nat) : Prop := (q.1.cls ≠ "java/lang/invoke/MethodHandle" ∧ q.1.cls ≠ "java/lang/invoke/VarHandle") ∧ Cond.instantiable q.1.cls q.2 ∈ tables_1 ∧ Cond.privateMethod q.1 ∈ tables_1 ∧ Cond.instanceMethod q.1 ∈ tables_1
theorem lw_p0 : lw_okq (⟨"NinthWave", "isRow", "(I)Z"⟩, 13) := ⟨⟨by decide +kernel, by decide +kernel⟩, List.mem_of_getElem? (i := 15) (by decide +kernel), List.mem_of_getElem? (i := 310) (by decide +kernel), List.mem_of_getElem? (i := 311) (by decide +kernel)⟩
theorem lw_p1 : lw_okq (⟨"NinthWave", "found", "(I)I"⟩, 13) := ⟨⟨by decide +kernel, by decide +kernel⟩, List.mem_of_getElem? (i := 15) (by decide +kernel), List.mem_of_getElem? (i := 318) (by decide +kernel), List.mem_of_getElem? (i := 319) (by decide +kernel)⟩
theorem lw_p2 : lw_okq (⟨"NinthWave", "fine", "(I)I"⟩, 13) := ⟨⟨by decide +kernel, by decide +kernel⟩, List.mem_of_getElem? (i := 15) (by decide +kernel), List.mem_of_getElem? (i := 327) (by decide +kernel), List.mem_of_getElem? (i := 328) (by decide +kernel)⟩
theorem lw_p3 : lw_okq (⟨"NinthWave$Reader", "readBar", "(LNinthWave$Chart;)Z"⟩, 6) := ⟨⟨by decide +kernel, by decide +kernel⟩, List.mem_of_getElem? (i := 42) (by decide +kernel), List.mem_of_getElem? (i := 397) (by decide +kernel), List.mem_of_getElem? (i := 398) (by decide +kernel)⟩
theorem lw_p4 : lw_okq (⟨"NinthWave$Reader", "passes", "(I)Z"⟩, 6) := ⟨⟨by decide +kernel, by decide +kernel⟩, List.mem_of_getElem? (i := 42) (by decide +kernel), List.mem_of_getElem? (i := 401) (by decide +kernel), List.mem_of_getElem? (i := 402) (by decide +kernel)⟩
theorem lw_p5 : lw_okq (⟨"NinthWave$Reader", "at", "(I)I"⟩, 6) := ⟨⟨by decide +kernel, by decide +kernel⟩, List.mem_of_getElem? (i := 42) (by decide +kernel), List.mem_of_getElem? (i := 405) (by decide +kernel), List.mem_of_getElem? (i := 406) (by decide +kernel)⟩
theorem lw_p6 : lw_okq (⟨"NinthWave$Reader", "fails", "(I)Z"⟩, 6) := ⟨⟨by decide +kernel, by decide +kernel⟩, List.mem_of_getElem? (i := 42) (by decide +kernel), List.mem_of_getElem? (i := 409) (by decide +kernel), List.mem_of_getElem? (i := 410) (by decide +kernel)⟩
theorem lw_p7 : lw_okq (⟨"NinthWave$Reader", "readPair", "(II)Z"⟩, 6) := ⟨⟨by decide +kernel, by decide +kernel⟩, List.mem_of_getElem? (i := 42) (by decide +kernel), List.mem_of_getElem? (i := 413) (by decide +kernel), List.mem_of_getElem? (i := 414) (by decide +kernel)⟩
theorem lw_p8 : lw_okq (⟨"NinthWave$Reader", "number", "(I)I"⟩, 6) := ⟨⟨by decide +kernel, by decide +kernel⟩, List.mem_of_getElem? (i := 42) (by decide +kernel), List.mem_of_getElem? (i := 417) (by decide +kernel), List.mem_of_getElem? (i := 418) (by decide +kernel)⟩
theorem lw_p9 : lw_okq (⟨"NinthWave$Reader", "readSwells", "(LNinthWave$Chart;)Z"⟩, 6) := ⟨⟨by decide +kernel, by decide +kernel⟩, List.mem_of_getElem? (i := 42) (by decide +kernel), List.mem_of_getElem? (i := 424) (by decide +kernel), List.mem_of_getElem? (i := 425) (by decide +kernel)⟩
theorem lw_p10 : lw_okq (⟨"NinthWave$Reader", "readTowers", "(LNinthWave$Chart;LNinthWave$Scene;)Z"⟩, 6) := ⟨⟨by decide +kernel, by decide +kernel⟩, List.mem_of_getElem? (i := 42) (by decide +kernel), List.mem_of_getElem? (i := 431) (by decide +kernel), List.mem_of_getElem? (i := 432) (by decide +kernel)⟩
theorem lw_p11 : lw_okq (⟨"NinthWave$Reader", "readShips", "(LNinthWave$Chart;LNinthWave$Scene;)Z"⟩, 6) := ⟨⟨by decide +kernel, by decide +kernel⟩, List.mem_of_getElem? (i := 42) (by decide +kernel), List.mem_of_getElem? (i := 435) (by decide +kernel), List.mem_of_getElem? (i := 436) (by decide +kernel)⟩
theorem lw_p12 : lw_okq (⟨"NinthWave$Reader", "isAtEnd", "()Z"⟩, 6) := ⟨⟨by decide +kernel, by decide +kernel⟩, List.mem_of_getElem? (i := 42) (by decide +kernel), List.mem_of_getElem? (i := 439) (by decide +kernel), List.mem_of_getElem? (i := 440) (by decide +kernel)⟩
theorem lw_p13 : lw_okq (⟨"NinthWave$Scene", "cross", "(LNinthWave$Chart;II)V"⟩, 7) := ⟨⟨by decide +kernel, by decide +kernel⟩, List.mem_of_getElem? (i := 126) (by decide +kernel), List.mem_of_getElem? (i := 531) (by decide +kernel), List.mem_of_getElem? (i := 532) (by decide +kernel)⟩
theorem lw_p14 : lw_okq (⟨"NinthWave", "isTower", "(I)Z"⟩, 13) := ⟨⟨by decide +kernel, by decide +kernel⟩, List.mem_of_getElem? (i := 15) (by decide +kernel), List.mem_of_getElem? (i := 539) (by decide +kernel), List.mem_of_getElem? (i := 540) (by decide +kernel)⟩
theorem lw_p15 : lw_okq (⟨"NinthWave", "isShip", "(I)Z"⟩, 13) := ⟨⟨by decide +kernel, by decide +kernel⟩, List.mem_of_getElem? (i := 15) (by decide +kernel), List.mem_of_getElem? (i := 556) (by decide +kernel), List.mem_of_getElem? (i := 557) (by decide +kernel)⟩
def lw_privs_1 : List (MethodName × Nat) := [(⟨"NinthWave", "isRow", "(I)Z"⟩, 13), (⟨"NinthWave", "found", "(I)I"⟩, 13), (⟨"NinthWave", "fine", "(I)I"⟩, 13), (⟨"NinthWave$Reader", "readBar", "(LNinthWave$Chart;)Z"⟩, 6), (⟨"NinthWave$Reader", "passes", "(I)Z"⟩, 6), (⟨"NinthWave$Reader", "at", "(I)I"⟩, 6), (⟨"NinthWave$Reader", "fails", "(I)Z"⟩, 6), (⟨"NinthWave$Reader", "readPair", "(II)Z"⟩, 6), (⟨"NinthWave$Reader", "number", "(I)I"⟩, 6), (⟨"NinthWave$Reader", "readSwells", "(LNinthWave$Chart;)Z"⟩, 6), (⟨"NinthWave$Reader", "readTowers", "(LNinthWave$Chart;LNinthWave$Scene;)Z"⟩, 6), (⟨"NinthWave$Reader", "readShips", "(LNinthWave$Chart;LNinthWave$Scene;)Z"⟩, 6), (⟨"NinthWave$Reader", "isAtEnd", "()Z"⟩, 6), (⟨"NinthWave$Scene", "cross", "(LNinthWave$Chart;II)V"⟩, 7), (⟨"NinthWave", "isTower", "(I)Z"⟩, 13), (⟨"NinthWave", "isShip", "(I)Z"⟩, 13)]
theorem lw_r1 : ∀ q ∈ lw_privs_1, lw_okq q := List.forall_mem_cons.mpr ⟨lw_p0, List.forall_mem_cons.mpr ⟨lw_p1, List.forall_mem_cons.mpr ⟨lw_p2, List.forall_mem_cons.mpr ⟨lw_p3, List.forall_mem_cons.mpr ⟨lw_p4, List.forall_mem_cons.mpr ⟨lw_p5, List.forall_mem_cons.mpr ⟨lw_p6, List.forall_mem_cons.mpr ⟨lw_p7, List.forall_mem_cons.mpr ⟨lw_p8, List.forall_mem_cons.mpr ⟨lw_p9, List.forall_mem_cons.mpr ⟨lw_p10, List.forall_mem_cons.mpr ⟨lw_p11, List.forall_mem_cons.mpr ⟨lw_p12, List.forall_mem_cons.mpr ⟨lw_p13, List.forall_mem_cons.mpr ⟨lw_p14, List.forall_mem_cons.mpr ⟨lw_p15, fun _ h => absurd h List.not_mem_nil⟩⟩⟩⟩⟩⟩⟩⟩⟩⟩⟩⟩⟩⟩⟩⟩
theorem lw_p16 : lw_okq (⟨"NinthWave", "foretell", "(I)V"⟩, 13) := ⟨⟨by decide +kernel, by decide +kernel⟩, List.mem_of_getElem? (i := 15) (by decide +kernel), List.mem_of_getElem? (i := 603) (by decide +kernel), List.mem_of_getElem? (i := 604) (by decide +kernel)⟩
theorem lw_p17 : lw_okq (⟨"NinthWave$Orders", "howManyCross", "(LNinthWave$Chart;LNinthWave$Scene;)I"⟩, 6) := ⟨⟨by decide +kernel, by decide +kernel⟩, List.mem_of_getElem? (i := 187) (by decide +kernel), List.mem_of_getElem? (i := 656) (by decide +kernel), List.mem_of_getElem? (i := 657) (by decide +kernel)⟩
theorem lw_p18 : lw_okq (⟨"NinthWave$Orders", "goOn", "(I)Z"⟩, 6) := ⟨⟨by decide +kernel, by decide +kernel⟩, List.mem_of_getElem? (i := 187) (by decide +kernel), List.mem_of_getElem? (i := 662) (by decide +kernel), List.mem_of_getElem? (i := 663) (by decide +kernel)⟩
theorem lw_p19 : lw_okq (⟨"NinthWave$Orders", "swap", "(II)V"⟩, 6) := ⟨⟨by decide +kernel, by decide +kernel⟩, List.mem_of_getElem? (i := 187) (by decide +kernel), List.mem_of_getElem? (i := 666) (by decide +kernel), List.mem_of_getElem? (i := 667) (by decide +kernel)⟩
theorem lw_p20 : lw_okq (⟨"NinthWave", "fitsLog", "(IIII)Z"⟩, 13) := ⟨⟨by decide +kernel, by decide +kernel⟩, List.mem_of_getElem? (i := 15) (by decide +kernel), List.mem_of_getElem? (i := 698) (by decide +kernel), List.mem_of_getElem? (i := 699) (by decide +kernel)⟩
theorem lw_p21 : lw_okq (⟨"NinthWave", "isSwell", "(I)Z"⟩, 13) := ⟨⟨by decide +kernel, by decide +kernel⟩, List.mem_of_getElem? (i := 15) (by decide +kernel), List.mem_of_getElem? (i := 743) (by decide +kernel), List.mem_of_getElem? (i := 744) (by decide +kernel)⟩
theorem lw_p22 : lw_okq (⟨"NinthWave$Asker", "asked", "(II)I"⟩, 6) := ⟨⟨by decide +kernel, by decide +kernel⟩, List.mem_of_getElem? (i := 215) (by decide +kernel), List.mem_of_getElem? (i := 768) (by decide +kernel), List.mem_of_getElem? (i := 769) (by decide +kernel)⟩
theorem lw_p23 : lw_okq (⟨"NinthWave$Asker", "given", "(II)I"⟩, 6) := ⟨⟨by decide +kernel, by decide +kernel⟩, List.mem_of_getElem? (i := 215) (by decide +kernel), List.mem_of_getElem? (i := 774) (by decide +kernel), List.mem_of_getElem? (i := 775) (by decide +kernel)⟩
theorem lw_p24 : lw_okq (⟨"NinthWave$Asker", "leave", "(I)V"⟩, 6) := ⟨⟨by decide +kernel, by decide +kernel⟩, List.mem_of_getElem? (i := 215) (by decide +kernel), List.mem_of_getElem? (i := 778) (by decide +kernel), List.mem_of_getElem? (i := 779) (by decide +kernel)⟩
theorem lw_p25 : lw_okq (⟨"NinthWaveModel", "finds", "(I)I"⟩, 29) := ⟨⟨by decide +kernel, by decide +kernel⟩, List.mem_of_getElem? (i := 800) (by decide +kernel), List.mem_of_getElem? (i := 908) (by decide +kernel), List.mem_of_getElem? (i := 909) (by decide +kernel)⟩
theorem lw_p26 : lw_okq (⟨"NinthWaveModel", "well", "(I)I"⟩, 29) := ⟨⟨by decide +kernel, by decide +kernel⟩, List.mem_of_getElem? (i := 800) (by decide +kernel), List.mem_of_getElem? (i := 913) (by decide +kernel), List.mem_of_getElem? (i := 914) (by decide +kernel)⟩
theorem lw_p27 : lw_okq (⟨"NinthWaveModel", "reads", "()Z"⟩, 29) := ⟨⟨by decide +kernel, by decide +kernel⟩, List.mem_of_getElem? (i := 800) (by decide +kernel), List.mem_of_getElem? (i := 939) (by decide +kernel), List.mem_of_getElem? (i := 940) (by decide +kernel)⟩
theorem lw_p28 : lw_okq (⟨"NinthWaveModel", "scans", "()V"⟩, 29) := ⟨⟨by decide +kernel, by decide +kernel⟩, List.mem_of_getElem? (i := 800) (by decide +kernel), List.mem_of_getElem? (i := 943) (by decide +kernel), List.mem_of_getElem? (i := 944) (by decide +kernel)⟩
theorem lw_p29 : lw_okq (⟨"NinthWaveModel", "isFigure", "()Z"⟩, 29) := ⟨⟨by decide +kernel, by decide +kernel⟩, List.mem_of_getElem? (i := 800) (by decide +kernel), List.mem_of_getElem? (i := 947) (by decide +kernel), List.mem_of_getElem? (i := 948) (by decide +kernel)⟩
theorem lw_p30 : lw_okq (⟨"NinthWaveModel", "isLetter", "(I)Z"⟩, 29) := ⟨⟨by decide +kernel, by decide +kernel⟩, List.mem_of_getElem? (i := 800) (by decide +kernel), List.mem_of_getElem? (i := 955) (by decide +kernel), List.mem_of_getElem? (i := 956) (by decide +kernel)⟩
theorem lw_p31 : lw_okq (⟨"NinthWaveModel", "faults", "(I)Z"⟩, 29) := ⟨⟨by decide +kernel, by decide +kernel⟩, List.mem_of_getElem? (i := 800) (by decide +kernel), List.mem_of_getElem? (i := 959) (by decide +kernel), List.mem_of_getElem? (i := 960) (by decide +kernel)⟩
def lw_privs_2 : List (MethodName × Nat) := [(⟨"NinthWave", "foretell", "(I)V"⟩, 13), (⟨"NinthWave$Orders", "howManyCross", "(LNinthWave$Chart;LNinthWave$Scene;)I"⟩, 6), (⟨"NinthWave$Orders", "goOn", "(I)Z"⟩, 6), (⟨"NinthWave$Orders", "swap", "(II)V"⟩, 6), (⟨"NinthWave", "fitsLog", "(IIII)Z"⟩, 13), (⟨"NinthWave", "isSwell", "(I)Z"⟩, 13), (⟨"NinthWave$Asker", "asked", "(II)I"⟩, 6), (⟨"NinthWave$Asker", "given", "(II)I"⟩, 6), (⟨"NinthWave$Asker", "leave", "(I)V"⟩, 6), (⟨"NinthWaveModel", "finds", "(I)I"⟩, 29), (⟨"NinthWaveModel", "well", "(I)I"⟩, 29), (⟨"NinthWaveModel", "reads", "()Z"⟩, 29), (⟨"NinthWaveModel", "scans", "()V"⟩, 29), (⟨"NinthWaveModel", "isFigure", "()Z"⟩, 29), (⟨"NinthWaveModel", "isLetter", "(I)Z"⟩, 29), (⟨"NinthWaveModel", "faults", "(I)Z"⟩, 29)]
theorem lw_r2 : ∀ q ∈ lw_privs_2, lw_okq q := List.forall_mem_cons.mpr ⟨lw_p16, List.forall_mem_cons.mpr ⟨lw_p17, List.forall_mem_cons.mpr ⟨lw_p18, List.forall_mem_cons.mpr ⟨lw_p19, List.forall_mem_cons.mpr ⟨lw_p20, List.forall_mem_cons.mpr ⟨lw_p21, List.forall_mem_cons.mpr ⟨lw_p22, List.forall_mem_cons.mpr ⟨lw_p23, List.forall_mem_cons.mpr ⟨lw_p24, List.forall_mem_cons.mpr ⟨lw_p25, List.forall_mem_cons.mpr ⟨lw_p26, List.forall_mem_cons.mpr ⟨lw_p27, List.forall_mem_cons.mpr ⟨lw_p28, List.forall_mem_cons.mpr ⟨lw_p29, List.forall_mem_cons.mpr ⟨lw_p30, List.forall_mem_cons.mpr ⟨lw_p31, fun _ h => absurd h List.not_mem_nil⟩⟩⟩⟩⟩⟩⟩⟩⟩⟩⟩⟩⟩⟩⟩⟩
theorem lw_p32 : lw_okq (⟨"NinthWaveModel", "two", "(III)Z"⟩, 29) := ⟨⟨by decide +kernel, by decide +kernel⟩, List.mem_of_getElem? (i := 800) (by decide +kernel), List.mem_of_getElem? (i := 963) (by decide +kernel), List.mem_of_getElem? (i := 964) (by decide +kernel)⟩
theorem lw_p33 : lw_okq (⟨"NinthWaveModel", "takes", "(II)Z"⟩, 29) := ⟨⟨by decide +kernel, by decide +kernel⟩, List.mem_of_getElem? (i := 800) (by decide +kernel), List.mem_of_getElem? (i := 967) (by decide +kernel), List.mem_of_getElem? (i := 968) (by decide +kernel)⟩
theorem lw_p34 : lw_okq (⟨"NinthWaveModel", "signs", "(I)Z"⟩, 29) := ⟨⟨by decide +kernel, by decide +kernel⟩, List.mem_of_getElem? (i := 800) (by decide +kernel), List.mem_of_getElem? (i := 971) (by decide +kernel), List.mem_of_getElem? (i := 972) (by decide +kernel)⟩
theorem lw_p35 : lw_okq (⟨"NinthWaveModel", "swell", "()Z"⟩, 29) := ⟨⟨by decide +kernel, by decide +kernel⟩, List.mem_of_getElem? (i := 800) (by decide +kernel), List.mem_of_getElem? (i := 978) (by decide +kernel), List.mem_of_getElem? (i := 979) (by decide +kernel)⟩
theorem lw_p36 : lw_okq (⟨"NinthWaveModel", "turret", "()Z"⟩, 29) := ⟨⟨by decide +kernel, by decide +kernel⟩, List.mem_of_getElem? (i := 800) (by decide +kernel), List.mem_of_getElem? (i := 982) (by decide +kernel), List.mem_of_getElem? (i := 983) (by decide +kernel)⟩
theorem lw_p37 : lw_okq (⟨"NinthWaveModel", "vessel", "()Z"⟩, 29) := ⟨⟨by decide +kernel, by decide +kernel⟩, List.mem_of_getElem? (i := 800) (by decide +kernel), List.mem_of_getElem? (i := 986) (by decide +kernel), List.mem_of_getElem? (i := 987) (by decide +kernel)⟩
theorem lw_p38 : lw_okq (⟨"NinthWaveModel", "isSea", "()Z"⟩, 29) := ⟨⟨by decide +kernel, by decide +kernel⟩, List.mem_of_getElem? (i := 800) (by decide +kernel), List.mem_of_getElem? (i := 1000) (by decide +kernel), List.mem_of_getElem? (i := 1001) (by decide +kernel)⟩
theorem lw_p39 : lw_okq (⟨"NinthWaveModel", "remembers", "()V"⟩, 29) := ⟨⟨by decide +kernel, by decide +kernel⟩, List.mem_of_getElem? (i := 800) (by decide +kernel), List.mem_of_getElem? (i := 1006) (by decide +kernel), List.mem_of_getElem? (i := 1007) (by decide +kernel)⟩
theorem lw_p40 : lw_okq (⟨"NinthWaveModel", "asNow", "()V"⟩, 29) := ⟨⟨by decide +kernel, by decide +kernel⟩, List.mem_of_getElem? (i := 800) (by decide +kernel), List.mem_of_getElem? (i := 1010) (by decide +kernel), List.mem_of_getElem? (i := 1011) (by decide +kernel)⟩
theorem lw_p41 : lw_okq (⟨"NinthWaveModel", "waves0", "(I)V"⟩, 29) := ⟨⟨by decide +kernel, by decide +kernel⟩, List.mem_of_getElem? (i := 800) (by decide +kernel), List.mem_of_getElem? (i := 1014) (by decide +kernel), List.mem_of_getElem? (i := 1015) (by decide +kernel)⟩
theorem lw_p42 : lw_okq (⟨"NinthWaveModel", "sortIn", "(I)I"⟩, 29) := ⟨⟨by decide +kernel, by decide +kernel⟩, List.mem_of_getElem? (i := 800) (by decide +kernel), List.mem_of_getElem? (i := 1018) (by decide +kernel), List.mem_of_getElem? (i := 1019) (by decide +kernel)⟩
theorem lw_p43 : lw_okq (⟨"NinthWaveModel", "heightIn", "(I)I"⟩, 29) := ⟨⟨by decide +kernel, by decide +kernel⟩, List.mem_of_getElem? (i := 800) (by decide +kernel), List.mem_of_getElem? (i := 1022) (by decide +kernel), List.mem_of_getElem? (i := 1023) (by decide +kernel)⟩
theorem lw_p44 : lw_okq (⟨"NinthWaveModel", "comes", "(II)V"⟩, 29) := ⟨⟨by decide +kernel, by decide +kernel⟩, List.mem_of_getElem? (i := 800) (by decide +kernel), List.mem_of_getElem? (i := 1026) (by decide +kernel), List.mem_of_getElem? (i := 1027) (by decide +kernel)⟩
theorem lw_p45 : lw_okq (⟨"NinthWaveModel", "water", "(III)I"⟩, 29) := ⟨⟨by decide +kernel, by decide +kernel⟩, List.mem_of_getElem? (i := 800) (by decide +kernel), List.mem_of_getElem? (i := 1030) (by decide +kernel), List.mem_of_getElem? (i := 1031) (by decide +kernel)⟩
theorem lw_p46 : lw_okq (⟨"NinthWaveModel", "isTower", "(I)Z"⟩, 29) := ⟨⟨by decide +kernel, by decide +kernel⟩, List.mem_of_getElem? (i := 800) (by decide +kernel), List.mem_of_getElem? (i := 1050) (by decide +kernel), List.mem_of_getElem? (i := 1051) (by decide +kernel)⟩
theorem lw_p47 : lw_okq (⟨"NinthWaveModel", "isShip", "(I)Z"⟩, 29) := ⟨⟨by decide +kernel, by decide +kernel⟩, List.mem_of_getElem? (i := 800) (by decide +kernel), List.mem_of_getElem? (i := 1065) (by decide +kernel), List.mem_of_getElem? (i := 1066) (by decide +kernel)⟩
def lw_privs_3 : List (MethodName × Nat) := [(⟨"NinthWaveModel", "two", "(III)Z"⟩, 29), (⟨"NinthWaveModel", "takes", "(II)Z"⟩, 29), (⟨"NinthWaveModel", "signs", "(I)Z"⟩, 29), (⟨"NinthWaveModel", "swell", "()Z"⟩, 29), (⟨"NinthWaveModel", "turret", "()Z"⟩, 29), (⟨"NinthWaveModel", "vessel", "()Z"⟩, 29), (⟨"NinthWaveModel", "isSea", "()Z"⟩, 29), (⟨"NinthWaveModel", "remembers", "()V"⟩, 29), (⟨"NinthWaveModel", "asNow", "()V"⟩, 29), (⟨"NinthWaveModel", "waves0", "(I)V"⟩, 29), (⟨"NinthWaveModel", "sortIn", "(I)I"⟩, 29), (⟨"NinthWaveModel", "heightIn", "(I)I"⟩, 29), (⟨"NinthWaveModel", "comes", "(II)V"⟩, 29), (⟨"NinthWaveModel", "water", "(III)I"⟩, 29), (⟨"NinthWaveModel", "isTower", "(I)Z"⟩, 29), (⟨"NinthWaveModel", "isShip", "(I)Z"⟩, 29)]
theorem lw_r3 : ∀ q ∈ lw_privs_3, lw_okq q := List.forall_mem_cons.mpr ⟨lw_p32, List.forall_mem_cons.mpr ⟨lw_p33, List.forall_mem_cons.mpr ⟨lw_p34, List.forall_mem_cons.mpr ⟨lw_p35, List.forall_mem_cons.mpr ⟨lw_p36, List.forall_mem_cons.mpr ⟨lw_p37, List.forall_mem_cons.mpr ⟨lw_p38, List.forall_mem_cons.mpr ⟨lw_p39, List.forall_mem_cons.mpr ⟨lw_p40, List.forall_mem_cons.mpr ⟨lw_p41, List.forall_mem_cons.mpr ⟨lw_p42, List.forall_mem_cons.mpr ⟨lw_p43, List.forall_mem_cons.mpr ⟨lw_p44, List.forall_mem_cons.mpr ⟨lw_p45, List.forall_mem_cons.mpr ⟨lw_p46, List.forall_mem_cons.mpr ⟨lw_p47, fun _ h => absurd h List.not_mem_nil⟩⟩⟩⟩⟩⟩⟩⟩⟩⟩⟩⟩⟩⟩⟩⟩
theorem lw_p48 : lw_okq (⟨"NinthWaveModel", "placeOf", "(I)I"⟩, 29) := ⟨⟨by decide +kernel, by decide +kernel⟩, List.mem_of_getElem? (i := 800) (by decide +kernel), List.mem_of_getElem? (i := 1069) (by decide +kernel), List.mem_of_getElem? (i := 1070) (by decide +kernel)⟩
theorem lw_p49 : lw_okq (⟨"NinthWaveModel", "waterIn", "(I)I"⟩, 29) := ⟨⟨by decide +kernel, by decide +kernel⟩, List.mem_of_getElem? (i := 800) (by decide +kernel), List.mem_of_getElem? (i := 1096) (by decide +kernel), List.mem_of_getElem? (i := 1097) (by decide +kernel)⟩
theorem lw_p50 : lw_okq (⟨"NinthWaveModel", "many", "(I)I"⟩, 29) := ⟨⟨by decide +kernel, by decide +kernel⟩, List.mem_of_getElem? (i := 800) (by decide +kernel), List.mem_of_getElem? (i := 1105) (by decide +kernel), List.mem_of_getElem? (i := 1106) (by decide +kernel)⟩
theorem lw_p51 : lw_okq (⟨"NinthWaveModel", "lays", "(II)Z"⟩, 29) := ⟨⟨by decide +kernel, by decide +kernel⟩, List.mem_of_getElem? (i := 800) (by decide +kernel), List.mem_of_getElem? (i := 1136) (by decide +kernel), List.mem_of_getElem? (i := 1137) (by decide +kernel)⟩
theorem lw_p52 : lw_okq (⟨"NinthWaveModel", "callers", "()I"⟩, 29) := ⟨⟨by decide +kernel, by decide +kernel⟩, List.mem_of_getElem? (i := 800) (by decide +kernel), List.mem_of_getElem? (i := 1156) (by decide +kernel), List.mem_of_getElem? (i := 1157) (by decide +kernel)⟩
theorem lw_p53 : lw_okq (⟨"NinthWaveModel", "hasCalled", "(IIII)Z"⟩, 29) := ⟨⟨by decide +kernel, by decide +kernel⟩, List.mem_of_getElem? (i := 800) (by decide +kernel), List.mem_of_getElem? (i := 1166) (by decide +kernel), List.mem_of_getElem? (i := 1167) (by decide +kernel)⟩
theorem lw_p54 : lw_okq (⟨"NinthWaveModel", "isSwell", "(I)Z"⟩, 29) := ⟨⟨by decide +kernel, by decide +kernel⟩, List.mem_of_getElem? (i := 800) (by decide +kernel), List.mem_of_getElem? (i := 1196) (by decide +kernel), List.mem_of_getElem? (i := 1197) (by decide +kernel)⟩
theorem lw_p55 : lw_okq (⟨"NinthWaveModel", "sizeOf", "(I)I"⟩, 29) := ⟨⟨by decide +kernel, by decide +kernel⟩, List.mem_of_getElem? (i := 800) (by decide +kernel), List.mem_of_getElem? (i := 1208) (by decide +kernel), List.mem_of_getElem? (i := 1209) (by decide +kernel)⟩
theorem lw_p56 : lw_okq (⟨"NinthWaveModel", "leaves", "(I)V"⟩, 29) := ⟨⟨by decide +kernel, by decide +kernel⟩, List.mem_of_getElem? (i := 800) (by decide +kernel), List.mem_of_getElem? (i := 1212) (by decide +kernel), List.mem_of_getElem? (i := 1213) (by decide +kernel)⟩
theorem lw_p57 : lw_okq (⟨"NinthWaveModel", "plainMark", "(I)I"⟩, 29) := ⟨⟨by decide +kernel, by decide +kernel⟩, List.mem_of_getElem? (i := 800) (by decide +kernel), List.mem_of_getElem? (i := 1216) (by decide +kernel), List.mem_of_getElem? (i := 1217) (by decide +kernel)⟩
theorem lw_p58 : lw_okq (⟨"NinthWaveModel", "markOf", "(I)I"⟩, 29) := ⟨⟨by decide +kernel, by decide +kernel⟩, List.mem_of_getElem? (i := 800) (by decide +kernel), List.mem_of_getElem? (i := 1220) (by decide +kernel), List.mem_of_getElem? (i := 1221) (by decide +kernel)⟩
def lw_privs_4 : List (MethodName × Nat) := [(⟨"NinthWaveModel", "placeOf", "(I)I"⟩, 29), (⟨"NinthWaveModel", "waterIn", "(I)I"⟩, 29), (⟨"NinthWaveModel", "many", "(I)I"⟩, 29), (⟨"NinthWaveModel", "lays", "(II)Z"⟩, 29), (⟨"NinthWaveModel", "callers", "()I"⟩, 29), (⟨"NinthWaveModel", "hasCalled", "(IIII)Z"⟩, 29), (⟨"NinthWaveModel", "isSwell", "(I)Z"⟩, 29), (⟨"NinthWaveModel", "sizeOf", "(I)I"⟩, 29), (⟨"NinthWaveModel", "leaves", "(I)V"⟩, 29), (⟨"NinthWaveModel", "plainMark", "(I)I"⟩, 29), (⟨"NinthWaveModel", "markOf", "(I)I"⟩, 29)]
theorem lw_r4 : ∀ q ∈ lw_privs_4, lw_okq q := List.forall_mem_cons.mpr ⟨lw_p48, List.forall_mem_cons.mpr ⟨lw_p49, List.forall_mem_cons.mpr ⟨lw_p50, List.forall_mem_cons.mpr ⟨lw_p51, List.forall_mem_cons.mpr ⟨lw_p52, List.forall_mem_cons.mpr ⟨lw_p53, List.forall_mem_cons.mpr ⟨lw_p54, List.forall_mem_cons.mpr ⟨lw_p55, List.forall_mem_cons.mpr ⟨lw_p56, List.forall_mem_cons.mpr ⟨lw_p57, List.forall_mem_cons.mpr ⟨lw_p58, fun _ h => absurd h List.not_mem_nil⟩⟩⟩⟩⟩⟩⟩⟩⟩⟩⟩
def lw_privs : List (MethodName × Nat) := lw_privs_1 ++ (lw_privs_2 ++ (lw_privs_3 ++ (lw_privs_4)))
def lw_tbl : List Cond := k2_sels lw_privs ++ tables_1
theorem lw_privs_ok : ∀ q ∈ lw_privs, lw_okq q := by
  show ∀ q ∈ lw_privs_1 ++ (lw_privs_2 ++ (lw_privs_3 ++ (lw_privs_4))), lw_okq q
  exact List.forall_mem_append.mpr ⟨lw_r1, List.forall_mem_append.mpr ⟨lw_r2, List.forall_mem_append.mpr ⟨lw_r3, lw_r4⟩⟩⟩

theorem goodIn_r {big : List Cond} (ws : List Cond) (ps : List Nat) (hp : ws = ps.filterMap (fun i => big[i]?)) (h : ws.all goodWord = true) : GoodIn big ws := by
  intro w hw
  have h1 := List.all_eq_true.mp h w hw
  rw [hp] at hw
  obtain ⟨i, -, hi⟩ := List.mem_filterMap.mp hw
  have hm : w ∈ big := by first | exact List.mem_of_getElem? hi | exact List.getElem?_mem hi
  exact ⟨hm, good_of_word h1⟩
theorem goodIn_app {big a b : List Cond} (ha : GoodIn big a) (hb : GoodIn big b) : GoodIn big (a ++ b) := fun w h => (List.mem_append.mp h).elim (ha w) (hb w)
theorem goodIn_ca {big a b : List Cond} {c : Cond} (ha : GoodIn big (c :: a)) (hb : GoodIn big b) : GoodIn big (c :: (a ++ b)) := fun w h => (List.mem_cons.mp h).elim (fun e => ha w (List.mem_cons.mpr (Or.inl e))) (fun h => (List.mem_append.mp h).elim (fun h => ha w (List.mem_cons.mpr (Or.inr h))) (hb w))
theorem goodIn_sub {big ws : List Cond} (hm : ∀ w ∈ ws, w ∈ big) (h : ws.all goodWord = true) : GoodIn big ws := fun w hw => ⟨hm w hw, good_of_word (List.all_eq_true.mp h w hw)⟩
def RX0 : String := "NinthWave$Acts"
def TX0 : u_T := fun k => match k with
  | 0 => ("NinthWave$Acts", "ahead", "[LNinthWave$Scene;", true)
  | 1 => ("NinthWave$Acts", "next", "I", false)
  | _ => ("NinthWave$Acts", "many", "I", false)
def tyX0 : Nat → FieldType := fun k => match k with
  | 0 => .array (.object "NinthWave$Scene")
  | 1 => .int
  | _ => .int
abbrev wsX00 : List Cond := u_ws RX0 TX0 3
theorem nmX0 : ∀ a, a < 3 → ∀ b, b < 3 → a ≠ b → (TX0 a).2.1 ≠ (TX0 b).2.1 := by decide +kernel
theorem tyX0_ok : ∀ k, k < 3 → parseFieldDescriptor (TX0 k).2.2.1 = some (tyX0 k) := by decide +kernel
abbrev cX0_init : ByteArray := prog_2_method_1_code
def yX0_init : MethodName := ⟨RX0, "<init>", "()V"⟩
abbrev cX0_keep : ByteArray := prog_2_method_2_code
def yX0_keep : MethodName := ⟨RX0, "keep", "(LNinthWave$Scene;)V"⟩
abbrev cX0_takeBack : ByteArray := prog_2_method_3_code
def yX0_takeBack : MethodName := ⟨RX0, "takeBack", "(LNinthWave$Scene;)V"⟩
abbrev cX0_forgetAll : ByteArray := prog_2_method_4_code
def yX0_forgetAll : MethodName := ⟨RX0, "forgetAll", "()V"⟩
def RX1 : String := "NinthWave$Asker"
def TX1 : u_T := fun k => match k with
  | 0 => ("NinthWave$Asker", "bodies", "[I", true)
  | 1 => ("NinthWave$Asker", "traced", "I", false)
  | 2 => ("NinthWave$Asker", "swellKind", "I", false)
  | 3 => ("NinthWave$Asker", "height", "I", false)
  | 4 => ("NinthWave$Asker", "lift", "I", false)
  | _ => ("NinthWave$Asker", "swellNumber", "I", false)
def tyX1 : Nat → FieldType := fun k => match k with
  | 0 => .array .int
  | 1 => .int
  | 2 => .int
  | 3 => .int
  | 4 => .int
  | _ => .int
abbrev wsX10 : List Cond := u_ws RX1 TX1 6
theorem nmX1 : ∀ a, a < 6 → ∀ b, b < 6 → a ≠ b → (TX1 a).2.1 ≠ (TX1 b).2.1 := by decide +kernel
theorem tyX1_ok : ∀ k, k < 6 → parseFieldDescriptor (TX1 k).2.2.1 = some (tyX1 k) := by decide +kernel
abbrev cX1_init : ByteArray := prog_3_method_1_code
def yX1_init : MethodName := ⟨RX1, "<init>", "()V"⟩
abbrev cX1_answer : ByteArray := prog_3_method_2_code
def yX1_answer : MethodName := ⟨RX1, "answer", "(LNinthWave$Chart;II)I"⟩
abbrev cX1_asked : ByteArray := prog_3_method_3_code
def yX1_asked : MethodName := ⟨RX1, "asked", "(II)I"⟩
abbrev cX1_given : ByteArray := prog_3_method_4_code
def yX1_given : MethodName := ⟨RX1, "given", "(II)I"⟩
abbrev cX1_leave : ByteArray := prog_3_method_5_code
def yX1_leave : MethodName := ⟨RX1, "leave", "(I)V"⟩
def RX2 : String := "NinthWave$Chart"
def TX2 : u_T := fun k => match k with
  | 0 => ("NinthWave$Chart", "depth", "I", false)
  | 1 => ("NinthWave$Chart", "ebb", "I", false)
  | 2 => ("NinthWave$Chart", "swells", "I", false)
  | 3 => ("NinthWave$Chart", "towers", "I", false)
  | 4 => ("NinthWave$Chart", "ships", "I", false)
  | 5 => ("NinthWave$Chart", "kinds", "[I", true)
  | 6 => ("NinthWave$Chart", "heights", "[I", true)
  | 7 => ("NinthWave$Chart", "sees", "[I", true)
  | _ => ("NinthWave$Chart", "draughts", "[I", true)
def tyX2 : Nat → FieldType := fun k => match k with
  | 0 => .int
  | 1 => .int
  | 2 => .int
  | 3 => .int
  | 4 => .int
  | 5 => .array .int
  | 6 => .array .int
  | 7 => .array .int
  | _ => .array .int
abbrev wsX20 : List Cond := u_ws RX2 TX2 9
theorem nmX2 : ∀ a, a < 9 → ∀ b, b < 9 → a ≠ b → (TX2 a).2.1 ≠ (TX2 b).2.1 := by decide +kernel
theorem tyX2_ok : ∀ k, k < 9 → parseFieldDescriptor (TX2 k).2.2.1 = some (tyX2 k) := by decide +kernel
abbrev cX2_init : ByteArray := prog_4_method_1_code
def yX2_init : MethodName := ⟨RX2, "<init>", "()V"⟩
abbrev cX2_become : ByteArray := prog_4_method_2_code
def yX2_become : MethodName := ⟨RX2, "become", "(LNinthWave$Chart;)V"⟩
abbrev cX2_swellOf : ByteArray := prog_4_method_3_code
def yX2_swellOf : MethodName := ⟨RX2, "swellOf", "(I)I"⟩
abbrev cX2_kindIn : ByteArray := prog_4_method_4_code
def yX2_kindIn : MethodName := ⟨RX2, "kindIn", "(I)I"⟩
abbrev cX2_stepOf : ByteArray := prog_4_method_5_code
def yX2_stepOf : MethodName := ⟨RX2, "stepOf", "(II)I"⟩
abbrev cX2_liftOf : ByteArray := prog_4_method_6_code
def yX2_liftOf : MethodName := ⟨RX2, "liftOf", "(II)I"⟩
abbrev cX2_liftOfSwell : ByteArray := prog_4_method_7_code
def yX2_liftOfSwell : MethodName := ⟨RX2, "liftOfSwell", "(I)I"⟩
abbrev cX2_depthIn : ByteArray := prog_4_method_8_code
def yX2_depthIn : MethodName := ⟨RX2, "depthIn", "(I)I"⟩
abbrev cX2_waterIn : ByteArray := prog_4_method_9_code
def yX2_waterIn : MethodName := ⟨RX2, "waterIn", "(I)I"⟩
def RX3 : String := "NinthWave$Image"
def TX3 : u_T := fun k => match k with
  | 0 => ("NinthWave$Image", "chart", "LNinthWave$Chart;", true)
  | 1 => ("NinthWave$Image", "scene", "LNinthWave$Scene;", true)
  | _ => ("NinthWave$Image", "isKept", "Z", false)
def tyX3 : Nat → FieldType := fun k => match k with
  | 0 => .object "NinthWave$Chart"
  | 1 => .object "NinthWave$Scene"
  | _ => .boolean
abbrev wsX30 : List Cond := u_ws RX3 TX3 3
theorem nmX3 : ∀ a, a < 3 → ∀ b, b < 3 → a ≠ b → (TX3 a).2.1 ≠ (TX3 b).2.1 := by decide +kernel
theorem tyX3_ok : ∀ k, k < 3 → parseFieldDescriptor (TX3 k).2.2.1 = some (tyX3 k) := by decide +kernel
abbrev cX3_init : ByteArray := prog_5_method_1_code
def yX3_init : MethodName := ⟨RX3, "<init>", "()V"⟩
abbrev cX3_keep : ByteArray := prog_5_method_2_code
def yX3_keep : MethodName := ⟨RX3, "keep", "(LNinthWave$Chart;LNinthWave$Scene;)V"⟩
def RX4 : String := "NinthWave$Kinds"
def TX4 : u_T := fun k => match k with
  | _ => ("", "", "", false)
def tyX4 : Nat → FieldType := fun k => match k with
  | _ => .int
abbrev wsX40 : List Cond := u_ws RX4 TX4 0
theorem nmX4 : ∀ a, a < 0 → ∀ b, b < 0 → a ≠ b → (TX4 a).2.1 ≠ (TX4 b).2.1 := by decide +kernel
theorem tyX4_ok : ∀ k, k < 0 → parseFieldDescriptor (TX4 k).2.2.1 = some (tyX4 k) := by decide +kernel
abbrev cX4_next : ByteArray := prog_6_method_2_code
def yX4_next : MethodName := ⟨RX4, "next", "(I)I"⟩
abbrev cX4_isA : ByteArray := prog_6_method_3_code
def yX4_isA : MethodName := ⟨RX4, "isA", "(II)Z"⟩
abbrev cX4_stepOf : ByteArray := prog_6_method_4_code
def yX4_stepOf : MethodName := ⟨RX4, "stepOf", "(II)I"⟩
abbrev cX4_toldBy : ByteArray := prog_6_method_5_code
def yX4_toldBy : MethodName := ⟨RX4, "toldBy", "(I)I"⟩
def RX5 : String := "NinthWave$Orders"
def TX5 : u_T := fun k => match k with
  | 0 => ("NinthWave$Orders", "waters", "[[I", true)
  | 1 => ("NinthWave$Orders", "heard", "[I", true)
  | 2 => ("NinthWave$Orders", "used", "[I", true)
  | 3 => ("NinthWave$Orders", "tried", "[I", true)
  | 4 => ("NinthWave$Orders", "best", "[I", true)
  | _ => ("NinthWave$Orders", "mostOver", "I", false)
def tyX5 : Nat → FieldType := fun k => match k with
  | 0 => .array (.array .int)
  | 1 => .array .int
  | 2 => .array .int
  | 3 => .array .int
  | 4 => .array .int
  | _ => .int
abbrev wsX50 : List Cond := u_ws RX5 TX5 6
theorem nmX5 : ∀ a, a < 6 → ∀ b, b < 6 → a ≠ b → (TX5 a).2.1 ≠ (TX5 b).2.1 := by decide +kernel
theorem tyX5_ok : ∀ k, k < 6 → parseFieldDescriptor (TX5 k).2.2.1 = some (tyX5 k) := by decide +kernel
abbrev cX5_init : ByteArray := prog_7_method_1_code
def yX5_init : MethodName := ⟨RX5, "<init>", "()V"⟩
abbrev cX5_listen : ByteArray := prog_7_method_2_code
def yX5_listen : MethodName := ⟨RX5, "listen", "(LNinthWave$Chart;LNinthWave$Scene;I)V"⟩
abbrev cX5_search : ByteArray := prog_7_method_3_code
def yX5_search : MethodName := ⟨RX5, "search", "(LNinthWave$Chart;LNinthWave$Scene;)V"⟩
abbrev cX5_howManyCross : ByteArray := prog_7_method_4_code
def yX5_howManyCross : MethodName := ⟨RX5, "howManyCross", "(LNinthWave$Chart;LNinthWave$Scene;)I"⟩
abbrev cX5_goOn : ByteArray := prog_7_method_5_code
def yX5_goOn : MethodName := ⟨RX5, "goOn", "(I)Z"⟩
abbrev cX5_swap : ByteArray := prog_7_method_6_code
def yX5_swap : MethodName := ⟨RX5, "swap", "(II)V"⟩
def RX6 : String := "NinthWave$Reader"
def TX6 : u_T := fun k => match k with
  | 0 => ("NinthWave$Reader", "tape", "[I", true)
  | 1 => ("NinthWave$Reader", "length", "I", false)
  | 2 => ("NinthWave$Reader", "place", "I", false)
  | 3 => ("NinthWave$Reader", "flaw", "I", false)
  | 4 => ("NinthWave$Reader", "first", "I", false)
  | _ => ("NinthWave$Reader", "second", "I", false)
def tyX6 : Nat → FieldType := fun k => match k with
  | 0 => .array .int
  | 1 => .int
  | 2 => .int
  | 3 => .int
  | 4 => .int
  | _ => .int
abbrev wsX60 : List Cond := u_ws RX6 TX6 6
theorem nmX6 : ∀ a, a < 6 → ∀ b, b < 6 → a ≠ b → (TX6 a).2.1 ≠ (TX6 b).2.1 := by decide +kernel
theorem tyX6_ok : ∀ k, k < 6 → parseFieldDescriptor (TX6 k).2.2.1 = some (tyX6 k) := by decide +kernel
abbrev cX6_init : ByteArray := prog_8_method_1_code
def yX6_init : MethodName := ⟨RX6, "<init>", "()V"⟩
abbrev cX6_isFull : ByteArray := prog_8_method_2_code
def yX6_isFull : MethodName := ⟨RX6, "isFull", "()Z"⟩
abbrev cX6_append : ByteArray := prog_8_method_3_code
def yX6_append : MethodName := ⟨RX6, "append", "(I)I"⟩
abbrev cX6_empty : ByteArray := prog_8_method_4_code
def yX6_empty : MethodName := ⟨RX6, "empty", "()V"⟩
abbrev cX6_faultNumber : ByteArray := prog_8_method_5_code
def yX6_faultNumber : MethodName := ⟨RX6, "faultNumber", "()I"⟩
abbrev cX6_faultPlace : ByteArray := prog_8_method_6_code
def yX6_faultPlace : MethodName := ⟨RX6, "faultPlace", "()I"⟩
abbrev cX6_read : ByteArray := prog_8_method_7_code
def yX6_read : MethodName := ⟨RX6, "read", "(LNinthWave$Chart;LNinthWave$Scene;)Z"⟩
abbrev cX6_readBar : ByteArray := prog_8_method_8_code
def yX6_readBar : MethodName := ⟨RX6, "readBar", "(LNinthWave$Chart;)Z"⟩
abbrev cX6_readSwells : ByteArray := prog_8_method_9_code
def yX6_readSwells : MethodName := ⟨RX6, "readSwells", "(LNinthWave$Chart;)Z"⟩
abbrev cX6_readTowers : ByteArray := prog_8_method_10_code
def yX6_readTowers : MethodName := ⟨RX6, "readTowers", "(LNinthWave$Chart;LNinthWave$Scene;)Z"⟩
abbrev cX6_readShips : ByteArray := prog_8_method_11_code
def yX6_readShips : MethodName := ⟨RX6, "readShips", "(LNinthWave$Chart;LNinthWave$Scene;)Z"⟩
abbrev cX6_readPair : ByteArray := prog_8_method_12_code
def yX6_readPair : MethodName := ⟨RX6, "readPair", "(II)Z"⟩
abbrev cX6_isAtEnd : ByteArray := prog_8_method_13_code
def yX6_isAtEnd : MethodName := ⟨RX6, "isAtEnd", "()Z"⟩
abbrev cX6_at : ByteArray := prog_8_method_14_code
def yX6_at : MethodName := ⟨RX6, "at", "(I)I"⟩
abbrev cX6_fails : ByteArray := prog_8_method_15_code
def yX6_fails : MethodName := ⟨RX6, "fails", "(I)Z"⟩
abbrev cX6_passes : ByteArray := prog_8_method_16_code
def yX6_passes : MethodName := ⟨RX6, "passes", "(I)Z"⟩
abbrev cX6_number : ByteArray := prog_8_method_17_code
def yX6_number : MethodName := ⟨RX6, "number", "(I)I"⟩
abbrev cX6_isFigure : ByteArray := prog_8_method_18_code
def yX6_isFigure : MethodName := ⟨RX6, "isFigure", "(I)Z"⟩
def RX7 : String := "NinthWave$Rows"
def TX7 : u_T := fun k => match k with
  | 0 => ("NinthWave$Rows", "lanes", "[I", true)
  | 1 => ("NinthWave$Rows", "sizes", "[I", true)
  | _ => ("NinthWave$Rows", "items", "[[I", true)
def tyX7 : Nat → FieldType := fun k => match k with
  | 0 => .array .int
  | 1 => .array .int
  | _ => .array (.array .int)
abbrev wsX70 : List Cond := u_ws RX7 TX7 3
theorem nmX7 : ∀ a, a < 3 → ∀ b, b < 3 → a ≠ b → (TX7 a).2.1 ≠ (TX7 b).2.1 := by decide +kernel
theorem tyX7_ok : ∀ k, k < 3 → parseFieldDescriptor (TX7 k).2.2.1 = some (tyX7 k) := by decide +kernel
abbrev cX7_init : ByteArray := prog_9_method_1_code
def yX7_init : MethodName := ⟨RX7, "<init>", "()V"⟩
abbrev cX7_isMissing : ByteArray := prog_9_method_2_code
def yX7_isMissing : MethodName := ⟨RX7, "isMissing", "(I)Z"⟩
abbrev cX7_alike : ByteArray := prog_9_method_3_code
def yX7_alike : MethodName := ⟨RX7, "alike", "(II)Z"⟩
abbrev cX7_hasPlaces : ByteArray := prog_9_method_4_code
def yX7_hasPlaces : MethodName := ⟨RX7, "hasPlaces", "(III)Z"⟩
abbrev cX7_make : ByteArray := prog_9_method_5_code
def yX7_make : MethodName := ⟨RX7, "make", "(III)V"⟩
abbrev cX7_put : ByteArray := prog_9_method_6_code
def yX7_put : MethodName := ⟨RX7, "put", "(III)I"⟩
abbrev cX7_move : ByteArray := prog_9_method_7_code
def yX7_move : MethodName := ⟨RX7, "move", "(IIIII)V"⟩
abbrev cX7_lose : ByteArray := prog_9_method_8_code
def yX7_lose : MethodName := ⟨RX7, "lose", "(I)I"⟩
abbrev cX7_item : ByteArray := prog_9_method_9_code
def yX7_item : MethodName := ⟨RX7, "item", "(II)I"⟩
abbrev cX7_rises : ByteArray := prog_9_method_10_code
def yX7_rises : MethodName := ⟨RX7, "rises", "(IIII)Z"⟩
abbrev cX7_howManyThere : ByteArray := prog_9_method_11_code
def yX7_howManyThere : MethodName := ⟨RX7, "howManyThere", "()I"⟩
def RX8 : String := "NinthWave$Scene"
def TX8 : u_T := fun k => match k with
  | 0 => ("NinthWave$Scene", "wave", "I", false)
  | 1 => ("NinthWave$Scene", "law", "I", false)
  | 2 => ("NinthWave$Scene", "counts", "[I", true)
  | 3 => ("NinthWave$Scene", "order", "[I", true)
  | 4 => ("NinthWave$Scene", "heeded", "[I", true)
  | 5 => ("NinthWave$Scene", "fates", "[I", true)
  | _ => ("NinthWave$Scene", "crossings", "[I", true)
def tyX8 : Nat → FieldType := fun k => match k with
  | 0 => .int
  | 1 => .int
  | 2 => .array .int
  | 3 => .array .int
  | 4 => .array .int
  | 5 => .array .int
  | _ => .array .int
abbrev wsX80 : List Cond := u_ws RX8 TX8 7
theorem nmX8 : ∀ a, a < 7 → ∀ b, b < 7 → a ≠ b → (TX8 a).2.1 ≠ (TX8 b).2.1 := by decide +kernel
theorem tyX8_ok : ∀ k, k < 7 → parseFieldDescriptor (TX8 k).2.2.1 = some (tyX8 k) := by decide +kernel
abbrev cX8_init : ByteArray := prog_10_method_1_code
def yX8_init : MethodName := ⟨RX8, "<init>", "()V"⟩
abbrev cX8_begin : ByteArray := prog_10_method_2_code
def yX8_begin : MethodName := ⟨RX8, "begin", "()V"⟩
abbrev cX8_become : ByteArray := prog_10_method_3_code
def yX8_become : MethodName := ⟨RX8, "become", "(LNinthWave$Scene;)V"⟩
abbrev cX8_pass : ByteArray := prog_10_method_4_code
def yX8_pass : MethodName := ⟨RX8, "pass", "(LNinthWave$Chart;I)V"⟩
abbrev cX8_comeInBy : ByteArray := prog_10_method_5_code
def yX8_comeInBy : MethodName := ⟨RX8, "comeInBy", "(LNinthWave$Chart;)I"⟩
abbrev cX8_comeIn : ByteArray := prog_10_method_6_code
def yX8_comeIn : MethodName := ⟨RX8, "comeIn", "(LNinthWave$Chart;II)I"⟩
abbrev cX8_cross : ByteArray := prog_10_method_7_code
def yX8_cross : MethodName := ⟨RX8, "cross", "(LNinthWave$Chart;II)V"⟩
abbrev cX8_slipBy : ByteArray := prog_10_method_8_code
def yX8_slipBy : MethodName := ⟨RX8, "slipBy", "(II)I"⟩
abbrev cX8_waits : ByteArray := prog_10_method_9_code
def yX8_waits : MethodName := ⟨RX8, "waits", "(I)Z"⟩
abbrev cX8_isOverAheadOf : ByteArray := prog_10_method_10_code
def yX8_isOverAheadOf : MethodName := ⟨RX8, "isOverAheadOf", "(II)Z"⟩
abbrev cX8_placeOf : ByteArray := prog_10_method_11_code
def yX8_placeOf : MethodName := ⟨RX8, "placeOf", "(I)I"⟩
abbrev cX8_howMany : ByteArray := prog_10_method_12_code
def yX8_howMany : MethodName := ⟨RX8, "howMany", "(LNinthWave$Chart;I)I"⟩
abbrev cX8_howManyWaitFor : ByteArray := prog_10_method_13_code
def yX8_howManyWaitFor : MethodName := ⟨RX8, "howManyWaitFor", "(LNinthWave$Chart;I)I"⟩
def RX9 : String := "NinthWave"
def TX9 : u_T := fun k => match k with
  | 0 => ("NinthWave", "rows", "LNinthWave$Rows;", true)
  | 1 => ("NinthWave", "reader", "LNinthWave$Reader;", true)
  | 2 => ("NinthWave", "chart", "LNinthWave$Chart;", true)
  | 3 => ("NinthWave", "draft", "LNinthWave$Chart;", true)
  | 4 => ("NinthWave", "now", "LNinthWave$Scene;", true)
  | 5 => ("NinthWave", "trial", "LNinthWave$Scene;", true)
  | 6 => ("NinthWave", "acts", "LNinthWave$Acts;", true)
  | 7 => ("NinthWave", "orders", "LNinthWave$Orders;", true)
  | 8 => ("NinthWave", "asker", "LNinthWave$Asker;", true)
  | 9 => ("NinthWave", "images", "[LNinthWave$Image;", true)
  | 10 => ("NinthWave", "hasSea", "Z", false)
  | 11 => ("NinthWave", "latestFault", "I", false)
  | _ => ("NinthWave", "finding", "I", false)
def tyX9 : Nat → FieldType := fun k => match k with
  | 0 => .object "NinthWave$Rows"
  | 1 => .object "NinthWave$Reader"
  | 2 => .object "NinthWave$Chart"
  | 3 => .object "NinthWave$Chart"
  | 4 => .object "NinthWave$Scene"
  | 5 => .object "NinthWave$Scene"
  | 6 => .object "NinthWave$Acts"
  | 7 => .object "NinthWave$Orders"
  | 8 => .object "NinthWave$Asker"
  | 9 => .array (.object "NinthWave$Image")
  | 10 => .boolean
  | 11 => .int
  | _ => .int
abbrev wsX90 : List Cond := u_ws RX9 TX9 13
theorem nmX9 : ∀ a, a < 13 → ∀ b, b < 13 → a ≠ b → (TX9 a).2.1 ≠ (TX9 b).2.1 := by decide +kernel
theorem tyX9_ok : ∀ k, k < 13 → parseFieldDescriptor (TX9 k).2.2.1 = some (tyX9 k) := by decide +kernel
abbrev cX9_init : ByteArray := prog_1_method_1_code
def yX9_init : MethodName := ⟨RX9, "<init>", "()V"⟩
abbrev cX9_row : ByteArray := prog_1_method_2_code
def yX9_row : MethodName := ⟨RX9, "row", "(III)I"⟩
abbrev cX9_set : ByteArray := prog_1_method_3_code
def yX9_set : MethodName := ⟨RX9, "set", "(III)I"⟩
abbrev cX9_copy : ByteArray := prog_1_method_4_code
def yX9_copy : MethodName := ⟨RX9, "copy", "(IIIII)I"⟩
abbrev cX9_drop : ByteArray := prog_1_method_5_code
def yX9_drop : MethodName := ⟨RX9, "drop", "(I)I"⟩
abbrev cX9_feed : ByteArray := prog_1_method_6_code
def yX9_feed : MethodName := ⟨RX9, "feed", "(I)I"⟩
abbrev cX9_sea : ByteArray := prog_1_method_7_code
def yX9_sea : MethodName := ⟨RX9, "sea", "()I"⟩
abbrev cX9_fault : ByteArray := prog_1_method_8_code
def yX9_fault : MethodName := ⟨RX9, "fault", "()I"⟩
abbrev cX9_waves : ByteArray := prog_1_method_9_code
def yX9_waves : MethodName := ⟨RX9, "waves", "(I)I"⟩
abbrev cX9_slip : ByteArray := prog_1_method_10_code
def yX9_slip : MethodName := ⟨RX9, "slip", "(II)I"⟩
abbrev cX9_law : ByteArray := prog_1_method_11_code
def yX9_law : MethodName := ⟨RX9, "law", "(I)I"⟩
abbrev cX9_change : ByteArray := prog_1_method_12_code
def yX9_change : MethodName := ⟨RX9, "change", "(II)I"⟩
abbrev cX9_heeds : ByteArray := prog_1_method_13_code
def yX9_heeds : MethodName := ⟨RX9, "heeds", "(II)I"⟩
abbrev cX9_undo : ByteArray := prog_1_method_14_code
def yX9_undo : MethodName := ⟨RX9, "undo", "()I"⟩
abbrev cX9_ship : ByteArray := prog_1_method_15_code
def yX9_ship : MethodName := ⟨RX9, "ship", "(II)I"⟩
abbrev cX9_tower : ByteArray := prog_1_method_16_code
def yX9_tower : MethodName := ⟨RX9, "tower", "(II)I"⟩
abbrev cX9_wave : ByteArray := prog_1_method_17_code
def yX9_wave : MethodName := ⟨RX9, "wave", "(II)I"⟩
abbrev cX9_ahead : ByteArray := prog_1_method_18_code
def yX9_ahead : MethodName := ⟨RX9, "ahead", "(II)I"⟩
abbrev cX9_shipAhead : ByteArray := prog_1_method_19_code
def yX9_shipAhead : MethodName := ⟨RX9, "shipAhead", "(III)I"⟩
abbrev cX9_towerAhead : ByteArray := prog_1_method_20_code
def yX9_towerAhead : MethodName := ⟨RX9, "towerAhead", "(II)I"⟩
abbrev cX9_called : ByteArray := prog_1_method_21_code
def yX9_called : MethodName := ⟨RX9, "called", "(II)I"⟩
abbrev cX9_fit : ByteArray := prog_1_method_22_code
def yX9_fit : MethodName := ⟨RX9, "fit", "(II)I"⟩
abbrev cX9_highest : ByteArray := prog_1_method_23_code
def yX9_highest : MethodName := ⟨RX9, "highest", "(II)I"⟩
abbrev cX9_order : ByteArray := prog_1_method_24_code
def yX9_order : MethodName := ⟨RX9, "order", "(II)I"⟩
abbrev cX9_laws : ByteArray := prog_1_method_25_code
def yX9_laws : MethodName := ⟨RX9, "laws", "(II)I"⟩
abbrev cX9_bribe : ByteArray := prog_1_method_26_code
def yX9_bribe : MethodName := ⟨RX9, "bribe", "(II)I"⟩
abbrev cX9_heed : ByteArray := prog_1_method_27_code
def yX9_heed : MethodName := ⟨RX9, "heed", "(I)I"⟩
abbrev cX9_agreed : ByteArray := prog_1_method_28_code
def yX9_agreed : MethodName := ⟨RX9, "agreed", "(II)I"⟩
abbrev cX9_log : ByteArray := prog_1_method_29_code
def yX9_log : MethodName := ⟨RX9, "log", "(IIII)I"⟩
abbrev cX9_wreck : ByteArray := prog_1_method_30_code
def yX9_wreck : MethodName := ⟨RX9, "wreck", "(IIII)I"⟩
abbrev cX9_season : ByteArray := prog_1_method_31_code
def yX9_season : MethodName := ⟨RX9, "season", "(III)I"⟩
abbrev cX9_image : ByteArray := prog_1_method_32_code
def yX9_image : MethodName := ⟨RX9, "image", "(I)I"⟩
abbrev cX9_restore : ByteArray := prog_1_method_33_code
def yX9_restore : MethodName := ⟨RX9, "restore", "(I)I"⟩
abbrev cX9_kind : ByteArray := prog_1_method_34_code
def yX9_kind : MethodName := ⟨RX9, "kind", "(I)I"⟩
abbrev cX9_as : ByteArray := prog_1_method_35_code
def yX9_as : MethodName := ⟨RX9, "as", "(II)I"⟩
abbrev cX9_ask : ByteArray := prog_1_method_36_code
def yX9_ask : MethodName := ⟨RX9, "ask", "(II)I"⟩
abbrev cX9_trace : ByteArray := prog_1_method_37_code
def yX9_trace : MethodName := ⟨RX9, "trace", "(I)I"⟩
abbrev cX9_count : ByteArray := prog_1_method_38_code
def yX9_count : MethodName := ⟨RX9, "count", "(I)I"⟩
abbrev cX9_status : ByteArray := prog_1_method_39_code
def yX9_status : MethodName := ⟨RX9, "status", "()I"⟩
abbrev cX9_found : ByteArray := prog_1_method_40_code
def yX9_found : MethodName := ⟨RX9, "found", "(I)I"⟩
abbrev cX9_fine : ByteArray := prog_1_method_41_code
def yX9_fine : MethodName := ⟨RX9, "fine", "(I)I"⟩
abbrev cX9_foretell : ByteArray := prog_1_method_42_code
def yX9_foretell : MethodName := ⟨RX9, "foretell", "(I)V"⟩
abbrev cX9_fitsLog : ByteArray := prog_1_method_43_code
def yX9_fitsLog : MethodName := ⟨RX9, "fitsLog", "(IIII)Z"⟩
abbrev cX9_isRow : ByteArray := prog_1_method_44_code
def yX9_isRow : MethodName := ⟨RX9, "isRow", "(I)Z"⟩
abbrev cX9_isSwell : ByteArray := prog_1_method_45_code
def yX9_isSwell : MethodName := ⟨RX9, "isSwell", "(I)Z"⟩
abbrev cX9_isTower : ByteArray := prog_1_method_46_code
def yX9_isTower : MethodName := ⟨RX9, "isTower", "(I)Z"⟩
abbrev cX9_isShip : ByteArray := prog_1_method_47_code
def yX9_isShip : MethodName := ⟨RX9, "isShip", "(I)Z"⟩
abbrev cX9_within : ByteArray := prog_1_method_48_code
def yX9_within : MethodName := ⟨RX9, "within", "(III)Z"⟩
abbrev cX9_calls : ByteArray := prog_1_method_49_code
def yX9_calls : MethodName := ⟨RX9, "calls", "(III)Z"⟩
def RX10 : String := "NinthWaveModel"
def TX10 : u_T := fun k => match k with
  | 0 => ("NinthWaveModel", "lanes", "[I", true)
  | 1 => ("NinthWaveModel", "sizes", "[I", true)
  | 2 => ("NinthWaveModel", "items", "[I", true)
  | 3 => ("NinthWaveModel", "found", "I", false)
  | 4 => ("NinthWaveModel", "moved", "[I", true)
  | 5 => ("NinthWaveModel", "tape", "[I", true)
  | 6 => ("NinthWaveModel", "fed", "I", false)
  | 7 => ("NinthWaveModel", "faulty", "I", false)
  | 8 => ("NinthWaveModel", "sea", "[I", true)
  | 9 => ("NinthWaveModel", "now", "[I", true)
  | 10 => ("NinthWaveModel", "read", "[I", true)
  | 11 => ("NinthWaveModel", "images", "[I", true)
  | 12 => ("NinthWaveModel", "kept", "[Z", true)
  | 13 => ("NinthWaveModel", "was", "[I", true)
  | 14 => ("NinthWaveModel", "acts", "I", false)
  | 15 => ("NinthWaveModel", "at", "I", false)
  | 16 => ("NinthWaveModel", "start", "I", false)
  | 17 => ("NinthWaveModel", "token", "I", false)
  | 18 => ("NinthWaveModel", "value", "I", false)
  | 19 => ("NinthWaveModel", "wrong", "I", false)
  | 20 => ("NinthWaveModel", "got", "I", false)
  | 21 => ("NinthWaveModel", "other", "I", false)
  | 22 => ("NinthWaveModel", "counts", "[I", true)
  | 23 => ("NinthWaveModel", "heeded", "[I", true)
  | 24 => ("NinthWaveModel", "so", "[I", true)
  | 25 => ("NinthWaveModel", "row0", "[I", true)
  | 26 => ("NinthWaveModel", "best", "[I", true)
  | 27 => ("NinthWaveModel", "traced", "[I", true)
  | _ => ("NinthWaveModel", "traces", "I", false)
def tyX10 : Nat → FieldType := fun k => match k with
  | 0 => .array .int
  | 1 => .array .int
  | 2 => .array .int
  | 3 => .int
  | 4 => .array .int
  | 5 => .array .int
  | 6 => .int
  | 7 => .int
  | 8 => .array .int
  | 9 => .array .int
  | 10 => .array .int
  | 11 => .array .int
  | 12 => .array .boolean
  | 13 => .array .int
  | 14 => .int
  | 15 => .int
  | 16 => .int
  | 17 => .int
  | 18 => .int
  | 19 => .int
  | 20 => .int
  | 21 => .int
  | 22 => .array .int
  | 23 => .array .int
  | 24 => .array .int
  | 25 => .array .int
  | 26 => .array .int
  | 27 => .array .int
  | _ => .int
abbrev wsX100 : List Cond := u_ws RX10 TX10 29
theorem nmX10 : ∀ a, a < 29 → ∀ b, b < 29 → a ≠ b → (TX10 a).2.1 ≠ (TX10 b).2.1 := by decide +kernel
theorem tyX10_ok : ∀ k, k < 29 → parseFieldDescriptor (TX10 k).2.2.1 = some (tyX10 k) := by decide +kernel
abbrev cX10_in : ByteArray := prog_12_method_2_code
def yX10_in : MethodName := ⟨RX10, "in", "(JJJ)Z"⟩
abbrev cX10_most : ByteArray := prog_12_method_3_code
def yX10_most : MethodName := ⟨RX10, "most", "(II)I"⟩
abbrev cX10_init : ByteArray := prog_12_method_4_code
def yX10_init : MethodName := ⟨RX10, "<init>", "()V"⟩
abbrev cX10_isRow : ByteArray := prog_12_method_5_code
def yX10_isRow : MethodName := ⟨RX10, "isRow", "(I)Z"⟩
abbrev cX10_finds : ByteArray := prog_12_method_6_code
def yX10_finds : MethodName := ⟨RX10, "finds", "(I)I"⟩
abbrev cX10_well : ByteArray := prog_12_method_7_code
def yX10_well : MethodName := ⟨RX10, "well", "(I)I"⟩
abbrev cX10_row : ByteArray := prog_12_method_8_code
def yX10_row : MethodName := ⟨RX10, "row", "(III)I"⟩
abbrev cX10_set : ByteArray := prog_12_method_9_code
def yX10_set : MethodName := ⟨RX10, "set", "(III)I"⟩
abbrev cX10_copy : ByteArray := prog_12_method_10_code
def yX10_copy : MethodName := ⟨RX10, "copy", "(IIIII)I"⟩
abbrev cX10_drop : ByteArray := prog_12_method_11_code
def yX10_drop : MethodName := ⟨RX10, "drop", "(I)I"⟩
abbrev cX10_feed : ByteArray := prog_12_method_12_code
def yX10_feed : MethodName := ⟨RX10, "feed", "(I)I"⟩
abbrev cX10_isFigure : ByteArray := prog_12_method_13_code
def yX10_isFigure : MethodName := ⟨RX10, "isFigure", "()Z"⟩
abbrev cX10_scans : ByteArray := prog_12_method_14_code
def yX10_scans : MethodName := ⟨RX10, "scans", "()V"⟩
abbrev cX10_faults : ByteArray := prog_12_method_15_code
def yX10_faults : MethodName := ⟨RX10, "faults", "(I)Z"⟩
abbrev cX10_takes : ByteArray := prog_12_method_16_code
def yX10_takes : MethodName := ⟨RX10, "takes", "(II)Z"⟩
abbrev cX10_signs : ByteArray := prog_12_method_17_code
def yX10_signs : MethodName := ⟨RX10, "signs", "(I)Z"⟩
abbrev cX10_two : ByteArray := prog_12_method_18_code
def yX10_two : MethodName := ⟨RX10, "two", "(III)Z"⟩
abbrev cX10_sortOf : ByteArray := prog_12_method_19_code
def yX10_sortOf : MethodName := ⟨RX10, "sortOf", "(I)I"⟩
abbrev cX10_isLetter : ByteArray := prog_12_method_20_code
def yX10_isLetter : MethodName := ⟨RX10, "isLetter", "(I)Z"⟩
abbrev cX10_swell : ByteArray := prog_12_method_21_code
def yX10_swell : MethodName := ⟨RX10, "swell", "()Z"⟩
abbrev cX10_turret : ByteArray := prog_12_method_22_code
def yX10_turret : MethodName := ⟨RX10, "turret", "()Z"⟩
abbrev cX10_vessel : ByteArray := prog_12_method_23_code
def yX10_vessel : MethodName := ⟨RX10, "vessel", "()Z"⟩
abbrev cX10_reads : ByteArray := prog_12_method_24_code
def yX10_reads : MethodName := ⟨RX10, "reads", "()Z"⟩
abbrev cX10_sea : ByteArray := prog_12_method_25_code
def yX10_sea : MethodName := ⟨RX10, "sea", "()I"⟩
abbrev cX10_fault : ByteArray := prog_12_method_26_code
def yX10_fault : MethodName := ⟨RX10, "fault", "()I"⟩
abbrev cX10_isSea : ByteArray := prog_12_method_27_code
def yX10_isSea : MethodName := ⟨RX10, "isSea", "()Z"⟩
abbrev cX10_isShip : ByteArray := prog_12_method_28_code
def yX10_isShip : MethodName := ⟨RX10, "isShip", "(I)Z"⟩
abbrev cX10_isTower : ByteArray := prog_12_method_29_code
def yX10_isTower : MethodName := ⟨RX10, "isTower", "(I)Z"⟩
abbrev cX10_lift : ByteArray := prog_12_method_30_code
def yX10_lift : MethodName := ⟨RX10, "lift", "(II)I"⟩
abbrev cX10_water : ByteArray := prog_12_method_31_code
def yX10_water : MethodName := ⟨RX10, "water", "(III)I"⟩
abbrev cX10_sortIn : ByteArray := prog_12_method_32_code
def yX10_sortIn : MethodName := ⟨RX10, "sortIn", "(I)I"⟩
abbrev cX10_heightIn : ByteArray := prog_12_method_33_code
def yX10_heightIn : MethodName := ⟨RX10, "heightIn", "(I)I"⟩
abbrev cX10_waterIn : ByteArray := prog_12_method_34_code
def yX10_waterIn : MethodName := ⟨RX10, "waterIn", "(I)I"⟩
abbrev cX10_counted : ByteArray := prog_12_method_35_code
def yX10_counted : MethodName := ⟨RX10, "counted", "(II)I"⟩
abbrev cX10_isCalled : ByteArray := prog_12_method_36_code
def yX10_isCalled : MethodName := ⟨RX10, "isCalled", "(III)Z"⟩
abbrev cX10_asNow : ByteArray := prog_12_method_37_code
def yX10_asNow : MethodName := ⟨RX10, "asNow", "()V"⟩
abbrev cX10_comes : ByteArray := prog_12_method_38_code
def yX10_comes : MethodName := ⟨RX10, "comes", "(II)V"⟩
abbrev cX10_waves0 : ByteArray := prog_12_method_39_code
def yX10_waves0 : MethodName := ⟨RX10, "waves0", "(I)V"⟩
abbrev cX10_many : ByteArray := prog_12_method_40_code
def yX10_many : MethodName := ⟨RX10, "many", "(I)I"⟩
abbrev cX10_remembers : ByteArray := prog_12_method_41_code
def yX10_remembers : MethodName := ⟨RX10, "remembers", "()V"⟩
abbrev cX10_waves : ByteArray := prog_12_method_42_code
def yX10_waves : MethodName := ⟨RX10, "waves", "(I)I"⟩
abbrev cX10_slip : ByteArray := prog_12_method_43_code
def yX10_slip : MethodName := ⟨RX10, "slip", "(II)I"⟩
abbrev cX10_law : ByteArray := prog_12_method_44_code
def yX10_law : MethodName := ⟨RX10, "law", "(I)I"⟩
abbrev cX10_placeOf : ByteArray := prog_12_method_45_code
def yX10_placeOf : MethodName := ⟨RX10, "placeOf", "(I)I"⟩
abbrev cX10_change : ByteArray := prog_12_method_46_code
def yX10_change : MethodName := ⟨RX10, "change", "(II)I"⟩
abbrev cX10_heeds : ByteArray := prog_12_method_47_code
def yX10_heeds : MethodName := ⟨RX10, "heeds", "(II)I"⟩
abbrev cX10_undo : ByteArray := prog_12_method_48_code
def yX10_undo : MethodName := ⟨RX10, "undo", "()I"⟩
abbrev cX10_ship : ByteArray := prog_12_method_49_code
def yX10_ship : MethodName := ⟨RX10, "ship", "(II)I"⟩
abbrev cX10_tower : ByteArray := prog_12_method_50_code
def yX10_tower : MethodName := ⟨RX10, "tower", "(II)I"⟩
abbrev cX10_wave : ByteArray := prog_12_method_51_code
def yX10_wave : MethodName := ⟨RX10, "wave", "(II)I"⟩
abbrev cX10_ahead : ByteArray := prog_12_method_52_code
def yX10_ahead : MethodName := ⟨RX10, "ahead", "(II)I"⟩
abbrev cX10_shipAhead : ByteArray := prog_12_method_53_code
def yX10_shipAhead : MethodName := ⟨RX10, "shipAhead", "(III)I"⟩
abbrev cX10_towerAhead : ByteArray := prog_12_method_54_code
def yX10_towerAhead : MethodName := ⟨RX10, "towerAhead", "(II)I"⟩
abbrev cX10_called : ByteArray := prog_12_method_55_code
def yX10_called : MethodName := ⟨RX10, "called", "(II)I"⟩
abbrev cX10_fit : ByteArray := prog_12_method_56_code
def yX10_fit : MethodName := ⟨RX10, "fit", "(II)I"⟩
abbrev cX10_highest : ByteArray := prog_12_method_57_code
def yX10_highest : MethodName := ⟨RX10, "highest", "(II)I"⟩
abbrev cX10_lays : ByteArray := prog_12_method_58_code
def yX10_lays : MethodName := ⟨RX10, "lays", "(II)Z"⟩
abbrev cX10_order : ByteArray := prog_12_method_59_code
def yX10_order : MethodName := ⟨RX10, "order", "(II)I"⟩
abbrev cX10_laws : ByteArray := prog_12_method_60_code
def yX10_laws : MethodName := ⟨RX10, "laws", "(II)I"⟩
abbrev cX10_bribe : ByteArray := prog_12_method_61_code
def yX10_bribe : MethodName := ⟨RX10, "bribe", "(II)I"⟩
abbrev cX10_heed : ByteArray := prog_12_method_62_code
def yX10_heed : MethodName := ⟨RX10, "heed", "(I)I"⟩
abbrev cX10_callers : ByteArray := prog_12_method_63_code
def yX10_callers : MethodName := ⟨RX10, "callers", "()I"⟩
abbrev cX10_agreed : ByteArray := prog_12_method_64_code
def yX10_agreed : MethodName := ⟨RX10, "agreed", "(II)I"⟩
abbrev cX10_hasCalled : ByteArray := prog_12_method_65_code
def yX10_hasCalled : MethodName := ⟨RX10, "hasCalled", "(IIII)Z"⟩
abbrev cX10_log : ByteArray := prog_12_method_66_code
def yX10_log : MethodName := ⟨RX10, "log", "(IIII)I"⟩
abbrev cX10_wreck : ByteArray := prog_12_method_67_code
def yX10_wreck : MethodName := ⟨RX10, "wreck", "(IIII)I"⟩
abbrev cX10_season : ByteArray := prog_12_method_68_code
def yX10_season : MethodName := ⟨RX10, "season", "(III)I"⟩
abbrev cX10_image : ByteArray := prog_12_method_69_code
def yX10_image : MethodName := ⟨RX10, "image", "(I)I"⟩
abbrev cX10_restore : ByteArray := prog_12_method_70_code
def yX10_restore : MethodName := ⟨RX10, "restore", "(I)I"⟩
abbrev cX10_isSwell : ByteArray := prog_12_method_71_code
def yX10_isSwell : MethodName := ⟨RX10, "isSwell", "(I)Z"⟩
abbrev cX10_kind : ByteArray := prog_12_method_72_code
def yX10_kind : MethodName := ⟨RX10, "kind", "(I)I"⟩
abbrev cX10_as : ByteArray := prog_12_method_73_code
def yX10_as : MethodName := ⟨RX10, "as", "(II)I"⟩
abbrev cX10_leaves : ByteArray := prog_12_method_74_code
def yX10_leaves : MethodName := ⟨RX10, "leaves", "(I)V"⟩
abbrev cX10_plainMark : ByteArray := prog_12_method_75_code
def yX10_plainMark : MethodName := ⟨RX10, "plainMark", "(I)I"⟩
abbrev cX10_sizeOf : ByteArray := prog_12_method_76_code
def yX10_sizeOf : MethodName := ⟨RX10, "sizeOf", "(I)I"⟩
abbrev cX10_markOf : ByteArray := prog_12_method_77_code
def yX10_markOf : MethodName := ⟨RX10, "markOf", "(I)I"⟩
abbrev cX10_ask : ByteArray := prog_12_method_78_code
def yX10_ask : MethodName := ⟨RX10, "ask", "(II)I"⟩
abbrev cX10_trace : ByteArray := prog_12_method_79_code
def yX10_trace : MethodName := ⟨RX10, "trace", "(I)I"⟩
abbrev cX10_count : ByteArray := prog_12_method_80_code
def yX10_count : MethodName := ⟨RX10, "count", "(I)I"⟩
abbrev cX10_status : ByteArray := prog_12_method_81_code
def yX10_status : MethodName := ⟨RX10, "status", "()I"⟩
def RJ9 : String := "java/lang/Math"
def TJ9 : u_T := fun k => match k with
  | _ => ("", "", "", false)
def tyJ9 : Nat → FieldType := fun k => match k with
  | _ => .int
abbrev wsJ90 : List Cond := u_ws RJ9 TJ9 0
abbrev cJ9_max_7cf53 : ByteArray := prog_13_method_65_code
def yJ9_max_7cf53 : MethodName := ⟨RJ9, "max", "(II)I"⟩
abbrev cJ9_min_7cf53 : ByteArray := prog_13_method_69_code
def yJ9_min_7cf53 : MethodName := ⟨RJ9, "min", "(II)I"⟩
def RJ10 : String := "java/lang/System"
def TJ10 : u_T := fun k => match k with
  | _ => ("", "", "", false)
def tyJ10 : Nat → FieldType := fun k => match k with
  | _ => .int
abbrev wsJ100 : List Cond := u_ws RJ10 TJ10 0
def RL : String := "NinthWaveLaw"
abbrev cL_law : ByteArray := code
def yL_law : MethodName := ⟨RL, "law", "([I)Z"⟩
/-- the words that go along into every call -/
def nw_gw : List Cond := lw_tbl.filter goodWord
theorem tb_in {i : Nat} {w : Cond} (h : tables_1[i]? = some w) (hg : goodWord w = true := by rfl) : w ∈ nw_gw := List.mem_filter.mpr ⟨List.mem_append_right _ (List.mem_of_getElem? h), hg⟩
theorem tp_in {i : Nat} {w : Cond} (h : (k2_sels lw_privs)[i]? = some w) (hg : goodWord w = true := by rfl) : w ∈ nw_gw := List.mem_filter.mpr ⟨List.mem_append_left _ (List.mem_of_getElem? h), hg⟩
theorem tl_in {i : Nat} {w : Cond} (h : tables_1[i]? = some w) : w ∈ lw_tbl := List.mem_append_right _ (List.mem_of_getElem? h)
