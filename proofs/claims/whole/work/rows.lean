section
-- ===== PART A: goes FIRST, ahead of the names: the tables' words, and 'selects' of the private methods out of them =====
/-- a private method of a class that the tables say can be made, by its rows of tables_1 -/
def lw_okq (q : MethodName × Nat) : Prop := (q.1.cls ≠ "java/lang/invoke/MethodHandle" ∧ q.1.cls ≠ "java/lang/invoke/VarHandle") ∧ Cond.instantiable q.1.cls q.2 ∈ tables_1 ∧ Cond.privateMethod q.1 ∈ tables_1 ∧ Cond.instanceMethod q.1 ∈ tables_1
theorem lw_p0 : lw_okq (⟨"NinthWave", "isRow", "(I)Z"⟩, 13) := ⟨⟨by decide +kernel, by decide +kernel⟩, List.mem_of_getElem? (i := 15) (by decide +kernel), List.mem_of_getElem? (i := 310) (by decide +kernel), List.mem_of_getElem? (i := 311) (by decide +kernel)⟩
theorem lw_p1 : lw_okq (⟨"NinthWave", "found", "(I)I"⟩, 13) := ⟨⟨by decide +kernel, by decide +kernel⟩, List.mem_of_getElem? (i := 15) (by decide +kernel), List.mem_of_getElem? (i := 318) (by decide +kernel), List.mem_of_getElem? (i := 319) (by decide +kernel)⟩
theorem lw_p2 : lw_okq (⟨"NinthWave", "fine", "(I)I"⟩, 13) := ⟨⟨by decide +kernel, by decide +kernel⟩, List.mem_of_getElem? (i := 15) (by decide +kernel), List.mem_of_getElem? (i := 327) (by decide +kernel), List.mem_of_getElem? (i := 328) (by decide +kernel)⟩
theorem lw_p3 : lw_okq (⟨"NinthWave$Reader", "readBar", "(LNinthWave$Chart;)Z"⟩, 6) := ⟨⟨by decide +kernel, by decide +kernel⟩, List.mem_of_getElem? (i := 42) (by decide +kernel), List.mem_of_getElem? (i := 397) (by decide +kernel), List.mem_of_getElem? (i := 398) (by decide +kernel)⟩
theorem lw_p4 : lw_okq (⟨"NinthWave$Reader", "passes", "(I)Z"⟩, 6) := ⟨⟨by decide +kernel, by decide +kernel⟩, List.mem_of_getElem? (i := 42) (by decide +kernel), List.mem_of_getElem? (i := 401) (by decide +kernel), List.mem_of_getElem? (i := 402) (by decide +kernel)⟩
theorem lw_p5 : lw_okq (⟨"NinthWave$Reader", "at", "(I)I"⟩, 6) := ⟨⟨by decide +kernel, by decide +kernel⟩, List.mem_of_getElem? (i := 42) (by decide +kernel), List.mem_of_getElem? (i := 405) (by decide +kernel), List.mem_of_getElem? (i := 406) (by decide +kernel)⟩
theorem lw_p6 : lw_okq (⟨"NinthWave$Reader", "fails", "(I)Z"⟩, 6) := ⟨⟨by decide +kernel, by decide +kernel⟩, List.mem_of_getElem? (i := 42) (by decide +kernel), List.mem_of_getElem? (i := 409) (by decide +kernel), List.mem_of_getElem? (i := 410) (by decide +kernel)⟩
theorem lw_p7 : lw_okq (⟨"NinthWave$Reader", "readPair", "(II)Z"⟩, 6) := ⟨⟨by decide +kernel, by decide +kernel⟩, List.mem_of_getElem? (i := 42) (by decide +kernel), List.mem_of_getElem? (i := 413) (by decide +kernel), List.mem_of_getElem? (i := 414) (by decide +kernel)⟩
theorem lw_p8 : lw_okq (⟨"NinthWave$Reader", "number", "(I)I"⟩, 6) := ⟨⟨by decide +kernel, by decide +kernel⟩, List.mem_of_getElem? (i := 42) (by decide +kernel), List.mem_of_getElem? (i := 417) (by decide +kernel), List.mem_of_getElem? (i := 418) (by decide +kernel)⟩
theorem lw_p9 : lw_okq (⟨"NinthWave$Reader", "readSwells", "(LNinthWave$Chart;)Z"⟩, 6) := ⟨⟨by decide +kernel, by decide +kernel⟩, List.mem_of_getElem? (i := 42) (by decide +kernel), List.mem_of_getElem? (i := 424) (by decide +kernel), List.mem_of_getElem? (i := 425) (by decide +kernel)⟩
theorem lw_p10 : lw_okq (⟨"NinthWave$Reader", "readTowers", "(LNinthWave$Chart;LNinthWave$Scene;)Z"⟩, 6) := ⟨⟨by decide +kernel, by decide +kernel⟩, List.mem_of_getElem? (i := 42) (by decide +kernel), List.mem_of_getElem? (i := 431) (by decide +kernel), List.mem_of_getElem? (i := 432) (by decide +kernel)⟩
theorem lw_p11 : lw_okq (⟨"NinthWave$Reader", "readShips", "(LNinthWave$Chart;LNinthWave$Scene;)Z"⟩, 6) := ⟨⟨by decide +kernel, by decide +kernel⟩, List.mem_of_getElem? (i := 42) (by decide +kernel), List.mem_of_getElem? (i := 435) (by decide +kernel), List.mem_of_getElem? (i := 436) (by decide +kernel)⟩
theorem lw_p12 : lw_okq (⟨"NinthWave$Reader", "isAtEnd", "()Z"⟩, 6) := ⟨⟨by decide +kernel, by decide +kernel⟩, List.mem_of_getElem? (i := 42) (by decide +kernel), List.mem_of_getElem? (i := 439) (by decide +kernel), List.mem_of_getElem? (i := 440) (by decide +kernel)⟩
theorem lw_p13 : lw_okq (⟨"NinthWave$Scene", "cross", "(LNinthWave$Chart;II)V"⟩, 7) := ⟨⟨by decide +kernel, by decide +kernel⟩, List.mem_of_getElem? (i := 126) (by decide +kernel), List.mem_of_getElem? (i := 531) (by decide +kernel), List.mem_of_getElem? (i := 532) (by decide +kernel)⟩
theorem lw_p14 : lw_okq (⟨"NinthWave", "isTower", "(I)Z"⟩, 13) := ⟨⟨by decide +kernel, by decide +kernel⟩, List.mem_of_getElem? (i := 15) (by decide +kernel), List.mem_of_getElem? (i := 539) (by decide +kernel), List.mem_of_getElem? (i := 540) (by decide +kernel)⟩
theorem lw_p15 : lw_okq (⟨"NinthWave", "isShip", "(I)Z"⟩, 13) := ⟨⟨by decide +kernel, by decide +kernel⟩, List.mem_of_getElem? (i := 15) (by decide +kernel), List.mem_of_getElem? (i := 556) (by decide +kernel), List.mem_of_getElem? (i := 557) (by decide +kernel)⟩
def lw_privs_1 : List (MethodName × Nat) := [(⟨"NinthWave", "isRow", "(I)Z"⟩, 13), (⟨"NinthWave", "found", "(I)I"⟩, 13), (⟨"NinthWave", "fine", "(I)I"⟩, 13), (⟨"NinthWave$Reader", "readBar", "(LNinthWave$Chart;)Z"⟩, 6), (⟨"NinthWave$Reader", "passes", "(I)Z"⟩, 6), (⟨"NinthWave$Reader", "at", "(I)I"⟩, 6), (⟨"NinthWave$Reader", "fails", "(I)Z"⟩, 6), (⟨"NinthWave$Reader", "readPair", "(II)Z"⟩, 6), (⟨"NinthWave$Reader", "number", "(I)I"⟩, 6), (⟨"NinthWave$Reader", "readSwells", "(LNinthWave$Chart;)Z"⟩, 6), (⟨"NinthWave$Reader", "readTowers", "(LNinthWave$Chart;LNinthWave$Scene;)Z"⟩, 6), (⟨"NinthWave$Reader", "readShips", "(LNinthWave$Chart;LNinthWave$Scene;)Z"⟩, 6), (⟨"NinthWave$Reader", "isAtEnd", "()Z"⟩, 6), (⟨"NinthWave$Scene", "cross", "(LNinthWave$Chart;II)V"⟩, 7), (⟨"NinthWave", "isTower", "(I)Z"⟩, 13), (⟨"NinthWave", "isShip", "(I)Z"⟩, 13)]
theorem lw_r1 : ∀ q ∈ lw_privs_1, lw_okq q := List.forall_mem_cons.mpr ⟨lw_p0, List.forall_mem_cons.mpr ⟨lw_p1, List.forall_mem_cons.mpr ⟨lw_p2, List.forall_mem_cons.mpr ⟨lw_p3, List.forall_mem_cons.mpr ⟨lw_p4, List.forall_mem_cons.mpr ⟨lw_p5, List.forall_mem_cons.mpr ⟨lw_p6, List.forall_mem_cons.mpr ⟨lw_p7, List.forall_mem_cons.mpr ⟨lw_p8, List.forall_mem_cons.mpr ⟨lw_p9, List.forall_mem_cons.mpr ⟨lw_p10, List.forall_mem_cons.mpr ⟨lw_p11, List.forall_mem_cons.mpr ⟨lw_p12, List.forall_mem_cons.mpr ⟨lw_p13, List.forall_mem_cons.mpr ⟨lw_p14, List.forall_mem_cons.mpr ⟨lw_p15, fun _ h => absurd h List.not_mem_nil⟩⟩⟩⟩⟩⟩⟩⟩⟩⟩⟩⟩⟩⟩⟩⟩
theorem lw_p16 : lw_okq (⟨"NinthWave", "foretell", "(I)V"⟩, 13) := ⟨⟨by decide +kernel, by decide +kernel⟩, List.mem_of_getElem? (i := 15) (by decide +kernel), List.mem_of_getElem? (i := 603) (by decide +kernel), List.mem_of_getElem? (i := 604) (by decide +kernel)⟩
theorem lw_p17 : lw_okq (⟨"NinthWave$Orders", "howManyCross", "(LNinthWave$Chart;LNinthWave$Scene;)I"⟩, 6) := ⟨⟨by decide +kernel, by decide +kernel⟩, List.mem_of_getElem? (i := 187) (by decide +kernel), List.mem_of_getElem? (i := 656) (by decide +kernel), List.mem_of_getElem? (i := 657) (by decide +kernel)⟩
theorem lw_p18 : lw_okq (⟨"NinthWave$Orders", "goOn", "(I)Z"⟩, 6) := ⟨⟨by decide +kernel, by decide +kernel⟩, List.mem_of_getElem? (i := 187) (by decide +kernel), List.mem_of_getElem? (i := 662) (by decide +kernel), List.mem_of_getElem? (i := 663) (by decide +kernel)⟩
theorem lw_p19 : lw_okq (⟨"NinthWave$Orders", "swap", "(II)V"⟩, 6) := ⟨⟨by decide +kernel, by decide +kernel⟩, List.mem_of_getElem? (i := 187) (by decide +kernel), List.mem_of_getElem? (i := 666) (by decide +kernel), List.mem_of_getElem? (i := 667) (by decide +kernel)⟩
theorem lw_p20 : lw_okq (⟨"NinthWave", "fitsLog", "(IIII)Z"⟩, 13) := ⟨⟨by decide +kernel, by decide +kernel⟩, List.mem_of_getElem? (i := 15) (by decide +kernel), List.mem_of_getElem? (i := 698) (by decide +kernel), List.mem_of_getElem? (i := 699) (by decide +kernel)⟩
theorem lw_p21 : lw_okq (⟨"NinthWave", "isSwell", "(I)Z"⟩, 13) := ⟨⟨by decide +kernel, by decide +kernel⟩, List.mem_of_getElem? (i := 15) (by decide +kernel), List.mem_of_getElem? (i := 743) (by decide +kernel), List.mem_of_getElem? (i := 744) (by decide +kernel)⟩
theorem lw_p22 : lw_okq (⟨"NinthWave$Asker", "asked", "(II)I"⟩, 6) := ⟨⟨by decide +kernel, by decide +kernel⟩, List.mem_of_getElem? (i := 215) (by decide +kernel), List.mem_of_getElem? (i := 768) (by decide +kernel), List.mem_of_getElem? (i := 769) (by decide +kernel)⟩
theorem lw_p23 : lw_okq (⟨"NinthWave$Asker", "given", "(II)I"⟩, 6) := ⟨⟨by decide +kernel, by decide +kernel⟩, List.mem_of_getElem? (i := 215) (by decide +kernel), List.mem_of_getElem? (i := 774) (by decide +kernel), List.mem_of_getElem? (i := 775) (by decide +kernel)⟩
theorem lw_p24 : lw_okq (⟨"NinthWave$Asker", "leave", "(I)V"⟩, 6) := ⟨⟨by decide +kernel, by decide +kernel⟩, List.mem_of_getElem? (i := 215) (by decide +kernel), List.mem_of_getElem? (i := 778) (by decide +kernel), List.mem_of_getElem? (i := 779) (by decide +kernel)⟩
theorem lw_p25 : lw_okq (⟨"NinthWaveModel", "finds", "(I)I"⟩, 29) := ⟨⟨by decide +kernel, by decide +kernel⟩, List.mem_of_getElem? (i := 800) (by decide +kernel), List.mem_of_getElem? (i := 908) (by decide +kernel), List.mem_of_getElem? (i := 909) (by decide +kernel)⟩
theorem lw_p26 : lw_okq (⟨"NinthWaveModel", "well", "(I)I"⟩, 29) := ⟨⟨by decide +kernel, by decide +kernel⟩, List.mem_of_getElem? (i := 800) (by decide +kernel), List.mem_of_getElem? (i := 913) (by decide +kernel), List.mem_of_getElem? (i := 914) (by decide +kernel)⟩
theorem lw_p27 : lw_okq (⟨"NinthWaveModel", "reads", "()Z"⟩, 29) := ⟨⟨by decide +kernel, by decide +kernel⟩, List.mem_of_getElem? (i := 800) (by decide +kernel), List.mem_of_getElem? (i := 939) (by decide +kernel), List.mem_of_getElem? (i := 940) (by decide +kernel)⟩
theorem lw_p28 : lw_okq (⟨"NinthWaveModel", "scans", "()V"⟩, 29) := ⟨⟨by decide +kernel, by decide +kernel⟩, List.mem_of_getElem? (i := 800) (by decide +kernel), List.mem_of_getElem? (i := 943) (by decide +kernel), List.mem_of_getElem? (i := 944) (by decide +kernel)⟩
theorem lw_p29 : lw_okq (⟨"NinthWaveModel", "isFigure", "()Z"⟩, 29) := ⟨⟨by decide +kernel, by decide +kernel⟩, List.mem_of_getElem? (i := 800) (by decide +kernel), List.mem_of_getElem? (i := 947) (by decide +kernel), List.mem_of_getElem? (i := 948) (by decide +kernel)⟩
theorem lw_p30 : lw_okq (⟨"NinthWaveModel", "isLetter", "(I)Z"⟩, 29) := ⟨⟨by decide +kernel, by decide +kernel⟩, List.mem_of_getElem? (i := 800) (by decide +kernel), List.mem_of_getElem? (i := 955) (by decide +kernel), List.mem_of_getElem? (i := 956) (by decide +kernel)⟩
theorem lw_p31 : lw_okq (⟨"NinthWaveModel", "faults", "(I)Z"⟩, 29) := ⟨⟨by decide +kernel, by decide +kernel⟩, List.mem_of_getElem? (i := 800) (by decide +kernel), List.mem_of_getElem? (i := 959) (by decide +kernel), List.mem_of_getElem? (i := 960) (by decide +kernel)⟩
def lw_privs_2 : List (MethodName × Nat) := [(⟨"NinthWave", "foretell", "(I)V"⟩, 13), (⟨"NinthWave$Orders", "howManyCross", "(LNinthWave$Chart;LNinthWave$Scene;)I"⟩, 6), (⟨"NinthWave$Orders", "goOn", "(I)Z"⟩, 6), (⟨"NinthWave$Orders", "swap", "(II)V"⟩, 6), (⟨"NinthWave", "fitsLog", "(IIII)Z"⟩, 13), (⟨"NinthWave", "isSwell", "(I)Z"⟩, 13), (⟨"NinthWave$Asker", "asked", "(II)I"⟩, 6), (⟨"NinthWave$Asker", "given", "(II)I"⟩, 6), (⟨"NinthWave$Asker", "leave", "(I)V"⟩, 6), (⟨"NinthWaveModel", "finds", "(I)I"⟩, 29), (⟨"NinthWaveModel", "well", "(I)I"⟩, 29), (⟨"NinthWaveModel", "reads", "()Z"⟩, 29), (⟨"NinthWaveModel", "scans", "()V"⟩, 29), (⟨"NinthWaveModel", "isFigure", "()Z"⟩, 29), (⟨"NinthWaveModel", "isLetter", "(I)Z"⟩, 29), (⟨"NinthWaveModel", "faults", "(I)Z"⟩, 29)]
theorem lw_r2 : ∀ q ∈ lw_privs_2, lw_okq q := List.forall_mem_cons.mpr ⟨lw_p16, List.forall_mem_cons.mpr ⟨lw_p17, List.forall_mem_cons.mpr ⟨lw_p18, List.forall_mem_cons.mpr ⟨lw_p19, List.forall_mem_cons.mpr ⟨lw_p20, List.forall_mem_cons.mpr ⟨lw_p21, List.forall_mem_cons.mpr ⟨lw_p22, List.forall_mem_cons.mpr ⟨lw_p23, List.forall_mem_cons.mpr ⟨lw_p24, List.forall_mem_cons.mpr ⟨lw_p25, List.forall_mem_cons.mpr ⟨lw_p26, List.forall_mem_cons.mpr ⟨lw_p27, List.forall_mem_cons.mpr ⟨lw_p28, List.forall_mem_cons.mpr ⟨lw_p29, List.forall_mem_cons.mpr ⟨lw_p30, List.forall_mem_cons.mpr ⟨lw_p31, fun _ h => absurd h List.not_mem_nil⟩⟩⟩⟩⟩⟩⟩⟩⟩⟩⟩⟩⟩⟩⟩⟩
theorem lw_p32 : lw_okq (⟨"NinthWaveModel", "two", "(III)Z"⟩, 29) := ⟨⟨by decide +kernel, by decide +kernel⟩, List.mem_of_getElem? (i := 800) (by decide +kernel), List.mem_of_getElem? (i := 963) (by decide +kernel), List.mem_of_getElem? (i := 964) (by decide +kernel)⟩
theorem lw_p33 : lw_okq (⟨"NinthWaveModel", "takes", "(II)Z"⟩, 29) := ⟨⟨by decide +kernel, by decide +kernel⟩, List.mem_of_getElem? (i := 800) (by decide +kernel), List.mem_of_getElem? (i := 967) (by decide +kernel), List.mem_of_getElem? (i := 968) (by decide +kernel)⟩
theorem lw_p34 : lw_okq (⟨"NinthWaveModel", "signs", "(I)Z"⟩, 29) := ⟨⟨by decide +kernel, by decide +kernel⟩, List.mem_of_getElem? (i := 800) (by decide +kernel), List.mem_of_getElem? (i := 971) (by decide +kernel), List.mem_of_getElem? (i := 972) (by decide +kernel)⟩
theorem lw_p35 : lw_okq (⟨"NinthWaveModel", "swell", "()Z"⟩, 29) := ⟨⟨by decide +kernel, by decide +kernel⟩, List.mem_of_getElem? (i := 800) (by decide +kernel), List.mem_of_getElem? (i := 978) (by decide +kernel), List.mem_of_getElem? (i := 979) (by decide +kernel)⟩
theorem lw_p36 : lw_okq (⟨"NinthWaveModel", "turret", "()Z"⟩, 29) := ⟨⟨by decide +kernel, by decide +kernel⟩, List.mem_of_getElem? (i := 800) (by decide +kernel), List.mem_of_getElem? (i := 982) (by decide +kernel), List.mem_of_getElem? (i := 983) (by decide +kernel)⟩
theorem lw_p37 : lw_okq (⟨"NinthWaveModel", "vessel", "()Z"⟩, 29) := ⟨⟨by decide +kernel, by decide +kernel⟩, List.mem_of_getElem? (i := 800) (by decide +kernel), List.mem_of_getElem? (i := 986) (by decide +kernel), List.mem_of_getElem? (i := 987) (by decide +kernel)⟩
theorem lw_p38 : lw_okq (⟨"NinthWaveModel", "isSea", "()Z"⟩, 29) := ⟨⟨by decide +kernel, by decide +kernel⟩, List.mem_of_getElem? (i := 800) (by decide +kernel), List.mem_of_getElem? (i := 1000) (by decide +kernel), List.mem_of_getElem? (i := 1001) (by decide +kernel)⟩
theorem lw_p39 : lw_okq (⟨"NinthWaveModel", "remembers", "()V"⟩, 29) := ⟨⟨by decide +kernel, by decide +kernel⟩, List.mem_of_getElem? (i := 800) (by decide +kernel), List.mem_of_getElem? (i := 1006) (by decide +kernel), List.mem_of_getElem? (i := 1007) (by decide +kernel)⟩
theorem lw_p40 : lw_okq (⟨"NinthWaveModel", "asNow", "()V"⟩, 29) := ⟨⟨by decide +kernel, by decide +kernel⟩, List.mem_of_getElem? (i := 800) (by decide +kernel), List.mem_of_getElem? (i := 1010) (by decide +kernel), List.mem_of_getElem? (i := 1011) (by decide +kernel)⟩
theorem lw_p41 : lw_okq (⟨"NinthWaveModel", "waves0", "(I)V"⟩, 29) := ⟨⟨by decide +kernel, by decide +kernel⟩, List.mem_of_getElem? (i := 800) (by decide +kernel), List.mem_of_getElem? (i := 1014) (by decide +kernel), List.mem_of_getElem? (i := 1015) (by decide +kernel)⟩
theorem lw_p42 : lw_okq (⟨"NinthWaveModel", "sortIn", "(I)I"⟩, 29) := ⟨⟨by decide +kernel, by decide +kernel⟩, List.mem_of_getElem? (i := 800) (by decide +kernel), List.mem_of_getElem? (i := 1018) (by decide +kernel), List.mem_of_getElem? (i := 1019) (by decide +kernel)⟩
theorem lw_p43 : lw_okq (⟨"NinthWaveModel", "heightIn", "(I)I"⟩, 29) := ⟨⟨by decide +kernel, by decide +kernel⟩, List.mem_of_getElem? (i := 800) (by decide +kernel), List.mem_of_getElem? (i := 1022) (by decide +kernel), List.mem_of_getElem? (i := 1023) (by decide +kernel)⟩
theorem lw_p44 : lw_okq (⟨"NinthWaveModel", "comes", "(II)V"⟩, 29) := ⟨⟨by decide +kernel, by decide +kernel⟩, List.mem_of_getElem? (i := 800) (by decide +kernel), List.mem_of_getElem? (i := 1026) (by decide +kernel), List.mem_of_getElem? (i := 1027) (by decide +kernel)⟩
theorem lw_p45 : lw_okq (⟨"NinthWaveModel", "water", "(III)I"⟩, 29) := ⟨⟨by decide +kernel, by decide +kernel⟩, List.mem_of_getElem? (i := 800) (by decide +kernel), List.mem_of_getElem? (i := 1030) (by decide +kernel), List.mem_of_getElem? (i := 1031) (by decide +kernel)⟩
theorem lw_p46 : lw_okq (⟨"NinthWaveModel", "isTower", "(I)Z"⟩, 29) := ⟨⟨by decide +kernel, by decide +kernel⟩, List.mem_of_getElem? (i := 800) (by decide +kernel), List.mem_of_getElem? (i := 1050) (by decide +kernel), List.mem_of_getElem? (i := 1051) (by decide +kernel)⟩
theorem lw_p47 : lw_okq (⟨"NinthWaveModel", "isShip", "(I)Z"⟩, 29) := ⟨⟨by decide +kernel, by decide +kernel⟩, List.mem_of_getElem? (i := 800) (by decide +kernel), List.mem_of_getElem? (i := 1065) (by decide +kernel), List.mem_of_getElem? (i := 1066) (by decide +kernel)⟩
def lw_privs_3 : List (MethodName × Nat) := [(⟨"NinthWaveModel", "two", "(III)Z"⟩, 29), (⟨"NinthWaveModel", "takes", "(II)Z"⟩, 29), (⟨"NinthWaveModel", "signs", "(I)Z"⟩, 29), (⟨"NinthWaveModel", "swell", "()Z"⟩, 29), (⟨"NinthWaveModel", "turret", "()Z"⟩, 29), (⟨"NinthWaveModel", "vessel", "()Z"⟩, 29), (⟨"NinthWaveModel", "isSea", "()Z"⟩, 29), (⟨"NinthWaveModel", "remembers", "()V"⟩, 29), (⟨"NinthWaveModel", "asNow", "()V"⟩, 29), (⟨"NinthWaveModel", "waves0", "(I)V"⟩, 29), (⟨"NinthWaveModel", "sortIn", "(I)I"⟩, 29), (⟨"NinthWaveModel", "heightIn", "(I)I"⟩, 29), (⟨"NinthWaveModel", "comes", "(II)V"⟩, 29), (⟨"NinthWaveModel", "water", "(III)I"⟩, 29), (⟨"NinthWaveModel", "isTower", "(I)Z"⟩, 29), (⟨"NinthWaveModel", "isShip", "(I)Z"⟩, 29)]
theorem lw_r3 : ∀ q ∈ lw_privs_3, lw_okq q := List.forall_mem_cons.mpr ⟨lw_p32, List.forall_mem_cons.mpr ⟨lw_p33, List.forall_mem_cons.mpr ⟨lw_p34, List.forall_mem_cons.mpr ⟨lw_p35, List.forall_mem_cons.mpr ⟨lw_p36, List.forall_mem_cons.mpr ⟨lw_p37, List.forall_mem_cons.mpr ⟨lw_p38, List.forall_mem_cons.mpr ⟨lw_p39, List.forall_mem_cons.mpr ⟨lw_p40, List.forall_mem_cons.mpr ⟨lw_p41, List.forall_mem_cons.mpr ⟨lw_p42, List.forall_mem_cons.mpr ⟨lw_p43, List.forall_mem_cons.mpr ⟨lw_p44, List.forall_mem_cons.mpr ⟨lw_p45, List.forall_mem_cons.mpr ⟨lw_p46, List.forall_mem_cons.mpr ⟨lw_p47, fun _ h => absurd h List.not_mem_nil⟩⟩⟩⟩⟩⟩⟩⟩⟩⟩⟩⟩⟩⟩⟩⟩
theorem lw_p48 : lw_okq (⟨"NinthWaveModel", "placeOf", "(I)I"⟩, 29) := ⟨⟨by decide +kernel, by decide +kernel⟩, List.mem_of_getElem? (i := 800) (by decide +kernel), List.mem_of_getElem? (i := 1069) (by decide +kernel), List.mem_of_getElem? (i := 1070) (by decide +kernel)⟩
theorem lw_p49 : lw_okq (⟨"NinthWaveModel", "waterIn", "(I)I"⟩, 29) := ⟨⟨by decide +kernel, by decide +kernel⟩, List.mem_of_getElem? (i := 800) (by decide +kernel), List.mem_of_getElem? (i := 1096) (by decide +kernel), List.mem_of_getElem? (i := 1097) (by decide +kernel)⟩
theorem lw_p50 : lw_okq (⟨"NinthWaveModel", "many", "(I)I"⟩, 29) := ⟨⟨by decide +kernel, by decide +kernel⟩, List.mem_of_getElem? (i := 800) (by decide +kernel), List.mem_of_getElem? (i := 1105) (by decide +kernel), List.mem_of_getElem? (i := 1106) (by decide +kernel)⟩
theorem lw_p51 : lw_okq (⟨"NinthWaveModel", "lays", "(II)Z"⟩, 29) := ⟨⟨by decide +kernel, by decide +kernel⟩, List.mem_of_getElem? (i := 800) (by decide +kernel), List.mem_of_getElem? (i := 1136) (by decide +kernel), List.mem_of_getElem? (i := 1137) (by decide +kernel)⟩
theorem lw_p52 : lw_okq (⟨"NinthWaveModel", "callers", "()I"⟩, 29) := ⟨⟨by decide +kernel, by decide +kernel⟩, List.mem_of_getElem? (i := 800) (by decide +kernel), List.mem_of_getElem? (i := 1156) (by decide +kernel), List.mem_of_getElem? (i := 1157) (by decide +kernel)⟩
theorem lw_p53 : lw_okq (⟨"NinthWaveModel", "hasCalled", "(IIII)Z"⟩, 29) := ⟨⟨by decide +kernel, by decide +kernel⟩, List.mem_of_getElem? (i := 800) (by decide +kernel), List.mem_of_getElem? (i := 1166) (by decide +kernel), List.mem_of_getElem? (i := 1167) (by decide +kernel)⟩
theorem lw_p54 : lw_okq (⟨"NinthWaveModel", "isSwell", "(I)Z"⟩, 29) := ⟨⟨by decide +kernel, by decide +kernel⟩, List.mem_of_getElem? (i := 800) (by decide +kernel), List.mem_of_getElem? (i := 1196) (by decide +kernel), List.mem_of_getElem? (i := 1197) (by decide +kernel)⟩
theorem lw_p55 : lw_okq (⟨"NinthWaveModel", "sizeOf", "(I)I"⟩, 29) := ⟨⟨by decide +kernel, by decide +kernel⟩, List.mem_of_getElem? (i := 800) (by decide +kernel), List.mem_of_getElem? (i := 1208) (by decide +kernel), List.mem_of_getElem? (i := 1209) (by decide +kernel)⟩
theorem lw_p56 : lw_okq (⟨"NinthWaveModel", "leaves", "(I)V"⟩, 29) := ⟨⟨by decide +kernel, by decide +kernel⟩, List.mem_of_getElem? (i := 800) (by decide +kernel), List.mem_of_getElem? (i := 1212) (by decide +kernel), List.mem_of_getElem? (i := 1213) (by decide +kernel)⟩
theorem lw_p57 : lw_okq (⟨"NinthWaveModel", "plainMark", "(I)I"⟩, 29) := ⟨⟨by decide +kernel, by decide +kernel⟩, List.mem_of_getElem? (i := 800) (by decide +kernel), List.mem_of_getElem? (i := 1216) (by decide +kernel), List.mem_of_getElem? (i := 1217) (by decide +kernel)⟩
theorem lw_p58 : lw_okq (⟨"NinthWaveModel", "markOf", "(I)I"⟩, 29) := ⟨⟨by decide +kernel, by decide +kernel⟩, List.mem_of_getElem? (i := 800) (by decide +kernel), List.mem_of_getElem? (i := 1220) (by decide +kernel), List.mem_of_getElem? (i := 1221) (by decide +kernel)⟩
def lw_privs_4 : List (MethodName × Nat) := [(⟨"NinthWaveModel", "placeOf", "(I)I"⟩, 29), (⟨"NinthWaveModel", "waterIn", "(I)I"⟩, 29), (⟨"NinthWaveModel", "many", "(I)I"⟩, 29), (⟨"NinthWaveModel", "lays", "(II)Z"⟩, 29), (⟨"NinthWaveModel", "callers", "()I"⟩, 29), (⟨"NinthWaveModel", "hasCalled", "(IIII)Z"⟩, 29), (⟨"NinthWaveModel", "isSwell", "(I)Z"⟩, 29), (⟨"NinthWaveModel", "sizeOf", "(I)I"⟩, 29), (⟨"NinthWaveModel", "leaves", "(I)V"⟩, 29), (⟨"NinthWaveModel", "plainMark", "(I)I"⟩, 29), (⟨"NinthWaveModel", "markOf", "(I)I"⟩, 29)]
theorem lw_r4 : ∀ q ∈ lw_privs_4, lw_okq q := List.forall_mem_cons.mpr ⟨lw_p48, List.forall_mem_cons.mpr ⟨lw_p49, List.forall_mem_cons.mpr ⟨lw_p50, List.forall_mem_cons.mpr ⟨lw_p51, List.forall_mem_cons.mpr ⟨lw_p52, List.forall_mem_cons.mpr ⟨lw_p53, List.forall_mem_cons.mpr ⟨lw_p54, List.forall_mem_cons.mpr ⟨lw_p55, List.forall_mem_cons.mpr ⟨lw_p56, List.forall_mem_cons.mpr ⟨lw_p57, List.forall_mem_cons.mpr ⟨lw_p58, fun _ h => absurd h List.not_mem_nil⟩⟩⟩⟩⟩⟩⟩⟩⟩⟩⟩
def lw_privs : List (MethodName × Nat) := lw_privs_1 ++ (lw_privs_2 ++ (lw_privs_3 ++ (lw_privs_4)))
def lw_tbl : List Cond := k2_sels lw_privs ++ tables_1
theorem lw_privs_ok : ∀ q ∈ lw_privs, lw_okq q := by
  show ∀ q ∈ lw_privs_1 ++ (lw_privs_2 ++ (lw_privs_3 ++ (lw_privs_4))), lw_okq q
  exact List.forall_mem_append.mpr ⟨lw_r1, List.forall_mem_append.mpr ⟨lw_r2, List.forall_mem_append.mpr ⟨lw_r3, lw_r4⟩⟩⟩

theorem goodIn_r {big : List Cond} (ws : List Cond) (ps : List Nat) (hp : ws = ps.filterMap (fun i => big[i]?)) (h : ws.all goodWord = true) : GoodIn big ws := by
  intro w hw
  have h1 := List.all_eq_true.mp h w hw
  rw [hp] at hw
  obtain ⟨i, -, hi⟩ := List.mem_filterMap.mp hw
  have hm : w ∈ big := by first | exact List.mem_of_getElem? hi | exact List.getElem?_mem hi
  exact ⟨hm, good_of_word h1⟩
theorem goodIn_app {big a b : List Cond} (ha : GoodIn big a) (hb : GoodIn big b) : GoodIn big (a ++ b) := fun w h => (List.mem_append.mp h).elim (ha w) (hb w)
theorem goodIn_ca {big a b : List Cond} {c : Cond} (ha : GoodIn big (c :: a)) (hb : GoodIn big b) : GoodIn big (c :: (a ++ b)) := fun w h => (List.mem_cons.mp h).elim (fun e => ha w (List.mem_cons.mpr (Or.inl e))) (fun h => (List.mem_append.mp h).elim (fun h => ha w (List.mem_cons.mpr (Or.inr h))) (hb w))
theorem goodIn_sub {big ws : List Cond} (hm : ∀ w ∈ ws, w ∈ big) (h : ws.all goodWord = true) : GoodIn big ws := fun w hw => ⟨hm w hw, good_of_word (List.all_eq_true.mp h w hw)⟩
def RX0 : String := "NinthWave$Acts"
def TX0 : u_T := fun k => match k with
  | 0 => ("NinthWave$Acts", "ahead", "[LNinthWave$Scene;", true)
  | 1 => ("NinthWave$Acts", "next", "I", false)
  | _ => ("NinthWave$Acts", "many", "I", false)
def tyX0 : Nat → FieldType := fun k => match k with
  | 0 => .array (.object "NinthWave$Scene")
  | 1 => .int
  | _ => .int
abbrev wsX00 : List Cond := u_ws RX0 TX0 3
theorem nmX0 : ∀ a, a < 3 → ∀ b, b < 3 → a ≠ b → (TX0 a).2.1 ≠ (TX0 b).2.1 := by decide +kernel
theorem tyX0_ok : ∀ k, k < 3 → parseFieldDescriptor (TX0 k).2.2.1 = some (tyX0 k) := by decide +kernel
abbrev cX0_init : ByteArray := prog_2_method_1_code
def yX0_init : MethodName := ⟨RX0, "<init>", "()V"⟩
abbrev cX0_keep : ByteArray := prog_2_method_2_code
def yX0_keep : MethodName := ⟨RX0, "keep", "(LNinthWave$Scene;)V"⟩
abbrev cX0_takeBack : ByteArray := prog_2_method_3_code
def yX0_takeBack : MethodName := ⟨RX0, "takeBack", "(LNinthWave$Scene;)V"⟩
abbrev cX0_forgetAll : ByteArray := prog_2_method_4_code
def yX0_forgetAll : MethodName := ⟨RX0, "forgetAll", "()V"⟩
def RX1 : String := "NinthWave$Asker"
def TX1 : u_T := fun k => match k with
  | 0 => ("NinthWave$Asker", "bodies", "[I", true)
  | 1 => ("NinthWave$Asker", "traced", "I", false)
  | 2 => ("NinthWave$Asker", "swellKind", "I", false)
  | 3 => ("NinthWave$Asker", "height", "I", false)
  | 4 => ("NinthWave$Asker", "lift", "I", false)
  | _ => ("NinthWave$Asker", "swellNumber", "I", false)
def tyX1 : Nat → FieldType := fun k => match k with
  | 0 => .array .int
  | 1 => .int
  | 2 => .int
  | 3 => .int
  | 4 => .int
  | _ => .int
abbrev wsX10 : List Cond := u_ws RX1 TX1 6
theorem nmX1 : ∀ a, a < 6 → ∀ b, b < 6 → a ≠ b → (TX1 a).2.1 ≠ (TX1 b).2.1 := by decide +kernel
theorem tyX1_ok : ∀ k, k < 6 → parseFieldDescriptor (TX1 k).2.2.1 = some (tyX1 k) := by decide +kernel
abbrev cX1_init : ByteArray := prog_3_method_1_code
def yX1_init : MethodName := ⟨RX1, "<init>", "()V"⟩
abbrev cX1_answer : ByteArray := prog_3_method_2_code
def yX1_answer : MethodName := ⟨RX1, "answer", "(LNinthWave$Chart;II)I"⟩
abbrev cX1_asked : ByteArray := prog_3_method_3_code
def yX1_asked : MethodName := ⟨RX1, "asked", "(II)I"⟩
abbrev cX1_given : ByteArray := prog_3_method_4_code
def yX1_given : MethodName := ⟨RX1, "given", "(II)I"⟩
abbrev cX1_leave : ByteArray := prog_3_method_5_code
def yX1_leave : MethodName := ⟨RX1, "leave", "(I)V"⟩
def RX2 : String := "NinthWave$Chart"
def TX2 : u_T := fun k => match k with
  | 0 => ("NinthWave$Chart", "depth", "I", false)
  | 1 => ("NinthWave$Chart", "ebb", "I", false)
  | 2 => ("NinthWave$Chart", "swells", "I", false)
  | 3 => ("NinthWave$Chart", "towers", "I", false)
  | 4 => ("NinthWave$Chart", "ships", "I", false)
  | 5 => ("NinthWave$Chart", "kinds", "[I", true)
  | 6 => ("NinthWave$Chart", "heights", "[I", true)
  | 7 => ("NinthWave$Chart", "sees", "[I", true)
  | _ => ("NinthWave$Chart", "draughts", "[I", true)
def tyX2 : Nat → FieldType := fun k => match k with
  | 0 => .int
  | 1 => .int
  | 2 => .int
  | 3 => .int
  | 4 => .int
  | 5 => .array .int
  | 6 => .array .int
  | 7 => .array .int
  | _ => .array .int
abbrev wsX20 : List Cond := u_ws RX2 TX2 9
theorem nmX2 : ∀ a, a < 9 → ∀ b, b < 9 → a ≠ b → (TX2 a).2.1 ≠ (TX2 b).2.1 := by decide +kernel
theorem tyX2_ok : ∀ k, k < 9 → parseFieldDescriptor (TX2 k).2.2.1 = some (tyX2 k) := by decide +kernel
abbrev cX2_init : ByteArray := prog_4_method_1_code
def yX2_init : MethodName := ⟨RX2, "<init>", "()V"⟩
abbrev cX2_become : ByteArray := prog_4_method_2_code
def yX2_become : MethodName := ⟨RX2, "become", "(LNinthWave$Chart;)V"⟩
abbrev cX2_swellOf : ByteArray := prog_4_method_3_code
def yX2_swellOf : MethodName := ⟨RX2, "swellOf", "(I)I"⟩
abbrev cX2_kindIn : ByteArray := prog_4_method_4_code
def yX2_kindIn : MethodName := ⟨RX2, "kindIn", "(I)I"⟩
abbrev cX2_stepOf : ByteArray := prog_4_method_5_code
def yX2_stepOf : MethodName := ⟨RX2, "stepOf", "(II)I"⟩
abbrev cX2_liftOf : ByteArray := prog_4_method_6_code
def yX2_liftOf : MethodName := ⟨RX2, "liftOf", "(II)I"⟩
abbrev cX2_liftOfSwell : ByteArray := prog_4_method_7_code
def yX2_liftOfSwell : MethodName := ⟨RX2, "liftOfSwell", "(I)I"⟩
abbrev cX2_depthIn : ByteArray := prog_4_method_8_code
def yX2_depthIn : MethodName := ⟨RX2, "depthIn", "(I)I"⟩
abbrev cX2_waterIn : ByteArray := prog_4_method_9_code
def yX2_waterIn : MethodName := ⟨RX2, "waterIn", "(I)I"⟩
def RX3 : String := "NinthWave$Image"
def TX3 : u_T := fun k => match k with
  | 0 => ("NinthWave$Image", "chart", "LNinthWave$Chart;", true)
  | 1 => ("NinthWave$Image", "scene", "LNinthWave$Scene;", true)
  | _ => ("NinthWave$Image", "isKept", "Z", false)
def tyX3 : Nat → FieldType := fun k => match k with
  | 0 => .object "NinthWave$Chart"
  | 1 => .object "NinthWave$Scene"
  | _ => .boolean
abbrev wsX30 : List Cond := u_ws RX3 TX3 3
theorem nmX3 : ∀ a, a < 3 → ∀ b, b < 3 → a ≠ b → (TX3 a).2.1 ≠ (TX3 b).2.1 := by decide +kernel
theorem tyX3_ok : ∀ k, k < 3 → parseFieldDescriptor (TX3 k).2.2.1 = some (tyX3 k) := by decide +kernel
abbrev cX3_init : ByteArray := prog_5_method_1_code
def yX3_init : MethodName := ⟨RX3, "<init>", "()V"⟩
abbrev cX3_keep : ByteArray := prog_5_method_2_code
def yX3_keep : MethodName := ⟨RX3, "keep", "(LNinthWave$Chart;LNinthWave$Scene;)V"⟩
def RX4 : String := "NinthWave$Kinds"
def TX4 : u_T := fun k => match k with
  | _ => ("", "", "", false)
def tyX4 : Nat → FieldType := fun k => match k with
  | _ => .int
abbrev wsX40 : List Cond := u_ws RX4 TX4 0
theorem nmX4 : ∀ a, a < 0 → ∀ b, b < 0 → a ≠ b → (TX4 a).2.1 ≠ (TX4 b).2.1 := by decide +kernel
theorem tyX4_ok : ∀ k, k < 0 → parseFieldDescriptor (TX4 k).2.2.1 = some (tyX4 k) := by decide +kernel
abbrev cX4_next : ByteArray := prog_6_method_2_code
def yX4_next : MethodName := ⟨RX4, "next", "(I)I"⟩
abbrev cX4_isA : ByteArray := prog_6_method_3_code
def yX4_isA : MethodName := ⟨RX4, "isA", "(II)Z"⟩
abbrev cX4_stepOf : ByteArray := prog_6_method_4_code
def yX4_stepOf : MethodName := ⟨RX4, "stepOf", "(II)I"⟩
abbrev cX4_toldBy : ByteArray := prog_6_method_5_code
def yX4_toldBy : MethodName := ⟨RX4, "toldBy", "(I)I"⟩
def RX5 : String := "NinthWave$Orders"
def TX5 : u_T := fun k => match k with
  | 0 => ("NinthWave$Orders", "waters", "[[I", true)
  | 1 => ("NinthWave$Orders", "heard", "[I", true)
  | 2 => ("NinthWave$Orders", "used", "[I", true)
  | 3 => ("NinthWave$Orders", "tried", "[I", true)
  | 4 => ("NinthWave$Orders", "best", "[I", true)
  | _ => ("NinthWave$Orders", "mostOver", "I", false)
def tyX5 : Nat → FieldType := fun k => match k with
  | 0 => .array (.array .int)
  | 1 => .array .int
  | 2 => .array .int
  | 3 => .array .int
  | 4 => .array .int
  | _ => .int
abbrev wsX50 : List Cond := u_ws RX5 TX5 6
theorem nmX5 : ∀ a, a < 6 → ∀ b, b < 6 → a ≠ b → (TX5 a).2.1 ≠ (TX5 b).2.1 := by decide +kernel
theorem tyX5_ok : ∀ k, k < 6 → parseFieldDescriptor (TX5 k).2.2.1 = some (tyX5 k) := by decide +kernel
abbrev cX5_init : ByteArray := prog_7_method_1_code
def yX5_init : MethodName := ⟨RX5, "<init>", "()V"⟩
abbrev cX5_listen : ByteArray := prog_7_method_2_code
def yX5_listen : MethodName := ⟨RX5, "listen", "(LNinthWave$Chart;LNinthWave$Scene;I)V"⟩
abbrev cX5_search : ByteArray := prog_7_method_3_code
def yX5_search : MethodName := ⟨RX5, "search", "(LNinthWave$Chart;LNinthWave$Scene;)V"⟩
abbrev cX5_howManyCross : ByteArray := prog_7_method_4_code
def yX5_howManyCross : MethodName := ⟨RX5, "howManyCross", "(LNinthWave$Chart;LNinthWave$Scene;)I"⟩
abbrev cX5_goOn : ByteArray := prog_7_method_5_code
def yX5_goOn : MethodName := ⟨RX5, "goOn", "(I)Z"⟩
abbrev cX5_swap : ByteArray := prog_7_method_6_code
def yX5_swap : MethodName := ⟨RX5, "swap", "(II)V"⟩
def RX6 : String := "NinthWave$Reader"
def TX6 : u_T := fun k => match k with
  | 0 => ("NinthWave$Reader", "tape", "[I", true)
  | 1 => ("NinthWave$Reader", "length", "I", false)
  | 2 => ("NinthWave$Reader", "place", "I", false)
  | 3 => ("NinthWave$Reader", "flaw", "I", false)
  | 4 => ("NinthWave$Reader", "first", "I", false)
  | _ => ("NinthWave$Reader", "second", "I", false)
def tyX6 : Nat → FieldType := fun k => match k with
  | 0 => .array .int
  | 1 => .int
  | 2 => .int
  | 3 => .int
  | 4 => .int
  | _ => .int
abbrev wsX60 : List Cond := u_ws RX6 TX6 6
theorem nmX6 : ∀ a, a < 6 → ∀ b, b < 6 → a ≠ b → (TX6 a).2.1 ≠ (TX6 b).2.1 := by decide +kernel
theorem tyX6_ok : ∀ k, k < 6 → parseFieldDescriptor (TX6 k).2.2.1 = some (tyX6 k) := by decide +kernel
abbrev cX6_init : ByteArray := prog_8_method_1_code
def yX6_init : MethodName := ⟨RX6, "<init>", "()V"⟩
abbrev cX6_isFull : ByteArray := prog_8_method_2_code
def yX6_isFull : MethodName := ⟨RX6, "isFull", "()Z"⟩
abbrev cX6_append : ByteArray := prog_8_method_3_code
def yX6_append : MethodName := ⟨RX6, "append", "(I)I"⟩
abbrev cX6_empty : ByteArray := prog_8_method_4_code
def yX6_empty : MethodName := ⟨RX6, "empty", "()V"⟩
abbrev cX6_faultNumber : ByteArray := prog_8_method_5_code
def yX6_faultNumber : MethodName := ⟨RX6, "faultNumber", "()I"⟩
abbrev cX6_faultPlace : ByteArray := prog_8_method_6_code
def yX6_faultPlace : MethodName := ⟨RX6, "faultPlace", "()I"⟩
abbrev cX6_read : ByteArray := prog_8_method_7_code
def yX6_read : MethodName := ⟨RX6, "read", "(LNinthWave$Chart;LNinthWave$Scene;)Z"⟩
abbrev cX6_readBar : ByteArray := prog_8_method_8_code
def yX6_readBar : MethodName := ⟨RX6, "readBar", "(LNinthWave$Chart;)Z"⟩
abbrev cX6_readSwells : ByteArray := prog_8_method_9_code
def yX6_readSwells : MethodName := ⟨RX6, "readSwells", "(LNinthWave$Chart;)Z"⟩
abbrev cX6_readTowers : ByteArray := prog_8_method_10_code
def yX6_readTowers : MethodName := ⟨RX6, "readTowers", "(LNinthWave$Chart;LNinthWave$Scene;)Z"⟩
abbrev cX6_readShips : ByteArray := prog_8_method_11_code
def yX6_readShips : MethodName := ⟨RX6, "readShips", "(LNinthWave$Chart;LNinthWave$Scene;)Z"⟩
abbrev cX6_readPair : ByteArray := prog_8_method_12_code
def yX6_readPair : MethodName := ⟨RX6, "readPair", "(II)Z"⟩
abbrev cX6_isAtEnd : ByteArray := prog_8_method_13_code
def yX6_isAtEnd : MethodName := ⟨RX6, "isAtEnd", "()Z"⟩
abbrev cX6_at : ByteArray := prog_8_method_14_code
def yX6_at : MethodName := ⟨RX6, "at", "(I)I"⟩
abbrev cX6_fails : ByteArray := prog_8_method_15_code
def yX6_fails : MethodName := ⟨RX6, "fails", "(I)Z"⟩
abbrev cX6_passes : ByteArray := prog_8_method_16_code
def yX6_passes : MethodName := ⟨RX6, "passes", "(I)Z"⟩
abbrev cX6_number : ByteArray := prog_8_method_17_code
def yX6_number : MethodName := ⟨RX6, "number", "(I)I"⟩
abbrev cX6_isFigure : ByteArray := prog_8_method_18_code
def yX6_isFigure : MethodName := ⟨RX6, "isFigure", "(I)Z"⟩
def RX7 : String := "NinthWave$Rows"
def TX7 : u_T := fun k => match k with
  | 0 => ("NinthWave$Rows", "lanes", "[I", true)
  | 1 => ("NinthWave$Rows", "sizes", "[I", true)
  | _ => ("NinthWave$Rows", "items", "[[I", true)
def tyX7 : Nat → FieldType := fun k => match k with
  | 0 => .array .int
  | 1 => .array .int
  | _ => .array (.array .int)
abbrev wsX70 : List Cond := u_ws RX7 TX7 3
theorem nmX7 : ∀ a, a < 3 → ∀ b, b < 3 → a ≠ b → (TX7 a).2.1 ≠ (TX7 b).2.1 := by decide +kernel
theorem tyX7_ok : ∀ k, k < 3 → parseFieldDescriptor (TX7 k).2.2.1 = some (tyX7 k) := by decide +kernel
abbrev cX7_init : ByteArray := prog_9_method_1_code
def yX7_init : MethodName := ⟨RX7, "<init>", "()V"⟩
abbrev cX7_isMissing : ByteArray := prog_9_method_2_code
def yX7_isMissing : MethodName := ⟨RX7, "isMissing", "(I)Z"⟩
abbrev cX7_alike : ByteArray := prog_9_method_3_code
def yX7_alike : MethodName := ⟨RX7, "alike", "(II)Z"⟩
abbrev cX7_hasPlaces : ByteArray := prog_9_method_4_code
def yX7_hasPlaces : MethodName := ⟨RX7, "hasPlaces", "(III)Z"⟩
abbrev cX7_make : ByteArray := prog_9_method_5_code
def yX7_make : MethodName := ⟨RX7, "make", "(III)V"⟩
abbrev cX7_put : ByteArray := prog_9_method_6_code
def yX7_put : MethodName := ⟨RX7, "put", "(III)I"⟩
abbrev cX7_move : ByteArray := prog_9_method_7_code
def yX7_move : MethodName := ⟨RX7, "move", "(IIIII)V"⟩
abbrev cX7_lose : ByteArray := prog_9_method_8_code
def yX7_lose : MethodName := ⟨RX7, "lose", "(I)I"⟩
abbrev cX7_item : ByteArray := prog_9_method_9_code
def yX7_item : MethodName := ⟨RX7, "item", "(II)I"⟩
abbrev cX7_rises : ByteArray := prog_9_method_10_code
def yX7_rises : MethodName := ⟨RX7, "rises", "(IIII)Z"⟩
abbrev cX7_howManyThere : ByteArray := prog_9_method_11_code
def yX7_howManyThere : MethodName := ⟨RX7, "howManyThere", "()I"⟩
def RX8 : String := "NinthWave$Scene"
def TX8 : u_T := fun k => match k with
  | 0 => ("NinthWave$Scene", "wave", "I", false)
  | 1 => ("NinthWave$Scene", "law", "I", false)
  | 2 => ("NinthWave$Scene", "counts", "[I", true)
  | 3 => ("NinthWave$Scene", "order", "[I", true)
  | 4 => ("NinthWave$Scene", "heeded", "[I", true)
  | 5 => ("NinthWave$Scene", "fates", "[I", true)
  | _ => ("NinthWave$Scene", "crossings", "[I", true)
def tyX8 : Nat → FieldType := fun k => match k with
  | 0 => .int
  | 1 => .int
  | 2 => .array .int
  | 3 => .array .int
  | 4 => .array .int
  | 5 => .array .int
  | _ => .array .int
abbrev wsX80 : List Cond := u_ws RX8 TX8 7
theorem nmX8 : ∀ a, a < 7 → ∀ b, b < 7 → a ≠ b → (TX8 a).2.1 ≠ (TX8 b).2.1 := by decide +kernel
theorem tyX8_ok : ∀ k, k < 7 → parseFieldDescriptor (TX8 k).2.2.1 = some (tyX8 k) := by decide +kernel
abbrev cX8_init : ByteArray := prog_10_method_1_code
def yX8_init : MethodName := ⟨RX8, "<init>", "()V"⟩
abbrev cX8_begin : ByteArray := prog_10_method_2_code
def yX8_begin : MethodName := ⟨RX8, "begin", "()V"⟩
abbrev cX8_become : ByteArray := prog_10_method_3_code
def yX8_become : MethodName := ⟨RX8, "become", "(LNinthWave$Scene;)V"⟩
abbrev cX8_pass : ByteArray := prog_10_method_4_code
def yX8_pass : MethodName := ⟨RX8, "pass", "(LNinthWave$Chart;I)V"⟩
abbrev cX8_comeInBy : ByteArray := prog_10_method_5_code
def yX8_comeInBy : MethodName := ⟨RX8, "comeInBy", "(LNinthWave$Chart;)I"⟩
abbrev cX8_comeIn : ByteArray := prog_10_method_6_code
def yX8_comeIn : MethodName := ⟨RX8, "comeIn", "(LNinthWave$Chart;II)I"⟩
abbrev cX8_cross : ByteArray := prog_10_method_7_code
def yX8_cross : MethodName := ⟨RX8, "cross", "(LNinthWave$Chart;II)V"⟩
abbrev cX8_slipBy : ByteArray := prog_10_method_8_code
def yX8_slipBy : MethodName := ⟨RX8, "slipBy", "(II)I"⟩
abbrev cX8_waits : ByteArray := prog_10_method_9_code
def yX8_waits : MethodName := ⟨RX8, "waits", "(I)Z"⟩
abbrev cX8_isOverAheadOf : ByteArray := prog_10_method_10_code
def yX8_isOverAheadOf : MethodName := ⟨RX8, "isOverAheadOf", "(II)Z"⟩
abbrev cX8_placeOf : ByteArray := prog_10_method_11_code
def yX8_placeOf : MethodName := ⟨RX8, "placeOf", "(I)I"⟩
abbrev cX8_howMany : ByteArray := prog_10_method_12_code
def yX8_howMany : MethodName := ⟨RX8, "howMany", "(LNinthWave$Chart;I)I"⟩
abbrev cX8_howManyWaitFor : ByteArray := prog_10_method_13_code
def yX8_howManyWaitFor : MethodName := ⟨RX8, "howManyWaitFor", "(LNinthWave$Chart;I)I"⟩
def RX9 : String := "NinthWave"
def TX9 : u_T := fun k => match k with
  | 0 => ("NinthWave", "rows", "LNinthWave$Rows;", true)
  | 1 => ("NinthWave", "reader", "LNinthWave$Reader;", true)
  | 2 => ("NinthWave", "chart", "LNinthWave$Chart;", true)
  | 3 => ("NinthWave", "draft", "LNinthWave$Chart;", true)
  | 4 => ("NinthWave", "now", "LNinthWave$Scene;", true)
  | 5 => ("NinthWave", "trial", "LNinthWave$Scene;", true)
  | 6 => ("NinthWave", "acts", "LNinthWave$Acts;", true)
  | 7 => ("NinthWave", "orders", "LNinthWave$Orders;", true)
  | 8 => ("NinthWave", "asker", "LNinthWave$Asker;", true)
  | 9 => ("NinthWave", "images", "[LNinthWave$Image;", true)
  | 10 => ("NinthWave", "hasSea", "Z", false)
  | 11 => ("NinthWave", "latestFault", "I", false)
  | _ => ("NinthWave", "finding", "I", false)
def tyX9 : Nat → FieldType := fun k => match k with
  | 0 => .object "NinthWave$Rows"
  | 1 => .object "NinthWave$Reader"
  | 2 => .object "NinthWave$Chart"
  | 3 => .object "NinthWave$Chart"
  | 4 => .object "NinthWave$Scene"
  | 5 => .object "NinthWave$Scene"
  | 6 => .object "NinthWave$Acts"
  | 7 => .object "NinthWave$Orders"
  | 8 => .object "NinthWave$Asker"
  | 9 => .array (.object "NinthWave$Image")
  | 10 => .boolean
  | 11 => .int
  | _ => .int
abbrev wsX90 : List Cond := u_ws RX9 TX9 13
theorem nmX9 : ∀ a, a < 13 → ∀ b, b < 13 → a ≠ b → (TX9 a).2.1 ≠ (TX9 b).2.1 := by decide +kernel
theorem tyX9_ok : ∀ k, k < 13 → parseFieldDescriptor (TX9 k).2.2.1 = some (tyX9 k) := by decide +kernel
abbrev cX9_init : ByteArray := prog_1_method_1_code
def yX9_init : MethodName := ⟨RX9, "<init>", "()V"⟩
abbrev cX9_row : ByteArray := prog_1_method_2_code
def yX9_row : MethodName := ⟨RX9, "row", "(III)I"⟩
abbrev cX9_set : ByteArray := prog_1_method_3_code
def yX9_set : MethodName := ⟨RX9, "set", "(III)I"⟩
abbrev cX9_copy : ByteArray := prog_1_method_4_code
def yX9_copy : MethodName := ⟨RX9, "copy", "(IIIII)I"⟩
abbrev cX9_drop : ByteArray := prog_1_method_5_code
def yX9_drop : MethodName := ⟨RX9, "drop", "(I)I"⟩
abbrev cX9_feed : ByteArray := prog_1_method_6_code
def yX9_feed : MethodName := ⟨RX9, "feed", "(I)I"⟩
abbrev cX9_sea : ByteArray := prog_1_method_7_code
def yX9_sea : MethodName := ⟨RX9, "sea", "()I"⟩
abbrev cX9_fault : ByteArray := prog_1_method_8_code
def yX9_fault : MethodName := ⟨RX9, "fault", "()I"⟩
abbrev cX9_waves : ByteArray := prog_1_method_9_code
def yX9_waves : MethodName := ⟨RX9, "waves", "(I)I"⟩
abbrev cX9_slip : ByteArray := prog_1_method_10_code
def yX9_slip : MethodName := ⟨RX9, "slip", "(II)I"⟩
abbrev cX9_law : ByteArray := prog_1_method_11_code
def yX9_law : MethodName := ⟨RX9, "law", "(I)I"⟩
abbrev cX9_change : ByteArray := prog_1_method_12_code
def yX9_change : MethodName := ⟨RX9, "change", "(II)I"⟩
abbrev cX9_heeds : ByteArray := prog_1_method_13_code
def yX9_heeds : MethodName := ⟨RX9, "heeds", "(II)I"⟩
abbrev cX9_undo : ByteArray := prog_1_method_14_code
def yX9_undo : MethodName := ⟨RX9, "undo", "()I"⟩
abbrev cX9_ship : ByteArray := prog_1_method_15_code
def yX9_ship : MethodName := ⟨RX9, "ship", "(II)I"⟩
abbrev cX9_tower : ByteArray := prog_1_method_16_code
def yX9_tower : MethodName := ⟨RX9, "tower", "(II)I"⟩
abbrev cX9_wave : ByteArray := prog_1_method_17_code
def yX9_wave : MethodName := ⟨RX9, "wave", "(II)I"⟩
abbrev cX9_ahead : ByteArray := prog_1_method_18_code
def yX9_ahead : MethodName := ⟨RX9, "ahead", "(II)I"⟩
abbrev cX9_shipAhead : ByteArray := prog_1_method_19_code
def yX9_shipAhead : MethodName := ⟨RX9, "shipAhead", "(III)I"⟩
abbrev cX9_towerAhead : ByteArray := prog_1_method_20_code
def yX9_towerAhead : MethodName := ⟨RX9, "towerAhead", "(II)I"⟩
abbrev cX9_called : ByteArray := prog_1_method_21_code
def yX9_called : MethodName := ⟨RX9, "called", "(II)I"⟩
abbrev cX9_fit : ByteArray := prog_1_method_22_code
def yX9_fit : MethodName := ⟨RX9, "fit", "(II)I"⟩
abbrev cX9_highest : ByteArray := prog_1_method_23_code
def yX9_highest : MethodName := ⟨RX9, "highest", "(II)I"⟩
abbrev cX9_order : ByteArray := prog_1_method_24_code
def yX9_order : MethodName := ⟨RX9, "order", "(II)I"⟩
abbrev cX9_laws : ByteArray := prog_1_method_25_code
def yX9_laws : MethodName := ⟨RX9, "laws", "(II)I"⟩
abbrev cX9_bribe : ByteArray := prog_1_method_26_code
def yX9_bribe : MethodName := ⟨RX9, "bribe", "(II)I"⟩
abbrev cX9_heed : ByteArray := prog_1_method_27_code
def yX9_heed : MethodName := ⟨RX9, "heed", "(I)I"⟩
abbrev cX9_agreed : ByteArray := prog_1_method_28_code
def yX9_agreed : MethodName := ⟨RX9, "agreed", "(II)I"⟩
abbrev cX9_log : ByteArray := prog_1_method_29_code
def yX9_log : MethodName := ⟨RX9, "log", "(IIII)I"⟩
abbrev cX9_wreck : ByteArray := prog_1_method_30_code
def yX9_wreck : MethodName := ⟨RX9, "wreck", "(IIII)I"⟩
abbrev cX9_season : ByteArray := prog_1_method_31_code
def yX9_season : MethodName := ⟨RX9, "season", "(III)I"⟩
abbrev cX9_image : ByteArray := prog_1_method_32_code
def yX9_image : MethodName := ⟨RX9, "image", "(I)I"⟩
abbrev cX9_restore : ByteArray := prog_1_method_33_code
def yX9_restore : MethodName := ⟨RX9, "restore", "(I)I"⟩
abbrev cX9_kind : ByteArray := prog_1_method_34_code
def yX9_kind : MethodName := ⟨RX9, "kind", "(I)I"⟩
abbrev cX9_as : ByteArray := prog_1_method_35_code
def yX9_as : MethodName := ⟨RX9, "as", "(II)I"⟩
abbrev cX9_ask : ByteArray := prog_1_method_36_code
def yX9_ask : MethodName := ⟨RX9, "ask", "(II)I"⟩
abbrev cX9_trace : ByteArray := prog_1_method_37_code
def yX9_trace : MethodName := ⟨RX9, "trace", "(I)I"⟩
abbrev cX9_count : ByteArray := prog_1_method_38_code
def yX9_count : MethodName := ⟨RX9, "count", "(I)I"⟩
abbrev cX9_status : ByteArray := prog_1_method_39_code
def yX9_status : MethodName := ⟨RX9, "status", "()I"⟩
abbrev cX9_found : ByteArray := prog_1_method_40_code
def yX9_found : MethodName := ⟨RX9, "found", "(I)I"⟩
abbrev cX9_fine : ByteArray := prog_1_method_41_code
def yX9_fine : MethodName := ⟨RX9, "fine", "(I)I"⟩
abbrev cX9_foretell : ByteArray := prog_1_method_42_code
def yX9_foretell : MethodName := ⟨RX9, "foretell", "(I)V"⟩
abbrev cX9_fitsLog : ByteArray := prog_1_method_43_code
def yX9_fitsLog : MethodName := ⟨RX9, "fitsLog", "(IIII)Z"⟩
abbrev cX9_isRow : ByteArray := prog_1_method_44_code
def yX9_isRow : MethodName := ⟨RX9, "isRow", "(I)Z"⟩
abbrev cX9_isSwell : ByteArray := prog_1_method_45_code
def yX9_isSwell : MethodName := ⟨RX9, "isSwell", "(I)Z"⟩
abbrev cX9_isTower : ByteArray := prog_1_method_46_code
def yX9_isTower : MethodName := ⟨RX9, "isTower", "(I)Z"⟩
abbrev cX9_isShip : ByteArray := prog_1_method_47_code
def yX9_isShip : MethodName := ⟨RX9, "isShip", "(I)Z"⟩
abbrev cX9_within : ByteArray := prog_1_method_48_code
def yX9_within : MethodName := ⟨RX9, "within", "(III)Z"⟩
abbrev cX9_calls : ByteArray := prog_1_method_49_code
def yX9_calls : MethodName := ⟨RX9, "calls", "(III)Z"⟩
def RX10 : String := "NinthWaveModel"
def TX10 : u_T := fun k => match k with
  | 0 => ("NinthWaveModel", "lanes", "[I", true)
  | 1 => ("NinthWaveModel", "sizes", "[I", true)
  | 2 => ("NinthWaveModel", "items", "[I", true)
  | 3 => ("NinthWaveModel", "found", "I", false)
  | 4 => ("NinthWaveModel", "moved", "[I", true)
  | 5 => ("NinthWaveModel", "tape", "[I", true)
  | 6 => ("NinthWaveModel", "fed", "I", false)
  | 7 => ("NinthWaveModel", "faulty", "I", false)
  | 8 => ("NinthWaveModel", "sea", "[I", true)
  | 9 => ("NinthWaveModel", "now", "[I", true)
  | 10 => ("NinthWaveModel", "read", "[I", true)
  | 11 => ("NinthWaveModel", "images", "[I", true)
  | 12 => ("NinthWaveModel", "kept", "[Z", true)
  | 13 => ("NinthWaveModel", "was", "[I", true)
  | 14 => ("NinthWaveModel", "acts", "I", false)
  | 15 => ("NinthWaveModel", "at", "I", false)
  | 16 => ("NinthWaveModel", "start", "I", false)
  | 17 => ("NinthWaveModel", "token", "I", false)
  | 18 => ("NinthWaveModel", "value", "I", false)
  | 19 => ("NinthWaveModel", "wrong", "I", false)
  | 20 => ("NinthWaveModel", "got", "I", false)
  | 21 => ("NinthWaveModel", "other", "I", false)
  | 22 => ("NinthWaveModel", "counts", "[I", true)
  | 23 => ("NinthWaveModel", "heeded", "[I", true)
  | 24 => ("NinthWaveModel", "so", "[I", true)
  | 25 => ("NinthWaveModel", "row0", "[I", true)
  | 26 => ("NinthWaveModel", "best", "[I", true)
  | 27 => ("NinthWaveModel", "traced", "[I", true)
  | _ => ("NinthWaveModel", "traces", "I", false)
def tyX10 : Nat → FieldType := fun k => match k with
  | 0 => .array .int
  | 1 => .array .int
  | 2 => .array .int
  | 3 => .int
  | 4 => .array .int
  | 5 => .array .int
  | 6 => .int
  | 7 => .int
  | 8 => .array .int
  | 9 => .array .int
  | 10 => .array .int
  | 11 => .array .int
  | 12 => .array .boolean
  | 13 => .array .int
  | 14 => .int
  | 15 => .int
  | 16 => .int
  | 17 => .int
  | 18 => .int
  | 19 => .int
  | 20 => .int
  | 21 => .int
  | 22 => .array .int
  | 23 => .array .int
  | 24 => .array .int
  | 25 => .array .int
  | 26 => .array .int
  | 27 => .array .int
  | _ => .int
abbrev wsX100 : List Cond := u_ws RX10 TX10 29
theorem nmX10 : ∀ a, a < 29 → ∀ b, b < 29 → a ≠ b → (TX10 a).2.1 ≠ (TX10 b).2.1 := by decide +kernel
theorem tyX10_ok : ∀ k, k < 29 → parseFieldDescriptor (TX10 k).2.2.1 = some (tyX10 k) := by decide +kernel
abbrev cX10_in : ByteArray := prog_12_method_2_code
def yX10_in : MethodName := ⟨RX10, "in", "(JJJ)Z"⟩
abbrev cX10_most : ByteArray := prog_12_method_3_code
def yX10_most : MethodName := ⟨RX10, "most", "(II)I"⟩
abbrev cX10_init : ByteArray := prog_12_method_4_code
def yX10_init : MethodName := ⟨RX10, "<init>", "()V"⟩
abbrev cX10_isRow : ByteArray := prog_12_method_5_code
def yX10_isRow : MethodName := ⟨RX10, "isRow", "(I)Z"⟩
abbrev cX10_finds : ByteArray := prog_12_method_6_code
def yX10_finds : MethodName := ⟨RX10, "finds", "(I)I"⟩
abbrev cX10_well : ByteArray := prog_12_method_7_code
def yX10_well : MethodName := ⟨RX10, "well", "(I)I"⟩
abbrev cX10_row : ByteArray := prog_12_method_8_code
def yX10_row : MethodName := ⟨RX10, "row", "(III)I"⟩
abbrev cX10_set : ByteArray := prog_12_method_9_code
def yX10_set : MethodName := ⟨RX10, "set", "(III)I"⟩
abbrev cX10_copy : ByteArray := prog_12_method_10_code
def yX10_copy : MethodName := ⟨RX10, "copy", "(IIIII)I"⟩
abbrev cX10_drop : ByteArray := prog_12_method_11_code
def yX10_drop : MethodName := ⟨RX10, "drop", "(I)I"⟩
abbrev cX10_feed : ByteArray := prog_12_method_12_code
def yX10_feed : MethodName := ⟨RX10, "feed", "(I)I"⟩
abbrev cX10_isFigure : ByteArray := prog_12_method_13_code
def yX10_isFigure : MethodName := ⟨RX10, "isFigure", "()Z"⟩
abbrev cX10_scans : ByteArray := prog_12_method_14_code
def yX10_scans : MethodName := ⟨RX10, "scans", "()V"⟩
abbrev cX10_faults : ByteArray := prog_12_method_15_code
def yX10_faults : MethodName := ⟨RX10, "faults", "(I)Z"⟩
abbrev cX10_takes : ByteArray := prog_12_method_16_code
def yX10_takes : MethodName := ⟨RX10, "takes", "(II)Z"⟩
abbrev cX10_signs : ByteArray := prog_12_method_17_code
def yX10_signs : MethodName := ⟨RX10, "signs", "(I)Z"⟩
abbrev cX10_two : ByteArray := prog_12_method_18_code
def yX10_two : MethodName := ⟨RX10, "two", "(III)Z"⟩
abbrev cX10_sortOf : ByteArray := prog_12_method_19_code
def yX10_sortOf : MethodName := ⟨RX10, "sortOf", "(I)I"⟩
abbrev cX10_isLetter : ByteArray := prog_12_method_20_code
def yX10_isLetter : MethodName := ⟨RX10, "isLetter", "(I)Z"⟩
abbrev cX10_swell : ByteArray := prog_12_method_21_code
def yX10_swell : MethodName := ⟨RX10, "swell", "()Z"⟩
abbrev cX10_turret : ByteArray := prog_12_method_22_code
def yX10_turret : MethodName := ⟨RX10, "turret", "()Z"⟩
abbrev cX10_vessel : ByteArray := prog_12_method_23_code
def yX10_vessel : MethodName := ⟨RX10, "vessel", "()Z"⟩
abbrev cX10_reads : ByteArray := prog_12_method_24_code
def yX10_reads : MethodName := ⟨RX10, "reads", "()Z"⟩
abbrev cX10_sea : ByteArray := prog_12_method_25_code
def yX10_sea : MethodName := ⟨RX10, "sea", "()I"⟩
abbrev cX10_fault : ByteArray := prog_12_method_26_code
def yX10_fault : MethodName := ⟨RX10, "fault", "()I"⟩
abbrev cX10_isSea : ByteArray := prog_12_method_27_code
def yX10_isSea : MethodName := ⟨RX10, "isSea", "()Z"⟩
abbrev cX10_isShip : ByteArray := prog_12_method_28_code
def yX10_isShip : MethodName := ⟨RX10, "isShip", "(I)Z"⟩
abbrev cX10_isTower : ByteArray := prog_12_method_29_code
def yX10_isTower : MethodName := ⟨RX10, "isTower", "(I)Z"⟩
abbrev cX10_lift : ByteArray := prog_12_method_30_code
def yX10_lift : MethodName := ⟨RX10, "lift", "(II)I"⟩
abbrev cX10_water : ByteArray := prog_12_method_31_code
def yX10_water : MethodName := ⟨RX10, "water", "(III)I"⟩
abbrev cX10_sortIn : ByteArray := prog_12_method_32_code
def yX10_sortIn : MethodName := ⟨RX10, "sortIn", "(I)I"⟩
abbrev cX10_heightIn : ByteArray := prog_12_method_33_code
def yX10_heightIn : MethodName := ⟨RX10, "heightIn", "(I)I"⟩
abbrev cX10_waterIn : ByteArray := prog_12_method_34_code
def yX10_waterIn : MethodName := ⟨RX10, "waterIn", "(I)I"⟩
abbrev cX10_counted : ByteArray := prog_12_method_35_code
def yX10_counted : MethodName := ⟨RX10, "counted", "(II)I"⟩
abbrev cX10_isCalled : ByteArray := prog_12_method_36_code
def yX10_isCalled : MethodName := ⟨RX10, "isCalled", "(III)Z"⟩
abbrev cX10_asNow : ByteArray := prog_12_method_37_code
def yX10_asNow : MethodName := ⟨RX10, "asNow", "()V"⟩
abbrev cX10_comes : ByteArray := prog_12_method_38_code
def yX10_comes : MethodName := ⟨RX10, "comes", "(II)V"⟩
abbrev cX10_waves0 : ByteArray := prog_12_method_39_code
def yX10_waves0 : MethodName := ⟨RX10, "waves0", "(I)V"⟩
abbrev cX10_many : ByteArray := prog_12_method_40_code
def yX10_many : MethodName := ⟨RX10, "many", "(I)I"⟩
abbrev cX10_remembers : ByteArray := prog_12_method_41_code
def yX10_remembers : MethodName := ⟨RX10, "remembers", "()V"⟩
abbrev cX10_waves : ByteArray := prog_12_method_42_code
def yX10_waves : MethodName := ⟨RX10, "waves", "(I)I"⟩
abbrev cX10_slip : ByteArray := prog_12_method_43_code
def yX10_slip : MethodName := ⟨RX10, "slip", "(II)I"⟩
abbrev cX10_law : ByteArray := prog_12_method_44_code
def yX10_law : MethodName := ⟨RX10, "law", "(I)I"⟩
abbrev cX10_placeOf : ByteArray := prog_12_method_45_code
def yX10_placeOf : MethodName := ⟨RX10, "placeOf", "(I)I"⟩
abbrev cX10_change : ByteArray := prog_12_method_46_code
def yX10_change : MethodName := ⟨RX10, "change", "(II)I"⟩
abbrev cX10_heeds : ByteArray := prog_12_method_47_code
def yX10_heeds : MethodName := ⟨RX10, "heeds", "(II)I"⟩
abbrev cX10_undo : ByteArray := prog_12_method_48_code
def yX10_undo : MethodName := ⟨RX10, "undo", "()I"⟩
abbrev cX10_ship : ByteArray := prog_12_method_49_code
def yX10_ship : MethodName := ⟨RX10, "ship", "(II)I"⟩
abbrev cX10_tower : ByteArray := prog_12_method_50_code
def yX10_tower : MethodName := ⟨RX10, "tower", "(II)I"⟩
abbrev cX10_wave : ByteArray := prog_12_method_51_code
def yX10_wave : MethodName := ⟨RX10, "wave", "(II)I"⟩
abbrev cX10_ahead : ByteArray := prog_12_method_52_code
def yX10_ahead : MethodName := ⟨RX10, "ahead", "(II)I"⟩
abbrev cX10_shipAhead : ByteArray := prog_12_method_53_code
def yX10_shipAhead : MethodName := ⟨RX10, "shipAhead", "(III)I"⟩
abbrev cX10_towerAhead : ByteArray := prog_12_method_54_code
def yX10_towerAhead : MethodName := ⟨RX10, "towerAhead", "(II)I"⟩
abbrev cX10_called : ByteArray := prog_12_method_55_code
def yX10_called : MethodName := ⟨RX10, "called", "(II)I"⟩
abbrev cX10_fit : ByteArray := prog_12_method_56_code
def yX10_fit : MethodName := ⟨RX10, "fit", "(II)I"⟩
abbrev cX10_highest : ByteArray := prog_12_method_57_code
def yX10_highest : MethodName := ⟨RX10, "highest", "(II)I"⟩
abbrev cX10_lays : ByteArray := prog_12_method_58_code
def yX10_lays : MethodName := ⟨RX10, "lays", "(II)Z"⟩
abbrev cX10_order : ByteArray := prog_12_method_59_code
def yX10_order : MethodName := ⟨RX10, "order", "(II)I"⟩
abbrev cX10_laws : ByteArray := prog_12_method_60_code
def yX10_laws : MethodName := ⟨RX10, "laws", "(II)I"⟩
abbrev cX10_bribe : ByteArray := prog_12_method_61_code
def yX10_bribe : MethodName := ⟨RX10, "bribe", "(II)I"⟩
abbrev cX10_heed : ByteArray := prog_12_method_62_code
def yX10_heed : MethodName := ⟨RX10, "heed", "(I)I"⟩
abbrev cX10_callers : ByteArray := prog_12_method_63_code
def yX10_callers : MethodName := ⟨RX10, "callers", "()I"⟩
abbrev cX10_agreed : ByteArray := prog_12_method_64_code
def yX10_agreed : MethodName := ⟨RX10, "agreed", "(II)I"⟩
abbrev cX10_hasCalled : ByteArray := prog_12_method_65_code
def yX10_hasCalled : MethodName := ⟨RX10, "hasCalled", "(IIII)Z"⟩
abbrev cX10_log : ByteArray := prog_12_method_66_code
def yX10_log : MethodName := ⟨RX10, "log", "(IIII)I"⟩
abbrev cX10_wreck : ByteArray := prog_12_method_67_code
def yX10_wreck : MethodName := ⟨RX10, "wreck", "(IIII)I"⟩
abbrev cX10_season : ByteArray := prog_12_method_68_code
def yX10_season : MethodName := ⟨RX10, "season", "(III)I"⟩
abbrev cX10_image : ByteArray := prog_12_method_69_code
def yX10_image : MethodName := ⟨RX10, "image", "(I)I"⟩
abbrev cX10_restore : ByteArray := prog_12_method_70_code
def yX10_restore : MethodName := ⟨RX10, "restore", "(I)I"⟩
abbrev cX10_isSwell : ByteArray := prog_12_method_71_code
def yX10_isSwell : MethodName := ⟨RX10, "isSwell", "(I)Z"⟩
abbrev cX10_kind : ByteArray := prog_12_method_72_code
def yX10_kind : MethodName := ⟨RX10, "kind", "(I)I"⟩
abbrev cX10_as : ByteArray := prog_12_method_73_code
def yX10_as : MethodName := ⟨RX10, "as", "(II)I"⟩
abbrev cX10_leaves : ByteArray := prog_12_method_74_code
def yX10_leaves : MethodName := ⟨RX10, "leaves", "(I)V"⟩
abbrev cX10_plainMark : ByteArray := prog_12_method_75_code
def yX10_plainMark : MethodName := ⟨RX10, "plainMark", "(I)I"⟩
abbrev cX10_sizeOf : ByteArray := prog_12_method_76_code
def yX10_sizeOf : MethodName := ⟨RX10, "sizeOf", "(I)I"⟩
abbrev cX10_markOf : ByteArray := prog_12_method_77_code
def yX10_markOf : MethodName := ⟨RX10, "markOf", "(I)I"⟩
abbrev cX10_ask : ByteArray := prog_12_method_78_code
def yX10_ask : MethodName := ⟨RX10, "ask", "(II)I"⟩
abbrev cX10_trace : ByteArray := prog_12_method_79_code
def yX10_trace : MethodName := ⟨RX10, "trace", "(I)I"⟩
abbrev cX10_count : ByteArray := prog_12_method_80_code
def yX10_count : MethodName := ⟨RX10, "count", "(I)I"⟩
abbrev cX10_status : ByteArray := prog_12_method_81_code
def yX10_status : MethodName := ⟨RX10, "status", "()I"⟩
def RJ9 : String := "java/lang/Math"
def TJ9 : u_T := fun k => match k with
  | _ => ("", "", "", false)
def tyJ9 : Nat → FieldType := fun k => match k with
  | _ => .int
abbrev wsJ90 : List Cond := u_ws RJ9 TJ9 0
abbrev cJ9_max_7cf53 : ByteArray := prog_13_method_65_code
def yJ9_max_7cf53 : MethodName := ⟨RJ9, "max", "(II)I"⟩
abbrev cJ9_min_7cf53 : ByteArray := prog_13_method_69_code
def yJ9_min_7cf53 : MethodName := ⟨RJ9, "min", "(II)I"⟩
def RJ10 : String := "java/lang/System"
def TJ10 : u_T := fun k => match k with
  | _ => ("", "", "", false)
def tyJ10 : Nat → FieldType := fun k => match k with
  | _ => .int
abbrev wsJ100 : List Cond := u_ws RJ10 TJ10 0
def RL : String := "NinthWaveLaw"
abbrev cL_law : ByteArray := code
def yL_law : MethodName := ⟨RL, "law", "([I)Z"⟩
/-- the words that go along into every call -/
def nw_gw : List Cond := lw_tbl.filter goodWord
theorem tb_in {i : Nat} {w : Cond} (h : tables_1[i]? = some w) (hg : goodWord w = true := by rfl) : w ∈ nw_gw := List.mem_filter.mpr ⟨List.mem_append_right _ (List.mem_of_getElem? h), hg⟩
theorem tp_in {i : Nat} {w : Cond} (h : (k2_sels lw_privs)[i]? = some w) (hg : goodWord w = true := by rfl) : w ∈ nw_gw := List.mem_filter.mpr ⟨List.mem_append_left _ (List.mem_of_getElem? h), hg⟩
theorem tl_in {i : Nat} {w : Cond} (h : tables_1[i]? = some w) : w ∈ lw_tbl := List.mem_append_right _ (List.mem_of_getElem? h)
end
section
/-- the words on private members of nest mates -/
def nw_ne : List Cond := [Cond.methodLinkNest RX9 18 yX6_init "NinthWave", Cond.methodLinkNest RX9 25 yX2_init "NinthWave", Cond.methodLinkNest RX9 35 yX8_init "NinthWave", Cond.methodLinkNest RX0 15 yX8_init "NinthWave", Cond.methodLinkNest RX9 52 yX5_init "NinthWave", Cond.methodLinkNest RX9 59 yX1_init "NinthWave", Cond.methodLinkNest RX9 70 yX3_init "NinthWave", Cond.methodLinkNest RX3 9 yX2_init "NinthWave", Cond.methodLinkNest RX3 18 yX8_init "NinthWave", Cond.methodLinkNest RX8 65 yX9_calls "NinthWave", Cond.methodLinkNest RX5 52 yX9_calls "NinthWave"]
/-- a method: its name, its bytes, its locals, its answer's type -/
abbrev nw_Mt : Type := MethodName × ByteArray × Nat × Option FieldType
def nw_ok (M : nw_Mt) (n : Nat) : Prop := Cond.code M.1 M.2.1 M.2.2.1 M.2.2.2 ∈ nw_gw ∧ Cond.initialized M.1.cls ∈ nw_gw ∧ (M.1.cls ≠ "java/lang/invoke/MethodHandle" ∧ M.1.cls ≠ "java/lang/invoke/VarHandle" ∧ (parseMethodDescriptor M.1.desc).map (fun d => d.parameters.length) = some n) ∧ plainName M.1.cls = true ∧ M.2.2.1 ≤ 30
def nw_iv (M : nw_Mt) : Prop := Cond.instanceMethod M.1 ∈ nw_gw ∧ Cond.selects M.1.cls M.1 M.1 ∈ nw_gw
def nw_ss (M : nw_Mt) : Prop := Cond.static M.1 ∈ nw_gw
def nw_ii (M : nw_Mt) : Prop := Cond.instanceMethod M.1 ∈ nw_gw ∧ M.1.name = "<init>"
def nw_ml (own : String) (i : Nat) (M : nw_Mt) : Prop := Cond.methodLink own i M.1 ∈ nw_gw
def nw_mn (own : String) (i : Nat) (M : nw_Mt) : Prop := ∃ host, Cond.methodLinkNest own i M.1 host ∈ nw_ne
def mX9_init : nw_Mt := (yX9_init, cX9_init, 2, none)
theorem kX9_init : nw_ok mX9_init 0 := ⟨tb_in (i := 18) (by decide +kernel), tb_in (i := 1) (by decide +kernel), by decide +kernel, by decide +kernel, by decide +kernel⟩
theorem iX9_init : nw_ii mX9_init := ⟨tb_in (i := 17) (by decide +kernel), rfl⟩
def mX7_init : nw_Mt := (yX7_init, cX7_init, 2, none)
theorem kX7_init : nw_ok mX7_init 0 := ⟨tb_in (i := 26) (by decide +kernel), tb_in (i := 2) (by decide +kernel), by decide +kernel, by decide +kernel, by decide +kernel⟩
theorem iX7_init : nw_ii mX7_init := ⟨tb_in (i := 25) (by decide +kernel), rfl⟩
def mX6_init : nw_Mt := (yX6_init, cX6_init, 1, none)
theorem kX6_init : nw_ok mX6_init 0 := ⟨tb_in (i := 45) (by decide +kernel), tb_in (i := 3) (by decide +kernel), by decide +kernel, by decide +kernel, by decide +kernel⟩
theorem iX6_init : nw_ii mX6_init := ⟨tb_in (i := 44) (by decide +kernel), rfl⟩
def mX2_init : nw_Mt := (yX2_init, cX2_init, 1, none)
theorem kX2_init : nw_ok mX2_init 0 := ⟨tb_in (i := 71) (by decide +kernel), tb_in (i := 4) (by decide +kernel), by decide +kernel, by decide +kernel, by decide +kernel⟩
theorem iX2_init : nw_ii mX2_init := ⟨tb_in (i := 70) (by decide +kernel), rfl⟩
def mX8_init : nw_Mt := (yX8_init, cX8_init, 1, none)
theorem kX8_init : nw_ok mX8_init 0 := ⟨tb_in (i := 129) (by decide +kernel), tb_in (i := 5) (by decide +kernel), by decide +kernel, by decide +kernel, by decide +kernel⟩
theorem iX8_init : nw_ii mX8_init := ⟨tb_in (i := 128) (by decide +kernel), rfl⟩
def mX0_init : nw_Mt := (yX0_init, cX0_init, 2, none)
theorem kX0_init : nw_ok mX0_init 0 := ⟨tb_in (i := 170) (by decide +kernel), tb_in (i := 6) (by decide +kernel), by decide +kernel, by decide +kernel, by decide +kernel⟩
theorem iX0_init : nw_ii mX0_init := ⟨tb_in (i := 169) (by decide +kernel), rfl⟩
def mX5_init : nw_Mt := (yX5_init, cX5_init, 1, none)
theorem kX5_init : nw_ok mX5_init 0 := ⟨tb_in (i := 190) (by decide +kernel), tb_in (i := 7) (by decide +kernel), by decide +kernel, by decide +kernel, by decide +kernel⟩
theorem iX5_init : nw_ii mX5_init := ⟨tb_in (i := 189) (by decide +kernel), rfl⟩
def mX1_init : nw_Mt := (yX1_init, cX1_init, 1, none)
theorem kX1_init : nw_ok mX1_init 0 := ⟨tb_in (i := 218) (by decide +kernel), tb_in (i := 8) (by decide +kernel), by decide +kernel, by decide +kernel, by decide +kernel⟩
theorem iX1_init : nw_ii mX1_init := ⟨tb_in (i := 217) (by decide +kernel), rfl⟩
def mX3_init : nw_Mt := (yX3_init, cX3_init, 1, none)
theorem kX3_init : nw_ok mX3_init 0 := ⟨tb_in (i := 246) (by decide +kernel), tb_in (i := 9) (by decide +kernel), by decide +kernel, by decide +kernel, by decide +kernel⟩
theorem iX3_init : nw_ii mX3_init := ⟨tb_in (i := 245) (by decide +kernel), rfl⟩
def mX9_row : nw_Mt := (yX9_row, cX9_row, 4, (some .int))
theorem kX9_row : nw_ok mX9_row 3 := ⟨tb_in (i := 308) (by decide +kernel), tb_in (i := 1) (by decide +kernel), by decide +kernel, by decide +kernel, by decide +kernel⟩
theorem vX9_row : nw_iv mX9_row := ⟨tb_in (i := 306) (by decide +kernel), tb_in (i := 307) (by decide +kernel)⟩
def mX9_isRow : nw_Mt := (yX9_isRow, cX9_isRow, 2, (some .boolean))
theorem kX9_isRow : nw_ok mX9_isRow 1 := ⟨tb_in (i := 312) (by decide +kernel), tb_in (i := 1) (by decide +kernel), by decide +kernel, by decide +kernel, by decide +kernel⟩
theorem vX9_isRow : nw_iv mX9_isRow := ⟨tb_in (i := 311) (by decide +kernel), tp_in (i := 0) (by decide +kernel)⟩
def mX9_within : nw_Mt := (yX9_within, cX9_within, 3, (some .boolean))
theorem kX9_within : nw_ok mX9_within 3 := ⟨tb_in (i := 315) (by decide +kernel), tb_in (i := 1) (by decide +kernel), by decide +kernel, by decide +kernel, by decide +kernel⟩
theorem sX9_within : nw_ss mX9_within := tb_in (i := 314) (by decide +kernel)
def mX9_found : nw_Mt := (yX9_found, cX9_found, 2, (some .int))
theorem kX9_found : nw_ok mX9_found 1 := ⟨tb_in (i := 320) (by decide +kernel), tb_in (i := 1) (by decide +kernel), by decide +kernel, by decide +kernel, by decide +kernel⟩
theorem vX9_found : nw_iv mX9_found := ⟨tb_in (i := 319) (by decide +kernel), tp_in (i := 1) (by decide +kernel)⟩
def mX7_make : nw_Mt := (yX7_make, cX7_make, 5, none)
theorem kX7_make : nw_ok mX7_make 3 := ⟨tb_in (i := 325) (by decide +kernel), tb_in (i := 2) (by decide +kernel), by decide +kernel, by decide +kernel, by decide +kernel⟩
theorem vX7_make : nw_iv mX7_make := ⟨tb_in (i := 323) (by decide +kernel), tb_in (i := 324) (by decide +kernel)⟩
def mX9_fine : nw_Mt := (yX9_fine, cX9_fine, 2, (some .int))
theorem kX9_fine : nw_ok mX9_fine 1 := ⟨tb_in (i := 329) (by decide +kernel), tb_in (i := 1) (by decide +kernel), by decide +kernel, by decide +kernel, by decide +kernel⟩
theorem vX9_fine : nw_iv mX9_fine := ⟨tb_in (i := 328) (by decide +kernel), tp_in (i := 2) (by decide +kernel)⟩
def mX9_set : nw_Mt := (yX9_set, cX9_set, 4, (some .int))
theorem kX9_set : nw_ok mX9_set 3 := ⟨tb_in (i := 333) (by decide +kernel), tb_in (i := 1) (by decide +kernel), by decide +kernel, by decide +kernel, by decide +kernel⟩
theorem vX9_set : nw_iv mX9_set := ⟨tb_in (i := 331) (by decide +kernel), tb_in (i := 332) (by decide +kernel)⟩
def mX7_isMissing : nw_Mt := (yX7_isMissing, cX7_isMissing, 2, (some .boolean))
theorem kX7_isMissing : nw_ok mX7_isMissing 1 := ⟨tb_in (i := 337) (by decide +kernel), tb_in (i := 2) (by decide +kernel), by decide +kernel, by decide +kernel, by decide +kernel⟩
theorem vX7_isMissing : nw_iv mX7_isMissing := ⟨tb_in (i := 335) (by decide +kernel), tb_in (i := 336) (by decide +kernel)⟩
def mX7_hasPlaces : nw_Mt := (yX7_hasPlaces, cX7_hasPlaces, 4, (some .boolean))
theorem kX7_hasPlaces : nw_ok mX7_hasPlaces 3 := ⟨tb_in (i := 341) (by decide +kernel), tb_in (i := 2) (by decide +kernel), by decide +kernel, by decide +kernel, by decide +kernel⟩
theorem vX7_hasPlaces : nw_iv mX7_hasPlaces := ⟨tb_in (i := 339) (by decide +kernel), tb_in (i := 340) (by decide +kernel)⟩
def mX7_put : nw_Mt := (yX7_put, cX7_put, 5, (some .int))
theorem kX7_put : nw_ok mX7_put 3 := ⟨tb_in (i := 345) (by decide +kernel), tb_in (i := 2) (by decide +kernel), by decide +kernel, by decide +kernel, by decide +kernel⟩
theorem vX7_put : nw_iv mX7_put := ⟨tb_in (i := 343) (by decide +kernel), tb_in (i := 344) (by decide +kernel)⟩
def mX9_copy : nw_Mt := (yX9_copy, cX9_copy, 6, (some .int))
theorem kX9_copy : nw_ok mX9_copy 5 := ⟨tb_in (i := 349) (by decide +kernel), tb_in (i := 1) (by decide +kernel), by decide +kernel, by decide +kernel, by decide +kernel⟩
theorem vX9_copy : nw_iv mX9_copy := ⟨tb_in (i := 347) (by decide +kernel), tb_in (i := 348) (by decide +kernel)⟩
def mX7_alike : nw_Mt := (yX7_alike, cX7_alike, 3, (some .boolean))
theorem kX7_alike : nw_ok mX7_alike 2 := ⟨tb_in (i := 353) (by decide +kernel), tb_in (i := 2) (by decide +kernel), by decide +kernel, by decide +kernel, by decide +kernel⟩
theorem vX7_alike : nw_iv mX7_alike := ⟨tb_in (i := 351) (by decide +kernel), tb_in (i := 352) (by decide +kernel)⟩
def mX7_move : nw_Mt := (yX7_move, cX7_move, 6, none)
theorem kX7_move : nw_ok mX7_move 5 := ⟨tb_in (i := 357) (by decide +kernel), tb_in (i := 2) (by decide +kernel), by decide +kernel, by decide +kernel, by decide +kernel⟩
theorem vX7_move : nw_iv mX7_move := ⟨tb_in (i := 355) (by decide +kernel), tb_in (i := 356) (by decide +kernel)⟩
def mX9_drop : nw_Mt := (yX9_drop, cX9_drop, 2, (some .int))
theorem kX9_drop : nw_ok mX9_drop 1 := ⟨tb_in (i := 364) (by decide +kernel), tb_in (i := 1) (by decide +kernel), by decide +kernel, by decide +kernel, by decide +kernel⟩
theorem vX9_drop : nw_iv mX9_drop := ⟨tb_in (i := 362) (by decide +kernel), tb_in (i := 363) (by decide +kernel)⟩
def mX7_lose : nw_Mt := (yX7_lose, cX7_lose, 3, (some .int))
theorem kX7_lose : nw_ok mX7_lose 1 := ⟨tb_in (i := 368) (by decide +kernel), tb_in (i := 2) (by decide +kernel), by decide +kernel, by decide +kernel, by decide +kernel⟩
theorem vX7_lose : nw_iv mX7_lose := ⟨tb_in (i := 366) (by decide +kernel), tb_in (i := 367) (by decide +kernel)⟩
def mX9_feed : nw_Mt := (yX9_feed, cX9_feed, 2, (some .int))
theorem kX9_feed : nw_ok mX9_feed 1 := ⟨tb_in (i := 372) (by decide +kernel), tb_in (i := 1) (by decide +kernel), by decide +kernel, by decide +kernel, by decide +kernel⟩
theorem vX9_feed : nw_iv mX9_feed := ⟨tb_in (i := 370) (by decide +kernel), tb_in (i := 371) (by decide +kernel)⟩
def mX6_isFull : nw_Mt := (yX6_isFull, cX6_isFull, 1, (some .boolean))
theorem kX6_isFull : nw_ok mX6_isFull 0 := ⟨tb_in (i := 376) (by decide +kernel), tb_in (i := 3) (by decide +kernel), by decide +kernel, by decide +kernel, by decide +kernel⟩
theorem vX6_isFull : nw_iv mX6_isFull := ⟨tb_in (i := 374) (by decide +kernel), tb_in (i := 375) (by decide +kernel)⟩
def mX6_append : nw_Mt := (yX6_append, cX6_append, 2, (some .int))
theorem kX6_append : nw_ok mX6_append 1 := ⟨tb_in (i := 381) (by decide +kernel), tb_in (i := 3) (by decide +kernel), by decide +kernel, by decide +kernel, by decide +kernel⟩
theorem vX6_append : nw_iv mX6_append := ⟨tb_in (i := 379) (by decide +kernel), tb_in (i := 380) (by decide +kernel)⟩
def mX9_sea : nw_Mt := (yX9_sea, cX9_sea, 2, (some .int))
theorem kX9_sea : nw_ok mX9_sea 0 := ⟨tb_in (i := 386) (by decide +kernel), tb_in (i := 1) (by decide +kernel), by decide +kernel, by decide +kernel, by decide +kernel⟩
theorem vX9_sea : nw_iv mX9_sea := ⟨tb_in (i := 384) (by decide +kernel), tb_in (i := 385) (by decide +kernel)⟩
def mX6_read : nw_Mt := (yX6_read, cX6_read, 3, (some .boolean))
theorem kX6_read : nw_ok mX6_read 2 := ⟨tb_in (i := 390) (by decide +kernel), tb_in (i := 3) (by decide +kernel), by decide +kernel, by decide +kernel, by decide +kernel⟩
theorem vX6_read : nw_iv mX6_read := ⟨tb_in (i := 388) (by decide +kernel), tb_in (i := 389) (by decide +kernel)⟩
def mX8_begin : nw_Mt := (yX8_begin, cX8_begin, 2, none)
theorem kX8_begin : nw_ok mX8_begin 0 := ⟨tb_in (i := 394) (by decide +kernel), tb_in (i := 5) (by decide +kernel), by decide +kernel, by decide +kernel, by decide +kernel⟩
theorem vX8_begin : nw_iv mX8_begin := ⟨tb_in (i := 392) (by decide +kernel), tb_in (i := 393) (by decide +kernel)⟩
def mX6_readBar : nw_Mt := (yX6_readBar, cX6_readBar, 2, (some .boolean))
theorem kX6_readBar : nw_ok mX6_readBar 1 := ⟨tb_in (i := 399) (by decide +kernel), tb_in (i := 3) (by decide +kernel), by decide +kernel, by decide +kernel, by decide +kernel⟩
theorem vX6_readBar : nw_iv mX6_readBar := ⟨tb_in (i := 398) (by decide +kernel), tp_in (i := 3) (by decide +kernel)⟩
def mX6_passes : nw_Mt := (yX6_passes, cX6_passes, 2, (some .boolean))
theorem kX6_passes : nw_ok mX6_passes 1 := ⟨tb_in (i := 403) (by decide +kernel), tb_in (i := 3) (by decide +kernel), by decide +kernel, by decide +kernel, by decide +kernel⟩
theorem vX6_passes : nw_iv mX6_passes := ⟨tb_in (i := 402) (by decide +kernel), tp_in (i := 4) (by decide +kernel)⟩
def mX6_at : nw_Mt := (yX6_at, cX6_at, 2, (some .int))
theorem kX6_at : nw_ok mX6_at 1 := ⟨tb_in (i := 407) (by decide +kernel), tb_in (i := 3) (by decide +kernel), by decide +kernel, by decide +kernel, by decide +kernel⟩
theorem vX6_at : nw_iv mX6_at := ⟨tb_in (i := 406) (by decide +kernel), tp_in (i := 5) (by decide +kernel)⟩
def mX6_fails : nw_Mt := (yX6_fails, cX6_fails, 2, (some .boolean))
theorem kX6_fails : nw_ok mX6_fails 1 := ⟨tb_in (i := 411) (by decide +kernel), tb_in (i := 3) (by decide +kernel), by decide +kernel, by decide +kernel, by decide +kernel⟩
theorem vX6_fails : nw_iv mX6_fails := ⟨tb_in (i := 410) (by decide +kernel), tp_in (i := 6) (by decide +kernel)⟩
def mX6_readPair : nw_Mt := (yX6_readPair, cX6_readPair, 3, (some .boolean))
theorem kX6_readPair : nw_ok mX6_readPair 2 := ⟨tb_in (i := 415) (by decide +kernel), tb_in (i := 3) (by decide +kernel), by decide +kernel, by decide +kernel, by decide +kernel⟩
theorem vX6_readPair : nw_iv mX6_readPair := ⟨tb_in (i := 414) (by decide +kernel), tp_in (i := 7) (by decide +kernel)⟩
def mX6_number : nw_Mt := (yX6_number, cX6_number, 4, (some .int))
theorem kX6_number : nw_ok mX6_number 1 := ⟨tb_in (i := 419) (by decide +kernel), tb_in (i := 3) (by decide +kernel), by decide +kernel, by decide +kernel, by decide +kernel⟩
theorem vX6_number : nw_iv mX6_number := ⟨tb_in (i := 418) (by decide +kernel), tp_in (i := 8) (by decide +kernel)⟩
def mX6_isFigure : nw_Mt := (yX6_isFigure, cX6_isFigure, 1, (some .boolean))
theorem kX6_isFigure : nw_ok mX6_isFigure 1 := ⟨tb_in (i := 422) (by decide +kernel), tb_in (i := 3) (by decide +kernel), by decide +kernel, by decide +kernel, by decide +kernel⟩
theorem sX6_isFigure : nw_ss mX6_isFigure := tb_in (i := 421) (by decide +kernel)
def mX6_readSwells : nw_Mt := (yX6_readSwells, cX6_readSwells, 3, (some .boolean))
theorem kX6_readSwells : nw_ok mX6_readSwells 1 := ⟨tb_in (i := 426) (by decide +kernel), tb_in (i := 3) (by decide +kernel), by decide +kernel, by decide +kernel, by decide +kernel⟩
theorem vX6_readSwells : nw_iv mX6_readSwells := ⟨tb_in (i := 425) (by decide +kernel), tp_in (i := 9) (by decide +kernel)⟩
def mX4_toldBy : nw_Mt := (yX4_toldBy, cX4_toldBy, 1, (some .int))
theorem kX4_toldBy : nw_ok mX4_toldBy 1 := ⟨tb_in (i := 429) (by decide +kernel), tb_in (i := 12) (by decide +kernel), by decide +kernel, by decide +kernel, by decide +kernel⟩
theorem sX4_toldBy : nw_ss mX4_toldBy := tb_in (i := 428) (by decide +kernel)
def mX6_readTowers : nw_Mt := (yX6_readTowers, cX6_readTowers, 4, (some .boolean))
theorem kX6_readTowers : nw_ok mX6_readTowers 2 := ⟨tb_in (i := 433) (by decide +kernel), tb_in (i := 3) (by decide +kernel), by decide +kernel, by decide +kernel, by decide +kernel⟩
theorem vX6_readTowers : nw_iv mX6_readTowers := ⟨tb_in (i := 432) (by decide +kernel), tp_in (i := 10) (by decide +kernel)⟩
def mX6_readShips : nw_Mt := (yX6_readShips, cX6_readShips, 4, (some .boolean))
theorem kX6_readShips : nw_ok mX6_readShips 2 := ⟨tb_in (i := 437) (by decide +kernel), tb_in (i := 3) (by decide +kernel), by decide +kernel, by decide +kernel, by decide +kernel⟩
theorem vX6_readShips : nw_iv mX6_readShips := ⟨tb_in (i := 436) (by decide +kernel), tp_in (i := 11) (by decide +kernel)⟩
def mX6_isAtEnd : nw_Mt := (yX6_isAtEnd, cX6_isAtEnd, 1, (some .boolean))
theorem kX6_isAtEnd : nw_ok mX6_isAtEnd 0 := ⟨tb_in (i := 441) (by decide +kernel), tb_in (i := 3) (by decide +kernel), by decide +kernel, by decide +kernel, by decide +kernel⟩
theorem vX6_isAtEnd : nw_iv mX6_isAtEnd := ⟨tb_in (i := 440) (by decide +kernel), tp_in (i := 12) (by decide +kernel)⟩
def mX6_empty : nw_Mt := (yX6_empty, cX6_empty, 1, none)
theorem kX6_empty : nw_ok mX6_empty 0 := ⟨tb_in (i := 445) (by decide +kernel), tb_in (i := 3) (by decide +kernel), by decide +kernel, by decide +kernel, by decide +kernel⟩
theorem vX6_empty : nw_iv mX6_empty := ⟨tb_in (i := 443) (by decide +kernel), tb_in (i := 444) (by decide +kernel)⟩
def mX6_faultNumber : nw_Mt := (yX6_faultNumber, cX6_faultNumber, 1, (some .int))
theorem kX6_faultNumber : nw_ok mX6_faultNumber 0 := ⟨tb_in (i := 449) (by decide +kernel), tb_in (i := 3) (by decide +kernel), by decide +kernel, by decide +kernel, by decide +kernel⟩
theorem vX6_faultNumber : nw_iv mX6_faultNumber := ⟨tb_in (i := 447) (by decide +kernel), tb_in (i := 448) (by decide +kernel)⟩
def mX6_faultPlace : nw_Mt := (yX6_faultPlace, cX6_faultPlace, 1, (some .int))
theorem kX6_faultPlace : nw_ok mX6_faultPlace 0 := ⟨tb_in (i := 454) (by decide +kernel), tb_in (i := 3) (by decide +kernel), by decide +kernel, by decide +kernel, by decide +kernel⟩
theorem vX6_faultPlace : nw_iv mX6_faultPlace := ⟨tb_in (i := 452) (by decide +kernel), tb_in (i := 453) (by decide +kernel)⟩
def mX2_become : nw_Mt := (yX2_become, cX2_become, 2, none)
theorem kX2_become : nw_ok mX2_become 1 := ⟨tb_in (i := 458) (by decide +kernel), tb_in (i := 4) (by decide +kernel), by decide +kernel, by decide +kernel, by decide +kernel⟩
theorem vX2_become : nw_iv mX2_become := ⟨tb_in (i := 456) (by decide +kernel), tb_in (i := 457) (by decide +kernel)⟩
def mX8_become : nw_Mt := (yX8_become, cX8_become, 2, none)
theorem kX8_become : nw_ok mX8_become 1 := ⟨tb_in (i := 463) (by decide +kernel), tb_in (i := 5) (by decide +kernel), by decide +kernel, by decide +kernel, by decide +kernel⟩
theorem vX8_become : nw_iv mX8_become := ⟨tb_in (i := 461) (by decide +kernel), tb_in (i := 462) (by decide +kernel)⟩
def mX0_forgetAll : nw_Mt := (yX0_forgetAll, cX0_forgetAll, 1, none)
theorem kX0_forgetAll : nw_ok mX0_forgetAll 0 := ⟨tb_in (i := 468) (by decide +kernel), tb_in (i := 6) (by decide +kernel), by decide +kernel, by decide +kernel, by decide +kernel⟩
theorem vX0_forgetAll : nw_iv mX0_forgetAll := ⟨tb_in (i := 466) (by decide +kernel), tb_in (i := 467) (by decide +kernel)⟩
def mX9_fault : nw_Mt := (yX9_fault, cX9_fault, 1, (some .int))
theorem kX9_fault : nw_ok mX9_fault 0 := ⟨tb_in (i := 472) (by decide +kernel), tb_in (i := 1) (by decide +kernel), by decide +kernel, by decide +kernel, by decide +kernel⟩
theorem vX9_fault : nw_iv mX9_fault := ⟨tb_in (i := 470) (by decide +kernel), tb_in (i := 471) (by decide +kernel)⟩
def mX9_waves : nw_Mt := (yX9_waves, cX9_waves, 3, (some .int))
theorem kX9_waves : nw_ok mX9_waves 1 := ⟨tb_in (i := 476) (by decide +kernel), tb_in (i := 1) (by decide +kernel), by decide +kernel, by decide +kernel, by decide +kernel⟩
theorem vX9_waves : nw_iv mX9_waves := ⟨tb_in (i := 474) (by decide +kernel), tb_in (i := 475) (by decide +kernel)⟩
def mX0_keep : nw_Mt := (yX0_keep, cX0_keep, 2, none)
theorem kX0_keep : nw_ok mX0_keep 1 := ⟨tb_in (i := 481) (by decide +kernel), tb_in (i := 6) (by decide +kernel), by decide +kernel, by decide +kernel, by decide +kernel⟩
theorem vX0_keep : nw_iv mX0_keep := ⟨tb_in (i := 479) (by decide +kernel), tb_in (i := 480) (by decide +kernel)⟩
def mX8_comeInBy : nw_Mt := (yX8_comeInBy, cX8_comeInBy, 2, (some .int))
theorem kX8_comeInBy : nw_ok mX8_comeInBy 1 := ⟨tb_in (i := 489) (by decide +kernel), tb_in (i := 5) (by decide +kernel), by decide +kernel, by decide +kernel, by decide +kernel⟩
theorem vX8_comeInBy : nw_iv mX8_comeInBy := ⟨tb_in (i := 487) (by decide +kernel), tb_in (i := 488) (by decide +kernel)⟩
def mX2_kindIn : nw_Mt := (yX2_kindIn, cX2_kindIn, 2, (some .int))
theorem kX2_kindIn : nw_ok mX2_kindIn 1 := ⟨tb_in (i := 493) (by decide +kernel), tb_in (i := 4) (by decide +kernel), by decide +kernel, by decide +kernel, by decide +kernel⟩
theorem vX2_kindIn : nw_iv mX2_kindIn := ⟨tb_in (i := 491) (by decide +kernel), tb_in (i := 492) (by decide +kernel)⟩
def mX2_swellOf : nw_Mt := (yX2_swellOf, cX2_swellOf, 2, (some .int))
theorem kX2_swellOf : nw_ok mX2_swellOf 1 := ⟨tb_in (i := 497) (by decide +kernel), tb_in (i := 4) (by decide +kernel), by decide +kernel, by decide +kernel, by decide +kernel⟩
theorem vX2_swellOf : nw_iv mX2_swellOf := ⟨tb_in (i := 495) (by decide +kernel), tb_in (i := 496) (by decide +kernel)⟩
def mX2_waterIn : nw_Mt := (yX2_waterIn, cX2_waterIn, 2, (some .int))
theorem kX2_waterIn : nw_ok mX2_waterIn 1 := ⟨tb_in (i := 501) (by decide +kernel), tb_in (i := 4) (by decide +kernel), by decide +kernel, by decide +kernel, by decide +kernel⟩
theorem vX2_waterIn : nw_iv mX2_waterIn := ⟨tb_in (i := 499) (by decide +kernel), tb_in (i := 500) (by decide +kernel)⟩
def mX2_depthIn : nw_Mt := (yX2_depthIn, cX2_depthIn, 2, (some .int))
theorem kX2_depthIn : nw_ok mX2_depthIn 1 := ⟨tb_in (i := 505) (by decide +kernel), tb_in (i := 4) (by decide +kernel), by decide +kernel, by decide +kernel, by decide +kernel⟩
theorem vX2_depthIn : nw_iv mX2_depthIn := ⟨tb_in (i := 503) (by decide +kernel), tb_in (i := 504) (by decide +kernel)⟩
def mX2_liftOfSwell : nw_Mt := (yX2_liftOfSwell, cX2_liftOfSwell, 2, (some .int))
theorem kX2_liftOfSwell : nw_ok mX2_liftOfSwell 1 := ⟨tb_in (i := 512) (by decide +kernel), tb_in (i := 4) (by decide +kernel), by decide +kernel, by decide +kernel, by decide +kernel⟩
theorem vX2_liftOfSwell : nw_iv mX2_liftOfSwell := ⟨tb_in (i := 510) (by decide +kernel), tb_in (i := 511) (by decide +kernel)⟩
def mX2_liftOf : nw_Mt := (yX2_liftOf, cX2_liftOf, 2, (some .int))
theorem kX2_liftOf : nw_ok mX2_liftOf 2 := ⟨tb_in (i := 515) (by decide +kernel), tb_in (i := 4) (by decide +kernel), by decide +kernel, by decide +kernel, by decide +kernel⟩
theorem sX2_liftOf : nw_ss mX2_liftOf := tb_in (i := 514) (by decide +kernel)
def mX8_comeIn : nw_Mt := (yX8_comeIn, cX8_comeIn, 7, (some .int))
theorem kX8_comeIn : nw_ok mX8_comeIn 3 := ⟨tb_in (i := 519) (by decide +kernel), tb_in (i := 5) (by decide +kernel), by decide +kernel, by decide +kernel, by decide +kernel⟩
theorem vX8_comeIn : nw_iv mX8_comeIn := ⟨tb_in (i := 517) (by decide +kernel), tb_in (i := 518) (by decide +kernel)⟩
def mX2_stepOf : nw_Mt := (yX2_stepOf, cX2_stepOf, 3, (some .int))
theorem kX2_stepOf : nw_ok mX2_stepOf 2 := ⟨tb_in (i := 523) (by decide +kernel), tb_in (i := 4) (by decide +kernel), by decide +kernel, by decide +kernel, by decide +kernel⟩
theorem vX2_stepOf : nw_iv mX2_stepOf := ⟨tb_in (i := 521) (by decide +kernel), tb_in (i := 522) (by decide +kernel)⟩
def mX4_stepOf : nw_Mt := (yX4_stepOf, cX4_stepOf, 2, (some .int))
theorem kX4_stepOf : nw_ok mX4_stepOf 2 := ⟨tb_in (i := 526) (by decide +kernel), tb_in (i := 12) (by decide +kernel), by decide +kernel, by decide +kernel, by decide +kernel⟩
theorem sX4_stepOf : nw_ss mX4_stepOf := tb_in (i := 525) (by decide +kernel)
def mX9_calls : nw_Mt := (yX9_calls, cX9_calls, 3, (some .boolean))
theorem kX9_calls : nw_ok mX9_calls 3 := ⟨tb_in (i := 529) (by decide +kernel), tb_in (i := 1) (by decide +kernel), by decide +kernel, by decide +kernel, by decide +kernel⟩
theorem sX9_calls : nw_ss mX9_calls := tb_in (i := 528) (by decide +kernel)
def mX8_cross : nw_Mt := (yX8_cross, cX8_cross, 6, none)
theorem kX8_cross : nw_ok mX8_cross 3 := ⟨tb_in (i := 533) (by decide +kernel), tb_in (i := 5) (by decide +kernel), by decide +kernel, by decide +kernel, by decide +kernel⟩
theorem vX8_cross : nw_iv mX8_cross := ⟨tb_in (i := 532) (by decide +kernel), tp_in (i := 13) (by decide +kernel)⟩
def mX9_slip : nw_Mt := (yX9_slip, cX9_slip, 3, (some .int))
theorem kX9_slip : nw_ok mX9_slip 2 := ⟨tb_in (i := 537) (by decide +kernel), tb_in (i := 1) (by decide +kernel), by decide +kernel, by decide +kernel, by decide +kernel⟩
theorem vX9_slip : nw_iv mX9_slip := ⟨tb_in (i := 535) (by decide +kernel), tb_in (i := 536) (by decide +kernel)⟩
def mX9_isTower : nw_Mt := (yX9_isTower, cX9_isTower, 2, (some .boolean))
theorem kX9_isTower : nw_ok mX9_isTower 1 := ⟨tb_in (i := 541) (by decide +kernel), tb_in (i := 1) (by decide +kernel), by decide +kernel, by decide +kernel, by decide +kernel⟩
theorem vX9_isTower : nw_iv mX9_isTower := ⟨tb_in (i := 540) (by decide +kernel), tp_in (i := 14) (by decide +kernel)⟩
def mX8_slipBy : nw_Mt := (yX8_slipBy, cX8_slipBy, 3, (some .int))
theorem kX8_slipBy : nw_ok mX8_slipBy 2 := ⟨tb_in (i := 545) (by decide +kernel), tb_in (i := 5) (by decide +kernel), by decide +kernel, by decide +kernel, by decide +kernel⟩
theorem vX8_slipBy : nw_iv mX8_slipBy := ⟨tb_in (i := 543) (by decide +kernel), tb_in (i := 544) (by decide +kernel)⟩
def mX9_law : nw_Mt := (yX9_law, cX9_law, 3, (some .int))
theorem kX9_law : nw_ok mX9_law 1 := ⟨tb_in (i := 550) (by decide +kernel), tb_in (i := 1) (by decide +kernel), by decide +kernel, by decide +kernel, by decide +kernel⟩
theorem vX9_law : nw_iv mX9_law := ⟨tb_in (i := 548) (by decide +kernel), tb_in (i := 549) (by decide +kernel)⟩
def mX9_change : nw_Mt := (yX9_change, cX9_change, 5, (some .int))
theorem kX9_change : nw_ok mX9_change 2 := ⟨tb_in (i := 554) (by decide +kernel), tb_in (i := 1) (by decide +kernel), by decide +kernel, by decide +kernel, by decide +kernel⟩
theorem vX9_change : nw_iv mX9_change := ⟨tb_in (i := 552) (by decide +kernel), tb_in (i := 553) (by decide +kernel)⟩
def mX9_isShip : nw_Mt := (yX9_isShip, cX9_isShip, 2, (some .boolean))
theorem kX9_isShip : nw_ok mX9_isShip 1 := ⟨tb_in (i := 558) (by decide +kernel), tb_in (i := 1) (by decide +kernel), by decide +kernel, by decide +kernel, by decide +kernel⟩
theorem vX9_isShip : nw_iv mX9_isShip := ⟨tb_in (i := 557) (by decide +kernel), tp_in (i := 15) (by decide +kernel)⟩
def mX8_placeOf : nw_Mt := (yX8_placeOf, cX8_placeOf, 3, (some .int))
theorem kX8_placeOf : nw_ok mX8_placeOf 1 := ⟨tb_in (i := 562) (by decide +kernel), tb_in (i := 5) (by decide +kernel), by decide +kernel, by decide +kernel, by decide +kernel⟩
theorem vX8_placeOf : nw_iv mX8_placeOf := ⟨tb_in (i := 560) (by decide +kernel), tb_in (i := 561) (by decide +kernel)⟩
def mX9_heeds : nw_Mt := (yX9_heeds, cX9_heeds, 4, (some .int))
theorem kX9_heeds : nw_ok mX9_heeds 2 := ⟨tb_in (i := 566) (by decide +kernel), tb_in (i := 1) (by decide +kernel), by decide +kernel, by decide +kernel, by decide +kernel⟩
theorem vX9_heeds : nw_iv mX9_heeds := ⟨tb_in (i := 564) (by decide +kernel), tb_in (i := 565) (by decide +kernel)⟩
def mX8_waits : nw_Mt := (yX8_waits, cX8_waits, 2, (some .boolean))
theorem kX8_waits : nw_ok mX8_waits 1 := ⟨tb_in (i := 570) (by decide +kernel), tb_in (i := 5) (by decide +kernel), by decide +kernel, by decide +kernel, by decide +kernel⟩
theorem vX8_waits : nw_iv mX8_waits := ⟨tb_in (i := 568) (by decide +kernel), tb_in (i := 569) (by decide +kernel)⟩
def mX9_undo : nw_Mt := (yX9_undo, cX9_undo, 1, (some .int))
theorem kX9_undo : nw_ok mX9_undo 0 := ⟨tb_in (i := 574) (by decide +kernel), tb_in (i := 1) (by decide +kernel), by decide +kernel, by decide +kernel, by decide +kernel⟩
theorem vX9_undo : nw_iv mX9_undo := ⟨tb_in (i := 572) (by decide +kernel), tb_in (i := 573) (by decide +kernel)⟩
def mX0_takeBack : nw_Mt := (yX0_takeBack, cX0_takeBack, 2, none)
theorem kX0_takeBack : nw_ok mX0_takeBack 1 := ⟨tb_in (i := 578) (by decide +kernel), tb_in (i := 6) (by decide +kernel), by decide +kernel, by decide +kernel, by decide +kernel⟩
theorem vX0_takeBack : nw_iv mX0_takeBack := ⟨tb_in (i := 576) (by decide +kernel), tb_in (i := 577) (by decide +kernel)⟩
def mX9_ship : nw_Mt := (yX9_ship, cX9_ship, 3, (some .int))
theorem kX9_ship : nw_ok mX9_ship 2 := ⟨tb_in (i := 582) (by decide +kernel), tb_in (i := 1) (by decide +kernel), by decide +kernel, by decide +kernel, by decide +kernel⟩
theorem vX9_ship : nw_iv mX9_ship := ⟨tb_in (i := 580) (by decide +kernel), tb_in (i := 581) (by decide +kernel)⟩
def mX9_tower : nw_Mt := (yX9_tower, cX9_tower, 3, (some .int))
theorem kX9_tower : nw_ok mX9_tower 2 := ⟨tb_in (i := 586) (by decide +kernel), tb_in (i := 1) (by decide +kernel), by decide +kernel, by decide +kernel, by decide +kernel⟩
theorem vX9_tower : nw_iv mX9_tower := ⟨tb_in (i := 584) (by decide +kernel), tb_in (i := 585) (by decide +kernel)⟩
def mX8_howManyWaitFor : nw_Mt := (yX8_howManyWaitFor, cX8_howManyWaitFor, 5, (some .int))
theorem kX8_howManyWaitFor : nw_ok mX8_howManyWaitFor 2 := ⟨tb_in (i := 590) (by decide +kernel), tb_in (i := 5) (by decide +kernel), by decide +kernel, by decide +kernel, by decide +kernel⟩
theorem vX8_howManyWaitFor : nw_iv mX8_howManyWaitFor := ⟨tb_in (i := 588) (by decide +kernel), tb_in (i := 589) (by decide +kernel)⟩
def mX9_wave : nw_Mt := (yX9_wave, cX9_wave, 4, (some .int))
theorem kX9_wave : nw_ok mX9_wave 2 := ⟨tb_in (i := 594) (by decide +kernel), tb_in (i := 1) (by decide +kernel), by decide +kernel, by decide +kernel, by decide +kernel⟩
theorem vX9_wave : nw_iv mX9_wave := ⟨tb_in (i := 592) (by decide +kernel), tb_in (i := 593) (by decide +kernel)⟩
def mX9_ahead : nw_Mt := (yX9_ahead, cX9_ahead, 3, (some .int))
theorem kX9_ahead : nw_ok mX9_ahead 2 := ⟨tb_in (i := 601) (by decide +kernel), tb_in (i := 1) (by decide +kernel), by decide +kernel, by decide +kernel, by decide +kernel⟩
theorem vX9_ahead : nw_iv mX9_ahead := ⟨tb_in (i := 599) (by decide +kernel), tb_in (i := 600) (by decide +kernel)⟩
def mX9_foretell : nw_Mt := (yX9_foretell, cX9_foretell, 2, none)
theorem kX9_foretell : nw_ok mX9_foretell 1 := ⟨tb_in (i := 605) (by decide +kernel), tb_in (i := 1) (by decide +kernel), by decide +kernel, by decide +kernel, by decide +kernel⟩
theorem vX9_foretell : nw_iv mX9_foretell := ⟨tb_in (i := 604) (by decide +kernel), tp_in (i := 16) (by decide +kernel)⟩
def mX8_pass : nw_Mt := (yX8_pass, cX8_pass, 4, none)
theorem kX8_pass : nw_ok mX8_pass 2 := ⟨tb_in (i := 609) (by decide +kernel), tb_in (i := 5) (by decide +kernel), by decide +kernel, by decide +kernel, by decide +kernel⟩
theorem vX8_pass : nw_iv mX8_pass := ⟨tb_in (i := 607) (by decide +kernel), tb_in (i := 608) (by decide +kernel)⟩
def mX8_howMany : nw_Mt := (yX8_howMany, cX8_howMany, 5, (some .int))
theorem kX8_howMany : nw_ok mX8_howMany 2 := ⟨tb_in (i := 614) (by decide +kernel), tb_in (i := 5) (by decide +kernel), by decide +kernel, by decide +kernel, by decide +kernel⟩
theorem vX8_howMany : nw_iv mX8_howMany := ⟨tb_in (i := 612) (by decide +kernel), tb_in (i := 613) (by decide +kernel)⟩
def mX9_shipAhead : nw_Mt := (yX9_shipAhead, cX9_shipAhead, 4, (some .int))
theorem kX9_shipAhead : nw_ok mX9_shipAhead 3 := ⟨tb_in (i := 618) (by decide +kernel), tb_in (i := 1) (by decide +kernel), by decide +kernel, by decide +kernel, by decide +kernel⟩
theorem vX9_shipAhead : nw_iv mX9_shipAhead := ⟨tb_in (i := 616) (by decide +kernel), tb_in (i := 617) (by decide +kernel)⟩
def mX9_towerAhead : nw_Mt := (yX9_towerAhead, cX9_towerAhead, 3, (some .int))
theorem kX9_towerAhead : nw_ok mX9_towerAhead 2 := ⟨tb_in (i := 622) (by decide +kernel), tb_in (i := 1) (by decide +kernel), by decide +kernel, by decide +kernel, by decide +kernel⟩
theorem vX9_towerAhead : nw_iv mX9_towerAhead := ⟨tb_in (i := 620) (by decide +kernel), tb_in (i := 621) (by decide +kernel)⟩
def mX9_called : nw_Mt := (yX9_called, cX9_called, 7, (some .int))
theorem kX9_called : nw_ok mX9_called 2 := ⟨tb_in (i := 626) (by decide +kernel), tb_in (i := 1) (by decide +kernel), by decide +kernel, by decide +kernel, by decide +kernel⟩
theorem vX9_called : nw_iv mX9_called := ⟨tb_in (i := 624) (by decide +kernel), tb_in (i := 625) (by decide +kernel)⟩
def mX9_fit : nw_Mt := (yX9_fit, cX9_fit, 5, (some .int))
theorem kX9_fit : nw_ok mX9_fit 2 := ⟨tb_in (i := 634) (by decide +kernel), tb_in (i := 1) (by decide +kernel), by decide +kernel, by decide +kernel, by decide +kernel⟩
theorem vX9_fit : nw_iv mX9_fit := ⟨tb_in (i := 632) (by decide +kernel), tb_in (i := 633) (by decide +kernel)⟩
def mX9_highest : nw_Mt := (yX9_highest, cX9_highest, 7, (some .int))
theorem kX9_highest : nw_ok mX9_highest 2 := ⟨tb_in (i := 638) (by decide +kernel), tb_in (i := 1) (by decide +kernel), by decide +kernel, by decide +kernel, by decide +kernel⟩
theorem vX9_highest : nw_iv mX9_highest := ⟨tb_in (i := 636) (by decide +kernel), tb_in (i := 637) (by decide +kernel)⟩
def mX9_order : nw_Mt := (yX9_order, cX9_order, 3, (some .int))
theorem kX9_order : nw_ok mX9_order 2 := ⟨tb_in (i := 642) (by decide +kernel), tb_in (i := 1) (by decide +kernel), by decide +kernel, by decide +kernel, by decide +kernel⟩
theorem vX9_order : nw_iv mX9_order := ⟨tb_in (i := 640) (by decide +kernel), tb_in (i := 641) (by decide +kernel)⟩
def mX5_listen : nw_Mt := (yX5_listen, cX5_listen, 8, none)
theorem kX5_listen : nw_ok mX5_listen 3 := ⟨tb_in (i := 646) (by decide +kernel), tb_in (i := 7) (by decide +kernel), by decide +kernel, by decide +kernel, by decide +kernel⟩
theorem vX5_listen : nw_iv mX5_listen := ⟨tb_in (i := 644) (by decide +kernel), tb_in (i := 645) (by decide +kernel)⟩
def mX5_search : nw_Mt := (yX5_search, cX5_search, 6, none)
theorem kX5_search : nw_ok mX5_search 2 := ⟨tb_in (i := 654) (by decide +kernel), tb_in (i := 7) (by decide +kernel), by decide +kernel, by decide +kernel, by decide +kernel⟩
theorem vX5_search : nw_iv mX5_search := ⟨tb_in (i := 652) (by decide +kernel), tb_in (i := 653) (by decide +kernel)⟩
def mX5_howManyCross : nw_Mt := (yX5_howManyCross, cX5_howManyCross, 7, (some .int))
theorem kX5_howManyCross : nw_ok mX5_howManyCross 2 := ⟨tb_in (i := 658) (by decide +kernel), tb_in (i := 7) (by decide +kernel), by decide +kernel, by decide +kernel, by decide +kernel⟩
theorem vX5_howManyCross : nw_iv mX5_howManyCross := ⟨tb_in (i := 657) (by decide +kernel), tp_in (i := 17) (by decide +kernel)⟩
def mX5_goOn : nw_Mt := (yX5_goOn, cX5_goOn, 6, (some .boolean))
theorem kX5_goOn : nw_ok mX5_goOn 1 := ⟨tb_in (i := 664) (by decide +kernel), tb_in (i := 7) (by decide +kernel), by decide +kernel, by decide +kernel, by decide +kernel⟩
theorem vX5_goOn : nw_iv mX5_goOn := ⟨tb_in (i := 663) (by decide +kernel), tp_in (i := 18) (by decide +kernel)⟩
def mX5_swap : nw_Mt := (yX5_swap, cX5_swap, 4, none)
theorem kX5_swap : nw_ok mX5_swap 2 := ⟨tb_in (i := 668) (by decide +kernel), tb_in (i := 7) (by decide +kernel), by decide +kernel, by decide +kernel, by decide +kernel⟩
theorem vX5_swap : nw_iv mX5_swap := ⟨tb_in (i := 667) (by decide +kernel), tp_in (i := 19) (by decide +kernel)⟩
def mX9_laws : nw_Mt := (yX9_laws, cX9_laws, 7, (some .int))
theorem kX9_laws : nw_ok mX9_laws 2 := ⟨tb_in (i := 672) (by decide +kernel), tb_in (i := 1) (by decide +kernel), by decide +kernel, by decide +kernel, by decide +kernel⟩
theorem vX9_laws : nw_iv mX9_laws := ⟨tb_in (i := 670) (by decide +kernel), tb_in (i := 671) (by decide +kernel)⟩
def mX9_bribe : nw_Mt := (yX9_bribe, cX9_bribe, 7, (some .int))
theorem kX9_bribe : nw_ok mX9_bribe 2 := ⟨tb_in (i := 676) (by decide +kernel), tb_in (i := 1) (by decide +kernel), by decide +kernel, by decide +kernel, by decide +kernel⟩
theorem vX9_bribe : nw_iv mX9_bribe := ⟨tb_in (i := 674) (by decide +kernel), tb_in (i := 675) (by decide +kernel)⟩
def mX8_isOverAheadOf : nw_Mt := (yX8_isOverAheadOf, cX8_isOverAheadOf, 3, (some .boolean))
theorem kX8_isOverAheadOf : nw_ok mX8_isOverAheadOf 2 := ⟨tb_in (i := 680) (by decide +kernel), tb_in (i := 5) (by decide +kernel), by decide +kernel, by decide +kernel, by decide +kernel⟩
theorem vX8_isOverAheadOf : nw_iv mX8_isOverAheadOf := ⟨tb_in (i := 678) (by decide +kernel), tb_in (i := 679) (by decide +kernel)⟩
def mX9_heed : nw_Mt := (yX9_heed, cX9_heed, 5, (some .int))
theorem kX9_heed : nw_ok mX9_heed 1 := ⟨tb_in (i := 684) (by decide +kernel), tb_in (i := 1) (by decide +kernel), by decide +kernel, by decide +kernel, by decide +kernel⟩
theorem vX9_heed : nw_iv mX9_heed := ⟨tb_in (i := 682) (by decide +kernel), tb_in (i := 683) (by decide +kernel)⟩
def mX9_agreed : nw_Mt := (yX9_agreed, cX9_agreed, 6, (some .int))
theorem kX9_agreed : nw_ok mX9_agreed 2 := ⟨tb_in (i := 688) (by decide +kernel), tb_in (i := 1) (by decide +kernel), by decide +kernel, by decide +kernel, by decide +kernel⟩
theorem vX9_agreed : nw_iv mX9_agreed := ⟨tb_in (i := 686) (by decide +kernel), tb_in (i := 687) (by decide +kernel)⟩
def mX9_log : nw_Mt := (yX9_log, cX9_log, 8, (some .int))
theorem kX9_log : nw_ok mX9_log 4 := ⟨tb_in (i := 692) (by decide +kernel), tb_in (i := 1) (by decide +kernel), by decide +kernel, by decide +kernel, by decide +kernel⟩
theorem vX9_log : nw_iv mX9_log := ⟨tb_in (i := 690) (by decide +kernel), tb_in (i := 691) (by decide +kernel)⟩
def mX7_rises : nw_Mt := (yX7_rises, cX7_rises, 8, (some .boolean))
theorem kX7_rises : nw_ok mX7_rises 4 := ⟨tb_in (i := 696) (by decide +kernel), tb_in (i := 2) (by decide +kernel), by decide +kernel, by decide +kernel, by decide +kernel⟩
theorem vX7_rises : nw_iv mX7_rises := ⟨tb_in (i := 694) (by decide +kernel), tb_in (i := 695) (by decide +kernel)⟩
def mX9_fitsLog : nw_Mt := (yX9_fitsLog, cX9_fitsLog, 12, (some .boolean))
theorem kX9_fitsLog : nw_ok mX9_fitsLog 4 := ⟨tb_in (i := 700) (by decide +kernel), tb_in (i := 1) (by decide +kernel), by decide +kernel, by decide +kernel, by decide +kernel⟩
theorem vX9_fitsLog : nw_iv mX9_fitsLog := ⟨tb_in (i := 699) (by decide +kernel), tp_in (i := 20) (by decide +kernel)⟩
def mX7_item : nw_Mt := (yX7_item, cX7_item, 3, (some .int))
theorem kX7_item : nw_ok mX7_item 2 := ⟨tb_in (i := 704) (by decide +kernel), tb_in (i := 2) (by decide +kernel), by decide +kernel, by decide +kernel, by decide +kernel⟩
theorem vX7_item : nw_iv mX7_item := ⟨tb_in (i := 702) (by decide +kernel), tb_in (i := 703) (by decide +kernel)⟩
def mX9_wreck : nw_Mt := (yX9_wreck, cX9_wreck, 8, (some .int))
theorem kX9_wreck : nw_ok mX9_wreck 4 := ⟨tb_in (i := 711) (by decide +kernel), tb_in (i := 1) (by decide +kernel), by decide +kernel, by decide +kernel, by decide +kernel⟩
theorem vX9_wreck : nw_iv mX9_wreck := ⟨tb_in (i := 709) (by decide +kernel), tb_in (i := 710) (by decide +kernel)⟩
def mX9_season : nw_Mt := (yX9_season, cX9_season, 9, (some .int))
theorem kX9_season : nw_ok mX9_season 3 := ⟨tb_in (i := 715) (by decide +kernel), tb_in (i := 1) (by decide +kernel), by decide +kernel, by decide +kernel, by decide +kernel⟩
theorem vX9_season : nw_iv mX9_season := ⟨tb_in (i := 713) (by decide +kernel), tb_in (i := 714) (by decide +kernel)⟩
def mX9_image : nw_Mt := (yX9_image, cX9_image, 2, (some .int))
theorem kX9_image : nw_ok mX9_image 1 := ⟨tb_in (i := 727) (by decide +kernel), tb_in (i := 1) (by decide +kernel), by decide +kernel, by decide +kernel, by decide +kernel⟩
theorem vX9_image : nw_iv mX9_image := ⟨tb_in (i := 725) (by decide +kernel), tb_in (i := 726) (by decide +kernel)⟩
def mX3_keep : nw_Mt := (yX3_keep, cX3_keep, 3, none)
theorem kX3_keep : nw_ok mX3_keep 2 := ⟨tb_in (i := 731) (by decide +kernel), tb_in (i := 9) (by decide +kernel), by decide +kernel, by decide +kernel, by decide +kernel⟩
theorem vX3_keep : nw_iv mX3_keep := ⟨tb_in (i := 729) (by decide +kernel), tb_in (i := 730) (by decide +kernel)⟩
def mX9_restore : nw_Mt := (yX9_restore, cX9_restore, 2, (some .int))
theorem kX9_restore : nw_ok mX9_restore 1 := ⟨tb_in (i := 737) (by decide +kernel), tb_in (i := 1) (by decide +kernel), by decide +kernel, by decide +kernel, by decide +kernel⟩
theorem vX9_restore : nw_iv mX9_restore := ⟨tb_in (i := 735) (by decide +kernel), tb_in (i := 736) (by decide +kernel)⟩
def mX9_kind : nw_Mt := (yX9_kind, cX9_kind, 2, (some .int))
theorem kX9_kind : nw_ok mX9_kind 1 := ⟨tb_in (i := 741) (by decide +kernel), tb_in (i := 1) (by decide +kernel), by decide +kernel, by decide +kernel, by decide +kernel⟩
theorem vX9_kind : nw_iv mX9_kind := ⟨tb_in (i := 739) (by decide +kernel), tb_in (i := 740) (by decide +kernel)⟩
def mX9_isSwell : nw_Mt := (yX9_isSwell, cX9_isSwell, 2, (some .boolean))
theorem kX9_isSwell : nw_ok mX9_isSwell 1 := ⟨tb_in (i := 745) (by decide +kernel), tb_in (i := 1) (by decide +kernel), by decide +kernel, by decide +kernel, by decide +kernel⟩
theorem vX9_isSwell : nw_iv mX9_isSwell := ⟨tb_in (i := 744) (by decide +kernel), tp_in (i := 21) (by decide +kernel)⟩
def mX9_as : nw_Mt := (yX9_as, cX9_as, 3, (some .int))
theorem kX9_as : nw_ok mX9_as 2 := ⟨tb_in (i := 749) (by decide +kernel), tb_in (i := 1) (by decide +kernel), by decide +kernel, by decide +kernel, by decide +kernel⟩
theorem vX9_as : nw_iv mX9_as := ⟨tb_in (i := 747) (by decide +kernel), tb_in (i := 748) (by decide +kernel)⟩
def mX4_isA : nw_Mt := (yX4_isA, cX4_isA, 4, (some .boolean))
theorem kX4_isA : nw_ok mX4_isA 2 := ⟨tb_in (i := 752) (by decide +kernel), tb_in (i := 12) (by decide +kernel), by decide +kernel, by decide +kernel, by decide +kernel⟩
theorem sX4_isA : nw_ss mX4_isA := tb_in (i := 751) (by decide +kernel)
def mX4_next : nw_Mt := (yX4_next, cX4_next, 1, (some .int))
theorem kX4_next : nw_ok mX4_next 1 := ⟨tb_in (i := 757) (by decide +kernel), tb_in (i := 12) (by decide +kernel), by decide +kernel, by decide +kernel, by decide +kernel⟩
theorem sX4_next : nw_ss mX4_next := tb_in (i := 756) (by decide +kernel)
def mX9_ask : nw_Mt := (yX9_ask, cX9_ask, 3, (some .int))
theorem kX9_ask : nw_ok mX9_ask 2 := ⟨tb_in (i := 761) (by decide +kernel), tb_in (i := 1) (by decide +kernel), by decide +kernel, by decide +kernel, by decide +kernel⟩
theorem vX9_ask : nw_iv mX9_ask := ⟨tb_in (i := 759) (by decide +kernel), tb_in (i := 760) (by decide +kernel)⟩
def mX1_answer : nw_Mt := (yX1_answer, cX1_answer, 4, (some .int))
theorem kX1_answer : nw_ok mX1_answer 3 := ⟨tb_in (i := 765) (by decide +kernel), tb_in (i := 8) (by decide +kernel), by decide +kernel, by decide +kernel, by decide +kernel⟩
theorem vX1_answer : nw_iv mX1_answer := ⟨tb_in (i := 763) (by decide +kernel), tb_in (i := 764) (by decide +kernel)⟩
def mX1_asked : nw_Mt := (yX1_asked, cX1_asked, 6, (some .int))
theorem kX1_asked : nw_ok mX1_asked 2 := ⟨tb_in (i := 770) (by decide +kernel), tb_in (i := 8) (by decide +kernel), by decide +kernel, by decide +kernel, by decide +kernel⟩
theorem vX1_asked : nw_iv mX1_asked := ⟨tb_in (i := 769) (by decide +kernel), tp_in (i := 22) (by decide +kernel)⟩
def mX1_given : nw_Mt := (yX1_given, cX1_given, 4, (some .int))
theorem kX1_given : nw_ok mX1_given 2 := ⟨tb_in (i := 776) (by decide +kernel), tb_in (i := 8) (by decide +kernel), by decide +kernel, by decide +kernel, by decide +kernel⟩
theorem vX1_given : nw_iv mX1_given := ⟨tb_in (i := 775) (by decide +kernel), tp_in (i := 23) (by decide +kernel)⟩
def mX1_leave : nw_Mt := (yX1_leave, cX1_leave, 2, none)
theorem kX1_leave : nw_ok mX1_leave 1 := ⟨tb_in (i := 780) (by decide +kernel), tb_in (i := 8) (by decide +kernel), by decide +kernel, by decide +kernel, by decide +kernel⟩
theorem vX1_leave : nw_iv mX1_leave := ⟨tb_in (i := 779) (by decide +kernel), tp_in (i := 24) (by decide +kernel)⟩
def mX9_trace : nw_Mt := (yX9_trace, cX9_trace, 2, (some .int))
theorem kX9_trace : nw_ok mX9_trace 1 := ⟨tb_in (i := 785) (by decide +kernel), tb_in (i := 1) (by decide +kernel), by decide +kernel, by decide +kernel, by decide +kernel⟩
theorem vX9_trace : nw_iv mX9_trace := ⟨tb_in (i := 783) (by decide +kernel), tb_in (i := 784) (by decide +kernel)⟩
def mX9_count : nw_Mt := (yX9_count, cX9_count, 2, (some .int))
theorem kX9_count : nw_ok mX9_count 1 := ⟨tb_in (i := 789) (by decide +kernel), tb_in (i := 1) (by decide +kernel), by decide +kernel, by decide +kernel, by decide +kernel⟩
theorem vX9_count : nw_iv mX9_count := ⟨tb_in (i := 787) (by decide +kernel), tb_in (i := 788) (by decide +kernel)⟩
def mX7_howManyThere : nw_Mt := (yX7_howManyThere, cX7_howManyThere, 3, (some .int))
theorem kX7_howManyThere : nw_ok mX7_howManyThere 0 := ⟨tb_in (i := 793) (by decide +kernel), tb_in (i := 2) (by decide +kernel), by decide +kernel, by decide +kernel, by decide +kernel⟩
theorem vX7_howManyThere : nw_iv mX7_howManyThere := ⟨tb_in (i := 791) (by decide +kernel), tb_in (i := 792) (by decide +kernel)⟩
def mX9_status : nw_Mt := (yX9_status, cX9_status, 1, (some .int))
theorem kX9_status : nw_ok mX9_status 0 := ⟨tb_in (i := 798) (by decide +kernel), tb_in (i := 1) (by decide +kernel), by decide +kernel, by decide +kernel, by decide +kernel⟩
theorem vX9_status : nw_iv mX9_status := ⟨tb_in (i := 796) (by decide +kernel), tb_in (i := 797) (by decide +kernel)⟩
def mX10_init : nw_Mt := (yX10_init, cX10_init, 2, none)
theorem kX10_init : nw_ok mX10_init 0 := ⟨tb_in (i := 803) (by decide +kernel), tb_in (i := 10) (by decide +kernel), by decide +kernel, by decide +kernel, by decide +kernel⟩
theorem iX10_init : nw_ii mX10_init := ⟨tb_in (i := 802) (by decide +kernel), rfl⟩
def mX10_row : nw_Mt := (yX10_row, cX10_row, 5, (some .int))
theorem kX10_row : nw_ok mX10_row 3 := ⟨tb_in (i := 897) (by decide +kernel), tb_in (i := 10) (by decide +kernel), by decide +kernel, by decide +kernel, by decide +kernel⟩
theorem vX10_row : nw_iv mX10_row := ⟨tb_in (i := 895) (by decide +kernel), tb_in (i := 896) (by decide +kernel)⟩
def mX10_isRow : nw_Mt := (yX10_isRow, cX10_isRow, 1, (some .boolean))
theorem kX10_isRow : nw_ok mX10_isRow 1 := ⟨tb_in (i := 900) (by decide +kernel), tb_in (i := 10) (by decide +kernel), by decide +kernel, by decide +kernel, by decide +kernel⟩
theorem sX10_isRow : nw_ss mX10_isRow := tb_in (i := 899) (by decide +kernel)
def mX10_in : nw_Mt := (yX10_in, cX10_in, 6, (some .boolean))
theorem kX10_in : nw_ok mX10_in 3 := ⟨tb_in (i := 904) (by decide +kernel), tb_in (i := 10) (by decide +kernel), by decide +kernel, by decide +kernel, by decide +kernel⟩
theorem sX10_in : nw_ss mX10_in := tb_in (i := 903) (by decide +kernel)
def mX10_finds : nw_Mt := (yX10_finds, cX10_finds, 2, (some .int))
theorem kX10_finds : nw_ok mX10_finds 1 := ⟨tb_in (i := 910) (by decide +kernel), tb_in (i := 10) (by decide +kernel), by decide +kernel, by decide +kernel, by decide +kernel⟩
theorem vX10_finds : nw_iv mX10_finds := ⟨tb_in (i := 909) (by decide +kernel), tp_in (i := 25) (by decide +kernel)⟩
def mX10_well : nw_Mt := (yX10_well, cX10_well, 2, (some .int))
theorem kX10_well : nw_ok mX10_well 1 := ⟨tb_in (i := 915) (by decide +kernel), tb_in (i := 10) (by decide +kernel), by decide +kernel, by decide +kernel, by decide +kernel⟩
theorem vX10_well : nw_iv mX10_well := ⟨tb_in (i := 914) (by decide +kernel), tp_in (i := 26) (by decide +kernel)⟩
def mX10_set : nw_Mt := (yX10_set, cX10_set, 5, (some .int))
theorem kX10_set : nw_ok mX10_set 3 := ⟨tb_in (i := 919) (by decide +kernel), tb_in (i := 10) (by decide +kernel), by decide +kernel, by decide +kernel, by decide +kernel⟩
theorem vX10_set : nw_iv mX10_set := ⟨tb_in (i := 917) (by decide +kernel), tb_in (i := 918) (by decide +kernel)⟩
def mX10_copy : nw_Mt := (yX10_copy, cX10_copy, 7, (some .int))
theorem kX10_copy : nw_ok mX10_copy 5 := ⟨tb_in (i := 923) (by decide +kernel), tb_in (i := 10) (by decide +kernel), by decide +kernel, by decide +kernel, by decide +kernel⟩
theorem vX10_copy : nw_iv mX10_copy := ⟨tb_in (i := 921) (by decide +kernel), tb_in (i := 922) (by decide +kernel)⟩
def mX10_drop : nw_Mt := (yX10_drop, cX10_drop, 2, (some .int))
theorem kX10_drop : nw_ok mX10_drop 1 := ⟨tb_in (i := 927) (by decide +kernel), tb_in (i := 10) (by decide +kernel), by decide +kernel, by decide +kernel, by decide +kernel⟩
theorem vX10_drop : nw_iv mX10_drop := ⟨tb_in (i := 925) (by decide +kernel), tb_in (i := 926) (by decide +kernel)⟩
def mX10_feed : nw_Mt := (yX10_feed, cX10_feed, 2, (some .int))
theorem kX10_feed : nw_ok mX10_feed 1 := ⟨tb_in (i := 931) (by decide +kernel), tb_in (i := 10) (by decide +kernel), by decide +kernel, by decide +kernel, by decide +kernel⟩
theorem vX10_feed : nw_iv mX10_feed := ⟨tb_in (i := 929) (by decide +kernel), tb_in (i := 930) (by decide +kernel)⟩
def mX10_sea : nw_Mt := (yX10_sea, cX10_sea, 3, (some .int))
theorem kX10_sea : nw_ok mX10_sea 0 := ⟨tb_in (i := 937) (by decide +kernel), tb_in (i := 10) (by decide +kernel), by decide +kernel, by decide +kernel, by decide +kernel⟩
theorem vX10_sea : nw_iv mX10_sea := ⟨tb_in (i := 935) (by decide +kernel), tb_in (i := 936) (by decide +kernel)⟩
def mX10_reads : nw_Mt := (yX10_reads, cX10_reads, 2, (some .boolean))
theorem kX10_reads : nw_ok mX10_reads 0 := ⟨tb_in (i := 941) (by decide +kernel), tb_in (i := 10) (by decide +kernel), by decide +kernel, by decide +kernel, by decide +kernel⟩
theorem vX10_reads : nw_iv mX10_reads := ⟨tb_in (i := 940) (by decide +kernel), tp_in (i := 27) (by decide +kernel)⟩
def mX10_scans : nw_Mt := (yX10_scans, cX10_scans, 1, none)
theorem kX10_scans : nw_ok mX10_scans 0 := ⟨tb_in (i := 945) (by decide +kernel), tb_in (i := 10) (by decide +kernel), by decide +kernel, by decide +kernel, by decide +kernel⟩
theorem vX10_scans : nw_iv mX10_scans := ⟨tb_in (i := 944) (by decide +kernel), tp_in (i := 28) (by decide +kernel)⟩
def mX10_isFigure : nw_Mt := (yX10_isFigure, cX10_isFigure, 1, (some .boolean))
theorem kX10_isFigure : nw_ok mX10_isFigure 0 := ⟨tb_in (i := 949) (by decide +kernel), tb_in (i := 10) (by decide +kernel), by decide +kernel, by decide +kernel, by decide +kernel⟩
theorem vX10_isFigure : nw_iv mX10_isFigure := ⟨tb_in (i := 948) (by decide +kernel), tp_in (i := 29) (by decide +kernel)⟩
def mX10_isLetter : nw_Mt := (yX10_isLetter, cX10_isLetter, 2, (some .boolean))
theorem kX10_isLetter : nw_ok mX10_isLetter 1 := ⟨tb_in (i := 957) (by decide +kernel), tb_in (i := 10) (by decide +kernel), by decide +kernel, by decide +kernel, by decide +kernel⟩
theorem vX10_isLetter : nw_iv mX10_isLetter := ⟨tb_in (i := 956) (by decide +kernel), tp_in (i := 30) (by decide +kernel)⟩
def mX10_faults : nw_Mt := (yX10_faults, cX10_faults, 2, (some .boolean))
theorem kX10_faults : nw_ok mX10_faults 1 := ⟨tb_in (i := 961) (by decide +kernel), tb_in (i := 10) (by decide +kernel), by decide +kernel, by decide +kernel, by decide +kernel⟩
theorem vX10_faults : nw_iv mX10_faults := ⟨tb_in (i := 960) (by decide +kernel), tp_in (i := 31) (by decide +kernel)⟩
def mX10_two : nw_Mt := (yX10_two, cX10_two, 4, (some .boolean))
theorem kX10_two : nw_ok mX10_two 3 := ⟨tb_in (i := 965) (by decide +kernel), tb_in (i := 10) (by decide +kernel), by decide +kernel, by decide +kernel, by decide +kernel⟩
theorem vX10_two : nw_iv mX10_two := ⟨tb_in (i := 964) (by decide +kernel), tp_in (i := 32) (by decide +kernel)⟩
def mX10_takes : nw_Mt := (yX10_takes, cX10_takes, 3, (some .boolean))
theorem kX10_takes : nw_ok mX10_takes 2 := ⟨tb_in (i := 969) (by decide +kernel), tb_in (i := 10) (by decide +kernel), by decide +kernel, by decide +kernel, by decide +kernel⟩
theorem vX10_takes : nw_iv mX10_takes := ⟨tb_in (i := 968) (by decide +kernel), tp_in (i := 33) (by decide +kernel)⟩
def mX10_signs : nw_Mt := (yX10_signs, cX10_signs, 2, (some .boolean))
theorem kX10_signs : nw_ok mX10_signs 1 := ⟨tb_in (i := 973) (by decide +kernel), tb_in (i := 10) (by decide +kernel), by decide +kernel, by decide +kernel, by decide +kernel⟩
theorem vX10_signs : nw_iv mX10_signs := ⟨tb_in (i := 972) (by decide +kernel), tp_in (i := 34) (by decide +kernel)⟩
def mX10_sortOf : nw_Mt := (yX10_sortOf, cX10_sortOf, 1, (some .int))
theorem kX10_sortOf : nw_ok mX10_sortOf 1 := ⟨tb_in (i := 976) (by decide +kernel), tb_in (i := 10) (by decide +kernel), by decide +kernel, by decide +kernel, by decide +kernel⟩
theorem sX10_sortOf : nw_ss mX10_sortOf := tb_in (i := 975) (by decide +kernel)
def mX10_swell : nw_Mt := (yX10_swell, cX10_swell, 1, (some .boolean))
theorem kX10_swell : nw_ok mX10_swell 0 := ⟨tb_in (i := 980) (by decide +kernel), tb_in (i := 10) (by decide +kernel), by decide +kernel, by decide +kernel, by decide +kernel⟩
theorem vX10_swell : nw_iv mX10_swell := ⟨tb_in (i := 979) (by decide +kernel), tp_in (i := 35) (by decide +kernel)⟩
def mX10_turret : nw_Mt := (yX10_turret, cX10_turret, 1, (some .boolean))
theorem kX10_turret : nw_ok mX10_turret 0 := ⟨tb_in (i := 984) (by decide +kernel), tb_in (i := 10) (by decide +kernel), by decide +kernel, by decide +kernel, by decide +kernel⟩
theorem vX10_turret : nw_iv mX10_turret := ⟨tb_in (i := 983) (by decide +kernel), tp_in (i := 36) (by decide +kernel)⟩
def mX10_vessel : nw_Mt := (yX10_vessel, cX10_vessel, 1, (some .boolean))
theorem kX10_vessel : nw_ok mX10_vessel 0 := ⟨tb_in (i := 988) (by decide +kernel), tb_in (i := 10) (by decide +kernel), by decide +kernel, by decide +kernel, by decide +kernel⟩
theorem vX10_vessel : nw_iv mX10_vessel := ⟨tb_in (i := 987) (by decide +kernel), tp_in (i := 37) (by decide +kernel)⟩
def mX10_fault : nw_Mt := (yX10_fault, cX10_fault, 1, (some .int))
theorem kX10_fault : nw_ok mX10_fault 0 := ⟨tb_in (i := 994) (by decide +kernel), tb_in (i := 10) (by decide +kernel), by decide +kernel, by decide +kernel, by decide +kernel⟩
theorem vX10_fault : nw_iv mX10_fault := ⟨tb_in (i := 992) (by decide +kernel), tb_in (i := 993) (by decide +kernel)⟩
def mX10_waves : nw_Mt := (yX10_waves, cX10_waves, 4, (some .int))
theorem kX10_waves : nw_ok mX10_waves 1 := ⟨tb_in (i := 998) (by decide +kernel), tb_in (i := 10) (by decide +kernel), by decide +kernel, by decide +kernel, by decide +kernel⟩
theorem vX10_waves : nw_iv mX10_waves := ⟨tb_in (i := 996) (by decide +kernel), tb_in (i := 997) (by decide +kernel)⟩
def mX10_isSea : nw_Mt := (yX10_isSea, cX10_isSea, 1, (some .boolean))
theorem kX10_isSea : nw_ok mX10_isSea 0 := ⟨tb_in (i := 1002) (by decide +kernel), tb_in (i := 10) (by decide +kernel), by decide +kernel, by decide +kernel, by decide +kernel⟩
theorem vX10_isSea : nw_iv mX10_isSea := ⟨tb_in (i := 1001) (by decide +kernel), tp_in (i := 38) (by decide +kernel)⟩
def mX10_remembers : nw_Mt := (yX10_remembers, cX10_remembers, 2, none)
theorem kX10_remembers : nw_ok mX10_remembers 0 := ⟨tb_in (i := 1008) (by decide +kernel), tb_in (i := 10) (by decide +kernel), by decide +kernel, by decide +kernel, by decide +kernel⟩
theorem vX10_remembers : nw_iv mX10_remembers := ⟨tb_in (i := 1007) (by decide +kernel), tp_in (i := 39) (by decide +kernel)⟩
def mX10_asNow : nw_Mt := (yX10_asNow, cX10_asNow, 2, none)
theorem kX10_asNow : nw_ok mX10_asNow 0 := ⟨tb_in (i := 1012) (by decide +kernel), tb_in (i := 10) (by decide +kernel), by decide +kernel, by decide +kernel, by decide +kernel⟩
theorem vX10_asNow : nw_iv mX10_asNow := ⟨tb_in (i := 1011) (by decide +kernel), tp_in (i := 40) (by decide +kernel)⟩
def mX10_waves0 : nw_Mt := (yX10_waves0, cX10_waves0, 3, none)
theorem kX10_waves0 : nw_ok mX10_waves0 1 := ⟨tb_in (i := 1016) (by decide +kernel), tb_in (i := 10) (by decide +kernel), by decide +kernel, by decide +kernel, by decide +kernel⟩
theorem vX10_waves0 : nw_iv mX10_waves0 := ⟨tb_in (i := 1015) (by decide +kernel), tp_in (i := 41) (by decide +kernel)⟩
def mX10_sortIn : nw_Mt := (yX10_sortIn, cX10_sortIn, 2, (some .int))
theorem kX10_sortIn : nw_ok mX10_sortIn 1 := ⟨tb_in (i := 1020) (by decide +kernel), tb_in (i := 10) (by decide +kernel), by decide +kernel, by decide +kernel, by decide +kernel⟩
theorem vX10_sortIn : nw_iv mX10_sortIn := ⟨tb_in (i := 1019) (by decide +kernel), tp_in (i := 42) (by decide +kernel)⟩
def mX10_heightIn : nw_Mt := (yX10_heightIn, cX10_heightIn, 2, (some .int))
theorem kX10_heightIn : nw_ok mX10_heightIn 1 := ⟨tb_in (i := 1024) (by decide +kernel), tb_in (i := 10) (by decide +kernel), by decide +kernel, by decide +kernel, by decide +kernel⟩
theorem vX10_heightIn : nw_iv mX10_heightIn := ⟨tb_in (i := 1023) (by decide +kernel), tp_in (i := 43) (by decide +kernel)⟩
def mX10_comes : nw_Mt := (yX10_comes, cX10_comes, 10, none)
theorem kX10_comes : nw_ok mX10_comes 2 := ⟨tb_in (i := 1028) (by decide +kernel), tb_in (i := 10) (by decide +kernel), by decide +kernel, by decide +kernel, by decide +kernel⟩
theorem vX10_comes : nw_iv mX10_comes := ⟨tb_in (i := 1027) (by decide +kernel), tp_in (i := 44) (by decide +kernel)⟩
def mX10_water : nw_Mt := (yX10_water, cX10_water, 4, (some .int))
theorem kX10_water : nw_ok mX10_water 3 := ⟨tb_in (i := 1032) (by decide +kernel), tb_in (i := 10) (by decide +kernel), by decide +kernel, by decide +kernel, by decide +kernel⟩
theorem vX10_water : nw_iv mX10_water := ⟨tb_in (i := 1031) (by decide +kernel), tp_in (i := 45) (by decide +kernel)⟩
def mX10_most : nw_Mt := (yX10_most, cX10_most, 2, (some .int))
theorem kX10_most : nw_ok mX10_most 2 := ⟨tb_in (i := 1035) (by decide +kernel), tb_in (i := 10) (by decide +kernel), by decide +kernel, by decide +kernel, by decide +kernel⟩
theorem sX10_most : nw_ss mX10_most := tb_in (i := 1034) (by decide +kernel)
def mX10_lift : nw_Mt := (yX10_lift, cX10_lift, 2, (some .int))
theorem kX10_lift : nw_ok mX10_lift 2 := ⟨tb_in (i := 1038) (by decide +kernel), tb_in (i := 10) (by decide +kernel), by decide +kernel, by decide +kernel, by decide +kernel⟩
theorem sX10_lift : nw_ss mX10_lift := tb_in (i := 1037) (by decide +kernel)
def mX10_counted : nw_Mt := (yX10_counted, cX10_counted, 2, (some .int))
theorem kX10_counted : nw_ok mX10_counted 2 := ⟨tb_in (i := 1041) (by decide +kernel), tb_in (i := 10) (by decide +kernel), by decide +kernel, by decide +kernel, by decide +kernel⟩
theorem sX10_counted : nw_ss mX10_counted := tb_in (i := 1040) (by decide +kernel)
def mX10_isCalled : nw_Mt := (yX10_isCalled, cX10_isCalled, 3, (some .boolean))
theorem kX10_isCalled : nw_ok mX10_isCalled 3 := ⟨tb_in (i := 1044) (by decide +kernel), tb_in (i := 10) (by decide +kernel), by decide +kernel, by decide +kernel, by decide +kernel⟩
theorem sX10_isCalled : nw_ss mX10_isCalled := tb_in (i := 1043) (by decide +kernel)
def mX10_slip : nw_Mt := (yX10_slip, cX10_slip, 3, (some .int))
theorem kX10_slip : nw_ok mX10_slip 2 := ⟨tb_in (i := 1048) (by decide +kernel), tb_in (i := 10) (by decide +kernel), by decide +kernel, by decide +kernel, by decide +kernel⟩
theorem vX10_slip : nw_iv mX10_slip := ⟨tb_in (i := 1046) (by decide +kernel), tb_in (i := 1047) (by decide +kernel)⟩
def mX10_isTower : nw_Mt := (yX10_isTower, cX10_isTower, 2, (some .boolean))
theorem kX10_isTower : nw_ok mX10_isTower 1 := ⟨tb_in (i := 1052) (by decide +kernel), tb_in (i := 10) (by decide +kernel), by decide +kernel, by decide +kernel, by decide +kernel⟩
theorem vX10_isTower : nw_iv mX10_isTower := ⟨tb_in (i := 1051) (by decide +kernel), tp_in (i := 46) (by decide +kernel)⟩
def mX10_law : nw_Mt := (yX10_law, cX10_law, 3, (some .int))
theorem kX10_law : nw_ok mX10_law 1 := ⟨tb_in (i := 1058) (by decide +kernel), tb_in (i := 10) (by decide +kernel), by decide +kernel, by decide +kernel, by decide +kernel⟩
theorem vX10_law : nw_iv mX10_law := ⟨tb_in (i := 1056) (by decide +kernel), tb_in (i := 1057) (by decide +kernel)⟩
def mX10_change : nw_Mt := (yX10_change, cX10_change, 5, (some .int))
theorem kX10_change : nw_ok mX10_change 2 := ⟨tb_in (i := 1063) (by decide +kernel), tb_in (i := 10) (by decide +kernel), by decide +kernel, by decide +kernel, by decide +kernel⟩
theorem vX10_change : nw_iv mX10_change := ⟨tb_in (i := 1061) (by decide +kernel), tb_in (i := 1062) (by decide +kernel)⟩
def mX10_isShip : nw_Mt := (yX10_isShip, cX10_isShip, 2, (some .boolean))
theorem kX10_isShip : nw_ok mX10_isShip 1 := ⟨tb_in (i := 1067) (by decide +kernel), tb_in (i := 10) (by decide +kernel), by decide +kernel, by decide +kernel, by decide +kernel⟩
theorem vX10_isShip : nw_iv mX10_isShip := ⟨tb_in (i := 1066) (by decide +kernel), tp_in (i := 47) (by decide +kernel)⟩
def mX10_placeOf : nw_Mt := (yX10_placeOf, cX10_placeOf, 4, (some .int))
theorem kX10_placeOf : nw_ok mX10_placeOf 1 := ⟨tb_in (i := 1071) (by decide +kernel), tb_in (i := 10) (by decide +kernel), by decide +kernel, by decide +kernel, by decide +kernel⟩
theorem vX10_placeOf : nw_iv mX10_placeOf := ⟨tb_in (i := 1070) (by decide +kernel), tp_in (i := 48) (by decide +kernel)⟩
def mX10_heeds : nw_Mt := (yX10_heeds, cX10_heeds, 4, (some .int))
theorem kX10_heeds : nw_ok mX10_heeds 2 := ⟨tb_in (i := 1075) (by decide +kernel), tb_in (i := 10) (by decide +kernel), by decide +kernel, by decide +kernel, by decide +kernel⟩
theorem vX10_heeds : nw_iv mX10_heeds := ⟨tb_in (i := 1073) (by decide +kernel), tb_in (i := 1074) (by decide +kernel)⟩
def mX10_undo : nw_Mt := (yX10_undo, cX10_undo, 2, (some .int))
theorem kX10_undo : nw_ok mX10_undo 0 := ⟨tb_in (i := 1079) (by decide +kernel), tb_in (i := 10) (by decide +kernel), by decide +kernel, by decide +kernel, by decide +kernel⟩
theorem vX10_undo : nw_iv mX10_undo := ⟨tb_in (i := 1077) (by decide +kernel), tb_in (i := 1078) (by decide +kernel)⟩
def mX10_ship : nw_Mt := (yX10_ship, cX10_ship, 4, (some .int))
theorem kX10_ship : nw_ok mX10_ship 2 := ⟨tb_in (i := 1083) (by decide +kernel), tb_in (i := 10) (by decide +kernel), by decide +kernel, by decide +kernel, by decide +kernel⟩
theorem vX10_ship : nw_iv mX10_ship := ⟨tb_in (i := 1081) (by decide +kernel), tb_in (i := 1082) (by decide +kernel)⟩
def mX10_tower : nw_Mt := (yX10_tower, cX10_tower, 5, (some .int))
theorem kX10_tower : nw_ok mX10_tower 2 := ⟨tb_in (i := 1088) (by decide +kernel), tb_in (i := 10) (by decide +kernel), by decide +kernel, by decide +kernel, by decide +kernel⟩
theorem vX10_tower : nw_iv mX10_tower := ⟨tb_in (i := 1086) (by decide +kernel), tb_in (i := 1087) (by decide +kernel)⟩
def mX10_wave : nw_Mt := (yX10_wave, cX10_wave, 3, (some .int))
theorem kX10_wave : nw_ok mX10_wave 2 := ⟨tb_in (i := 1092) (by decide +kernel), tb_in (i := 10) (by decide +kernel), by decide +kernel, by decide +kernel, by decide +kernel⟩
theorem vX10_wave : nw_iv mX10_wave := ⟨tb_in (i := 1090) (by decide +kernel), tb_in (i := 1091) (by decide +kernel)⟩
def mX10_waterIn : nw_Mt := (yX10_waterIn, cX10_waterIn, 2, (some .int))
theorem kX10_waterIn : nw_ok mX10_waterIn 1 := ⟨tb_in (i := 1098) (by decide +kernel), tb_in (i := 10) (by decide +kernel), by decide +kernel, by decide +kernel, by decide +kernel⟩
theorem vX10_waterIn : nw_iv mX10_waterIn := ⟨tb_in (i := 1097) (by decide +kernel), tp_in (i := 49) (by decide +kernel)⟩
def mX10_ahead : nw_Mt := (yX10_ahead, cX10_ahead, 3, (some .int))
theorem kX10_ahead : nw_ok mX10_ahead 2 := ⟨tb_in (i := 1102) (by decide +kernel), tb_in (i := 10) (by decide +kernel), by decide +kernel, by decide +kernel, by decide +kernel⟩
theorem vX10_ahead : nw_iv mX10_ahead := ⟨tb_in (i := 1100) (by decide +kernel), tb_in (i := 1101) (by decide +kernel)⟩
def mX10_many : nw_Mt := (yX10_many, cX10_many, 4, (some .int))
theorem kX10_many : nw_ok mX10_many 1 := ⟨tb_in (i := 1107) (by decide +kernel), tb_in (i := 10) (by decide +kernel), by decide +kernel, by decide +kernel, by decide +kernel⟩
theorem vX10_many : nw_iv mX10_many := ⟨tb_in (i := 1106) (by decide +kernel), tp_in (i := 50) (by decide +kernel)⟩
def mX10_shipAhead : nw_Mt := (yX10_shipAhead, cX10_shipAhead, 4, (some .int))
theorem kX10_shipAhead : nw_ok mX10_shipAhead 3 := ⟨tb_in (i := 1111) (by decide +kernel), tb_in (i := 10) (by decide +kernel), by decide +kernel, by decide +kernel, by decide +kernel⟩
theorem vX10_shipAhead : nw_iv mX10_shipAhead := ⟨tb_in (i := 1109) (by decide +kernel), tb_in (i := 1110) (by decide +kernel)⟩
def mX10_towerAhead : nw_Mt := (yX10_towerAhead, cX10_towerAhead, 3, (some .int))
theorem kX10_towerAhead : nw_ok mX10_towerAhead 2 := ⟨tb_in (i := 1115) (by decide +kernel), tb_in (i := 10) (by decide +kernel), by decide +kernel, by decide +kernel, by decide +kernel⟩
theorem vX10_towerAhead : nw_iv mX10_towerAhead := ⟨tb_in (i := 1113) (by decide +kernel), tb_in (i := 1114) (by decide +kernel)⟩
def mX10_called : nw_Mt := (yX10_called, cX10_called, 7, (some .int))
theorem kX10_called : nw_ok mX10_called 2 := ⟨tb_in (i := 1119) (by decide +kernel), tb_in (i := 10) (by decide +kernel), by decide +kernel, by decide +kernel, by decide +kernel⟩
theorem vX10_called : nw_iv mX10_called := ⟨tb_in (i := 1117) (by decide +kernel), tb_in (i := 1118) (by decide +kernel)⟩
def mX10_fit : nw_Mt := (yX10_fit, cX10_fit, 5, (some .int))
theorem kX10_fit : nw_ok mX10_fit 2 := ⟨tb_in (i := 1123) (by decide +kernel), tb_in (i := 10) (by decide +kernel), by decide +kernel, by decide +kernel, by decide +kernel⟩
theorem vX10_fit : nw_iv mX10_fit := ⟨tb_in (i := 1121) (by decide +kernel), tb_in (i := 1122) (by decide +kernel)⟩
def mX10_highest : nw_Mt := (yX10_highest, cX10_highest, 5, (some .int))
theorem kX10_highest : nw_ok mX10_highest 2 := ⟨tb_in (i := 1127) (by decide +kernel), tb_in (i := 10) (by decide +kernel), by decide +kernel, by decide +kernel, by decide +kernel⟩
theorem vX10_highest : nw_iv mX10_highest := ⟨tb_in (i := 1125) (by decide +kernel), tb_in (i := 1126) (by decide +kernel)⟩
def mX10_order : nw_Mt := (yX10_order, cX10_order, 9, (some .int))
theorem kX10_order : nw_ok mX10_order 2 := ⟨tb_in (i := 1132) (by decide +kernel), tb_in (i := 10) (by decide +kernel), by decide +kernel, by decide +kernel, by decide +kernel⟩
theorem vX10_order : nw_iv mX10_order := ⟨tb_in (i := 1130) (by decide +kernel), tb_in (i := 1131) (by decide +kernel)⟩
def mX10_lays : nw_Mt := (yX10_lays, cX10_lays, 6, (some .boolean))
theorem kX10_lays : nw_ok mX10_lays 2 := ⟨tb_in (i := 1138) (by decide +kernel), tb_in (i := 10) (by decide +kernel), by decide +kernel, by decide +kernel, by decide +kernel⟩
theorem vX10_lays : nw_iv mX10_lays := ⟨tb_in (i := 1137) (by decide +kernel), tp_in (i := 51) (by decide +kernel)⟩
def mX10_laws : nw_Mt := (yX10_laws, cX10_laws, 7, (some .int))
theorem kX10_laws : nw_ok mX10_laws 2 := ⟨tb_in (i := 1142) (by decide +kernel), tb_in (i := 10) (by decide +kernel), by decide +kernel, by decide +kernel, by decide +kernel⟩
theorem vX10_laws : nw_iv mX10_laws := ⟨tb_in (i := 1140) (by decide +kernel), tb_in (i := 1141) (by decide +kernel)⟩
def mX10_bribe : nw_Mt := (yX10_bribe, cX10_bribe, 8, (some .int))
theorem kX10_bribe : nw_ok mX10_bribe 2 := ⟨tb_in (i := 1146) (by decide +kernel), tb_in (i := 10) (by decide +kernel), by decide +kernel, by decide +kernel, by decide +kernel⟩
theorem vX10_bribe : nw_iv mX10_bribe := ⟨tb_in (i := 1144) (by decide +kernel), tb_in (i := 1145) (by decide +kernel)⟩
def mX10_heed : nw_Mt := (yX10_heed, cX10_heed, 5, (some .int))
theorem kX10_heed : nw_ok mX10_heed 1 := ⟨tb_in (i := 1150) (by decide +kernel), tb_in (i := 10) (by decide +kernel), by decide +kernel, by decide +kernel, by decide +kernel⟩
theorem vX10_heed : nw_iv mX10_heed := ⟨tb_in (i := 1148) (by decide +kernel), tb_in (i := 1149) (by decide +kernel)⟩
def mX10_agreed : nw_Mt := (yX10_agreed, cX10_agreed, 7, (some .int))
theorem kX10_agreed : nw_ok mX10_agreed 2 := ⟨tb_in (i := 1154) (by decide +kernel), tb_in (i := 10) (by decide +kernel), by decide +kernel, by decide +kernel, by decide +kernel⟩
theorem vX10_agreed : nw_iv mX10_agreed := ⟨tb_in (i := 1152) (by decide +kernel), tb_in (i := 1153) (by decide +kernel)⟩
def mX10_callers : nw_Mt := (yX10_callers, cX10_callers, 3, (some .int))
theorem kX10_callers : nw_ok mX10_callers 0 := ⟨tb_in (i := 1158) (by decide +kernel), tb_in (i := 10) (by decide +kernel), by decide +kernel, by decide +kernel, by decide +kernel⟩
theorem vX10_callers : nw_iv mX10_callers := ⟨tb_in (i := 1157) (by decide +kernel), tp_in (i := 52) (by decide +kernel)⟩
def mX10_log : nw_Mt := (yX10_log, cX10_log, 10, (some .int))
theorem kX10_log : nw_ok mX10_log 4 := ⟨tb_in (i := 1162) (by decide +kernel), tb_in (i := 10) (by decide +kernel), by decide +kernel, by decide +kernel, by decide +kernel⟩
theorem vX10_log : nw_iv mX10_log := ⟨tb_in (i := 1160) (by decide +kernel), tb_in (i := 1161) (by decide +kernel)⟩
def mX10_hasCalled : nw_Mt := (yX10_hasCalled, cX10_hasCalled, 12, (some .boolean))
theorem kX10_hasCalled : nw_ok mX10_hasCalled 4 := ⟨tb_in (i := 1168) (by decide +kernel), tb_in (i := 10) (by decide +kernel), by decide +kernel, by decide +kernel, by decide +kernel⟩
theorem vX10_hasCalled : nw_iv mX10_hasCalled := ⟨tb_in (i := 1167) (by decide +kernel), tp_in (i := 53) (by decide +kernel)⟩
def mX10_wreck : nw_Mt := (yX10_wreck, cX10_wreck, 9, (some .int))
theorem kX10_wreck : nw_ok mX10_wreck 4 := ⟨tb_in (i := 1172) (by decide +kernel), tb_in (i := 10) (by decide +kernel), by decide +kernel, by decide +kernel, by decide +kernel⟩
theorem vX10_wreck : nw_iv mX10_wreck := ⟨tb_in (i := 1170) (by decide +kernel), tb_in (i := 1171) (by decide +kernel)⟩
def mX10_season : nw_Mt := (yX10_season, cX10_season, 7, (some .int))
theorem kX10_season : nw_ok mX10_season 3 := ⟨tb_in (i := 1177) (by decide +kernel), tb_in (i := 10) (by decide +kernel), by decide +kernel, by decide +kernel, by decide +kernel⟩
theorem vX10_season : nw_iv mX10_season := ⟨tb_in (i := 1175) (by decide +kernel), tb_in (i := 1176) (by decide +kernel)⟩
def mX10_image : nw_Mt := (yX10_image, cX10_image, 3, (some .int))
theorem kX10_image : nw_ok mX10_image 1 := ⟨tb_in (i := 1186) (by decide +kernel), tb_in (i := 10) (by decide +kernel), by decide +kernel, by decide +kernel, by decide +kernel⟩
theorem vX10_image : nw_iv mX10_image := ⟨tb_in (i := 1184) (by decide +kernel), tb_in (i := 1185) (by decide +kernel)⟩
def mX10_restore : nw_Mt := (yX10_restore, cX10_restore, 3, (some .int))
theorem kX10_restore : nw_ok mX10_restore 1 := ⟨tb_in (i := 1190) (by decide +kernel), tb_in (i := 10) (by decide +kernel), by decide +kernel, by decide +kernel, by decide +kernel⟩
theorem vX10_restore : nw_iv mX10_restore := ⟨tb_in (i := 1188) (by decide +kernel), tb_in (i := 1189) (by decide +kernel)⟩
def mX10_kind : nw_Mt := (yX10_kind, cX10_kind, 2, (some .int))
theorem kX10_kind : nw_ok mX10_kind 1 := ⟨tb_in (i := 1194) (by decide +kernel), tb_in (i := 10) (by decide +kernel), by decide +kernel, by decide +kernel, by decide +kernel⟩
theorem vX10_kind : nw_iv mX10_kind := ⟨tb_in (i := 1192) (by decide +kernel), tb_in (i := 1193) (by decide +kernel)⟩
def mX10_isSwell : nw_Mt := (yX10_isSwell, cX10_isSwell, 2, (some .boolean))
theorem kX10_isSwell : nw_ok mX10_isSwell 1 := ⟨tb_in (i := 1198) (by decide +kernel), tb_in (i := 10) (by decide +kernel), by decide +kernel, by decide +kernel, by decide +kernel⟩
theorem vX10_isSwell : nw_iv mX10_isSwell := ⟨tb_in (i := 1197) (by decide +kernel), tp_in (i := 54) (by decide +kernel)⟩
def mX10_as : nw_Mt := (yX10_as, cX10_as, 6, (some .int))
theorem kX10_as : nw_ok mX10_as 2 := ⟨tb_in (i := 1202) (by decide +kernel), tb_in (i := 10) (by decide +kernel), by decide +kernel, by decide +kernel, by decide +kernel⟩
theorem vX10_as : nw_iv mX10_as := ⟨tb_in (i := 1200) (by decide +kernel), tb_in (i := 1201) (by decide +kernel)⟩
def mX10_ask : nw_Mt := (yX10_ask, cX10_ask, 3, (some .int))
theorem kX10_ask : nw_ok mX10_ask 2 := ⟨tb_in (i := 1206) (by decide +kernel), tb_in (i := 10) (by decide +kernel), by decide +kernel, by decide +kernel, by decide +kernel⟩
theorem vX10_ask : nw_iv mX10_ask := ⟨tb_in (i := 1204) (by decide +kernel), tb_in (i := 1205) (by decide +kernel)⟩
def mX10_sizeOf : nw_Mt := (yX10_sizeOf, cX10_sizeOf, 5, (some .int))
theorem kX10_sizeOf : nw_ok mX10_sizeOf 1 := ⟨tb_in (i := 1210) (by decide +kernel), tb_in (i := 10) (by decide +kernel), by decide +kernel, by decide +kernel, by decide +kernel⟩
theorem vX10_sizeOf : nw_iv mX10_sizeOf := ⟨tb_in (i := 1209) (by decide +kernel), tp_in (i := 55) (by decide +kernel)⟩
def mX10_leaves : nw_Mt := (yX10_leaves, cX10_leaves, 2, none)
theorem kX10_leaves : nw_ok mX10_leaves 1 := ⟨tb_in (i := 1214) (by decide +kernel), tb_in (i := 10) (by decide +kernel), by decide +kernel, by decide +kernel, by decide +kernel⟩
theorem vX10_leaves : nw_iv mX10_leaves := ⟨tb_in (i := 1213) (by decide +kernel), tp_in (i := 56) (by decide +kernel)⟩
def mX10_plainMark : nw_Mt := (yX10_plainMark, cX10_plainMark, 4, (some .int))
theorem kX10_plainMark : nw_ok mX10_plainMark 1 := ⟨tb_in (i := 1218) (by decide +kernel), tb_in (i := 10) (by decide +kernel), by decide +kernel, by decide +kernel, by decide +kernel⟩
theorem vX10_plainMark : nw_iv mX10_plainMark := ⟨tb_in (i := 1217) (by decide +kernel), tp_in (i := 57) (by decide +kernel)⟩
def mX10_markOf : nw_Mt := (yX10_markOf, cX10_markOf, 2, (some .int))
theorem kX10_markOf : nw_ok mX10_markOf 1 := ⟨tb_in (i := 1222) (by decide +kernel), tb_in (i := 10) (by decide +kernel), by decide +kernel, by decide +kernel, by decide +kernel⟩
theorem vX10_markOf : nw_iv mX10_markOf := ⟨tb_in (i := 1221) (by decide +kernel), tp_in (i := 58) (by decide +kernel)⟩
def mX10_trace : nw_Mt := (yX10_trace, cX10_trace, 2, (some .int))
theorem kX10_trace : nw_ok mX10_trace 1 := ⟨tb_in (i := 1226) (by decide +kernel), tb_in (i := 10) (by decide +kernel), by decide +kernel, by decide +kernel, by decide +kernel⟩
theorem vX10_trace : nw_iv mX10_trace := ⟨tb_in (i := 1224) (by decide +kernel), tb_in (i := 1225) (by decide +kernel)⟩
def mX10_count : nw_Mt := (yX10_count, cX10_count, 5, (some .int))
theorem kX10_count : nw_ok mX10_count 1 := ⟨tb_in (i := 1230) (by decide +kernel), tb_in (i := 10) (by decide +kernel), by decide +kernel, by decide +kernel, by decide +kernel⟩
theorem vX10_count : nw_iv mX10_count := ⟨tb_in (i := 1228) (by decide +kernel), tb_in (i := 1229) (by decide +kernel)⟩
def mX10_status : nw_Mt := (yX10_status, cX10_status, 1, (some .int))
theorem kX10_status : nw_ok mX10_status 0 := ⟨tb_in (i := 1235) (by decide +kernel), tb_in (i := 10) (by decide +kernel), by decide +kernel, by decide +kernel, by decide +kernel⟩
theorem vX10_status : nw_iv mX10_status := ⟨tb_in (i := 1233) (by decide +kernel), tb_in (i := 1234) (by decide +kernel)⟩
theorem lL_9 : nw_ml RL 9 mX9_init := tb_in (i := 16) (by decide +kernel)
theorem lX9_9 : nw_ml RX9 9 mX7_init := tb_in (i := 24) (by decide +kernel)
theorem lX9_45 : nw_ml RX9 45 mX0_init := tb_in (i := 168) (by decide +kernel)
theorem lL_13 : nw_ml RL 13 mX9_row := tb_in (i := 305) (by decide +kernel)
theorem lX9_71 : nw_ml RX9 71 mX9_isRow := tb_in (i := 309) (by decide +kernel)
theorem lX9_75 : nw_ml RX9 75 mX9_within := tb_in (i := 313) (by decide +kernel)
theorem lX9_80 : nw_ml RX9 80 mX9_found := tb_in (i := 317) (by decide +kernel)
theorem lX9_84 : nw_ml RX9 84 mX7_make := tb_in (i := 322) (by decide +kernel)
theorem lX9_88 : nw_ml RX9 88 mX9_fine := tb_in (i := 326) (by decide +kernel)
theorem lL_18 : nw_ml RL 18 mX9_set := tb_in (i := 330) (by decide +kernel)
theorem lX9_91 : nw_ml RX9 91 mX7_isMissing := tb_in (i := 334) (by decide +kernel)
theorem lX9_94 : nw_ml RX9 94 mX7_hasPlaces := tb_in (i := 338) (by decide +kernel)
theorem lX9_97 : nw_ml RX9 97 mX7_put := tb_in (i := 342) (by decide +kernel)
theorem lL_22 : nw_ml RL 22 mX9_copy := tb_in (i := 346) (by decide +kernel)
theorem lX9_101 : nw_ml RX9 101 mX7_alike := tb_in (i := 350) (by decide +kernel)
theorem lX9_105 : nw_ml RX9 105 mX7_move := tb_in (i := 354) (by decide +kernel)
theorem lL_27 : nw_ml RL 27 mX9_drop := tb_in (i := 361) (by decide +kernel)
theorem lX9_109 : nw_ml RX9 109 mX7_lose := tb_in (i := 365) (by decide +kernel)
theorem lL_32 : nw_ml RL 32 mX9_feed := tb_in (i := 369) (by decide +kernel)
theorem lX9_112 : nw_ml RX9 112 mX6_isFull := tb_in (i := 373) (by decide +kernel)
theorem lX9_117 : nw_ml RX9 117 mX6_append := tb_in (i := 378) (by decide +kernel)
theorem lX6_17 : nw_ml RX6 17 mX6_isFull := tb_in (i := 382) (by decide +kernel)
theorem lL_36 : nw_ml RL 36 mX9_sea := tb_in (i := 383) (by decide +kernel)
theorem lX9_120 : nw_ml RX9 120 mX6_read := tb_in (i := 387) (by decide +kernel)
theorem lX6_38 : nw_ml RX6 38 mX8_begin := tb_in (i := 391) (by decide +kernel)
theorem lX6_43 : nw_ml RX6 43 mX6_readBar := tb_in (i := 396) (by decide +kernel)
theorem lX6_60 : nw_ml RX6 60 mX6_passes := tb_in (i := 400) (by decide +kernel)
theorem lX6_80 : nw_ml RX6 80 mX6_at := tb_in (i := 404) (by decide +kernel)
theorem lX6_89 : nw_ml RX6 89 mX6_fails := tb_in (i := 408) (by decide +kernel)
theorem lX6_64 : nw_ml RX6 64 mX6_readPair := tb_in (i := 412) (by decide +kernel)
theorem lX6_98 : nw_ml RX6 98 mX6_number := tb_in (i := 416) (by decide +kernel)
theorem lX6_113 : nw_ml RX6 113 mX6_isFigure := tb_in (i := 420) (by decide +kernel)
theorem lX6_47 : nw_ml RX6 47 mX6_readSwells := tb_in (i := 423) (by decide +kernel)
theorem lX6_84 : nw_ml RX6 84 mX4_toldBy := tb_in (i := 427) (by decide +kernel)
theorem lX6_50 : nw_ml RX6 50 mX6_readTowers := tb_in (i := 430) (by decide +kernel)
theorem lX6_54 : nw_ml RX6 54 mX6_readShips := tb_in (i := 434) (by decide +kernel)
theorem lX6_57 : nw_ml RX6 57 mX6_isAtEnd := tb_in (i := 438) (by decide +kernel)
theorem lX9_124 : nw_ml RX9 124 mX6_empty := tb_in (i := 442) (by decide +kernel)
theorem lX9_127 : nw_ml RX9 127 mX6_faultNumber := tb_in (i := 446) (by decide +kernel)
theorem lX9_136 : nw_ml RX9 136 mX6_faultPlace := tb_in (i := 451) (by decide +kernel)
theorem lX9_139 : nw_ml RX9 139 mX2_become := tb_in (i := 455) (by decide +kernel)
theorem lX9_143 : nw_ml RX9 143 mX8_become := tb_in (i := 460) (by decide +kernel)
theorem lX9_146 : nw_ml RX9 146 mX0_forgetAll := tb_in (i := 465) (by decide +kernel)
theorem lL_41 : nw_ml RL 41 mX9_fault := tb_in (i := 469) (by decide +kernel)
theorem lL_45 : nw_ml RL 45 mX9_waves := tb_in (i := 473) (by decide +kernel)
theorem lX9_160 : nw_ml RX9 160 mX0_keep := tb_in (i := 478) (by decide +kernel)
theorem lX0_20 : nw_ml RX0 20 mX8_become := tb_in (i := 482) (by decide +kernel)
theorem lX9_163 : nw_ml RX9 163 mX8_comeInBy := tb_in (i := 486) (by decide +kernel)
theorem lX8_47 : nw_ml RX8 47 mX2_kindIn := tb_in (i := 490) (by decide +kernel)
theorem lX2_44 : nw_ml RX2 44 mX2_swellOf := tb_in (i := 494) (by decide +kernel)
theorem lX8_51 : nw_ml RX8 51 mX2_waterIn := tb_in (i := 498) (by decide +kernel)
theorem lX2_62 : nw_ml RX2 62 mX2_depthIn := tb_in (i := 502) (by decide +kernel)
theorem lX2_65 : nw_ml RX2 65 mX2_liftOfSwell := tb_in (i := 509) (by decide +kernel)
theorem lX2_59 : nw_ml RX2 59 mX2_liftOf := tb_in (i := 513) (by decide +kernel)
theorem lX8_54 : nw_ml RX8 54 mX8_comeIn := tb_in (i := 516) (by decide +kernel)
theorem lX8_61 : nw_ml RX8 61 mX2_stepOf := tb_in (i := 520) (by decide +kernel)
theorem lX2_48 : nw_ml RX2 48 mX4_stepOf := tb_in (i := 524) (by decide +kernel)
theorem lX8_69 : nw_ml RX8 69 mX8_cross := tb_in (i := 530) (by decide +kernel)
theorem lL_49 : nw_ml RL 49 mX9_slip := tb_in (i := 534) (by decide +kernel)
theorem lX9_167 : nw_ml RX9 167 mX9_isTower := tb_in (i := 538) (by decide +kernel)
theorem lX9_170 : nw_ml RX9 170 mX8_slipBy := tb_in (i := 542) (by decide +kernel)
theorem lL_54 : nw_ml RL 54 mX9_law := tb_in (i := 547) (by decide +kernel)
theorem lL_58 : nw_ml RL 58 mX9_change := tb_in (i := 551) (by decide +kernel)
theorem lX9_177 : nw_ml RX9 177 mX9_isShip := tb_in (i := 555) (by decide +kernel)
theorem lX9_180 : nw_ml RX9 180 mX8_placeOf := tb_in (i := 559) (by decide +kernel)
theorem lL_62 : nw_ml RL 62 mX9_heeds := tb_in (i := 563) (by decide +kernel)
theorem lX9_187 : nw_ml RX9 187 mX8_waits := tb_in (i := 567) (by decide +kernel)
theorem lL_66 : nw_ml RL 66 mX9_undo := tb_in (i := 571) (by decide +kernel)
theorem lX9_196 : nw_ml RX9 196 mX0_takeBack := tb_in (i := 575) (by decide +kernel)
theorem lL_70 : nw_ml RL 70 mX9_ship := tb_in (i := 579) (by decide +kernel)
theorem lL_74 : nw_ml RL 74 mX9_tower := tb_in (i := 583) (by decide +kernel)
theorem lX9_214 : nw_ml RX9 214 mX8_howManyWaitFor := tb_in (i := 587) (by decide +kernel)
theorem lL_78 : nw_ml RL 78 mX9_wave := tb_in (i := 591) (by decide +kernel)
theorem lX9_218 : nw_ml RX9 218 mX2_swellOf := tb_in (i := 595) (by decide +kernel)
theorem lX9_224 : nw_ml RX9 224 mX2_liftOfSwell := tb_in (i := 596) (by decide +kernel)
theorem lX9_227 : nw_ml RX9 227 mX2_waterIn := tb_in (i := 597) (by decide +kernel)
theorem lL_82 : nw_ml RL 82 mX9_ahead := tb_in (i := 598) (by decide +kernel)
theorem lX9_233 : nw_ml RX9 233 mX9_foretell := tb_in (i := 602) (by decide +kernel)
theorem lX9_267 : nw_ml RX9 267 mX8_pass := tb_in (i := 606) (by decide +kernel)
theorem lX8_43 : nw_ml RX8 43 mX8_comeInBy := tb_in (i := 610) (by decide +kernel)
theorem lX9_237 : nw_ml RX9 237 mX8_howMany := tb_in (i := 611) (by decide +kernel)
theorem lL_86 : nw_ml RL 86 mX9_shipAhead := tb_in (i := 615) (by decide +kernel)
theorem lL_90 : nw_ml RL 90 mX9_towerAhead := tb_in (i := 619) (by decide +kernel)
theorem lL_94 : nw_ml RL 94 mX9_called := tb_in (i := 623) (by decide +kernel)
theorem lX9_240 : nw_ml RX9 240 mX2_kindIn := tb_in (i := 627) (by decide +kernel)
theorem lX9_243 : nw_ml RX9 243 mX2_stepOf := tb_in (i := 628) (by decide +kernel)
theorem lX9_246 : nw_ml RX9 246 mX9_calls := tb_in (i := 629) (by decide +kernel)
theorem lL_98 : nw_ml RL 98 mX9_fit := tb_in (i := 631) (by decide +kernel)
theorem lL_102 : nw_ml RL 102 mX9_highest := tb_in (i := 635) (by decide +kernel)
theorem lL_106 : nw_ml RL 106 mX9_order := tb_in (i := 639) (by decide +kernel)
theorem lX9_253 : nw_ml RX9 253 mX5_listen := tb_in (i := 643) (by decide +kernel)
theorem lX5_41 : nw_ml RX5 41 mX2_kindIn := tb_in (i := 647) (by decide +kernel)
theorem lX5_45 : nw_ml RX5 45 mX2_stepOf := tb_in (i := 648) (by decide +kernel)
theorem lX5_58 : nw_ml RX5 58 mX2_waterIn := tb_in (i := 650) (by decide +kernel)
theorem lX9_257 : nw_ml RX9 257 mX5_search := tb_in (i := 651) (by decide +kernel)
theorem lX5_67 : nw_ml RX5 67 mX5_howManyCross := tb_in (i := 655) (by decide +kernel)
theorem lX5_84 : nw_ml RX5 84 mX8_waits := tb_in (i := 659) (by decide +kernel)
theorem lX5_77 : nw_ml RX5 77 mX5_goOn := tb_in (i := 661) (by decide +kernel)
theorem lX5_90 : nw_ml RX5 90 mX5_swap := tb_in (i := 665) (by decide +kernel)
theorem lL_110 : nw_ml RL 110 mX9_laws := tb_in (i := 669) (by decide +kernel)
theorem lL_114 : nw_ml RL 114 mX9_bribe := tb_in (i := 673) (by decide +kernel)
theorem lX9_271 : nw_ml RX9 271 mX8_isOverAheadOf := tb_in (i := 677) (by decide +kernel)
theorem lL_118 : nw_ml RL 118 mX9_heed := tb_in (i := 681) (by decide +kernel)
theorem lL_122 : nw_ml RL 122 mX9_agreed := tb_in (i := 685) (by decide +kernel)
theorem lL_126 : nw_ml RL 126 mX9_log := tb_in (i := 689) (by decide +kernel)
theorem lX9_277 : nw_ml RX9 277 mX7_rises := tb_in (i := 693) (by decide +kernel)
theorem lX9_281 : nw_ml RX9 281 mX9_fitsLog := tb_in (i := 697) (by decide +kernel)
theorem lX9_339 : nw_ml RX9 339 mX7_item := tb_in (i := 701) (by decide +kernel)
theorem lX7_29 : nw_ml RX7 29 mX7_hasPlaces := tb_in (i := 705) (by decide +kernel)
theorem lX9_342 : nw_ml RX9 342 mX4_stepOf := tb_in (i := 707) (by decide +kernel)
theorem lL_131 : nw_ml RL 131 mX9_wreck := tb_in (i := 708) (by decide +kernel)
theorem lL_135 : nw_ml RL 135 mX9_season := tb_in (i := 712) (by decide +kernel)
theorem lX9_293 : nw_ml RX9 293 mX2_depthIn := tb_in (i := 721) (by decide +kernel)
theorem lX9_296 : nw_ml RX9 296 mX2_liftOf := tb_in (i := 722) (by decide +kernel)
theorem lX9_299 : nw_ml RX9 299 mX8_comeIn := tb_in (i := 723) (by decide +kernel)
theorem lL_139 : nw_ml RL 139 mX9_image := tb_in (i := 724) (by decide +kernel)
theorem lX9_303 : nw_ml RX9 303 mX3_keep := tb_in (i := 728) (by decide +kernel)
theorem lX3_23 : nw_ml RX3 23 mX2_become := tb_in (i := 732) (by decide +kernel)
theorem lX3_27 : nw_ml RX3 27 mX8_become := tb_in (i := 733) (by decide +kernel)
theorem lL_143 : nw_ml RL 143 mX9_restore := tb_in (i := 734) (by decide +kernel)
theorem lL_147 : nw_ml RL 147 mX9_kind := tb_in (i := 738) (by decide +kernel)
theorem lX9_312 : nw_ml RX9 312 mX9_isSwell := tb_in (i := 742) (by decide +kernel)
theorem lL_151 : nw_ml RL 151 mX9_as := tb_in (i := 746) (by decide +kernel)
theorem lX9_317 : nw_ml RX9 317 mX4_isA := tb_in (i := 750) (by decide +kernel)
theorem lX4_13 : nw_ml RX4 13 mX4_next := tb_in (i := 755) (by decide +kernel)
theorem lL_155 : nw_ml RL 155 mX9_ask := tb_in (i := 758) (by decide +kernel)
theorem lX9_320 : nw_ml RX9 320 mX1_answer := tb_in (i := 762) (by decide +kernel)
theorem lX1_31 : nw_ml RX1 31 mX2_liftOfSwell := tb_in (i := 766) (by decide +kernel)
theorem lX1_41 : nw_ml RX1 41 mX1_asked := tb_in (i := 767) (by decide +kernel)
theorem lX1_50 : nw_ml RX1 50 mX1_given := tb_in (i := 773) (by decide +kernel)
theorem lX1_56 : nw_ml RX1 56 mX1_leave := tb_in (i := 777) (by decide +kernel)
theorem lX1_53 : nw_ml RX1 53 mX4_next := tb_in (i := 781) (by decide +kernel)
theorem lL_159 : nw_ml RL 159 mX9_trace := tb_in (i := 782) (by decide +kernel)
theorem lL_163 : nw_ml RL 163 mX9_count := tb_in (i := 786) (by decide +kernel)
theorem lX9_329 : nw_ml RX9 329 mX7_howManyThere := tb_in (i := 790) (by decide +kernel)
theorem lX7_34 : nw_ml RX7 34 mX7_isMissing := tb_in (i := 794) (by decide +kernel)
theorem lL_167 : nw_ml RL 167 mX9_status := tb_in (i := 795) (by decide +kernel)
theorem lL_12 : nw_ml RL 12 mX10_init := tb_in (i := 801) (by decide +kernel)
theorem lL_17 : nw_ml RL 17 mX10_row := tb_in (i := 894) (by decide +kernel)
theorem lX10_73 : nw_ml RX10 73 mX10_isRow := tb_in (i := 898) (by decide +kernel)
theorem lX10_64 : nw_ml RX10 64 mX10_in := tb_in (i := 902) (by decide +kernel)
theorem lX10_80 : nw_ml RX10 80 mX10_finds := tb_in (i := 907) (by decide +kernel)
theorem lX10_84 : nw_ml RX10 84 mX10_well := tb_in (i := 912) (by decide +kernel)
theorem lL_21 : nw_ml RL 21 mX10_set := tb_in (i := 916) (by decide +kernel)
theorem lL_26 : nw_ml RL 26 mX10_copy := tb_in (i := 920) (by decide +kernel)
theorem lL_31 : nw_ml RL 31 mX10_drop := tb_in (i := 924) (by decide +kernel)
theorem lL_35 : nw_ml RL 35 mX10_feed := tb_in (i := 928) (by decide +kernel)
theorem lL_40 : nw_ml RL 40 mX10_sea := tb_in (i := 934) (by decide +kernel)
theorem lX10_158 : nw_ml RX10 158 mX10_reads := tb_in (i := 938) (by decide +kernel)
theorem lX10_126 : nw_ml RX10 126 mX10_scans := tb_in (i := 942) (by decide +kernel)
theorem lX10_109 : nw_ml RX10 109 mX10_isFigure := tb_in (i := 946) (by decide +kernel)
theorem lX10_146 : nw_ml RX10 146 mX10_isLetter := tb_in (i := 954) (by decide +kernel)
theorem lX10_120 : nw_ml RX10 120 mX10_faults := tb_in (i := 958) (by decide +kernel)
theorem lX10_142 : nw_ml RX10 142 mX10_two := tb_in (i := 962) (by decide +kernel)
theorem lX10_129 : nw_ml RX10 129 mX10_takes := tb_in (i := 966) (by decide +kernel)
theorem lX10_133 : nw_ml RX10 133 mX10_signs := tb_in (i := 970) (by decide +kernel)
theorem lX10_139 : nw_ml RX10 139 mX10_sortOf := tb_in (i := 974) (by decide +kernel)
theorem lX10_149 : nw_ml RX10 149 mX10_swell := tb_in (i := 977) (by decide +kernel)
theorem lX10_152 : nw_ml RX10 152 mX10_turret := tb_in (i := 981) (by decide +kernel)
theorem lX10_155 : nw_ml RX10 155 mX10_vessel := tb_in (i := 985) (by decide +kernel)
theorem lL_44 : nw_ml RL 44 mX10_fault := tb_in (i := 991) (by decide +kernel)
theorem lL_48 : nw_ml RL 48 mX10_waves := tb_in (i := 995) (by decide +kernel)
theorem lX10_196 : nw_ml RX10 196 mX10_isSea := tb_in (i := 999) (by decide +kernel)
theorem lX10_202 : nw_ml RX10 202 mX10_remembers := tb_in (i := 1005) (by decide +kernel)
theorem lX10_205 : nw_ml RX10 205 mX10_asNow := tb_in (i := 1009) (by decide +kernel)
theorem lX10_208 : nw_ml RX10 208 mX10_waves0 := tb_in (i := 1013) (by decide +kernel)
theorem lX10_176 : nw_ml RX10 176 mX10_sortIn := tb_in (i := 1017) (by decide +kernel)
theorem lX10_179 : nw_ml RX10 179 mX10_heightIn := tb_in (i := 1021) (by decide +kernel)
theorem lX10_192 : nw_ml RX10 192 mX10_comes := tb_in (i := 1025) (by decide +kernel)
theorem lX10_182 : nw_ml RX10 182 mX10_water := tb_in (i := 1029) (by decide +kernel)
theorem lX10_169 : nw_ml RX10 169 mX10_most := tb_in (i := 1033) (by decide +kernel)
theorem lX10_173 : nw_ml RX10 173 mX10_lift := tb_in (i := 1036) (by decide +kernel)
theorem lX10_186 : nw_ml RX10 186 mX10_counted := tb_in (i := 1039) (by decide +kernel)
theorem lX10_189 : nw_ml RX10 189 mX10_isCalled := tb_in (i := 1042) (by decide +kernel)
theorem lL_53 : nw_ml RL 53 mX10_slip := tb_in (i := 1045) (by decide +kernel)
theorem lX10_212 : nw_ml RX10 212 mX10_isTower := tb_in (i := 1049) (by decide +kernel)
theorem lL_57 : nw_ml RL 57 mX10_law := tb_in (i := 1055) (by decide +kernel)
theorem lL_61 : nw_ml RL 61 mX10_change := tb_in (i := 1060) (by decide +kernel)
theorem lX10_221 : nw_ml RX10 221 mX10_isShip := tb_in (i := 1064) (by decide +kernel)
theorem lX10_224 : nw_ml RX10 224 mX10_placeOf := tb_in (i := 1068) (by decide +kernel)
theorem lL_65 : nw_ml RL 65 mX10_heeds := tb_in (i := 1072) (by decide +kernel)
theorem lL_69 : nw_ml RL 69 mX10_undo := tb_in (i := 1076) (by decide +kernel)
theorem lL_73 : nw_ml RL 73 mX10_ship := tb_in (i := 1080) (by decide +kernel)
theorem lL_77 : nw_ml RL 77 mX10_tower := tb_in (i := 1085) (by decide +kernel)
theorem lL_81 : nw_ml RL 81 mX10_wave := tb_in (i := 1089) (by decide +kernel)
theorem lX10_233 : nw_ml RX10 233 mX10_waterIn := tb_in (i := 1095) (by decide +kernel)
theorem lL_85 : nw_ml RL 85 mX10_ahead := tb_in (i := 1099) (by decide +kernel)
theorem lX10_238 : nw_ml RX10 238 mX10_many := tb_in (i := 1104) (by decide +kernel)
theorem lL_89 : nw_ml RL 89 mX10_shipAhead := tb_in (i := 1108) (by decide +kernel)
theorem lL_93 : nw_ml RL 93 mX10_towerAhead := tb_in (i := 1112) (by decide +kernel)
theorem lL_97 : nw_ml RL 97 mX10_called := tb_in (i := 1116) (by decide +kernel)
theorem lL_101 : nw_ml RL 101 mX10_fit := tb_in (i := 1120) (by decide +kernel)
theorem lL_105 : nw_ml RL 105 mX10_highest := tb_in (i := 1124) (by decide +kernel)
theorem lL_109 : nw_ml RL 109 mX10_order := tb_in (i := 1129) (by decide +kernel)
theorem lX10_247 : nw_ml RX10 247 mX10_lays := tb_in (i := 1135) (by decide +kernel)
theorem lL_113 : nw_ml RL 113 mX10_laws := tb_in (i := 1139) (by decide +kernel)
theorem lL_117 : nw_ml RL 117 mX10_bribe := tb_in (i := 1143) (by decide +kernel)
theorem lL_121 : nw_ml RL 121 mX10_heed := tb_in (i := 1147) (by decide +kernel)
theorem lL_125 : nw_ml RL 125 mX10_agreed := tb_in (i := 1151) (by decide +kernel)
theorem lX10_250 : nw_ml RX10 250 mX10_callers := tb_in (i := 1155) (by decide +kernel)
theorem lL_130 : nw_ml RL 130 mX10_log := tb_in (i := 1159) (by decide +kernel)
theorem lX10_258 : nw_ml RX10 258 mX10_hasCalled := tb_in (i := 1165) (by decide +kernel)
theorem lL_134 : nw_ml RL 134 mX10_wreck := tb_in (i := 1169) (by decide +kernel)
theorem lL_138 : nw_ml RL 138 mX10_season := tb_in (i := 1174) (by decide +kernel)
theorem lL_142 : nw_ml RL 142 mX10_image := tb_in (i := 1183) (by decide +kernel)
theorem lL_146 : nw_ml RL 146 mX10_restore := tb_in (i := 1187) (by decide +kernel)
theorem lL_150 : nw_ml RL 150 mX10_kind := tb_in (i := 1191) (by decide +kernel)
theorem lX10_274 : nw_ml RX10 274 mX10_isSwell := tb_in (i := 1195) (by decide +kernel)
theorem lL_154 : nw_ml RL 154 mX10_as := tb_in (i := 1199) (by decide +kernel)
theorem lL_158 : nw_ml RL 158 mX10_ask := tb_in (i := 1203) (by decide +kernel)
theorem lX10_286 : nw_ml RX10 286 mX10_sizeOf := tb_in (i := 1207) (by decide +kernel)
theorem lX10_280 : nw_ml RX10 280 mX10_leaves := tb_in (i := 1211) (by decide +kernel)
theorem lX10_283 : nw_ml RX10 283 mX10_plainMark := tb_in (i := 1215) (by decide +kernel)
theorem lX10_289 : nw_ml RX10 289 mX10_markOf := tb_in (i := 1219) (by decide +kernel)
theorem lL_162 : nw_ml RL 162 mX10_trace := tb_in (i := 1223) (by decide +kernel)
theorem lL_166 : nw_ml RL 166 mX10_count := tb_in (i := 1227) (by decide +kernel)
theorem lL_170 : nw_ml RL 170 mX10_status := tb_in (i := 1232) (by decide +kernel)
theorem lX9_18 : nw_mn RX9 18 mX6_init := ⟨"NinthWave", List.mem_of_getElem? (i := 0) rfl⟩
theorem lX9_25 : nw_mn RX9 25 mX2_init := ⟨"NinthWave", List.mem_of_getElem? (i := 1) rfl⟩
theorem lX9_35 : nw_mn RX9 35 mX8_init := ⟨"NinthWave", List.mem_of_getElem? (i := 2) rfl⟩
theorem lX0_15 : nw_mn RX0 15 mX8_init := ⟨"NinthWave", List.mem_of_getElem? (i := 3) rfl⟩
theorem lX9_52 : nw_mn RX9 52 mX5_init := ⟨"NinthWave", List.mem_of_getElem? (i := 4) rfl⟩
theorem lX9_59 : nw_mn RX9 59 mX1_init := ⟨"NinthWave", List.mem_of_getElem? (i := 5) rfl⟩
theorem lX9_70 : nw_mn RX9 70 mX3_init := ⟨"NinthWave", List.mem_of_getElem? (i := 6) rfl⟩
theorem lX3_9 : nw_mn RX3 9 mX2_init := ⟨"NinthWave", List.mem_of_getElem? (i := 7) rfl⟩
theorem lX3_18 : nw_mn RX3 18 mX8_init := ⟨"NinthWave", List.mem_of_getElem? (i := 8) rfl⟩
theorem lX8_65 : nw_mn RX8 65 mX9_calls := ⟨"NinthWave", List.mem_of_getElem? (i := 9) rfl⟩
theorem lX5_52 : nw_mn RX5 52 mX9_calls := ⟨"NinthWave", List.mem_of_getElem? (i := 10) rfl⟩
abbrev nw_cl : List vw_C := [(RX0, TX0, 3), (RX1, TX1, 6), (RX2, TX2, 9), (RX3, TX3, 3), (RX5, TX5, 6), (RX6, TX6, 6), (RX7, TX7, 3), (RX8, TX8, 7), (RX9, TX9, 13), (RX10, TX10, 29)]
/-- field k of the class of number ci, by entry i of own's table -/
def nw_fl (own : String) (i ci k : Nat) : Prop := ∃ (C : String) (T : u_T) (N : Nat), nw_cl[ci]? = some (C, T, N) ∧ k < N ∧ (T k).1 = C ∧ Cond.fieldLink own i C (T k).2.1 (T k).2.2.1 ∈ nw_gw
theorem fX7_11 : nw_fl RX7 11 6 0 := ⟨RX7, TX7, 3, rfl, by decide, rfl, tb_in (i := 30) (by decide +kernel)⟩
theorem fX7_15 : nw_fl RX7 15 6 1 := ⟨RX7, TX7, 3, rfl, by decide, rfl, tb_in (i := 31) (by decide +kernel)⟩
theorem fX7_20 : nw_fl RX7 20 6 2 := ⟨RX7, TX7, 3, rfl, by decide, rfl, tb_in (i := 32) (by decide +kernel)⟩
theorem fX6_9 : nw_fl RX6 9 5 0 := ⟨RX6, TX6, 6, rfl, by decide, rfl, tb_in (i := 47) (by decide +kernel)⟩
theorem fX6_13 : nw_fl RX6 13 5 1 := ⟨RX6, TX6, 6, rfl, by decide, rfl, tb_in (i := 48) (by decide +kernel)⟩
theorem fX9_332 : nw_fl RX9 332 5 1 := ⟨RX6, TX6, 6, rfl, by decide, rfl, tb_in (i := 49) (by decide +kernel)⟩
theorem fX6_24 : nw_fl RX6 24 5 2 := ⟨RX6, TX6, 6, rfl, by decide, rfl, tb_in (i := 50) (by decide +kernel)⟩
theorem fX6_21 : nw_fl RX6 21 5 3 := ⟨RX6, TX6, 6, rfl, by decide, rfl, tb_in (i := 51) (by decide +kernel)⟩
theorem fX6_68 : nw_fl RX6 68 5 4 := ⟨RX6, TX6, 6, rfl, by decide, rfl, tb_in (i := 52) (by decide +kernel)⟩
theorem fX6_74 : nw_fl RX6 74 5 5 := ⟨RX6, TX6, 6, rfl, by decide, rfl, tb_in (i := 53) (by decide +kernel)⟩
theorem fX2_22 : nw_fl RX2 22 2 0 := ⟨RX2, TX2, 9, rfl, by decide, rfl, tb_in (i := 73) (by decide +kernel)⟩
theorem fX6_71 : nw_fl RX6 71 2 0 := ⟨RX2, TX2, 9, rfl, by decide, rfl, tb_in (i := 74) (by decide +kernel)⟩
theorem fX2_26 : nw_fl RX2 26 2 1 := ⟨RX2, TX2, 9, rfl, by decide, rfl, tb_in (i := 75) (by decide +kernel)⟩
theorem fX6_77 : nw_fl RX6 77 2 1 := ⟨RX2, TX2, 9, rfl, by decide, rfl, tb_in (i := 76) (by decide +kernel)⟩
theorem fX2_29 : nw_fl RX2 29 2 2 := ⟨RX2, TX2, 9, rfl, by decide, rfl, tb_in (i := 77) (by decide +kernel)⟩
theorem fX6_27 : nw_fl RX6 27 2 2 := ⟨RX2, TX2, 9, rfl, by decide, rfl, tb_in (i := 78) (by decide +kernel)⟩
theorem fX9_153 : nw_fl RX9 153 2 2 := ⟨RX2, TX2, 9, rfl, by decide, rfl, tb_in (i := 79) (by decide +kernel)⟩
theorem fX5_29 : nw_fl RX5 29 2 3 := ⟨RX2, TX2, 9, rfl, by decide, rfl, tb_in (i := 80) (by decide +kernel)⟩
theorem fX2_32 : nw_fl RX2 32 2 3 := ⟨RX2, TX2, 9, rfl, by decide, rfl, tb_in (i := 81) (by decide +kernel)⟩
theorem fX8_58 : nw_fl RX8 58 2 3 := ⟨RX2, TX2, 9, rfl, by decide, rfl, tb_in (i := 82) (by decide +kernel)⟩
theorem fX6_32 : nw_fl RX6 32 2 3 := ⟨RX2, TX2, 9, rfl, by decide, rfl, tb_in (i := 83) (by decide +kernel)⟩
theorem fX9_274 : nw_fl RX9 274 2 3 := ⟨RX2, TX2, 9, rfl, by decide, rfl, tb_in (i := 84) (by decide +kernel)⟩
theorem fX2_35 : nw_fl RX2 35 2 4 := ⟨RX2, TX2, 9, rfl, by decide, rfl, tb_in (i := 85) (by decide +kernel)⟩
theorem fX5_64 : nw_fl RX5 64 2 4 := ⟨RX2, TX2, 9, rfl, by decide, rfl, tb_in (i := 86) (by decide +kernel)⟩
theorem fX8_73 : nw_fl RX8 73 2 4 := ⟨RX2, TX2, 9, rfl, by decide, rfl, tb_in (i := 87) (by decide +kernel)⟩
theorem fX6_35 : nw_fl RX6 35 2 4 := ⟨RX2, TX2, 9, rfl, by decide, rfl, tb_in (i := 88) (by decide +kernel)⟩
theorem fX9_250 : nw_fl RX9 250 2 4 := ⟨RX2, TX2, 9, rfl, by decide, rfl, tb_in (i := 89) (by decide +kernel)⟩
theorem fX2_9 : nw_fl RX2 9 2 5 := ⟨RX2, TX2, 9, rfl, by decide, rfl, tb_in (i := 90) (by decide +kernel)⟩
theorem fX1_17 : nw_fl RX1 17 2 5 := ⟨RX2, TX2, 9, rfl, by decide, rfl, tb_in (i := 91) (by decide +kernel)⟩
theorem fX6_92 : nw_fl RX6 92 2 5 := ⟨RX2, TX2, 9, rfl, by decide, rfl, tb_in (i := 92) (by decide +kernel)⟩
theorem fX9_230 : nw_fl RX9 230 2 5 := ⟨RX2, TX2, 9, rfl, by decide, rfl, tb_in (i := 93) (by decide +kernel)⟩
theorem fX2_13 : nw_fl RX2 13 2 6 := ⟨RX2, TX2, 9, rfl, by decide, rfl, tb_in (i := 94) (by decide +kernel)⟩
theorem fX1_25 : nw_fl RX1 25 2 6 := ⟨RX2, TX2, 9, rfl, by decide, rfl, tb_in (i := 95) (by decide +kernel)⟩
theorem fX6_95 : nw_fl RX6 95 2 6 := ⟨RX2, TX2, 9, rfl, by decide, rfl, tb_in (i := 96) (by decide +kernel)⟩
theorem fX9_221 : nw_fl RX9 221 2 6 := ⟨RX2, TX2, 9, rfl, by decide, rfl, tb_in (i := 97) (by decide +kernel)⟩
theorem fX2_16 : nw_fl RX2 16 2 7 := ⟨RX2, TX2, 9, rfl, by decide, rfl, tb_in (i := 98) (by decide +kernel)⟩
theorem fX6_101 : nw_fl RX6 101 2 7 := ⟨RX2, TX2, 9, rfl, by decide, rfl, tb_in (i := 99) (by decide +kernel)⟩
theorem fX9_208 : nw_fl RX9 208 2 7 := ⟨RX2, TX2, 9, rfl, by decide, rfl, tb_in (i := 100) (by decide +kernel)⟩
theorem fX2_19 : nw_fl RX2 19 2 8 := ⟨RX2, TX2, 9, rfl, by decide, rfl, tb_in (i := 101) (by decide +kernel)⟩
theorem fX5_87 : nw_fl RX5 87 2 8 := ⟨RX2, TX2, 9, rfl, by decide, rfl, tb_in (i := 102) (by decide +kernel)⟩
theorem fX8_76 : nw_fl RX8 76 2 8 := ⟨RX2, TX2, 9, rfl, by decide, rfl, tb_in (i := 103) (by decide +kernel)⟩
theorem fX6_107 : nw_fl RX6 107 2 8 := ⟨RX2, TX2, 9, rfl, by decide, rfl, tb_in (i := 104) (by decide +kernel)⟩
theorem fX9_199 : nw_fl RX9 199 2 8 := ⟨RX2, TX2, 9, rfl, by decide, rfl, tb_in (i := 105) (by decide +kernel)⟩
theorem fX8_33 : nw_fl RX8 33 7 0 := ⟨RX8, TX8, 7, rfl, by decide, rfl, tb_in (i := 131) (by decide +kernel)⟩
theorem fX5_38 : nw_fl RX5 38 7 0 := ⟨RX8, TX8, 7, rfl, by decide, rfl, tb_in (i := 132) (by decide +kernel)⟩
theorem fX9_157 : nw_fl RX9 157 7 0 := ⟨RX8, TX8, 7, rfl, by decide, rfl, tb_in (i := 133) (by decide +kernel)⟩
theorem fX8_9 : nw_fl RX8 9 7 1 := ⟨RX8, TX8, 7, rfl, by decide, rfl, tb_in (i := 134) (by decide +kernel)⟩
theorem fX5_49 : nw_fl RX5 49 7 1 := ⟨RX8, TX8, 7, rfl, by decide, rfl, tb_in (i := 135) (by decide +kernel)⟩
theorem fX9_174 : nw_fl RX9 174 7 1 := ⟨RX8, TX8, 7, rfl, by decide, rfl, tb_in (i := 136) (by decide +kernel)⟩
theorem fX8_17 : nw_fl RX8 17 7 2 := ⟨RX8, TX8, 7, rfl, by decide, rfl, tb_in (i := 137) (by decide +kernel)⟩
theorem fX5_33 : nw_fl RX5 33 7 2 := ⟨RX8, TX8, 7, rfl, by decide, rfl, tb_in (i := 138) (by decide +kernel)⟩
theorem fX6_104 : nw_fl RX6 104 7 2 := ⟨RX8, TX8, 7, rfl, by decide, rfl, tb_in (i := 139) (by decide +kernel)⟩
theorem fX9_211 : nw_fl RX9 211 7 2 := ⟨RX8, TX8, 7, rfl, by decide, rfl, tb_in (i := 140) (by decide +kernel)⟩
theorem fX8_21 : nw_fl RX8 21 7 3 := ⟨RX8, TX8, 7, rfl, by decide, rfl, tb_in (i := 141) (by decide +kernel)⟩
theorem fX9_183 : nw_fl RX9 183 7 3 := ⟨RX8, TX8, 7, rfl, by decide, rfl, tb_in (i := 142) (by decide +kernel)⟩
theorem fX8_24 : nw_fl RX8 24 7 4 := ⟨RX8, TX8, 7, rfl, by decide, rfl, tb_in (i := 143) (by decide +kernel)⟩
theorem fX5_81 : nw_fl RX5 81 7 4 := ⟨RX8, TX8, 7, rfl, by decide, rfl, tb_in (i := 144) (by decide +kernel)⟩
theorem fX6_110 : nw_fl RX6 110 7 4 := ⟨RX8, TX8, 7, rfl, by decide, rfl, tb_in (i := 145) (by decide +kernel)⟩
theorem fX9_190 : nw_fl RX9 190 7 4 := ⟨RX8, TX8, 7, rfl, by decide, rfl, tb_in (i := 146) (by decide +kernel)⟩
theorem fX8_27 : nw_fl RX8 27 7 5 := ⟨RX8, TX8, 7, rfl, by decide, rfl, tb_in (i := 147) (by decide +kernel)⟩
theorem fX9_202 : nw_fl RX9 202 7 5 := ⟨RX8, TX8, 7, rfl, by decide, rfl, tb_in (i := 148) (by decide +kernel)⟩
theorem fX8_30 : nw_fl RX8 30 7 6 := ⟨RX8, TX8, 7, rfl, by decide, rfl, tb_in (i := 149) (by decide +kernel)⟩
theorem fX9_205 : nw_fl RX9 205 7 6 := ⟨RX8, TX8, 7, rfl, by decide, rfl, tb_in (i := 150) (by decide +kernel)⟩
theorem fX0_11 : nw_fl RX0 11 0 0 := ⟨RX0, TX0, 3, rfl, by decide, rfl, tb_in (i := 175) (by decide +kernel)⟩
theorem fX0_16 : nw_fl RX0 16 0 1 := ⟨RX0, TX0, 3, rfl, by decide, rfl, tb_in (i := 176) (by decide +kernel)⟩
theorem fX0_24 : nw_fl RX0 24 0 2 := ⟨RX0, TX0, 3, rfl, by decide, rfl, tb_in (i := 177) (by decide +kernel)⟩
theorem fX9_193 : nw_fl RX9 193 0 2 := ⟨RX0, TX0, 3, rfl, by decide, rfl, tb_in (i := 178) (by decide +kernel)⟩
theorem fX5_11 : nw_fl RX5 11 4 0 := ⟨RX5, TX5, 6, rfl, by decide, rfl, tb_in (i := 193) (by decide +kernel)⟩
theorem fX5_16 : nw_fl RX5 16 4 1 := ⟨RX5, TX5, 6, rfl, by decide, rfl, tb_in (i := 194) (by decide +kernel)⟩
theorem fX5_20 : nw_fl RX5 20 4 2 := ⟨RX5, TX5, 6, rfl, by decide, rfl, tb_in (i := 195) (by decide +kernel)⟩
theorem fX5_23 : nw_fl RX5 23 4 3 := ⟨RX5, TX5, 6, rfl, by decide, rfl, tb_in (i := 196) (by decide +kernel)⟩
theorem fX5_26 : nw_fl RX5 26 4 4 := ⟨RX5, TX5, 6, rfl, by decide, rfl, tb_in (i := 197) (by decide +kernel)⟩
theorem fX9_261 : nw_fl RX9 261 4 4 := ⟨RX5, TX5, 6, rfl, by decide, rfl, tb_in (i := 198) (by decide +kernel)⟩
theorem fX5_61 : nw_fl RX5 61 4 5 := ⟨RX5, TX5, 6, rfl, by decide, rfl, tb_in (i := 199) (by decide +kernel)⟩
theorem fX9_264 : nw_fl RX9 264 4 5 := ⟨RX5, TX5, 6, rfl, by decide, rfl, tb_in (i := 200) (by decide +kernel)⟩
theorem fX1_9 : nw_fl RX1 9 1 0 := ⟨RX1, TX1, 6, rfl, by decide, rfl, tb_in (i := 220) (by decide +kernel)⟩
theorem fX9_326 : nw_fl RX9 326 1 0 := ⟨RX1, TX1, 6, rfl, by decide, rfl, tb_in (i := 221) (by decide +kernel)⟩
theorem fX1_13 : nw_fl RX1 13 1 1 := ⟨RX1, TX1, 6, rfl, by decide, rfl, tb_in (i := 222) (by decide +kernel)⟩
theorem fX9_323 : nw_fl RX9 323 1 1 := ⟨RX1, TX1, 6, rfl, by decide, rfl, tb_in (i := 223) (by decide +kernel)⟩
theorem fX1_22 : nw_fl RX1 22 1 2 := ⟨RX1, TX1, 6, rfl, by decide, rfl, tb_in (i := 224) (by decide +kernel)⟩
theorem fX1_28 : nw_fl RX1 28 1 3 := ⟨RX1, TX1, 6, rfl, by decide, rfl, tb_in (i := 225) (by decide +kernel)⟩
theorem fX1_35 : nw_fl RX1 35 1 4 := ⟨RX1, TX1, 6, rfl, by decide, rfl, tb_in (i := 226) (by decide +kernel)⟩
theorem fX1_38 : nw_fl RX1 38 1 5 := ⟨RX1, TX1, 6, rfl, by decide, rfl, tb_in (i := 227) (by decide +kernel)⟩
theorem fX3_10 : nw_fl RX3 10 3 0 := ⟨RX3, TX3, 3, rfl, by decide, rfl, tb_in (i := 252) (by decide +kernel)⟩
theorem fX9_308 : nw_fl RX9 308 3 0 := ⟨RX3, TX3, 3, rfl, by decide, rfl, tb_in (i := 253) (by decide +kernel)⟩
theorem fX3_19 : nw_fl RX3 19 3 1 := ⟨RX3, TX3, 3, rfl, by decide, rfl, tb_in (i := 254) (by decide +kernel)⟩
theorem fX9_309 : nw_fl RX9 309 3 1 := ⟨RX3, TX3, 3, rfl, by decide, rfl, tb_in (i := 255) (by decide +kernel)⟩
theorem fX3_30 : nw_fl RX3 30 3 2 := ⟨RX3, TX3, 3, rfl, by decide, rfl, tb_in (i := 256) (by decide +kernel)⟩
theorem fX9_305 : nw_fl RX9 305 3 2 := ⟨RX3, TX3, 3, rfl, by decide, rfl, tb_in (i := 257) (by decide +kernel)⟩
theorem fX9_10 : nw_fl RX9 10 8 0 := ⟨RX9, TX9, 13, rfl, by decide, rfl, tb_in (i := 265) (by decide +kernel)⟩
theorem fX9_19 : nw_fl RX9 19 8 1 := ⟨RX9, TX9, 13, rfl, by decide, rfl, tb_in (i := 266) (by decide +kernel)⟩
theorem fX9_26 : nw_fl RX9 26 8 2 := ⟨RX9, TX9, 13, rfl, by decide, rfl, tb_in (i := 267) (by decide +kernel)⟩
theorem fX9_30 : nw_fl RX9 30 8 3 := ⟨RX9, TX9, 13, rfl, by decide, rfl, tb_in (i := 268) (by decide +kernel)⟩
theorem fX9_36 : nw_fl RX9 36 8 4 := ⟨RX9, TX9, 13, rfl, by decide, rfl, tb_in (i := 269) (by decide +kernel)⟩
theorem fX9_40 : nw_fl RX9 40 8 5 := ⟨RX9, TX9, 13, rfl, by decide, rfl, tb_in (i := 270) (by decide +kernel)⟩
theorem fX9_46 : nw_fl RX9 46 8 6 := ⟨RX9, TX9, 13, rfl, by decide, rfl, tb_in (i := 271) (by decide +kernel)⟩
theorem fX9_53 : nw_fl RX9 53 8 7 := ⟨RX9, TX9, 13, rfl, by decide, rfl, tb_in (i := 272) (by decide +kernel)⟩
theorem fX9_60 : nw_fl RX9 60 8 8 := ⟨RX9, TX9, 13, rfl, by decide, rfl, tb_in (i := 273) (by decide +kernel)⟩
theorem fX9_66 : nw_fl RX9 66 8 9 := ⟨RX9, TX9, 13, rfl, by decide, rfl, tb_in (i := 274) (by decide +kernel)⟩
theorem fX9_149 : nw_fl RX9 149 8 10 := ⟨RX9, TX9, 13, rfl, by decide, rfl, tb_in (i := 275) (by decide +kernel)⟩
theorem fX9_131 : nw_fl RX9 131 8 11 := ⟨RX9, TX9, 13, rfl, by decide, rfl, tb_in (i := 276) (by decide +kernel)⟩
theorem fX9_335 : nw_fl RX9 335 8 12 := ⟨RX9, TX9, 13, rfl, by decide, rfl, tb_in (i := 277) (by decide +kernel)⟩
theorem fX10_7 : nw_fl RX10 7 9 0 := ⟨RX10, TX10, 29, rfl, by decide, rfl, tb_in (i := 805) (by decide +kernel)⟩
theorem fX10_13 : nw_fl RX10 13 9 1 := ⟨RX10, TX10, 29, rfl, by decide, rfl, tb_in (i := 806) (by decide +kernel)⟩
theorem fX10_16 : nw_fl RX10 16 9 2 := ⟨RX10, TX10, 29, rfl, by decide, rfl, tb_in (i := 807) (by decide +kernel)⟩
theorem fX10_68 : nw_fl RX10 68 9 3 := ⟨RX10, TX10, 29, rfl, by decide, rfl, tb_in (i := 808) (by decide +kernel)⟩
theorem fX10_19 : nw_fl RX10 19 9 4 := ⟨RX10, TX10, 29, rfl, by decide, rfl, tb_in (i := 809) (by decide +kernel)⟩
theorem fX10_22 : nw_fl RX10 22 9 5 := ⟨RX10, TX10, 29, rfl, by decide, rfl, tb_in (i := 810) (by decide +kernel)⟩
theorem fX10_89 : nw_fl RX10 89 9 6 := ⟨RX10, TX10, 29, rfl, by decide, rfl, tb_in (i := 811) (by decide +kernel)⟩
theorem fX10_161 : nw_fl RX10 161 9 7 := ⟨RX10, TX10, 29, rfl, by decide, rfl, tb_in (i := 812) (by decide +kernel)⟩
theorem fX10_25 : nw_fl RX10 25 9 8 := ⟨RX10, TX10, 29, rfl, by decide, rfl, tb_in (i := 813) (by decide +kernel)⟩
theorem fX10_28 : nw_fl RX10 28 9 9 := ⟨RX10, TX10, 29, rfl, by decide, rfl, tb_in (i := 814) (by decide +kernel)⟩
theorem fX10_31 : nw_fl RX10 31 9 10 := ⟨RX10, TX10, 29, rfl, by decide, rfl, tb_in (i := 815) (by decide +kernel)⟩
theorem fX10_34 : nw_fl RX10 34 9 11 := ⟨RX10, TX10, 29, rfl, by decide, rfl, tb_in (i := 816) (by decide +kernel)⟩
theorem fX10_37 : nw_fl RX10 37 9 12 := ⟨RX10, TX10, 29, rfl, by decide, rfl, tb_in (i := 817) (by decide +kernel)⟩
theorem fX10_41 : nw_fl RX10 41 9 13 := ⟨RX10, TX10, 29, rfl, by decide, rfl, tb_in (i := 818) (by decide +kernel)⟩
theorem fX10_166 : nw_fl RX10 166 9 14 := ⟨RX10, TX10, 29, rfl, by decide, rfl, tb_in (i := 819) (by decide +kernel)⟩
theorem fX10_93 : nw_fl RX10 93 9 15 := ⟨RX10, TX10, 29, rfl, by decide, rfl, tb_in (i := 820) (by decide +kernel)⟩
theorem fX10_100 : nw_fl RX10 100 9 16 := ⟨RX10, TX10, 29, rfl, by decide, rfl, tb_in (i := 821) (by decide +kernel)⟩
theorem fX10_103 : nw_fl RX10 103 9 17 := ⟨RX10, TX10, 29, rfl, by decide, rfl, tb_in (i := 822) (by decide +kernel)⟩
theorem fX10_106 : nw_fl RX10 106 9 18 := ⟨RX10, TX10, 29, rfl, by decide, rfl, tb_in (i := 823) (by decide +kernel)⟩
theorem fX10_117 : nw_fl RX10 117 9 19 := ⟨RX10, TX10, 29, rfl, by decide, rfl, tb_in (i := 824) (by decide +kernel)⟩
theorem fX10_123 : nw_fl RX10 123 9 20 := ⟨RX10, TX10, 29, rfl, by decide, rfl, tb_in (i := 825) (by decide +kernel)⟩
theorem fX10_136 : nw_fl RX10 136 9 21 := ⟨RX10, TX10, 29, rfl, by decide, rfl, tb_in (i := 826) (by decide +kernel)⟩
theorem fX10_44 : nw_fl RX10 44 9 22 := ⟨RX10, TX10, 29, rfl, by decide, rfl, tb_in (i := 827) (by decide +kernel)⟩
theorem fX10_47 : nw_fl RX10 47 9 23 := ⟨RX10, TX10, 29, rfl, by decide, rfl, tb_in (i := 828) (by decide +kernel)⟩
theorem fX10_50 : nw_fl RX10 50 9 24 := ⟨RX10, TX10, 29, rfl, by decide, rfl, tb_in (i := 829) (by decide +kernel)⟩
theorem fX10_53 : nw_fl RX10 53 9 25 := ⟨RX10, TX10, 29, rfl, by decide, rfl, tb_in (i := 830) (by decide +kernel)⟩
theorem fX10_56 : nw_fl RX10 56 9 26 := ⟨RX10, TX10, 29, rfl, by decide, rfl, tb_in (i := 831) (by decide +kernel)⟩
theorem fX10_59 : nw_fl RX10 59 9 27 := ⟨RX10, TX10, 29, rfl, by decide, rfl, tb_in (i := 832) (by decide +kernel)⟩
theorem fX10_277 : nw_fl RX10 277 9 28 := ⟨RX10, TX10, 29, rfl, by decide, rfl, tb_in (i := 833) (by decide +kernel)⟩
theorem qX9_79 : Cond.constant RX9 79 (-1000001) ∈ nw_gw := tb_in (i := 316) (by decide +kernel)
theorem qX9_338 : Cond.constant RX9 338 (-1000010) ∈ nw_gw := tb_in (i := 321) (by decide +kernel)
theorem qX9_116 : Cond.constant RX9 116 (-1000003) ∈ nw_gw := tb_in (i := 377) (by decide +kernel)
theorem qX8_36 : Cond.constant RX8 36 (-1000000) ∈ nw_gw := tb_in (i := 395) (by decide +kernel)
theorem qX9_135 : Cond.constant RX9 135 (-1000100) ∈ nw_gw := tb_in (i := 450) (by decide +kernel)
theorem qX9_156 : Cond.constant RX9 156 (-1000002) ∈ nw_gw := tb_in (i := 477) (by decide +kernel)
theorem qX9_249 : Cond.constant RX9 249 (-1000000) ∈ nw_gw := tb_in (i := 630) (by decide +kernel)
theorem qX7_33 : Cond.constant RX7 33 (-1000000) ∈ nw_gw := tb_in (i := 706) (by decide +kernel)
theorem qX9_284 : Cond.constant RX9 284 (999999) ∈ nw_gw := tb_in (i := 716) (by decide +kernel)
theorem qX10_79 : Cond.constant RX10 79 (-1000001) ∈ nw_gw := tb_in (i := 906) (by decide +kernel)
theorem qX10_72 : Cond.constant RX10 72 (-1000010) ∈ nw_gw := tb_in (i := 911) (by decide +kernel)
theorem qX10_92 : Cond.constant RX10 92 (-1000003) ∈ nw_gw := tb_in (i := 933) (by decide +kernel)
theorem qX10_164 : Cond.constant RX10 164 (-1000100) ∈ nw_gw := tb_in (i := 989) (by decide +kernel)
theorem qX10_165 : Cond.constant RX10 165 (-1000000) ∈ nw_gw := tb_in (i := 990) (by decide +kernel)
theorem qX10_199 : Cond.constant RX10 199 (-1000002) ∈ nw_gw := tb_in (i := 1003) (by decide +kernel)
theorem qX9_285 : Cond.constantLong RX9 285 (16807) ∈ nw_gw := tb_in (i := 717) (by decide +kernel)
theorem qX9_287 : Cond.constantLong RX9 287 (2147483647) ∈ nw_gw := tb_in (i := 718) (by decide +kernel)
theorem qX9_289 : Cond.constantLong RX9 289 (5) ∈ nw_gw := tb_in (i := 719) (by decide +kernel)
theorem qX9_291 : Cond.constantLong RX9 291 (31) ∈ nw_gw := tb_in (i := 720) (by decide +kernel)
theorem qX10_62 : Cond.constantLong RX10 62 (7) ∈ nw_gw := tb_in (i := 901) (by decide +kernel)
theorem qX10_77 : Cond.constantLong RX10 77 (2) ∈ nw_gw := tb_in (i := 905) (by decide +kernel)
theorem qX10_87 : Cond.constantLong RX10 87 (255) ∈ nw_gw := tb_in (i := 932) (by decide +kernel)
theorem qX10_96 : Cond.constantLong RX10 96 (48) ∈ nw_gw := tb_in (i := 950) (by decide +kernel)
theorem qX10_98 : Cond.constantLong RX10 98 (57) ∈ nw_gw := tb_in (i := 951) (by decide +kernel)
theorem qX10_113 : Cond.constantLong RX10 113 (97) ∈ nw_gw := tb_in (i := 952) (by decide +kernel)
theorem qX10_115 : Cond.constantLong RX10 115 (122) ∈ nw_gw := tb_in (i := 953) (by decide +kernel)
theorem qX10_200 : Cond.constantLong RX10 200 (24) ∈ nw_gw := tb_in (i := 1004) (by decide +kernel)
theorem qX10_215 : Cond.constantLong RX10 215 (-9) ∈ nw_gw := tb_in (i := 1053) (by decide +kernel)
theorem qX10_217 : Cond.constantLong RX10 217 (9) ∈ nw_gw := tb_in (i := 1054) (by decide +kernel)
theorem qX10_219 : Cond.constantLong RX10 219 (12) ∈ nw_gw := tb_in (i := 1059) (by decide +kernel)
theorem qX10_227 : Cond.constantLong RX10 227 (4) ∈ nw_gw := tb_in (i := 1084) (by decide +kernel)
theorem qX10_229 : Cond.constantLong RX10 229 (1199) ∈ nw_gw := tb_in (i := 1093) (by decide +kernel)
theorem qX10_231 : Cond.constantLong RX10 231 (3) ∈ nw_gw := tb_in (i := 1094) (by decide +kernel)
theorem qX10_236 : Cond.constantLong RX10 236 (200) ∈ nw_gw := tb_in (i := 1103) (by decide +kernel)
theorem qX10_241 : Cond.constantLong RX10 241 (100) ∈ nw_gw := tb_in (i := 1128) (by decide +kernel)
theorem qX10_243 : Cond.constantLong RX10 243 (60) ∈ nw_gw := tb_in (i := 1133) (by decide +kernel)
theorem qX10_245 : Cond.constantLong RX10 245 (-1) ∈ nw_gw := tb_in (i := 1134) (by decide +kernel)
theorem qX10_254 : Cond.constantLong RX10 254 (20) ∈ nw_gw := tb_in (i := 1163) (by decide +kernel)
theorem qX10_256 : Cond.constantLong RX10 256 (399) ∈ nw_gw := tb_in (i := 1164) (by decide +kernel)
theorem qX10_262 : Cond.constantLong RX10 262 (99) ∈ nw_gw := tb_in (i := 1173) (by decide +kernel)
theorem qX10_264 : Cond.constantLong RX10 264 (999999) ∈ nw_gw := tb_in (i := 1178) (by decide +kernel)
theorem qX10_266 : Cond.constantLong RX10 266 (16807) ∈ nw_gw := tb_in (i := 1179) (by decide +kernel)
theorem qX10_268 : Cond.constantLong RX10 268 (2147483647) ∈ nw_gw := tb_in (i := 1180) (by decide +kernel)
theorem qX10_270 : Cond.constantLong RX10 270 (5) ∈ nw_gw := tb_in (i := 1181) (by decide +kernel)
theorem qX10_272 : Cond.constantLong RX10 272 (31) ∈ nw_gw := tb_in (i := 1182) (by decide +kernel)
theorem qX10_292 : Cond.constantLong RX10 292 (8) ∈ nw_gw := tb_in (i := 1231) (by decide +kernel)
end
section
/-! A light judgement over the kit's W: the cells that the law makes lie at first + k, in the order of their making; their shapes are a list, all their ints one function of cell and place. -/
abbrev nw_Sh : Type := (Nat × Nat) ⊕ (Nat × List (Option (Option Nat)))
abbrev nw_Me : Type := Nat → Nat → Int32
/-- classes and slots; classes of arrays; first address; the script's, NEXT's, TOLD's address; the script's length; the script -/
abbrev nw_G : Type := va_G × (Nat → ClassId) × Nat × Nat × Nat × Nat × Nat × (Nat → Int32)
abbrev nw_D (g : nw_G) : va_G := g.1
abbrev nw_ca (g : nw_G) : Nat → ClassId := g.2.1
abbrev nw_b (g : nw_G) : Nat := g.2.2.1
abbrev nw_sc (g : nw_G) : Nat := g.2.2.2.1
abbrev nw_nx (g : nw_G) : Nat := g.2.2.2.2.1
abbrev nw_td (g : nw_G) : Nat := g.2.2.2.2.2.1
abbrev nw_L (g : nw_G) : Nat := g.2.2.2.2.2.2.1
abbrev nw_xs (g : nw_G) : Nat → Int32 := g.2.2.2.2.2.2.2
def nw_a (g : nw_G) (k : Nat) : Nat := nw_b g + k
def nw_A (g : nw_G) : Nat → Prop := fun q => nw_b g ≤ q
abbrev nw_ty (g : nw_G) : List (ClassId × FieldType) := [(nw_ca g 0, .int), (nw_ca g 1, .boolean), (nw_ca g 2, .object "NinthWave$Scene"), (nw_ca g 3, .object "NinthWave$Image"), (nw_ca g 4, .array .int)]
def nw_fv (g : nw_G) (I : nw_Me) (k i : Nat) (o : Option (Option Nat)) : Value := match o with
  | none => .int (I k i)
  | some none => .null
  | some (some j) => .ref (nw_a g j)
def nw_fs (g : nw_G) (I : nw_Me) (k : Nat) : Nat → List (Option (Option Nat)) → List Value
  | _, [] => []
  | i, o :: r => nw_fv g I k i o :: nw_fs g I k (i + 1) r
def nw_rf (g : nw_G) (fs : List (Option (Option Nat))) (i : Nat) : Option Nat := match fs[i]? with
  | some (some (some j)) => some (nw_a g j)
  | _ => none
def nw_e (g : nw_G) (I : nw_Me) (k : Nat) (c : nw_Sh) : va_E := match c with
  | .inl (t, n) => .inl (nw_ca g t, n, .inl (I k))
  | .inr (ci, fs) => if ci < 100 then .inr (ci, nw_fs g I k 0 fs) else .inl (nw_ca g (ci - 100), fs.length, .inr (.inr (.inr (.inr (nw_rf g fs)))))
def nw_NEXT : Nat → Int32 := fun k => ([-1, 0, 1, 1, 0, 4] : List Int32).getD k 0
def nw_TOLD : Nat → Int32 := fun k => ([10, 11, 12, 0, 13, 14, 20, 21, 24, 22, 23, 0] : List Int32).getD k 0
/-- the machine and the method -/
def nw_Cx (p : Program) (R : Room) (s : State) (m : MethodId) (args : Array Value) (meth : Method) (c : Code) (d : Nat) (M : nw_Mt) : Prop :=
  p.tables.exec = Jvm.exec ∧ c.code = M.2.1 ∧ c.maxLocals = M.2.2.1 ∧ s.vm.findClass M.1.cls = some m.cls ∧ (∀ w ∈ nw_gw, w.before args s = true) ∧ meth.name = M.1.name ∧ d + 1 ≤ R.frames ∧ 60 * (d + 1) ≤ R.locals
def nw_AA (U : State) : Prop := (Cond.arrayOver (.array .int)).before #[] U = true
theorem nw_AA_spec {args : Array Value} {s : State} (h : (Cond.arrayOver (.array .int)).before args s = true) :
    ∃ comp c k, s.vm.findClass (FieldType.array .int).toString = some comp ∧ (s.vm.classes.findIdx? fun x => match x.kind with | .array component _ => component == comp | _ => false) = some c ∧ s.vm.classes[c]? = some k ∧ k.kind = .array comp (.array .int) ∧
      s.vm.findClass ("[" ++ (FieldType.array .int).toString) = some c := by
  simp only [Cond.before, Cond.holds, Cond.value, beq_iff_eq] at h
  cases hc : s.vm.findClass (FieldType.array .int).toString with
  | none => simp [hc] at h
  | some comp =>
    simp only [hc, Option.bind_some, Option.bind_eq_some_iff, Option.map_eq_some_iff] at h
    obtain ⟨c, hi, k, hk, hb⟩ := h
    obtain ⟨hlt, hp, -⟩ := Array.findIdx?_eq_some_iff_getElem.mp hi
    have hkk : s.vm.classes[c] = k := (Array.getElem?_eq_some_iff.mp hk).2
    rw [hkk] at hp
    cases hkind : k.kind with
    | array component ty =>
      rw [hkind] at hb hp
      simp at hb hp
      exact ⟨comp, c, k, rfl, hi, hk, by rw [hkind, hp, hb.1], hb.2⟩
    | _ => rw [hkind] at hb; simp at hb
theorem nw_AA.moved {u U : State} (hvm : u.vm.Alike U.vm) (h : nw_AA u) : nw_AA U := by
  obtain ⟨comp, c, k, h1, h2, h3, h4, h5⟩ := nw_AA_spec h
  obtain ⟨k', hk', he⟩ := hvm.2.2 _ _ h3
  have hi : (U.vm.classes.findIdx? fun (x : Class) => match x.kind with | .array component _ => component == comp | _ => false) = some c := by
    have e1 := va_idx_bare u.vm comp
    have e2 := va_idx_bare U.vm comp
    have e3 : u.vm.bare = U.vm.bare := by first | exact hvm.bare_eq | exact hvm.bare_eq.symm
    rw [e3] at e1
    exact (e2.symm.trans e1).trans h2
  have hkind : k'.kind = .array comp (.array .int) := by rw [he]; exact h4
  have f1 : U.vm.findClass (FieldType.array .int).toString = some comp := by rw [hvm.findClass]; exact h1
  have f2 : U.vm.findClass ("[" ++ (FieldType.array .int).toString) = some c := by rw [hvm.findClass]; exact h5
  unfold nw_AA Cond.before Cond.holds
  simp only [Cond.value]
  rw [f1, Option.bind_some]
  refine (congrArg (fun o : Option Nat => (o.bind (fun c => (U.vm.classes[c]?).map fun (k : Class) => match k.kind with | .array _ ty => decide (ty = FieldType.array .int) && decide (U.vm.findClass ("[" ++ (FieldType.array .int).toString) = some c) | _ => false) == some true)) hi).trans ?_
  simp [hk', hkind, f2]
theorem nw_ne_nest : ∀ w ∈ nw_ne, ∃ a i x h, w = Cond.methodLinkNest a i x h := by
  intro w hw
  simp only [nw_ne, List.mem_cons, List.not_mem_nil, or_false] at hw
  rcases hw with rfl | rfl | rfl | rfl | rfl | rfl | rfl | rfl | rfl | rfl | rfl <;> exact ⟨_, _, _, _, rfl⟩
/-- what stands at the method's start -/
def nw_Ws (g : nw_G) (s : State) : Prop := nw_b g ≤ s.heap.size ∧ va_K (nw_D g) nw_cl (nw_ty g) s ∧ va_X (nw_sc g) (nw_L g) (nw_xs g) s s.heap ∧ va_X (nw_nx g) 6 nw_NEXT s s.heap ∧ va_X (nw_td g) 12 nw_TOLD s s.heap ∧
  va_Z RX4 "NEXT" "[I" (.ref (nw_nx g)) (nw_A g) s s.heap ∧ va_Z RX1 "TOLD" "[I" (.ref (nw_td g)) (nw_A g) s s.heap ∧ nw_sc g < nw_b g ∧ nw_nx g < nw_b g ∧ nw_td g < nw_b g ∧ (∀ w ∈ nw_ne, va_Nw w s) ∧ va_AO "NinthWave$Scene" s ∧ va_AO "NinthWave$Image" s ∧ nw_AA s
/-- the heap holds the cells -/
def nw_Wh (g : nw_G) (sh : List nw_Sh) (I : nw_Me) (H : Heap) : Prop := H.size = nw_b g + sh.length ∧ ∀ (k : Nat) (c : nw_Sh), sh[k]? = some c → va_at (nw_D g) nw_cl (nw_a g k, nw_e g I k c) H
def nw_Lr (ls : List (Option Value)) (la : Array Slot) (n : Nat) : Prop := la.size = n ∧ lv_wf la ∧ ∀ (i : Nat) (v : Value), ls[i]? = some (some v) → la[i]? = some (.val v)
def nw_Rt (p : Program) (l : Launch) (e : Env) (R : Room) (s : State) (m : MethodId) (args : Array Value) (below : List Frame) (meth : Method) (c : Code) (H : Heap) (locs : List Loc) (cells slots : Nat) (Q : State → Prop) (M : nw_Mt) (v : Option Int32) : Prop := match v with
  | some x => ∀ (pc : Nat) (la : Array Slot), decode M.2.1 pc = .ok (.ireturn, 1) → W p l e R s m args below meth c H locs cells slots Q (F0 m pc la [.int x])
  | none => ∀ (pc : Nat) (la : Array Slot), decode M.2.1 pc = .ok (.return_, 1) → W p l e R s m args below meth c H locs cells slots Q (F0 m pc la [])
/-- from this frame and these cells the method returns, with Post; it makes kc cells of ks slots -/
def nw_Ev (l : Launch) (g : nw_G) (d : Nat) (M : nw_Mt) (pc : Nat) (ls : List (Option Value)) (st : List Value) (sh : List nw_Sh) (I : nw_Me) (kc ks : Nat) (Post : Option Int32 → List nw_Sh → nw_Me → Prop) : Prop :=
  ∀ (p : Program) (e : Env) (R : Room) (s : State) (m : MethodId) (args : Array Value) (below : List Frame) (meth : Method) (c : Code) (H : Heap) (locs : List Loc) (cells slots : Nat) (Q : State → Prop) (la : Array Slot),
    nw_Cx p R s m args meth c d M → nw_Ws g s → nw_Wh g sh I H → va_S (nw_A g) s.heap H locs → nw_Lr ls la M.2.2.1 → cells + kc ≤ R.cells → slots + ks ≤ R.slots →
    (∀ (v : Option Int32) (sh' : List nw_Sh) (I' : nw_Me) (H' : Heap) (locs' : List Loc), Post v sh' I' → nw_Wh g sh' I' H' → va_S (nw_A g) s.heap H' locs' → nw_Rt p l e R s m args below meth c H' locs' (cells + kc) (slots + ks) Q M v) →
    W p l e R s m args below meth c H locs cells slots Q (F0 m pc la st)
/-- a method from its entry -/
def nw_lo (vs : List Value) : List (Option Value) := vs.flatMap fun v => if v.category = 2 then [some v, none] else [some v]
def nw_in (M : nw_Mt) (vs : List Value) : List (Option Value) := nw_lo vs ++ List.replicate (M.2.2.1 - (nw_lo vs).length) none
def nw_EM (l : Launch) (g : nw_G) (d : Nat) (M : nw_Mt) (av : List Value) (sh : List nw_Sh) (I : nw_Me) (kc ks : Nat) (Post : Option Int32 → List nw_Sh → nw_Me → Prop) : Prop := nw_Ev l g d M 0 (nw_in M av) [] sh I kc ks Post
-- locals
def nw_al : Nat → List (Option Value) → List (Nat × Value)
  | _, [] => []
  | i, some v :: r => (i, v) :: nw_al (i + 1) r
  | i, none :: r => nw_al (i + 1) r
theorem nw_al_mem : ∀ (ls : List (Option Value)) (i j : Nat) (v : Value), (j, v) ∈ nw_al i ls ↔ ∃ k, j = i + k ∧ ls[k]? = some (some v) := by
  intro ls
  induction ls with
  | nil => intro i j v; simp [nw_al]
  | cons a r ih =>
    intro i j v
    cases a with
    | none =>
      simp only [nw_al, ih]
      constructor
      · rintro ⟨k, rfl, h⟩
        exact ⟨k + 1, by omega, by simpa using h⟩
      · rintro ⟨k, rfl, h⟩
        cases k with
        | zero => simp at h
        | succ k => exact ⟨k, by omega, by simpa using h⟩
    | some w =>
      simp only [nw_al, List.mem_cons, ih, Prod.mk.injEq]
      constructor
      · rintro (⟨rfl, rfl⟩ | ⟨k, rfl, h⟩)
        · exact ⟨0, by omega, by simp⟩
        · exact ⟨k + 1, by omega, by simpa using h⟩
      · rintro ⟨k, rfl, h⟩
        cases k with
        | zero => left; simp at h; exact ⟨by omega, h.symm⟩
        | succ k => right; exact ⟨k, by omega, by simpa using h⟩
theorem nw_al_has {ls : List (Option Value)} {la : Array Slot} {n : Nat} (h : nw_Lr ls la n) : lv_has la n (nw_al 0 ls) := by
  refine ⟨h.1, h.2.1, fun q hq => ?_⟩
  obtain ⟨j, v⟩ := q
  obtain ⟨k, hk, hv⟩ := (nw_al_mem ls 0 j v).mp hq
  rw [show j = k by omega]
  exact h.2.2 k v hv
def nw_nl (ls : List (Option Value)) (i : Nat) : Bool := match i with
  | 0 => true
  | i + 1 => match ls[i]? with
    | some (some v) => !(v.category == 2)
    | _ => true
theorem nw_put1 {ls : List (Option Value)} {la : Array Slot} {n i : Nat} {v : Value} (hn : nw_nl ls i = true) (h : lv_has la n ((i, v) :: (nw_al 0 ls).filter (fun q => !(q.1 == i) && !(q.1 + 1 == i && q.2.category == 2)))) : nw_Lr (ls.set i (some v)) la n := by
  refine ⟨h.1, h.2.1, fun j w hw => ?_⟩
  rw [List.getElem?_set] at hw
  by_cases hj : i = j
  · subst hj
    rw [if_pos rfl] at hw
    split at hw
    · cases hw
      exact h.2.2 (i, v) List.mem_cons_self
    · cases hw
  · rw [if_neg hj] at hw
    refine h.2.2 (j, w) (List.mem_cons_of_mem _ (List.mem_filter.mpr ⟨(nw_al_mem ls 0 j w).mpr ⟨j, by omega, hw⟩, ?_⟩))
    have h1 : (j == i) = false := by simpa using fun e => hj e.symm
    simp only [h1, Bool.not_false, Bool.true_and]
    cases hb : (j + 1 == i && w.category == 2) with
    | false => rfl
    | true =>
      exfalso
      simp only [Bool.and_eq_true, beq_iff_eq] at hb
      obtain ⟨e, hc⟩ := hb
      subst e
      simp [nw_nl, hw, hc] at hn
theorem nw_put2 {ls : List (Option Value)} {la : Array Slot} {n i : Nat} {v : Value} (hn : nw_nl ls i = true) (h : lv_has la n ((i, v) :: (nw_al 0 ls).filter (fun q => !(q.1 == i) && (!(q.1 == i + 1) && !(q.1 + 1 == i && q.2.category == 2))))) : nw_Lr ((ls.set i (some v)).set (i + 1) none) la n := by
  refine ⟨h.1, h.2.1, fun j w hw => ?_⟩
  rw [List.getElem?_set] at hw
  by_cases hj1 : i + 1 = j
  · rw [if_pos hj1] at hw
    split at hw <;> cases hw
  · rw [if_neg hj1, List.getElem?_set] at hw
    by_cases hj : i = j
    · subst hj
      rw [if_pos rfl] at hw
      split at hw
      · cases hw
        exact h.2.2 (i, v) List.mem_cons_self
      · cases hw
    · rw [if_neg hj] at hw
      refine h.2.2 (j, w) (List.mem_cons_of_mem _ (List.mem_filter.mpr ⟨(nw_al_mem ls 0 j w).mpr ⟨j, by omega, hw⟩, ?_⟩))
      have h1 : (j == i) = false := by simpa using fun e => hj e.symm
      have h2 : (j == i + 1) = false := by simpa using fun e => hj1 e.symm
      simp only [h1, h2, Bool.not_false, Bool.true_and]
      cases hb : (j + 1 == i && w.category == 2) with
      | false => rfl
      | true =>
        exfalso
        simp only [Bool.and_eq_true, beq_iff_eq] at hb
        obtain ⟨e, hc⟩ := hb
        subst e
        simp [nw_nl, hw, hc] at hn
theorem nw_lo_args : ∀ (vs : List Value) (i j : Nat) (v : Value), (nw_lo vs)[j]? = some (some v) → (i + j, v) ∈ lv_args i vs := by
  intro vs
  induction vs with
  | nil => intro i j v h; simp [nw_lo] at h
  | cons a r ih =>
    intro i j v h
    have e : nw_lo (a :: r) = (if a.category = 2 then [some a, none] else [some a]) ++ nw_lo r := rfl
    rw [e] at h
    unfold lv_args
    by_cases hc : a.category = 2
    · rw [if_pos hc] at h ⊢
      match j, h with
      | 0, h => simp at h; subst h; exact List.mem_cons_self
      | 1, h => simp at h
      | j + 2, h =>
        have := ih (i + 2) j v (by simpa using h)
        rw [show i + (j + 2) = i + 2 + j by omega]
        exact List.mem_cons_of_mem _ this
    · rw [if_neg hc] at h ⊢
      match j, h with
      | 0, h => simp at h; subst h; exact List.mem_cons_self
      | j + 1, h =>
        have := ih (i + 1) j v (by simpa using h)
        rw [show i + (j + 1) = i + 1 + j by omega]
        exact List.mem_cons_of_mem _ this
theorem nw_lo_len (vs : List Value) : (nw_lo vs).length = (lg_sl vs).length := by
  induction vs with
  | nil => rfl
  | cons a r ih =>
    have e1 : nw_lo (a :: r) = (if a.category = 2 then [some a, none] else [some a]) ++ nw_lo r := rfl
    have e2 : lg_sl (a :: r) = (if a.category = 2 then [.val a, .second] else [.val a]) ++ lg_sl r := rfl
    rw [e1, e2, List.length_append, List.length_append, ih]
    by_cases hc : a.category = 2
    · simp [hc]
    · simp [hc]
theorem nw_entry (M : nw_Mt) (vs : List Value) (h : (nw_lo vs).length ≤ M.2.2.1) : nw_Lr (nw_in M vs) ((lg_sl vs ++ List.replicate (M.2.2.1 - (lg_sl vs).length) Slot.unset).toArray) M.2.2.1 := by
  have h1 := lv_entry vs (n := M.2.2.1) (by rw [← nw_lo_len]; exact h)
  refine ⟨h1.1, h1.2.1, fun j v hv => ?_⟩
  unfold nw_in at hv
  by_cases hj : j < (nw_lo vs).length
  · rw [List.getElem?_append_left hj] at hv
    have := h1.2.2 (0 + j, v) (nw_lo_args vs 0 j v hv)
    simpa using this
  · rw [List.getElem?_append_right (by omega), List.getElem?_replicate] at hv
    split at hv <;> cases hv
-- cells
theorem nw_fs_get (g : nw_G) (I : nw_Me) (k : Nat) : ∀ (fs : List (Option (Option Nat))) (i j : Nat), (nw_fs g I k i fs)[j]? = (fs[j]?).map (nw_fv g I k (i + j)) := by
  intro fs
  induction fs with
  | nil => intro i j; simp [nw_fs]
  | cons a r ih =>
    intro i j
    cases j with
    | zero => simp [nw_fs]
    | succ j =>
      simp only [nw_fs, List.getElem?_cons_succ, ih]
      rw [show i + 1 + j = i + (j + 1) by omega]
theorem nw_fs_len (g : nw_G) (I : nw_Me) (k : Nat) : ∀ (fs : List (Option (Option Nat))) (i : Nat), (nw_fs g I k i fs).length = fs.length := by
  intro fs
  induction fs with
  | nil => intro i; rfl
  | cons a r ih => intro i; simp [nw_fs, ih]
/-- the int at place i of cell k becomes v -/
def nw_up (I : nw_Me) (k i : Nat) (v : Int32) : nw_Me := fun a j => if a = k then (if j = i then v else I a j) else I a j
theorem nw_up_ne {I : nw_Me} {k i a : Nat} {v : Int32} (h : a ≠ k) : nw_up I k i v a = I a := by funext j; simp [nw_up, h]
theorem nw_up_self (I : nw_Me) (k i : Nat) (v : Int32) : nw_up I k i v k = upd (I k) i v := by funext j; simp [nw_up, upd]
theorem nw_fs_ext (g : nw_G) {I I' : nw_Me} {k : Nat} (h : I k = I' k) (fs : List (Option (Option Nat))) (i : Nat) : nw_fs g I k i fs = nw_fs g I' k i fs := by
  apply List.ext_getElem?
  intro j
  rw [nw_fs_get, nw_fs_get]
  cases fs[j]? with
  | none => rfl
  | some o => cases o with
    | none => simp [nw_fv, h]
    | some o => cases o <;> rfl
theorem nw_e_ext (g : nw_G) {I I' : nw_Me} {k : Nat} (h : I k = I' k) (c : nw_Sh) : nw_e g I k c = nw_e g I' k c := by
  cases c with
  | inl x => obtain ⟨t, n⟩ := x; simp [nw_e, h]
  | inr x => obtain ⟨ci, fs⟩ := x; simp [nw_e, nw_fs_ext g h]
theorem nw_fs_up (g : nw_G) (I : nw_Me) (k i : Nat) (v : Int32) {fs : List (Option (Option Nat))} (h : fs[i]? = some none) : nw_fs g (nw_up I k i v) k 0 fs = (nw_fs g I k 0 fs).set i (.int v) := by
  apply List.ext_getElem?
  intro j
  have hi : i < fs.length := (List.getElem?_eq_some_iff.mp h).1
  rw [nw_fs_get, List.getElem?_set, nw_fs_get, nw_fs_len]
  by_cases hj : i = j
  · subst hj
    rw [if_pos rfl, if_pos hi, h]
    simp [nw_fv, nw_up]
  · rw [if_neg hj]
    cases fs[j]? with
    | none => rfl
    | some o => cases o with
      | none => simp [nw_fv, nw_up, Ne.symm hj]
      | some o => cases o <;> rfl
theorem nw_at_lt {g : nw_G} {sh : List nw_Sh} {I : nw_Me} {H : Heap} (h : nw_Wh g sh I H) {k : Nat} {c : nw_Sh} (hk : sh[k]? = some c) : nw_a g k < H.size := (h.2 k c hk).lt
theorem nw_a_inj {g : nw_G} {j k : Nat} (h : nw_a g j = nw_a g k) : j = k := by unfold nw_a at h; omega
theorem nw_A_a (g : nw_G) (k : Nat) : nw_A g (nw_a g k) := by unfold nw_A nw_a; omega
/-- one cell is written -/
theorem nw_Wh.set {g : nw_G} {sh sh' : List nw_Sh} {I I' : nw_Me} {H H1 : Heap} (h : nw_Wh g sh I H) {k : Nat} {c' : nw_Sh} (hsh : sh' = sh.set k c') (hI : ∀ j, j ≠ k → I' j = I j) (z : H1.size = H.size) (oq : ∀ q, q ≠ nw_a g k → H1[q]? = H[q]?) (hk : k < sh.length) (hc : va_at (nw_D g) nw_cl (nw_a g k, nw_e g I' k c') H1) : nw_Wh g sh' I' H1 := by
  subst hsh
  refine ⟨by rw [z, h.1, List.length_set], fun j c hj => ?_⟩
  rw [List.getElem?_set] at hj
  by_cases e : k = j
  · subst e
    rw [if_pos rfl, if_pos hk] at hj
    cases hj
    exact hc
  · rw [if_neg e] at hj
    have h1 := h.2 j c hj
    rw [nw_e_ext g (hI j (fun q => e q.symm))]
    exact h1.kept (oq _ (fun q => e (nw_a_inj q).symm))
theorem nw_set_self {α : Type} {l : List α} {k : Nat} {c : α} (h : l[k]? = some c) : l = l.set k c := by
  apply List.ext_getElem?
  intro j
  rw [List.getElem?_set]
  by_cases e : k = j
  · subst e
    rw [if_pos rfl, if_pos (List.getElem?_eq_some_iff.mp h).1, h]
  · rw [if_neg e]
/-- one cell is made -/
theorem nw_Wh.push {g : nw_G} {sh : List nw_Sh} {I I' : nw_Me} {H H1 : Heap} (h : nw_Wh g sh I H) {c' : nw_Sh} (hI : ∀ j, j < sh.length → I' j = I j) (z : H1.size = H.size + 1) (oq : ∀ q, q < H.size → H1[q]? = H[q]?) (hc : va_at (nw_D g) nw_cl (nw_a g sh.length, nw_e g I' sh.length c') H1) : nw_Wh g (sh ++ [c']) I' H1 := by
  refine ⟨by rw [z, h.1, List.length_append, List.length_singleton]; omega, fun j c hj => ?_⟩
  by_cases hl : j < sh.length
  · rw [List.getElem?_append_left hl] at hj
    rw [nw_e_ext g (hI j hl)]
    exact (h.2 j c hj).kept (oq _ (nw_at_lt h hj))
  · rw [List.getElem?_append_right (by omega)] at hj
    have hz : j - sh.length < 1 := (List.getElem?_eq_some_iff.mp hj).1
    have : j = sh.length := by omega
    subst this
    simp at hj
    subst hj
    exact hc
theorem nw_S_push {A : Nat → Prop} {H0 H H1 : Heap} {locs : List Loc} (hS : va_S A H0 H locs) (z : H.size ≤ H1.size) (oq : ∀ q, q < H.size → H1[q]? = H[q]?) : va_S A H0 H1 locs := ⟨Nat.le_trans hS.1 z, fun x h1 h2 => (oq x (Nat.lt_of_lt_of_le h1 hS.1)).trans (hS.2.1 x h1 h2), hS.2.2⟩
/-- what stood at the caller's start stands at the callee's -/
theorem nw_X_kept {b L : Nat} {xs : Nat → Int32} {U : State} {H H1 : Heap} (h : va_X b L xs U H) (e : H1[b]? = H[b]?) : va_X b L xs U H1 := by
  obtain ⟨scr, h1, h2⟩ := h
  exact ⟨scr, by rw [e]; exact h1, h2⟩
theorem nw_X_lt {b L : Nat} {xs : Nat → Int32} {U : State} {H : Heap} (h : va_X b L xs U H) : b < H.size := by
  obtain ⟨scr, h1, -⟩ := h
  exact (Array.getElem?_eq_some_iff.mp h1).1
theorem nw_Ws.go {g : nw_G} {s U : State} {H : Heap} {locs : List Loc} (h : nw_Ws g s) (hS : va_S (nw_A g) s.heap H locs) (hU : U.heap = H) (hW : s.WarmedH U.vm) : nw_Ws g U := by
  have hvm := hW.alike
  obtain ⟨h1, h2, h3, h4, h5, h6, h7, h8, h9, h10, h11, h12, h13, h14⟩ := h
  have ho : ∀ a : Nat, a < s.heap.size → ¬ nw_A g a → U.heap[a]? = s.heap[a]? := fun a q1 q2 => by rw [hU]; exact hS.2.1 a q1 q2
  have hn : ∀ a, a < nw_b g → ¬ nw_A g a := fun a q h => by unfold nw_A at h; omega
  exact ⟨by rw [hU]; exact Nat.le_trans h1 hS.1, h2.moved hvm, nw_X_kept (h3.moved hvm) (ho _ (nw_X_lt h3) (hn _ h8)), nw_X_kept (h4.moved hvm) (ho _ (nw_X_lt h4) (hn _ h9)), nw_X_kept (h5.moved hvm) (ho _ (nw_X_lt h5) (hn _ h10)), (h6.moved hvm).kept ho, (h7.moved hvm).kept ho, h8, h9, h10, fun w hw => by
    obtain ⟨a, i, x, hh, rfl⟩ := nw_ne_nest w hw
    exact va_Nw.warmM hW (h11 _ hw), h12.moved hvm, h13.moved hvm, h14.moved hvm⟩
end
section
theorem nw_in0 : ∀ w ∈ u_ws RX0 TX0 3, w ∈ nw_gw := by decide +kernel
theorem nw_in1 : ∀ w ∈ u_ws RX1 TX1 6, w ∈ nw_gw := by decide +kernel
theorem nw_in2 : ∀ w ∈ u_ws RX2 TX2 9, w ∈ nw_gw := by decide +kernel
theorem nw_in3 : ∀ w ∈ u_ws RX3 TX3 3, w ∈ nw_gw := by decide +kernel
theorem nw_in4 : ∀ w ∈ u_ws RX5 TX5 6, w ∈ nw_gw := by decide +kernel
theorem nw_in5 : ∀ w ∈ u_ws RX6 TX6 6, w ∈ nw_gw := by decide +kernel
theorem nw_in6 : ∀ w ∈ u_ws RX7 TX7 3, w ∈ nw_gw := by decide +kernel
theorem nw_in7 : ∀ w ∈ u_ws RX8 TX8 7, w ∈ nw_gw := by decide +kernel
theorem nw_in8 : ∀ w ∈ u_ws RX9 TX9 13, w ∈ nw_gw := by decide +kernel
theorem nw_in9 : ∀ w ∈ u_ws RX10 TX10 29, w ∈ nw_gw := by decide +kernel
section
variable {l : Launch} {g : nw_G} {d : Nat} {M : nw_Mt} {pc : Nat} {ls : List (Option Value)} {st : List Value} {sh : List nw_Sh} {I : nw_Me} {kc ks : Nat} {Post : Option Int32 → List nw_Sh → nw_Me → Prop}
/-- an instruction that touches neither cells nor locals -/
theorem ev_st {pc' : Nat} {st' : List Value} (k : nw_Ev l g d M pc' ls st' sh I kc ks Post) (h : ∀ (p : Program) (l : Launch) (e : Env) (R : Room) (s : State) (m : MethodId) (args : Array Value) (below : List Frame) (meth : Method) (c : Code) (H : Heap) (locs : List Loc) (cells slots : Nat) (Q : State → Prop) (la : Array Slot), p.tables.exec = Jvm.exec → c.code = M.2.1 → nw_Lr ls la M.2.2.1 →
    W p l e R s m args below meth c H locs cells slots Q (F0 m pc' la st') → W p l e R s m args below meth c H locs cells slots Q (F0 m pc la st)) : nw_Ev l g d M pc ls st sh I kc ks Post :=
  fun p e R s m args below meth c H locs cells slots Q la cx ws wh hs hl h1 h2 hr => h p l e R s m args below meth c H locs cells slots Q la cx.1 cx.2.1 hl (k p e R s m args below meth c H locs cells slots Q la cx ws wh hs hl h1 h2 hr)

theorem ev_iconst {n : Int} {v : Int32} (hd : decode M.2.1 pc = .ok (.iconst n, 1)) (hv : Int32.ofInt n = v) (k : nw_Ev l g d M (pc + 1) ls (.int v :: st) sh I kc ks Post) : nw_Ev l g d M pc ls st sh I kc ks Post := ev_st k (fun _ _ _ _ _ _ _ _ _ _ _ _ _ _ _ _ hx hb hl w => lv_iconst hx hb hd hv w)
theorem ev_bipush {n : Int} {v : Int32} (hd : decode M.2.1 pc = .ok (.bipush n, 2)) (hv : (Int8.ofInt n).toInt32 = v) (k : nw_Ev l g d M (pc + 2) ls (.int v :: st) sh I kc ks Post) : nw_Ev l g d M pc ls st sh I kc ks Post := ev_st k (fun _ _ _ _ _ _ _ _ _ _ _ _ _ _ _ _ hx hb hl w => lv_bipush hx hb hd hv w)
theorem ev_sipush {n : Int} {v : Int32} (hd : decode M.2.1 pc = .ok (.sipush n, 3)) (hv : (Int16.ofInt n).toInt32 = v) (k : nw_Ev l g d M (pc + 3) ls (.int v :: st) sh I kc ks Post) : nw_Ev l g d M pc ls st sh I kc ks Post := ev_st k (fun _ _ _ _ _ _ _ _ _ _ _ _ _ _ _ _ hx hb hl w => lv_sipush hx hb hd hv w)
theorem ev_lconst {n : Fin 2} {v : Int64} (hd : decode M.2.1 pc = .ok (.lconst n, 1)) (hv : Int64.ofNat (n : Nat) = v) (k : nw_Ev l g d M (pc + 1) ls (.long v :: st) sh I kc ks Post) : nw_Ev l g d M pc ls st sh I kc ks Post := ev_st k (fun _ _ _ _ _ _ _ _ _ _ _ _ _ _ _ _ hx hb hl w => lv_lconst hx hb hd hv w)
theorem ev_iload_n {k4 : Fin 4} {i : Nat} {x : Int32} (hd : decode M.2.1 pc = .ok (.iload_n k4, 1)) (hi : (k4 : Nat) = i) (hv : ls[i]? = some (some (.int x))) (k : nw_Ev l g d M (pc + 1) ls (.int x :: st) sh I kc ks Post) : nw_Ev l g d M pc ls st sh I kc ks Post := ev_st k (fun _ _ _ _ _ _ _ _ _ _ _ _ _ _ _ _ hx hb hl w => lv_iload_n hx hb hd hi (hl.2.2 _ _ hv) w)
theorem ev_iload {i : Nat} {x : Int32} (hd : decode M.2.1 pc = .ok (.iload i, 2)) (hv : ls[i]? = some (some (.int x))) (k : nw_Ev l g d M (pc + 2) ls (.int x :: st) sh I kc ks Post) : nw_Ev l g d M pc ls st sh I kc ks Post := ev_st k (fun _ _ _ _ _ _ _ _ _ _ _ _ _ _ _ _ hx hb hl w => lv_iload hx hb hd (hl.2.2 _ _ hv) w)
theorem ev_aload_n {k4 : Fin 4} {i : Nat} {x : Nat} (hd : decode M.2.1 pc = .ok (.aload_n k4, 1)) (hi : (k4 : Nat) = i) (hv : ls[i]? = some (some (.ref x))) (k : nw_Ev l g d M (pc + 1) ls (.ref x :: st) sh I kc ks Post) : nw_Ev l g d M pc ls st sh I kc ks Post := ev_st k (fun _ _ _ _ _ _ _ _ _ _ _ _ _ _ _ _ hx hb hl w => lv_aload_n hx hb hd hi (hl.2.2 _ _ hv) w)
theorem ev_aload {i : Nat} {x : Nat} (hd : decode M.2.1 pc = .ok (.aload i, 2)) (hv : ls[i]? = some (some (.ref x))) (k : nw_Ev l g d M (pc + 2) ls (.ref x :: st) sh I kc ks Post) : nw_Ev l g d M pc ls st sh I kc ks Post := ev_st k (fun _ _ _ _ _ _ _ _ _ _ _ _ _ _ _ _ hx hb hl w => lv_aload hx hb hd (hl.2.2 _ _ hv) w)
theorem ev_lload_n {k4 : Fin 4} {i : Nat} {x : Int64} (hd : decode M.2.1 pc = .ok (.lload_n k4, 1)) (hi : (k4 : Nat) = i) (hv : ls[i]? = some (some (.long x))) (k : nw_Ev l g d M (pc + 1) ls (.long x :: st) sh I kc ks Post) : nw_Ev l g d M pc ls st sh I kc ks Post := ev_st k (fun _ _ _ _ _ _ _ _ _ _ _ _ _ _ _ _ hx hb hl w => lv_lload_n hx hb hd hi (hl.2.2 _ _ hv) w)
theorem ev_lload {i : Nat} {x : Int64} (hd : decode M.2.1 pc = .ok (.lload i, 2)) (hv : ls[i]? = some (some (.long x))) (k : nw_Ev l g d M (pc + 2) ls (.long x :: st) sh I kc ks Post) : nw_Ev l g d M pc ls st sh I kc ks Post := ev_st k (fun _ _ _ _ _ _ _ _ _ _ _ _ _ _ _ _ hx hb hl w => lv_lload hx hb hd (hl.2.2 _ _ hv) w)
theorem ev_iadd {x y : Int32} (hd : decode M.2.1 pc = .ok (.iadd, 1)) (k : nw_Ev l g d M (pc + 1) ls (.int (x + y) :: st) sh I kc ks Post) : nw_Ev l g d M pc ls (.int y :: .int x :: st) sh I kc ks Post := ev_st k (fun _ _ _ _ _ _ _ _ _ _ _ _ _ _ _ _ hx hb hl w => lv_iadd hx hb hd w)
theorem ev_isub {x y : Int32} (hd : decode M.2.1 pc = .ok (.isub, 1)) (k : nw_Ev l g d M (pc + 1) ls (.int (x - y) :: st) sh I kc ks Post) : nw_Ev l g d M pc ls (.int y :: .int x :: st) sh I kc ks Post := ev_st k (fun _ _ _ _ _ _ _ _ _ _ _ _ _ _ _ _ hx hb hl w => lv_isub hx hb hd w)
theorem ev_imul {x y : Int32} (hd : decode M.2.1 pc = .ok (.imul, 1)) (k : nw_Ev l g d M (pc + 1) ls (.int (x * y) :: st) sh I kc ks Post) : nw_Ev l g d M pc ls (.int y :: .int x :: st) sh I kc ks Post := ev_st k (fun _ _ _ _ _ _ _ _ _ _ _ _ _ _ _ _ hx hb hl w => lv_imul hx hb hd w)
theorem ev_iand {x y : Int32} (hd : decode M.2.1 pc = .ok (.iand, 1)) (k : nw_Ev l g d M (pc + 1) ls (.int (x &&& y) :: st) sh I kc ks Post) : nw_Ev l g d M pc ls (.int y :: .int x :: st) sh I kc ks Post := ev_st k (fun _ _ _ _ _ _ _ _ _ _ _ _ _ _ _ _ hx hb hl w => lv_iand hx hb hd w)
theorem ev_ior {x y : Int32} (hd : decode M.2.1 pc = .ok (.ior, 1)) (k : nw_Ev l g d M (pc + 1) ls (.int (x ||| y) :: st) sh I kc ks Post) : nw_Ev l g d M pc ls (.int y :: .int x :: st) sh I kc ks Post := ev_st k (fun _ _ _ _ _ _ _ _ _ _ _ _ _ _ _ _ hx hb hl w => lv_ior hx hb hd w)
theorem ev_ishl {x y : Int32} (hd : decode M.2.1 pc = .ok (.ishl, 1)) (k : nw_Ev l g d M (pc + 1) ls (.int (x <<< (y &&& 31)) :: st) sh I kc ks Post) : nw_Ev l g d M pc ls (.int y :: .int x :: st) sh I kc ks Post := ev_st k (fun _ _ _ _ _ _ _ _ _ _ _ _ _ _ _ _ hx hb hl w => lv_ishl hx hb hd w)
theorem ev_ishr {x y : Int32} (hd : decode M.2.1 pc = .ok (.ishr, 1)) (k : nw_Ev l g d M (pc + 1) ls (.int (x >>> (y &&& 31)) :: st) sh I kc ks Post) : nw_Ev l g d M pc ls (.int y :: .int x :: st) sh I kc ks Post := ev_st k (fun _ _ _ _ _ _ _ _ _ _ _ _ _ _ _ _ hx hb hl w => lv_ishr hx hb hd w)
theorem ev_idiv {x y : Int32} (hd : decode M.2.1 pc = .ok (.idiv, 1)) (hne : ¬ y = 0) (k : nw_Ev l g d M (pc + 1) ls (.int (x / y) :: st) sh I kc ks Post) : nw_Ev l g d M pc ls (.int y :: .int x :: st) sh I kc ks Post := ev_st k (fun _ _ _ _ _ _ _ _ _ _ _ _ _ _ _ _ hx hb hl w => lv_idiv hx hb hd hne w)
theorem ev_irem {x y : Int32} (hd : decode M.2.1 pc = .ok (.irem, 1)) (hne : ¬ y = 0) (k : nw_Ev l g d M (pc + 1) ls (.int (x - x / y * y) :: st) sh I kc ks Post) : nw_Ev l g d M pc ls (.int y :: .int x :: st) sh I kc ks Post := ev_st k (fun _ _ _ _ _ _ _ _ _ _ _ _ _ _ _ _ hx hb hl w => lv_irem hx hb hd hne w)
theorem ev_ladd {x y : Int64} (hd : decode M.2.1 pc = .ok (.ladd, 1)) (k : nw_Ev l g d M (pc + 1) ls (.long (x + y) :: st) sh I kc ks Post) : nw_Ev l g d M pc ls (.long y :: .long x :: st) sh I kc ks Post := ev_st k (fun _ _ _ _ _ _ _ _ _ _ _ _ _ _ _ _ hx hb hl w => lv_ladd hx hb hd w)
theorem ev_lmul {x y : Int64} (hd : decode M.2.1 pc = .ok (.lmul, 1)) (k : nw_Ev l g d M (pc + 1) ls (.long (x * y) :: st) sh I kc ks Post) : nw_Ev l g d M pc ls (.long y :: .long x :: st) sh I kc ks Post := ev_st k (fun _ _ _ _ _ _ _ _ _ _ _ _ _ _ _ _ hx hb hl w => lv_lmul hx hb hd w)
theorem ev_ldiv {x y : Int64} (hd : decode M.2.1 pc = .ok (.ldiv, 1)) (hne : ¬ y = 0) (k : nw_Ev l g d M (pc + 1) ls (.long (x / y) :: st) sh I kc ks Post) : nw_Ev l g d M pc ls (.long y :: .long x :: st) sh I kc ks Post := ev_st k (fun _ _ _ _ _ _ _ _ _ _ _ _ _ _ _ _ hx hb hl w => lv_ldiv hx hb hd hne w)
theorem ev_lrem {x y : Int64} (hd : decode M.2.1 pc = .ok (.lrem, 1)) (hne : ¬ y = 0) (k : nw_Ev l g d M (pc + 1) ls (.long (x - x / y * y) :: st) sh I kc ks Post) : nw_Ev l g d M pc ls (.long y :: .long x :: st) sh I kc ks Post := ev_st k (fun _ _ _ _ _ _ _ _ _ _ _ _ _ _ _ _ hx hb hl w => lv_lrem hx hb hd hne w)
theorem ev_lcmp {x y : Int64} (hd : decode M.2.1 pc = .ok (.lcmp, 1)) (k : nw_Ev l g d M (pc + 1) ls (.int (lg_cmp x y) :: st) sh I kc ks Post) : nw_Ev l g d M pc ls (.long y :: .long x :: st) sh I kc ks Post := ev_st k (fun _ _ _ _ _ _ _ _ _ _ _ _ _ _ _ _ hx hb hl w => W.lcmp hx hb hd w)
theorem ev_ineg {x : Int32} (hd : decode M.2.1 pc = .ok (.ineg, 1)) (k : nw_Ev l g d M (pc + 1) ls (.int (-x) :: st) sh I kc ks Post) : nw_Ev l g d M pc ls (.int x :: st) sh I kc ks Post := ev_st k (fun _ _ _ _ _ _ _ _ _ _ _ _ _ _ _ _ hx hb hl w => lv_ineg hx hb hd w)
theorem ev_i2l {x : Int32} (hd : decode M.2.1 pc = .ok (.i2l, 1)) (k : nw_Ev l g d M (pc + 1) ls (.long x.toInt64 :: st) sh I kc ks Post) : nw_Ev l g d M pc ls (.int x :: st) sh I kc ks Post := ev_st k (fun _ _ _ _ _ _ _ _ _ _ _ _ _ _ _ _ hx hb hl w => lv_i2l hx hb hd rfl w)
theorem ev_l2i {x : Int64} (hd : decode M.2.1 pc = .ok (.l2i, 1)) (k : nw_Ev l g d M (pc + 1) ls (.int x.toInt32 :: st) sh I kc ks Post) : nw_Ev l g d M pc ls (.long x :: st) sh I kc ks Post := ev_st k (fun _ _ _ _ _ _ _ _ _ _ _ _ _ _ _ _ hx hb hl w => lv_l2i hx hb hd rfl w)
theorem ev_i2b {x : Int32} (hd : decode M.2.1 pc = .ok (.i2b, 1)) (k : nw_Ev l g d M (pc + 1) ls (.int x.toInt8.toInt32 :: st) sh I kc ks Post) : nw_Ev l g d M pc ls (.int x :: st) sh I kc ks Post := ev_st k (fun _ _ _ _ _ _ _ _ _ _ _ _ _ _ _ _ hx hb hl w => lv_i2b hx hb hd rfl w)
theorem ev_i2s {x : Int32} (hd : decode M.2.1 pc = .ok (.i2s, 1)) (k : nw_Ev l g d M (pc + 1) ls (.int x.toInt16.toInt32 :: st) sh I kc ks Post) : nw_Ev l g d M pc ls (.int x :: st) sh I kc ks Post := ev_st k (fun _ _ _ _ _ _ _ _ _ _ _ _ _ _ _ _ hx hb hl w => lv_i2s hx hb hd rfl w)
theorem ev_dup {va : Value} (hd : decode M.2.1 pc = .ok (.dup, 1)) (hva : va.category = 1) (k : nw_Ev l g d M (pc + 1) ls (va :: va :: st) sh I kc ks Post) : nw_Ev l g d M pc ls (va :: st) sh I kc ks Post := ev_st k (fun _ _ _ _ _ _ _ _ _ _ _ _ _ _ _ _ hx hb hl w => lv_dup hx hb hd hva w)
theorem ev_pop {va : Value} (hd : decode M.2.1 pc = .ok (.pop, 1)) (hva : va.category = 1) (k : nw_Ev l g d M (pc + 1) ls st sh I kc ks Post) : nw_Ev l g d M pc ls (va :: st) sh I kc ks Post := ev_st k (fun _ _ _ _ _ _ _ _ _ _ _ _ _ _ _ _ hx hb hl w => lv_pop hx hb hd hva w)
theorem ev_dup2 {va vb : Value} (hd : decode M.2.1 pc = .ok (.dup2, 1)) (hva : va.category = 1) (hvb : vb.category = 1) (k : nw_Ev l g d M (pc + 1) ls (va :: vb :: va :: vb :: st) sh I kc ks Post) : nw_Ev l g d M pc ls (va :: vb :: st) sh I kc ks Post := ev_st k (fun _ _ _ _ _ _ _ _ _ _ _ _ _ _ _ _ hx hb hl w => lv_dup2_11 hx hb hd hva hvb w)
theorem ev_goto {off : Int} {tgt : Nat} (hd : decode M.2.1 pc = .ok (.goto off, 3)) (ht : (pc : Int) + off = (tgt : Int)) (k : nw_Ev l g d M tgt ls st sh I kc ks Post) : nw_Ev l g d M pc ls st sh I kc ks Post := ev_st k (fun _ _ _ _ _ _ _ _ _ _ _ _ _ _ _ _ hx hb hl w => lv_goto hx hb hd ht w)
theorem ev_if_eq {x : Int32} {off : Int} {tgt : Nat} (hd : decode M.2.1 pc = .ok (.ifCond .eq off, 3)) (ht : (pc : Int) + off = (tgt : Int)) (kt : x = 0 → nw_Ev l g d M tgt ls st sh I kc ks Post) (kf : ¬ x = 0 → nw_Ev l g d M (pc + 3) ls st sh I kc ks Post) : nw_Ev l g d M pc ls (.int x :: st) sh I kc ks Post := fun p e R s m args below meth c H locs cells slots Q la cx ws wh hs hl h1 h2 hr => lv_if_eq cx.1 cx.2.1 hd ht (fun q => kt q p e R s m args below meth c H locs cells slots Q la cx ws wh hs hl h1 h2 hr) (fun q => kf q p e R s m args below meth c H locs cells slots Q la cx ws wh hs hl h1 h2 hr)
theorem ev_icmp_eq {x y : Int32} {off : Int} {tgt : Nat} (hd : decode M.2.1 pc = .ok (.if_icmp .eq off, 3)) (ht : (pc : Int) + off = (tgt : Int)) (kt : x = y → nw_Ev l g d M tgt ls st sh I kc ks Post) (kf : ¬ x = y → nw_Ev l g d M (pc + 3) ls st sh I kc ks Post) : nw_Ev l g d M pc ls (.int y :: .int x :: st) sh I kc ks Post := fun p e R s m args below meth c H locs cells slots Q la cx ws wh hs hl h1 h2 hr => lv_icmp_eq cx.1 cx.2.1 hd ht (fun q => kt q p e R s m args below meth c H locs cells slots Q la cx ws wh hs hl h1 h2 hr) (fun q => kf q p e R s m args below meth c H locs cells slots Q la cx ws wh hs hl h1 h2 hr)
theorem ev_if_ne {x : Int32} {off : Int} {tgt : Nat} (hd : decode M.2.1 pc = .ok (.ifCond .ne off, 3)) (ht : (pc : Int) + off = (tgt : Int)) (kt : ¬ x = 0 → nw_Ev l g d M tgt ls st sh I kc ks Post) (kf : x = 0 → nw_Ev l g d M (pc + 3) ls st sh I kc ks Post) : nw_Ev l g d M pc ls (.int x :: st) sh I kc ks Post := fun p e R s m args below meth c H locs cells slots Q la cx ws wh hs hl h1 h2 hr => lv_if_ne cx.1 cx.2.1 hd ht (fun q => kt q p e R s m args below meth c H locs cells slots Q la cx ws wh hs hl h1 h2 hr) (fun q => kf q p e R s m args below meth c H locs cells slots Q la cx ws wh hs hl h1 h2 hr)
theorem ev_icmp_ne {x y : Int32} {off : Int} {tgt : Nat} (hd : decode M.2.1 pc = .ok (.if_icmp .ne off, 3)) (ht : (pc : Int) + off = (tgt : Int)) (kt : ¬ x = y → nw_Ev l g d M tgt ls st sh I kc ks Post) (kf : x = y → nw_Ev l g d M (pc + 3) ls st sh I kc ks Post) : nw_Ev l g d M pc ls (.int y :: .int x :: st) sh I kc ks Post := fun p e R s m args below meth c H locs cells slots Q la cx ws wh hs hl h1 h2 hr => lv_icmp_ne cx.1 cx.2.1 hd ht (fun q => kt q p e R s m args below meth c H locs cells slots Q la cx ws wh hs hl h1 h2 hr) (fun q => kf q p e R s m args below meth c H locs cells slots Q la cx ws wh hs hl h1 h2 hr)
theorem ev_if_lt {x : Int32} {off : Int} {tgt : Nat} (hd : decode M.2.1 pc = .ok (.ifCond .lt off, 3)) (ht : (pc : Int) + off = (tgt : Int)) (kt : x < 0 → nw_Ev l g d M tgt ls st sh I kc ks Post) (kf : ¬ x < 0 → nw_Ev l g d M (pc + 3) ls st sh I kc ks Post) : nw_Ev l g d M pc ls (.int x :: st) sh I kc ks Post := fun p e R s m args below meth c H locs cells slots Q la cx ws wh hs hl h1 h2 hr => lv_if_lt cx.1 cx.2.1 hd ht (fun q => kt q p e R s m args below meth c H locs cells slots Q la cx ws wh hs hl h1 h2 hr) (fun q => kf q p e R s m args below meth c H locs cells slots Q la cx ws wh hs hl h1 h2 hr)
theorem ev_icmp_lt {x y : Int32} {off : Int} {tgt : Nat} (hd : decode M.2.1 pc = .ok (.if_icmp .lt off, 3)) (ht : (pc : Int) + off = (tgt : Int)) (kt : x < y → nw_Ev l g d M tgt ls st sh I kc ks Post) (kf : ¬ x < y → nw_Ev l g d M (pc + 3) ls st sh I kc ks Post) : nw_Ev l g d M pc ls (.int y :: .int x :: st) sh I kc ks Post := fun p e R s m args below meth c H locs cells slots Q la cx ws wh hs hl h1 h2 hr => lv_icmp_lt cx.1 cx.2.1 hd ht (fun q => kt q p e R s m args below meth c H locs cells slots Q la cx ws wh hs hl h1 h2 hr) (fun q => kf q p e R s m args below meth c H locs cells slots Q la cx ws wh hs hl h1 h2 hr)
theorem ev_if_ge {x : Int32} {off : Int} {tgt : Nat} (hd : decode M.2.1 pc = .ok (.ifCond .ge off, 3)) (ht : (pc : Int) + off = (tgt : Int)) (kt : 0 ≤ x → nw_Ev l g d M tgt ls st sh I kc ks Post) (kf : ¬ 0 ≤ x → nw_Ev l g d M (pc + 3) ls st sh I kc ks Post) : nw_Ev l g d M pc ls (.int x :: st) sh I kc ks Post := fun p e R s m args below meth c H locs cells slots Q la cx ws wh hs hl h1 h2 hr => lv_if_ge cx.1 cx.2.1 hd ht (fun q => kt q p e R s m args below meth c H locs cells slots Q la cx ws wh hs hl h1 h2 hr) (fun q => kf q p e R s m args below meth c H locs cells slots Q la cx ws wh hs hl h1 h2 hr)
theorem ev_icmp_ge {x y : Int32} {off : Int} {tgt : Nat} (hd : decode M.2.1 pc = .ok (.if_icmp .ge off, 3)) (ht : (pc : Int) + off = (tgt : Int)) (kt : y ≤ x → nw_Ev l g d M tgt ls st sh I kc ks Post) (kf : ¬ y ≤ x → nw_Ev l g d M (pc + 3) ls st sh I kc ks Post) : nw_Ev l g d M pc ls (.int y :: .int x :: st) sh I kc ks Post := fun p e R s m args below meth c H locs cells slots Q la cx ws wh hs hl h1 h2 hr => lv_icmp_ge cx.1 cx.2.1 hd ht (fun q => kt q p e R s m args below meth c H locs cells slots Q la cx ws wh hs hl h1 h2 hr) (fun q => kf q p e R s m args below meth c H locs cells slots Q la cx ws wh hs hl h1 h2 hr)
theorem ev_if_gt {x : Int32} {off : Int} {tgt : Nat} (hd : decode M.2.1 pc = .ok (.ifCond .gt off, 3)) (ht : (pc : Int) + off = (tgt : Int)) (kt : 0 < x → nw_Ev l g d M tgt ls st sh I kc ks Post) (kf : ¬ 0 < x → nw_Ev l g d M (pc + 3) ls st sh I kc ks Post) : nw_Ev l g d M pc ls (.int x :: st) sh I kc ks Post := fun p e R s m args below meth c H locs cells slots Q la cx ws wh hs hl h1 h2 hr => lv_if_gt cx.1 cx.2.1 hd ht (fun q => kt q p e R s m args below meth c H locs cells slots Q la cx ws wh hs hl h1 h2 hr) (fun q => kf q p e R s m args below meth c H locs cells slots Q la cx ws wh hs hl h1 h2 hr)
theorem ev_icmp_gt {x y : Int32} {off : Int} {tgt : Nat} (hd : decode M.2.1 pc = .ok (.if_icmp .gt off, 3)) (ht : (pc : Int) + off = (tgt : Int)) (kt : y < x → nw_Ev l g d M tgt ls st sh I kc ks Post) (kf : ¬ y < x → nw_Ev l g d M (pc + 3) ls st sh I kc ks Post) : nw_Ev l g d M pc ls (.int y :: .int x :: st) sh I kc ks Post := fun p e R s m args below meth c H locs cells slots Q la cx ws wh hs hl h1 h2 hr => lv_icmp_gt cx.1 cx.2.1 hd ht (fun q => kt q p e R s m args below meth c H locs cells slots Q la cx ws wh hs hl h1 h2 hr) (fun q => kf q p e R s m args below meth c H locs cells slots Q la cx ws wh hs hl h1 h2 hr)
theorem ev_if_le {x : Int32} {off : Int} {tgt : Nat} (hd : decode M.2.1 pc = .ok (.ifCond .le off, 3)) (ht : (pc : Int) + off = (tgt : Int)) (kt : x ≤ 0 → nw_Ev l g d M tgt ls st sh I kc ks Post) (kf : ¬ x ≤ 0 → nw_Ev l g d M (pc + 3) ls st sh I kc ks Post) : nw_Ev l g d M pc ls (.int x :: st) sh I kc ks Post := fun p e R s m args below meth c H locs cells slots Q la cx ws wh hs hl h1 h2 hr => lv_if_le cx.1 cx.2.1 hd ht (fun q => kt q p e R s m args below meth c H locs cells slots Q la cx ws wh hs hl h1 h2 hr) (fun q => kf q p e R s m args below meth c H locs cells slots Q la cx ws wh hs hl h1 h2 hr)
theorem ev_icmp_le {x y : Int32} {off : Int} {tgt : Nat} (hd : decode M.2.1 pc = .ok (.if_icmp .le off, 3)) (ht : (pc : Int) + off = (tgt : Int)) (kt : x ≤ y → nw_Ev l g d M tgt ls st sh I kc ks Post) (kf : ¬ x ≤ y → nw_Ev l g d M (pc + 3) ls st sh I kc ks Post) : nw_Ev l g d M pc ls (.int y :: .int x :: st) sh I kc ks Post := fun p e R s m args below meth c H locs cells slots Q la cx ws wh hs hl h1 h2 hr => lv_icmp_le cx.1 cx.2.1 hd ht (fun q => kt q p e R s m args below meth c H locs cells slots Q la cx ws wh hs hl h1 h2 hr) (fun q => kf q p e R s m args below meth c H locs cells slots Q la cx ws wh hs hl h1 h2 hr)
theorem ev_tableIn {dflt lo hi : Int} {offs : Array Int} {len : Nat} {x : Int32} {off : Int} {tgt : Nat} (hd : decode M.2.1 pc = .ok (.tableswitch dflt lo hi offs, len)) (h1 : ¬ x.toInt < lo) (h2 : ¬ hi < x.toInt) (ho : offs[(x.toInt - lo).toNat]? = some off) (ht : (pc : Int) + off = (tgt : Int)) (k : nw_Ev l g d M tgt ls st sh I kc ks Post) : nw_Ev l g d M pc ls (.int x :: st) sh I kc ks Post := ev_st k (fun _ _ _ _ _ _ _ _ _ _ _ _ _ _ _ _ hx hb hl w => lv_tableIn hx hb hd h1 h2 ho ht w)
theorem ev_tableOut {dflt lo hi : Int} {offs : Array Int} {len : Nat} {x : Int32} {tgt : Nat} (hd : decode M.2.1 pc = .ok (.tableswitch dflt lo hi offs, len)) (h : x.toInt < lo ∨ hi < x.toInt) (ht : (pc : Int) + dflt = (tgt : Int)) (k : nw_Ev l g d M tgt ls st sh I kc ks Post) : nw_Ev l g d M pc ls (.int x :: st) sh I kc ks Post := ev_st k (fun _ _ _ _ _ _ _ _ _ _ _ _ _ _ _ _ hx hb hl w => lv_tableOut hx hb hd h ht w)
theorem ev_lookup {dflt : Int} {ps : Array (Int × Int)} {len : Nat} {x : Int32} {off : Int} {tgt : Nat} (hd : decode M.2.1 pc = .ok (.lookupswitch dflt ps, len)) (hp : (ps.toList.zip (ps.toList.drop 1)).all (fun (a, next) => a.1 < next.1) = true) (ho : Op.lookupswitch.offset ps.toList dflt x.toInt = off) (ht : (pc : Int) + off = (tgt : Int)) (k : nw_Ev l g d M tgt ls st sh I kc ks Post) : nw_Ev l g d M pc ls (.int x :: st) sh I kc ks Post := ev_st k (fun _ _ _ _ _ _ _ _ _ _ _ _ _ _ _ _ hx hb hl w => lv_lookup hx hb hd hp ho ht w)
theorem ev_istore {i : Nat} {x : Int32} (hd : decode M.2.1 pc = .ok (.istore i, 2)) (hn : i < M.2.2.1) (hnl : nw_nl ls i = true) (k : nw_Ev l g d M (pc + 2) (ls.set i (some (.int x))) st sh I kc ks Post) : nw_Ev l g d M pc ls (.int x :: st) sh I kc ks Post := fun p e R s m args below meth c H locs cells slots Q la cx ws wh hs hl h1 h2 hr => lv_istore cx.1 cx.2.1 hd (nw_al_has hl) hn rfl (fun la1 hh => have hl1 := nw_put1 hnl hh; k p e R s m args below meth c H locs cells slots Q la1 cx ws wh hs hl1 h1 h2 hr)
theorem ev_istore_n {k4 : Fin 4} {i : Nat} {x : Int32} (hd : decode M.2.1 pc = .ok (.istore_n k4, 1)) (hi : (k4 : Nat) = i) (hn : i < M.2.2.1) (hnl : nw_nl ls i = true) (k : nw_Ev l g d M (pc + 1) (ls.set i (some (.int x))) st sh I kc ks Post) : nw_Ev l g d M pc ls (.int x :: st) sh I kc ks Post := fun p e R s m args below meth c H locs cells slots Q la cx ws wh hs hl h1 h2 hr => lv_istore_n cx.1 cx.2.1 hd hi (nw_al_has hl) hn rfl (fun la1 hh => have hl1 := nw_put1 hnl hh; k p e R s m args below meth c H locs cells slots Q la1 cx ws wh hs hl1 h1 h2 hr)
theorem ev_astore {i : Nat} {x : Nat} (hd : decode M.2.1 pc = .ok (.astore i, 2)) (hn : i < M.2.2.1) (hnl : nw_nl ls i = true) (k : nw_Ev l g d M (pc + 2) (ls.set i (some (.ref x))) st sh I kc ks Post) : nw_Ev l g d M pc ls (.ref x :: st) sh I kc ks Post := fun p e R s m args below meth c H locs cells slots Q la cx ws wh hs hl h1 h2 hr => lv_astore cx.1 cx.2.1 hd (nw_al_has hl) hn rfl (fun la1 hh => have hl1 := nw_put1 hnl hh; k p e R s m args below meth c H locs cells slots Q la1 cx ws wh hs hl1 h1 h2 hr)
theorem ev_astore_n {k4 : Fin 4} {i : Nat} {x : Nat} (hd : decode M.2.1 pc = .ok (.astore_n k4, 1)) (hi : (k4 : Nat) = i) (hn : i < M.2.2.1) (hnl : nw_nl ls i = true) (k : nw_Ev l g d M (pc + 1) (ls.set i (some (.ref x))) st sh I kc ks Post) : nw_Ev l g d M pc ls (.ref x :: st) sh I kc ks Post := fun p e R s m args below meth c H locs cells slots Q la cx ws wh hs hl h1 h2 hr => lv_astore_n cx.1 cx.2.1 hd hi (nw_al_has hl) hn rfl (fun la1 hh => have hl1 := nw_put1 hnl hh; k p e R s m args below meth c H locs cells slots Q la1 cx ws wh hs hl1 h1 h2 hr)
theorem ev_lstore {i : Nat} {x : Int64} (hd : decode M.2.1 pc = .ok (.lstore i, 2)) (hn : i + 1 < M.2.2.1) (hnl : nw_nl ls i = true) (k : nw_Ev l g d M (pc + 2) ((ls.set i (some (.long x))).set (i + 1) none) st sh I kc ks Post) : nw_Ev l g d M pc ls (.long x :: st) sh I kc ks Post := fun p e R s m args below meth c H locs cells slots Q la cx ws wh hs hl h1 h2 hr => lv_lstore cx.1 cx.2.1 hd (nw_al_has hl) hn rfl (fun la1 hh => have hl1 := nw_put2 hnl hh; k p e R s m args below meth c H locs cells slots Q la1 cx ws wh hs hl1 h1 h2 hr)
theorem ev_iinc {i : Nat} {n : Int} {x : Int32} (hd : decode M.2.1 pc = .ok (.iinc i n, 3)) (hv : ls[i]? = some (some (.int x))) (hn : i < M.2.2.1) (hnl : nw_nl ls i = true) (k : nw_Ev l g d M (pc + 3) (ls.set i (some (.int (x + Int32.ofInt n)))) st sh I kc ks Post) : nw_Ev l g d M pc ls st sh I kc ks Post := fun p e R s m args below meth c H locs cells slots Q la cx ws wh hs hl h1 h2 hr => by
  obtain ⟨j, hj⟩ := List.getElem?_of_mem ((nw_al_mem ls 0 i (.int x)).mpr ⟨i, by omega, hv⟩)
  exact lv_iinc cx.1 cx.2.1 hd (nw_al_has hl) hj rfl hn rfl (fun la1 hh => have hl1 := nw_put1 hnl hh; k p e R s m args below meth c H locs cells slots Q la1 cx ws wh hs hl1 h1 h2 hr)
theorem ev_ldc {i : Nat} {v : Int32} (hq : Cond.constant M.1.cls i v ∈ nw_gw) (hd : decode M.2.1 pc = .ok (.ldc i, 2)) (k : nw_Ev l g d M (pc + 2) ls (.int v :: st) sh I kc ks Post) : nw_Ev l g d M pc ls st sh I kc ks Post := fun p e R s m args below meth c H locs cells slots Q la cx ws wh hs hl h1 h2 hr => lv_ldc cx.1 cx.2.1 cx.2.2.2.1 (cx.2.2.2.2.1 _ hq) hd (k p e R s m args below meth c H locs cells slots Q la cx ws wh hs hl h1 h2 hr)
theorem ev_ldcw {i : Nat} {v : Int32} (hq : Cond.constant M.1.cls i v ∈ nw_gw) (hd : decode M.2.1 pc = .ok (.ldc_w i, 3)) (k : nw_Ev l g d M (pc + 3) ls (.int v :: st) sh I kc ks Post) : nw_Ev l g d M pc ls st sh I kc ks Post := fun p e R s m args below meth c H locs cells slots Q la cx ws wh hs hl h1 h2 hr => lv_ldcw cx.1 cx.2.1 cx.2.2.2.1 (cx.2.2.2.2.1 _ hq) hd (k p e R s m args below meth c H locs cells slots Q la cx ws wh hs hl h1 h2 hr)
theorem ev_ldc2 {i : Nat} {v : Int64} (hq : Cond.constantLong M.1.cls i v ∈ nw_gw) (hd : decode M.2.1 pc = .ok (.ldc2_w i, 3)) (k : nw_Ev l g d M (pc + 3) ls (.long v :: st) sh I kc ks Post) : nw_Ev l g d M pc ls st sh I kc ks Post := fun p e R s m args below meth c H locs cells slots Q la cx ws wh hs hl h1 h2 hr => lv_ldc2 cx.1 cx.2.1 cx.2.2.2.1 (cx.2.2.2.2.1 _ hq) hd (k p e R s m args below meth c H locs cells slots Q la cx ws wh hs hl h1 h2 hr)
theorem ev_ireturn {x : Int32} (hd : decode M.2.1 pc = .ok (.ireturn, 1)) (hp : Post (some x) sh I) : nw_Ev l g d M pc ls [.int x] sh I 0 0 Post := fun p e R s m args below meth c H locs cells slots Q la cx ws wh hs hl h1 h2 hr => hr (some x) sh I H locs hp wh hs pc la hd
theorem ev_return (hd : decode M.2.1 pc = .ok (.return_, 1)) (hp : Post none sh I) : nw_Ev l g d M pc ls [] sh I 0 0 Post := fun p e R s m args below meth c H locs cells slots Q la cx ws wh hs hl h1 h2 hr => hr none sh I H locs hp wh hs pc la hd
theorem ev_post {Post1 : Option Int32 → List nw_Sh → nw_Me → Prop} (h : ∀ v sh1 I1, Post1 v sh1 I1 → Post v sh1 I1) (k : nw_Ev l g d M pc ls st sh I kc ks Post1) : nw_Ev l g d M pc ls st sh I kc ks Post := fun p e R s m args below meth c H locs cells slots Q la cx ws wh hs hl h1 h2 hr => k p e R s m args below meth c H locs cells slots Q la cx ws wh hs hl h1 h2 (fun v sh1 I1 H1 locs1 hp => hr v sh1 I1 H1 locs1 (h v sh1 I1 hp))
theorem ev_deep {d1 : Nat} (h : d ≤ d1) (k : nw_Ev l g d M pc ls st sh I kc ks Post) : nw_Ev l g d1 M pc ls st sh I kc ks Post := fun p e R s m args below meth c H locs cells slots Q la cx ws wh hs hl h1 h2 hr => k p e R s m args below meth c H locs cells slots Q la ⟨cx.1, cx.2.1, cx.2.2.1, cx.2.2.2.1, cx.2.2.2.2.1, cx.2.2.2.2.2.1, by have := cx.2.2.2.2.2.2.1; omega, by have := cx.2.2.2.2.2.2.2; omega⟩ ws wh hs hl h1 h2 hr

theorem nw_Wh.obj {H : Heap} (h : nw_Wh g sh I H) {k ci : Nat} {fs : List (Option (Option Nat))} (hk : sh[k]? = some (.inr (ci, fs))) (hci : ci < 100) : va_P (nw_D g) nw_cl [(nw_a g k, .inr (ci, nw_fs g I k 0 fs))] H := by
  intro j q hq
  have hj : j < 1 := (List.getElem?_eq_some_iff.mp hq).1
  rw [show j = 0 by omega] at hq
  cases hq
  have := h.2 k _ hk
  simpa only [nw_e, if_pos hci] using this
theorem nw_Wh.arr {H : Heap} (h : nw_Wh g sh I H) {k t n : Nat} (hk : sh[k]? = some (.inl (t, n))) : va_P (nw_D g) nw_cl [(nw_a g k, .inl (nw_ca g t, n, .inl (I k)))] H := by
  intro j q hq
  have hj : j < 1 := (List.getElem?_eq_some_iff.mp hq).1
  rw [show j = 0 by omega] at hq
  cases hq
  exact h.2 k _ hk
theorem nw_Wh.row {H : Heap} (h : nw_Wh g sh I H) {k t : Nat} {fs : List (Option (Option Nat))} (hk : sh[k]? = some (.inr (100 + t, fs))) : va_P (nw_D g) nw_cl [(nw_a g k, .inl (nw_ca g t, fs.length, .inr (.inr (.inr (.inr (nw_rf g fs))))))] H := by
  intro j q hq
  have hj : j < 1 := (List.getElem?_eq_some_iff.mp hq).1
  rw [show j = 0 by omega] at hq
  cases hq
  have := h.2 k _ hk
  simpa only [nw_e, if_neg (show ¬ 100 + t < 100 by omega), Nat.add_sub_cancel_left] using this
/-- every class's fields are laid as the tables say -/
theorem nw_lays {ci : Nat} {C : String} {T : u_T} {N : Nat} (h : nw_cl[ci]? = some (C, T, N)) : ∀ w ∈ u_ws C T N, w ∈ nw_gw := by
  match ci, h with
  | 0, h => cases h; exact nw_in0
  | 1, h => cases h; exact nw_in1
  | 2, h => cases h; exact nw_in2
  | 3, h => cases h; exact nw_in3
  | 4, h => cases h; exact nw_in4
  | 5, h => cases h; exact nw_in5
  | 6, h => cases h; exact nw_in6
  | 7, h => cases h; exact nw_in7
  | 8, h => cases h; exact nw_in8
  | 9, h => cases h; exact nw_in9
  | k + 10, h => simp [nw_cl] at h
def nw_tyf (ci : Nat) : Nat → FieldType := match ci with
  | 0 => tyX0
  | 1 => tyX1
  | 2 => tyX2
  | 3 => tyX3
  | 4 => tyX5
  | 5 => tyX6
  | 6 => tyX7
  | 7 => tyX8
  | 8 => tyX9
  | _ => tyX10
theorem nw_tyf_ok {ci : Nat} {C : String} {T : u_T} {N : Nat} (h : nw_cl[ci]? = some (C, T, N)) : ∀ k, k < N → parseFieldDescriptor (T k).2.2.1 = some (nw_tyf ci k) := by
  match ci, h with
  | 0, h => cases h; exact tyX0_ok
  | 1, h => cases h; exact tyX1_ok
  | 2, h => cases h; exact tyX2_ok
  | 3, h => cases h; exact tyX3_ok
  | 4, h => cases h; exact tyX5_ok
  | 5, h => cases h; exact tyX6_ok
  | 6, h => cases h; exact tyX7_ok
  | 7, h => cases h; exact tyX8_ok
  | 8, h => cases h; exact tyX9_ok
  | 9, h => cases h; exact tyX10_ok
  | k + 10, h => simp [nw_cl] at h
theorem nw_nmf {ci : Nat} {C : String} {T : u_T} {N : Nat} (h : nw_cl[ci]? = some (C, T, N)) : ∀ a, a < N → ∀ b, b < N → a ≠ b → (T a).2.1 ≠ (T b).2.1 := by
  match ci, h with
  | 0, h => cases h; exact nmX0
  | 1, h => cases h; exact nmX1
  | 2, h => cases h; exact nmX2
  | 3, h => cases h; exact nmX3
  | 4, h => cases h; exact nmX5
  | 5, h => cases h; exact nmX6
  | 6, h => cases h; exact nmX7
  | 7, h => cases h; exact nmX8
  | 8, h => cases h; exact nmX9
  | 9, h => cases h; exact nmX10
  | k + 10, h => simp [nw_cl] at h
theorem ev_get {i ci k f : Nat} {fs : List (Option (Option Nat))} {o : Option (Option Nat)} {v : Value} (hf : nw_fl M.1.cls i ci f) (hd : decode M.2.1 pc = .ok (.getfield i, 3)) (hk : sh[k]? = some (.inr (ci, fs))) (ho : fs[f]? = some o) (hv : nw_fv g I k f o = v) (hci : ci < 100)
    (kk : nw_Ev l g d M (pc + 3) ls (v :: st) sh I kc ks Post) : nw_Ev l g d M pc ls (.ref (nw_a g k) :: st) sh I kc ks Post := by
  intro p e R s m args below meth c H locs cells slots Q la cx ws wh hs hl h1 h2 hr
  obtain ⟨C, T, N, q1, q2, q3, q4⟩ := hf
  refine va_get (ref := C) (q0 := 0) (k := f) (v := v) cx.1 cx.2.1 cx.2.2.2.2.1 (nw_lays q1) cx.2.2.2.1 ws.2.1 (wh.obj hk hci) rfl q1 q2 (cx.2.2.2.2.1 _ q4) (fun x hx => by rw [← q3]; exact hx) ?_ hd (kk p e R s m args below meth c H locs cells slots Q la cx ws wh hs hl h1 h2 hr)
  rw [nw_fs_get, ho, ← hv, Nat.zero_add]
  rfl
theorem ev_getI {i ci k f : Nat} {fs : List (Option (Option Nat))} (hf : nw_fl M.1.cls i ci f) (hd : decode M.2.1 pc = .ok (.getfield i, 3)) (hk : sh[k]? = some (.inr (ci, fs))) (ho : fs[f]? = some none) (hci : ci < 100)
    (kk : nw_Ev l g d M (pc + 3) ls (.int (I k f) :: st) sh I kc ks Post) : nw_Ev l g d M pc ls (.ref (nw_a g k) :: st) sh I kc ks Post := ev_get hf hd hk ho rfl hci kk
theorem ev_getR {i ci k f j : Nat} {fs : List (Option (Option Nat))} (hf : nw_fl M.1.cls i ci f) (hd : decode M.2.1 pc = .ok (.getfield i, 3)) (hk : sh[k]? = some (.inr (ci, fs))) (ho : fs[f]? = some (some (some j))) (hci : ci < 100)
    (kk : nw_Ev l g d M (pc + 3) ls (.ref (nw_a g j) :: st) sh I kc ks Post) : nw_Ev l g d M pc ls (.ref (nw_a g k) :: st) sh I kc ks Post := ev_get hf hd hk ho rfl hci kk
/-- an int (or boolean) field that is not final -/
theorem ev_putI {i ci k f : Nat} {fs : List (Option (Option Nat))} {v : Int32} {T : u_T} {N : Nat} {C : String} (hf : nw_fl M.1.cls i ci f) (hd : decode M.2.1 pc = .ok (.putfield i, 3)) (hk : sh[k]? = some (.inr (ci, fs))) (ho : fs[f]? = some none) (hci : ci < 100) (hcl : nw_cl[ci]? = some (C, T, N)) (hfin : (T f).2.2.2 = false) (hn : narrow (nw_tyf ci f) (.int v) = .int v) (hfit : fits (nw_tyf ci f) (.int v) = true)
    (kk : nw_Ev l g d M (pc + 3) ls st sh (nw_up I k f v) kc ks Post) : nw_Ev l g d M pc ls (.int v :: .ref (nw_a g k) :: st) sh I kc ks Post := by
  intro p e R s m args below meth c H locs cells slots Q la cx ws wh hs hl h1 h2 hr
  obtain ⟨C', T', N', q1, q2, q3, q4⟩ := hf
  cases q1.symm.trans hcl
  have hts := cx.2.2.2.2.1
  have hP := wh.obj hk hci
  have hin := nw_lays hcl
  have hap := va_apart (own := M.1.cls) hts hin _ (nw_tyf_ok hcl) (nw_nmf hcl) ws.2.1 hcl
  obtain ⟨r, g1, cell, c1, c2, c3, c4⟩ := hP 0 _ rfl
  have hrr : r = (C, T, N) := Option.some.inj (g1.symm.trans hcl)
  subst hrr
  obtain ⟨hS, hfc, kC, hkC, hkind⟩ := ws.2.1.1 ci _ hcl
  obtain ⟨cf, kf, fi, fd, hi, hsl⟩ := hS f q2
  have hlay := hts _ (hin _ (u_in_lay q2))
  unfold u_lay at hlay
  rw [if_neg (by rw [hfin]; decide)] at hlay
  have hst := (u_facts hfc hkC (u_lays hts hin q2) hi).1
  have h6 := u_store hfc hkC hkind hlay hi (nw_tyf_ok hcl f q2) hn hfit
  have hi' : s.fieldFound? C (T f).2.1 (T f).2.2.1 = some (cf, kf, fi, fd) := by rw [← q3]; exact hi
  refine W.putK cx.1 cx.2.1 (f := fd) ⟨cx.2.2.2.1, hts _ q4, ⟨_, _, _, hi'⟩, hst⟩ (by rw [c2]; exact h6) c1 c3 (by rw [hsl]; exact k2_hasslot (c4 f q2)) rfl rfl hd fun H' e1 e2 e3 => ?_
  rw [hsl] at e1 ⊢
  have hlen : k < sh.length := (List.getElem?_eq_some_iff.mp hk).1
  have wh' : nw_Wh g sh (nw_up I k f v) H' := by
    refine wh.set (c' := .inr (ci, fs)) (nw_set_self hk) (fun j hj => nw_up_ne hj) e2 e3 hlen ?_
    simp only [nw_e, if_pos hci]
    rw [nw_fs_up g I k f v ho]
    exact ⟨_, hcl, t_OB.to (V := updV (vp_V (nw_fs g I k 0 fs)) f (.int v)) ⟨_, e1, c2, c3, t_set c4 hap q2 _⟩ (fun j _ => vp_updV_set (by rw [nw_fs_len]; exact (List.getElem?_eq_some_iff.mp ho).1) _ j)⟩
  exact kk p e R s m args below meth c H' _ cells slots Q la cx ws wh' (hs.put e2 e3 (nw_A_a g k)) hl h1 h2 hr

theorem ev_iald {k n : Nat} {i : Int32} (hd : decode M.2.1 pc = .ok (.iaload, 1)) (hk : sh[k]? = some (.inl (0, n))) (hin : vp_in i n)
    (kk : nw_Ev l g d M (pc + 1) ls (.int (I k i.toNatClampNeg) :: st) sh I kc ks Post) : nw_Ev l g d M pc ls (.int i :: .ref (nw_a g k) :: st) sh I kc ks Post :=
  fun p e R s m args below meth c H locs cells slots Q la cx ws wh hs hl h1 h2 hr => va_iald (q0 := 0) (t0 := 0) cx.1 cx.2.1 ws.2.1 (wh.arr hk) rfl rfl hin hd (kk p e R s m args below meth c H locs cells slots Q la cx ws wh hs hl h1 h2 hr)
theorem ev_zald {k n : Nat} {i : Int32} (hd : decode M.2.1 pc = .ok (.baload, 1)) (hk : sh[k]? = some (.inl (1, n))) (hin : vp_in i n)
    (kk : nw_Ev l g d M (pc + 1) ls (.int (I k i.toNatClampNeg) :: st) sh I kc ks Post) : nw_Ev l g d M pc ls (.int i :: .ref (nw_a g k) :: st) sh I kc ks Post :=
  fun p e R s m args below meth c H locs cells slots Q la cx ws wh hs hl h1 h2 hr => va_zald (q0 := 0) (t0 := 1) cx.1 cx.2.1 ws.2.1 (wh.arr hk) rfl rfl hin hd (kk p e R s m args below meth c H locs cells slots Q la cx ws wh hs hl h1 h2 hr)
theorem nw_ast {H H' : Heap} (wh : nw_Wh g sh I H) {k t n : Nat} {i : Nat} {x : Int32} (hk : sh[k]? = some (.inl (t, n))) (e : H'[nw_a g k]? = some ((vp_cell (nw_ca g t) (n, .inl (I k))).setSlot i (.int x))) (e2 : H'.size = H.size) (e3 : ∀ q, q ≠ nw_a g k → H'[q]? = H[q]?) : nw_Wh g sh (nw_up I k i x) H' := by
  refine wh.set (c' := .inl (t, n)) (nw_set_self hk) (fun j hj => nw_up_ne hj) e2 e3 (List.getElem?_eq_some_iff.mp hk).1 ?_
  show H'[nw_a g k]? = some (vp_cell (nw_ca g t) (n, .inl (nw_up I k i x k)))
  rw [e, nw_up_self, vp_cell_i, vp_cell_i, arrV_store]
  congr 2
  funext q
  by_cases hq : q = i
  · subst hq
    simp [updV, upd]
  · simp [updV, upd, hq]
theorem ev_iast {k n : Nat} {i x : Int32} (hd : decode M.2.1 pc = .ok (.iastore, 1)) (hk : sh[k]? = some (.inl (0, n))) (hin : vp_in i n)
    (kk : nw_Ev l g d M (pc + 1) ls st sh (nw_up I k i.toNatClampNeg x) kc ks Post) : nw_Ev l g d M pc ls (.int x :: .int i :: .ref (nw_a g k) :: st) sh I kc ks Post := by
  intro p e R s m args below meth c H locs cells slots Q la cx ws wh hs hl h1 h2 hr
  refine W.iast cx.1 cx.2.1 (wh.arr hk 0 _ rfl) ((ws.2.1.2 0 _ rfl).1 n (fun j => .int (I k j))) (fun q => by cases q) (by show ¬ (i < 0 ∨ (arrV _ _ _).slots.size ≤ _); rw [arrV_size]; exact hin) rfl rfl hd fun H1 e1 e2 e3 => ?_
  exact kk p e R s m args below meth c H1 _ cells slots Q la cx ws (nw_ast wh hk e1 e2 e3) (hs.put e2 e3 (nw_A_a g k)) hl h1 h2 hr
theorem ev_zast {k n : Nat} {i x : Int32} (hd : decode M.2.1 pc = .ok (.bastore, 1)) (hk : sh[k]? = some (.inl (1, n))) (hin : vp_in i n) (hx : narrow .boolean (.int x) = .int x)
    (kk : nw_Ev l g d M (pc + 1) ls st sh (nw_up I k i.toNatClampNeg x) kc ks Post) : nw_Ev l g d M pc ls (.int x :: .int i :: .ref (nw_a g k) :: st) sh I kc ks Post := by
  intro p e R s m args below meth c H locs cells slots Q la cx ws wh hs hl h1 h2 hr
  refine W.zast cx.1 cx.2.1 (wh.arr hk 0 _ rfl) ((ws.2.1.2 1 _ rfl).1 n (fun j => .int (I k j))) (fun q => by cases q) (by show ¬ (i < 0 ∨ (arrV _ _ _).slots.size ≤ _); rw [arrV_size]; exact hin) rfl rfl hd fun H1 e1 e2 e3 => ?_
  rw [hx] at e1
  exact kk p e R s m args below meth c H1 _ cells slots Q la cx ws (nw_ast wh hk e1 e2 e3) (hs.put e2 e3 (nw_A_a g k)) hl h1 h2 hr
theorem nw_aald {t k : Nat} {ty : FieldType} {i : Int32} {j : Nat} {fs : List (Option (Option Nat))} (hty : (nw_ty g)[t]? = some (nw_ca g t, ty)) (href : ty.isReference = true) (hd : decode M.2.1 pc = .ok (.aaload, 1)) (hk : sh[k]? = some (.inr (100 + t, fs))) (hin : vp_in i fs.length) (hj : fs[i.toNatClampNeg]? = some (some (some j)))
    (kk : nw_Ev l g d M (pc + 1) ls (.ref (nw_a g j) :: st) sh I kc ks Post) : nw_Ev l g d M pc ls (.int i :: .ref (nw_a g k) :: st) sh I kc ks Post := by
  intro p e R s m args below meth c H locs cells slots Q la cx ws wh hs hl h1 h2 hr
  have hlt : i.toNatClampNeg < fs.length := Nat.not_le.mp fun q => hin (Or.inr q)
  refine W.aald (v := .ref (nw_a g j)) (ty := ty) cx.1 cx.2.1 (wh.row hk 0 _ rfl) ((ws.2.1.2 t _ hty).1 fs.length (fun j => va_rf (nw_rf g fs j))) href (fun q => by cases q) (by show ¬ (i < 0 ∨ (arrV _ _ _).slots.size ≤ _); rw [arrV_size]; exact hin) (by show (arrV _ _ _).slots[_]? = _; rw [arrV_read _ _ hlt]; simp [nw_rf, hj, va_rf]) rfl rfl hd (kk p e R s m args below meth c H locs cells slots Q la cx ws wh hs hl h1 h2 hr)
/-- the script, NEXT, TOLD -/
theorem ev_sld {i : Int32} (hd : decode M.2.1 pc = .ok (.iaload, 1)) (hin : vp_in i (nw_L g)) (kk : nw_Ev l g d M (pc + 1) ls (.int (nw_xs g i.toNatClampNeg) :: st) sh I kc ks Post) : nw_Ev l g d M pc ls (.int i :: .ref (nw_sc g) :: st) sh I kc ks Post :=
  fun p e R s m args below meth c H locs cells slots Q la cx ws wh hs hl h1 h2 hr => va_sld cx.1 cx.2.1 ws.2.2.1 (nw_X_lt ws.2.2.1) (fun h => by unfold nw_A at h; have := ws.2.2.2.2.2.2.2.1; omega) hs hin hd (kk p e R s m args below meth c H locs cells slots Q la cx ws wh hs hl h1 h2 hr)
theorem ev_slen (hd : decode M.2.1 pc = .ok (.arraylength, 1)) (kk : nw_Ev l g d M (pc + 1) ls (.int (Int32.ofNat (nw_L g)) :: st) sh I kc ks Post) : nw_Ev l g d M pc ls (.ref (nw_sc g) :: st) sh I kc ks Post :=
  fun p e R s m args below meth c H locs cells slots Q la cx ws wh hs hl h1 h2 hr => va_slen cx.1 cx.2.1 ws.2.2.1 (nw_X_lt ws.2.2.1) (fun h => by unfold nw_A at h; have := ws.2.2.2.2.2.2.2.1; omega) hs hd (kk p e R s m args below meth c H locs cells slots Q la cx ws wh hs hl h1 h2 hr)
theorem ev_nld {i : Int32} (hd : decode M.2.1 pc = .ok (.iaload, 1)) (hin : vp_in i 6) (kk : nw_Ev l g d M (pc + 1) ls (.int (nw_NEXT i.toNatClampNeg) :: st) sh I kc ks Post) : nw_Ev l g d M pc ls (.int i :: .ref (nw_nx g) :: st) sh I kc ks Post :=
  fun p e R s m args below meth c H locs cells slots Q la cx ws wh hs hl h1 h2 hr => va_sld cx.1 cx.2.1 ws.2.2.2.1 (nw_X_lt ws.2.2.2.1) (fun h => by unfold nw_A at h; have := ws.2.2.2.2.2.2.2.2.1; omega) hs hin hd (kk p e R s m args below meth c H locs cells slots Q la cx ws wh hs hl h1 h2 hr)
theorem ev_nlen (hd : decode M.2.1 pc = .ok (.arraylength, 1)) (kk : nw_Ev l g d M (pc + 1) ls (.int 6 :: st) sh I kc ks Post) : nw_Ev l g d M pc ls (.ref (nw_nx g) :: st) sh I kc ks Post :=
  fun p e R s m args below meth c H locs cells slots Q la cx ws wh hs hl h1 h2 hr => va_slen cx.1 cx.2.1 ws.2.2.2.1 (nw_X_lt ws.2.2.2.1) (fun h => by unfold nw_A at h; have := ws.2.2.2.2.2.2.2.2.1; omega) hs hd (kk p e R s m args below meth c H locs cells slots Q la cx ws wh hs hl h1 h2 hr)
theorem ev_tld {i : Int32} (hd : decode M.2.1 pc = .ok (.iaload, 1)) (hin : vp_in i 12) (kk : nw_Ev l g d M (pc + 1) ls (.int (nw_TOLD i.toNatClampNeg) :: st) sh I kc ks Post) : nw_Ev l g d M pc ls (.int i :: .ref (nw_td g) :: st) sh I kc ks Post :=
  fun p e R s m args below meth c H locs cells slots Q la cx ws wh hs hl h1 h2 hr => va_sld cx.1 cx.2.1 ws.2.2.2.2.1 (nw_X_lt ws.2.2.2.2.1) (fun h => by unfold nw_A at h; have := ws.2.2.2.2.2.2.2.2.2.1; omega) hs hin hd (kk p e R s m args below meth c H locs cells slots Q la cx ws wh hs hl h1 h2 hr)
theorem ev_gets_next {i : Nat} (hq : Cond.fieldLink M.1.cls i RX4 "NEXT" "[I" ∈ nw_gw) (hd : decode M.2.1 pc = .ok (.getstatic i, 3)) (kk : nw_Ev l g d M (pc + 3) ls (.ref (nw_nx g) :: st) sh I kc ks Post) : nw_Ev l g d M pc ls st sh I kc ks Post :=
  fun p e R s m args below meth c H locs cells slots Q la cx ws wh hs hl h1 h2 hr => va_gets cx.1 cx.2.1 ws.2.2.2.2.2.1 hs cx.2.2.2.1 (cx.2.2.2.2.1 _ hq) (fun _ h => h) hd (kk p e R s m args below meth c H locs cells slots Q la cx ws wh hs hl h1 h2 hr)
theorem ev_gets_told {i : Nat} (hq : Cond.fieldLink M.1.cls i RX1 "TOLD" "[I" ∈ nw_gw) (hd : decode M.2.1 pc = .ok (.getstatic i, 3)) (kk : nw_Ev l g d M (pc + 3) ls (.ref (nw_td g) :: st) sh I kc ks Post) : nw_Ev l g d M pc ls st sh I kc ks Post :=
  fun p e R s m args below meth c H locs cells slots Q la cx ws wh hs hl h1 h2 hr => va_gets cx.1 cx.2.1 ws.2.2.2.2.2.2.1 hs cx.2.2.2.1 (cx.2.2.2.2.1 _ hq) (fun _ h => h) hd (kk p e R s m args below meth c H locs cells slots Q la cx ws wh hs hl h1 h2 hr)

end
end
section
/-! Calls, makings, copies. -/
theorem nw_good : GoodIn nw_gw nw_gw := fun w hw => ⟨hw, good_of_word (List.mem_filter.mp hw).2⟩
def nw_rm (d kc ks : Nat) : Room := { frames := d + 1, cells := kc, slots := ks, locals := 60 * (d + 1) }
def nw_wsM (M : nw_Mt) : List Cond := Cond.code M.1 M.2.1 M.2.2.1 M.2.2.2 :: nw_gw
theorem nw_goodM {M : nw_Mt} {n : Nat} (hk : nw_ok M n) : GoodIn nw_gw (nw_wsM M) := fun w h => (List.mem_cons.mp h).elim (fun e => by rw [e]; exact nw_good _ hk.1) (fun h => nw_good w h)
def nw_Pc (g : nw_G) (sh : List nw_Sh) (I : nw_Me) (av : List Value) : Array Value → State → Prop := va_Pc av (fun U => nw_Ws g U ∧ nw_Wh g sh I U.heap)
theorem nw_blind (g : nw_G) (sh : List nw_Sh) (I : nw_Me) (av : List Value) : FrameBlind (nw_Pc g sh I av) := fun a U g' mk q => ⟨q.1, q.2.1.go (H := U.heap) (locs := []) va_S.rf rfl (State.WarmedH.refl U), q.2.2⟩
theorem nw_sys_i : Cond.initialized "java/lang/System" ∈ nw_gw := tb_in (i := 11) (by decide +kernel)
theorem nw_math_i : Cond.initialized "java/lang/Math" ∈ nw_gw := tb_in (i := 13) (by decide +kernel)
theorem nw_cpy_s : Cond.static arraycopyName ∈ nw_gw := tb_in (i := 359) (by decide +kernel)
theorem nw_cpy_n : Cond.native arraycopyName ∈ nw_gw := tb_in (i := 360) (by decide +kernel)
theorem nw_min_s : Cond.static Lib.Math.min.name ∈ nw_gw := tb_in (i := 484) (by decide +kernel)
theorem nw_min_c : Cond.code Lib.Math.min.name Lib.Math.min.code 2 (some .int) ∈ nw_gw := tb_in (i := 485) (by decide +kernel)
theorem nw_max_s : Cond.static Lib.Math.max.name ∈ nw_gw := tb_in (i := 507) (by decide +kernel)
theorem nw_max_c : Cond.code Lib.Math.max.name Lib.Math.max.code 2 (some .int) ∈ nw_gw := tb_in (i := 508) (by decide +kernel)
theorem jX7_23 : Cond.methodLink RX7 23 arraycopyName ∈ nw_gw := tb_in (i := 358) (by decide +kernel)
theorem jX2_38 : Cond.methodLink RX2 38 arraycopyName ∈ nw_gw := tb_in (i := 459) (by decide +kernel)
theorem jX8_37 : Cond.methodLink RX8 37 arraycopyName ∈ nw_gw := tb_in (i := 464) (by decide +kernel)
theorem jX5_71 : Cond.methodLink RX5 71 arraycopyName ∈ nw_gw := tb_in (i := 660) (by decide +kernel)
theorem jX0_27 : Cond.methodLink RX0 27 Lib.Math.min.name ∈ nw_gw := tb_in (i := 483) (by decide +kernel)
theorem jX2_54 : Cond.methodLink RX2 54 Lib.Math.max.name ∈ nw_gw := tb_in (i := 506) (by decide +kernel)
theorem jX8_79 : Cond.methodLink RX8 79 Lib.Math.max.name ∈ nw_gw := tb_in (i := 546) (by decide +kernel)
theorem jX9_1 : Cond.methodLink RX9 1 objectInit ∈ nw_gw := tb_in (i := 19) (by decide +kernel)
theorem jX7_3 : Cond.methodLink RX7 3 objectInit ∈ nw_gw := tb_in (i := 27) (by decide +kernel)
theorem jX6_1 : Cond.methodLink RX6 1 objectInit ∈ nw_gw := tb_in (i := 46) (by decide +kernel)
theorem jX2_1 : Cond.methodLink RX2 1 objectInit ∈ nw_gw := tb_in (i := 72) (by decide +kernel)
theorem jX8_3 : Cond.methodLink RX8 3 objectInit ∈ nw_gw := tb_in (i := 130) (by decide +kernel)
theorem jX0_1 : Cond.methodLink RX0 1 objectInit ∈ nw_gw := tb_in (i := 171) (by decide +kernel)
theorem jX5_1 : Cond.methodLink RX5 1 objectInit ∈ nw_gw := tb_in (i := 191) (by decide +kernel)
theorem jX1_1 : Cond.methodLink RX1 1 objectInit ∈ nw_gw := tb_in (i := 219) (by decide +kernel)
theorem jX3_1 : Cond.methodLink RX3 1 objectInit ∈ nw_gw := tb_in (i := 247) (by decide +kernel)
theorem jX10_1 : Cond.methodLink RX10 1 objectInit ∈ nw_gw := tb_in (i := 804) (by decide +kernel)
section
variable {l : Launch} {g : nw_G} {d : Nat} {M M' : nw_Mt} {pc n : Nat} {ls : List (Option Value)} {st av : List Value} {sh : List nw_Sh} {I : nw_Me} {kc ks kc1 ks1 : Nat} {Post Post1 : Option Int32 → List nw_Sh → nw_Me → Prop}
theorem nw_metI {ty : FieldType} (h : nw_EM l g d M av sh I kc ks Post) (hk : nw_ok M n) (hret : M.2.2.2 = some ty) (hnar : ∀ v sh' I', Post v sh' I' → ∃ x, v = some x ∧ narrow ty (.int x) = .int x) (hlen : (nw_lo av).length ≤ M.2.2.1) :
    Met l M.1 (nw_wsM M) (nw_rm d kc ks) (nw_Pc g sh I av) (va_Qi (S := List nw_Sh × nw_Me) (fun r u => Post (some r) u.1 u.2) (fun u t => nw_Wh g u.1 u.2 t.heap) (nw_A g)) kc ks (nw_A g) := by
  refine Met.ofW (cc := M.2.1) (maxL := M.2.2.1) (ret := M.2.2.2) hk.2.2.2.1 rfl ?_
  intro p e s m args below meth c s₁ B hml hv
  obtain ⟨rfl, hWs, hWh⟩ := hv
  have hts := atoms_spec (ws := nw_wsM M) B.pre
  rw [lg_entry_eq]
  refine h p e _ s m _ below meth c s.heap [] 0 0 _ _ ⟨B.exec, B.bytes, hml, findClass_of_methodNamed B.named, fun w hw => hts w (List.mem_cons_of_mem _ hw), (name_of_methodNamed B.named B.method).1, Nat.le_refl _, Nat.le_refl _⟩ hWs hWh va_S.rf (nw_entry M av hlen) (by show 0 + kc ≤ kc; omega) (by show 0 + ks ≤ ks; omega) ?_
  intro v sh' I' H' locs' hp wh' hs'
  obtain ⟨x, rfl, hx⟩ := hnar v sh' I' hp
  intro pc la hd
  rw [Nat.zero_add, Nat.zero_add]
  exact W.zret B.exec B.bytes (B.returns.trans hret) hx (fun t ht hW => ⟨⟨x, (sh', I'), rfl, hp, by show nw_Wh g sh' I' t.heap; rw [ht]; exact wh'⟩, hs'.F ht⟩) (fun q hq => hs'.2.2 q hq) hd B.notSynchronized
theorem nw_metV (h : nw_EM l g d M av sh I kc ks Post) (hk : nw_ok M n) (hret : M.2.2.2 = none) (hnar : ∀ v sh' I', Post v sh' I' → v = none) (hlen : (nw_lo av).length ≤ M.2.2.1) :
    Met l M.1 (nw_wsM M) (nw_rm d kc ks) (nw_Pc g sh I av) (va_Qv (S := List nw_Sh × nw_Me) (fun u => Post none u.1 u.2) (fun u t => nw_Wh g u.1 u.2 t.heap) (nw_A g)) kc ks (nw_A g) := by
  refine Met.ofW (cc := M.2.1) (maxL := M.2.2.1) (ret := M.2.2.2) hk.2.2.2.1 rfl ?_
  intro p e s m args below meth c s₁ B hml hv
  obtain ⟨rfl, hWs, hWh⟩ := hv
  have hts := atoms_spec (ws := nw_wsM M) B.pre
  rw [lg_entry_eq]
  refine h p e _ s m _ below meth c s.heap [] 0 0 _ _ ⟨B.exec, B.bytes, hml, findClass_of_methodNamed B.named, fun w hw => hts w (List.mem_cons_of_mem _ hw), (name_of_methodNamed B.named B.method).1, Nat.le_refl _, Nat.le_refl _⟩ hWs hWh va_S.rf (nw_entry M av hlen) (by show 0 + kc ≤ kc; omega) (by show 0 + ks ≤ ks; omega) ?_
  intro v sh' I' H' locs' hp wh' hs'
  have := hnar v sh' I' hp
  subst this
  intro pc la hd
  rw [Nat.zero_add, Nat.zero_add]
  exact W.vret B.exec B.bytes (B.returns.trans hret) (fun t ht hW => ⟨⟨(sh', I'), rfl, hp, by show nw_Wh g sh' I' t.heap; rw [ht]; exact wh'⟩, hs'.F ht⟩) (fun q hq => hs'.2.2 q hq) hd B.notSynchronized
theorem nw_callB {p : Program} {R : Room} {s : State} {m : MethodId} {args : Array Value} {meth : Method} {c : Code} {i : Nat} (cx : nw_Cx p R s m args meth c (d + 1) M) (hk : nw_ok M' n) (hl : nw_ml M.1.cls i M') : CallB R s args M.1.cls i M'.1 M'.2.1 M'.2.2.1 M'.2.2.2 (nw_wsM M') (nw_rm d kc ks) kc ks n :=
  callB_of n cx.2.2.2.2.1 (nw_goodM hk) rfl rfl rfl (cx.2.2.2.2.1 _ hk.2.1) (cx.2.2.2.2.1 _ hl) hk.2.2.1 ⟨cx.2.2.2.2.2.2.1, by have h1 := cx.2.2.2.2.2.2.2; have h2 := hk.2.2.2.2; show 8 + (M'.2.2.1 + 11) + 60 * (d + 1) ≤ R.locals; omega⟩
theorem nw_callN {p : Program} {R : Room} {s : State} {m : MethodId} {args : Array Value} {meth : Method} {c : Code} {i : Nat} {host : String} (cx : nw_Cx p R s m args meth c (d + 1) M) (hk : nw_ok M' n) (hl : va_Nw (.methodLinkNest M.1.cls i M'.1 host) s) : va_CN R s args M.1.cls i M'.1 host M'.2.1 M'.2.2.1 M'.2.2.2 (nw_wsM M') (nw_rm d kc ks) kc ks n :=
  va_cnB n cx.2.2.2.2.1 (nw_goodM hk) rfl rfl rfl hl (cx.2.2.2.2.1 _ hk.2.1) hk.2.2.1 ⟨cx.2.2.2.2.2.2.1, by have h1 := cx.2.2.2.2.2.2.2; have h2 := hk.2.2.2.2; show 8 + (M'.2.2.1 + 11) + 60 * (d + 1) ≤ R.locals; omega⟩
theorem nw_pre {s U : State} {H : Heap} {locs : List Loc} (ws : nw_Ws g s) (wh : nw_Wh g sh I H) (hs : va_S (nw_A g) s.heap H locs) (av : List Value) : PreS s H (nw_Pc g sh I av) av := ⟨nw_blind g sh I av, fun U hU hW => ⟨rfl, ws.go hs hU hW, by rw [hU]; exact wh⟩⟩
/-- a virtual call that answers an int or a boolean -/
theorem ev_callVi {ty : FieldType} {i k ci N : Nat} {T : u_T} {fs : List (Option (Option Nat))} {As : List Value} (h : nw_EM l g d M' (.ref (nw_a g k) :: As) sh I kc1 ks1 Post1) (hl : nw_ml M.1.cls i M') (hk : nw_ok M' n) (hv : nw_iv M') (hd : decode M.2.1 pc = .ok (.invokevirtual i, 3)) (hret : M'.2.2.2 = some ty) (hnar : ∀ v sh' I', Post1 v sh' I' → ∃ x, v = some x ∧ narrow ty (.int x) = .int x) (hlen : (nw_lo (.ref (nw_a g k) :: As)).length ≤ M'.2.2.1) (hn : As.length = n)
    (hsh : sh[k]? = some (.inr (ci, fs))) (hci : ci < 100) (hcl : nw_cl[ci]? = some (M'.1.cls, T, N)) (hst : (st.map fun v => v.category).sum ≤ 8)
    (kk : ∀ r sh' I', Post1 (some r) sh' I' → nw_Ev l g (d + 1) M (pc + 3) ls (.int r :: st) sh' I' kc ks Post) : nw_Ev l g (d + 1) M pc ls (As.reverse ++ .ref (nw_a g k) :: st) sh I (kc1 + kc) (ks1 + ks) Post := by
  intro p e R s m args below meth c H locs cells slots Q la cx ws wh hs hlr h1 h2 hr
  have hpre := nw_pre (U := s) ws wh hs (.ref (nw_a g k) :: As)
  refine va_calli (va_runV (As := As) (rest := st) (C := M'.1.cls) ⟨cx.1, cx.2.1, cx.2.2.1, cx.2.2.2.1, cx.2.2.2.2.1⟩ (nw_metI h hk hret hnar hlen) ⟨nw_callB cx hk hl, cx.2.2.2.2.1 _ hv.1, cx.2.2.2.2.1 _ hv.2⟩ ⟨hpre.1, va_recv ws.2.1 (wh.obj hsh hci) hcl (q0 := 0) rfl, hpre.2⟩ rfl hn hlr.1 rfl (lv_room hst) hd ⟨by omega, by omega⟩) hs (fun q _ h => h) (fun q h => h) (fun r u t H1 locs1 ht hvm hw hB hz1 hk1 hS => ?_)
  rw [ht] at hB
  refine kk r u.1 u.2 hw p e R s m args below meth c H1 locs1 (cells + kc1) (slots + ks1) Q la cx ws hB hS hlr (by omega) (by omega) ?_
  intro v sh' I' H' locs' q1 q2 q3
  rw [Nat.add_assoc, Nat.add_assoc]
  exact hr v sh' I' H' locs' q1 q2 q3
theorem ev_callVv {i k ci N : Nat} {T : u_T} {fs : List (Option (Option Nat))} {As : List Value} (h : nw_EM l g d M' (.ref (nw_a g k) :: As) sh I kc1 ks1 Post1) (hl : nw_ml M.1.cls i M') (hk : nw_ok M' n) (hv : nw_iv M') (hd : decode M.2.1 pc = .ok (.invokevirtual i, 3)) (hret : M'.2.2.2 = none) (hnar : ∀ v sh' I', Post1 v sh' I' → v = none) (hlen : (nw_lo (.ref (nw_a g k) :: As)).length ≤ M'.2.2.1) (hn : As.length = n)
    (hsh : sh[k]? = some (.inr (ci, fs))) (hci : ci < 100) (hcl : nw_cl[ci]? = some (M'.1.cls, T, N)) (hst : (st.map fun v => v.category).sum ≤ 8)
    (kk : ∀ sh' I', Post1 none sh' I' → nw_Ev l g (d + 1) M (pc + 3) ls st sh' I' kc ks Post) : nw_Ev l g (d + 1) M pc ls (As.reverse ++ .ref (nw_a g k) :: st) sh I (kc1 + kc) (ks1 + ks) Post := by
  intro p e R s m args below meth c H locs cells slots Q la cx ws wh hs hlr h1 h2 hr
  have hpre := nw_pre (U := s) ws wh hs (.ref (nw_a g k) :: As)
  refine va_callv (va_runV (As := As) (rest := st) (C := M'.1.cls) ⟨cx.1, cx.2.1, cx.2.2.1, cx.2.2.2.1, cx.2.2.2.2.1⟩ (nw_metV h hk hret hnar hlen) ⟨nw_callB cx hk hl, cx.2.2.2.2.1 _ hv.1, cx.2.2.2.2.1 _ hv.2⟩ ⟨hpre.1, va_recv ws.2.1 (wh.obj hsh hci) hcl (q0 := 0) rfl, hpre.2⟩ rfl hn hlr.1 rfl (lv_room hst) hd ⟨by omega, by omega⟩) hs (fun q _ h => h) (fun q h => h) (fun u t H1 locs1 ht hvm hw hB hz1 hk1 hS => ?_)
  rw [ht] at hB
  refine kk u.1 u.2 hw p e R s m args below meth c H1 locs1 (cells + kc1) (slots + ks1) Q la cx ws hB hS hlr (by omega) (by omega) ?_
  intro v sh' I' H' locs' q1 q2 q3
  rw [Nat.add_assoc, Nat.add_assoc]
  exact hr v sh' I' H' locs' q1 q2 q3
/-- a static call that answers an int or a boolean -/
theorem ev_callSi {ty : FieldType} {i : Nat} {As : List Value} (h : nw_EM l g d M' As sh I kc1 ks1 Post1) (hl : nw_ml M.1.cls i M') (hk : nw_ok M' n) (hv : nw_ss M') (hd : decode M.2.1 pc = .ok (.invokestatic i, 3)) (hret : M'.2.2.2 = some ty) (hnar : ∀ v sh' I', Post1 v sh' I' → ∃ x, v = some x ∧ narrow ty (.int x) = .int x) (hlen : (nw_lo As).length ≤ M'.2.2.1) (hn : As.length = n) (hst : (st.map fun v => v.category).sum ≤ 8)
    (kk : ∀ r sh' I', Post1 (some r) sh' I' → nw_Ev l g (d + 1) M (pc + 3) ls (.int r :: st) sh' I' kc ks Post) : nw_Ev l g (d + 1) M pc ls (As.reverse ++ st) sh I (kc1 + kc) (ks1 + ks) Post := by
  intro p e R s m args below meth c H locs cells slots Q la cx ws wh hs hlr h1 h2 hr
  refine va_calli (va_runS (As := As) (rest := st) ⟨cx.1, cx.2.1, cx.2.2.1, cx.2.2.2.1, cx.2.2.2.2.1⟩ (nw_metI h hk hret hnar hlen) ⟨nw_callB cx hk hl, cx.2.2.2.2.1 _ hv⟩ (nw_pre (U := s) ws wh hs As) rfl hn hlr.1 rfl (lv_room hst) hd ⟨by omega, by omega⟩) hs (fun q _ h => h) (fun q h => h) (fun r u t H1 locs1 ht hvm hw hB hz1 hk1 hS => ?_)
  rw [ht] at hB
  refine kk r u.1 u.2 hw p e R s m args below meth c H1 locs1 (cells + kc1) (slots + ks1) Q la cx ws hB hS hlr (by omega) (by omega) ?_
  intro v sh' I' H' locs' q1 q2 q3
  rw [Nat.add_assoc, Nat.add_assoc]
  exact hr v sh' I' H' locs' q1 q2 q3
theorem ev_callSN {ty : FieldType} {i : Nat} {As : List Value} (h : nw_EM l g d M' As sh I kc1 ks1 Post1) (hl : nw_mn M.1.cls i M') (hk : nw_ok M' n) (hv : nw_ss M') (hd : decode M.2.1 pc = .ok (.invokestatic i, 3)) (hret : M'.2.2.2 = some ty) (hnar : ∀ v sh' I', Post1 v sh' I' → ∃ x, v = some x ∧ narrow ty (.int x) = .int x) (hlen : (nw_lo As).length ≤ M'.2.2.1) (hn : As.length = n) (hst : (st.map fun v => v.category).sum ≤ 8)
    (kk : ∀ r sh' I', Post1 (some r) sh' I' → nw_Ev l g (d + 1) M (pc + 3) ls (.int r :: st) sh' I' kc ks Post) : nw_Ev l g (d + 1) M pc ls (As.reverse ++ st) sh I (kc1 + kc) (ks1 + ks) Post := by
  intro p e R s m args below meth c H locs cells slots Q la cx ws wh hs hlr h1 h2 hr
  obtain ⟨host, hl⟩ := hl
  refine va_calli (va_runSN (As := As) (rest := st) ⟨cx.1, cx.2.1, cx.2.2.1, cx.2.2.2.1, cx.2.2.2.2.1⟩ (nw_metI h hk hret hnar hlen) ⟨nw_callN cx hk (ws.2.2.2.2.2.2.2.2.2.2.1 _ hl), cx.2.2.2.2.1 _ hv, trivial⟩ (nw_pre (U := s) ws wh hs As) rfl hn hlr.1 rfl (lv_room hst) hd ⟨by omega, by omega⟩) hs (fun q _ h => h) (fun q h => h) (fun r u t H1 locs1 ht hvm hw hB hz1 hk1 hS => ?_)
  rw [ht] at hB
  refine kk r u.1 u.2 hw p e R s m args below meth c H1 locs1 (cells + kc1) (slots + ks1) Q la cx ws hB hS hlr (by omega) (by omega) ?_
  intro v sh' I' H' locs' q1 q2 q3
  rw [Nat.add_assoc, Nat.add_assoc]
  exact hr v sh' I' H' locs' q1 q2 q3
/-- a constructor -/
theorem ev_callI {i b : Nat} (h : nw_EM l g d M' [.ref b] sh I kc1 ks1 Post1) (hl : nw_ml M.1.cls i M') (hk : nw_ok M' 0) (hv : nw_ii M') (hd : decode M.2.1 pc = .ok (.invokespecial i, 3)) (hret : M'.2.2.2 = none) (hnar : ∀ v sh' I', Post1 v sh' I' → v = none) (hlen : 1 ≤ M'.2.2.1) (hst : (st.map fun v => v.category).sum ≤ 8)
    (kk : ∀ sh' I', Post1 none sh' I' → nw_Ev l g (d + 1) M (pc + 3) ls st sh' I' kc ks Post) : nw_Ev l g (d + 1) M pc ls (.ref b :: st) sh I (kc1 + kc) (ks1 + ks) Post := by
  intro p e R s m args below meth c H locs cells slots Q la cx ws wh hs hlr h1 h2 hr
  have hB := nw_callB (kc := kc1) (ks := ks1) cx hk hl
  rw [hret] at hB
  refine va_callv (va_runI (As := []) (rest := st) (b := b) ⟨cx.1, cx.2.1, cx.2.2.1, cx.2.2.2.1, cx.2.2.2.2.1⟩ (nw_metV h hk hret hnar hlen) ⟨hB, hv.2, cx.2.2.2.2.1 _ hv.1⟩ (nw_pre (U := s) ws wh hs [.ref b]) rfl rfl hlr.1 rfl (lv_room hst) hd ⟨by omega, by omega⟩) hs (fun q _ h => h) (fun q h => h) (fun u t H1 locs1 ht hvm hw hB hz1 hk1 hS => ?_)
  rw [ht] at hB
  refine kk u.1 u.2 hw p e R s m args below meth c H1 locs1 (cells + kc1) (slots + ks1) Q la cx ws hB hS hlr (by omega) (by omega) ?_
  intro v sh' I' H' locs' q1 q2 q3
  rw [Nat.add_assoc, Nat.add_assoc]
  exact hr v sh' I' H' locs' q1 q2 q3
theorem ev_callIN {i b : Nat} (h : nw_EM l g d M' [.ref b] sh I kc1 ks1 Post1) (hl : nw_mn M.1.cls i M') (hk : nw_ok M' 0) (hv : nw_ii M') (hd : decode M.2.1 pc = .ok (.invokespecial i, 3)) (hret : M'.2.2.2 = none) (hnar : ∀ v sh' I', Post1 v sh' I' → v = none) (hlen : 1 ≤ M'.2.2.1) (hst : (st.map fun v => v.category).sum ≤ 8)
    (kk : ∀ sh' I', Post1 none sh' I' → nw_Ev l g (d + 1) M (pc + 3) ls st sh' I' kc ks Post) : nw_Ev l g (d + 1) M pc ls (.ref b :: st) sh I (kc1 + kc) (ks1 + ks) Post := by
  intro p e R s m args below meth c H locs cells slots Q la cx ws wh hs hlr h1 h2 hr
  obtain ⟨host, hl⟩ := hl
  have hB := nw_callN (kc := kc1) (ks := ks1) cx hk (ws.2.2.2.2.2.2.2.2.2.2.1 _ hl)
  rw [hret] at hB
  refine va_callv (va_runIN (As := []) (rest := st) (b := b) ⟨cx.1, cx.2.1, cx.2.2.1, cx.2.2.2.1, cx.2.2.2.2.1⟩ (nw_metV h hk hret hnar hlen) ⟨hB, hv.2, cx.2.2.2.2.1 _ hv.1⟩ (nw_pre (U := s) ws wh hs [.ref b]) rfl rfl hlr.1 rfl (lv_room hst) hd ⟨by omega, by omega⟩) hs (fun q _ h => h) (fun q h => h) (fun u t H1 locs1 ht hvm hw hB hz1 hk1 hS => ?_)
  rw [ht] at hB
  refine kk u.1 u.2 hw p e R s m args below meth c H1 locs1 (cells + kc1) (slots + ks1) Q la cx ws hB hS hlr (by omega) (by omega) ?_
  intro v sh' I' H' locs' q1 q2 q3
  rw [Nat.add_assoc, Nat.add_assoc]
  exact hr v sh' I' H' locs' q1 q2 q3
theorem ev_objInit {i b : Nat} (hl : Cond.methodLink M.1.cls i objectInit ∈ nw_gw) (hd : decode M.2.1 pc = .ok (.invokespecial i, 3)) (hst : (st.map fun v => v.category).sum ≤ 8) (k : nw_Ev l g d M (pc + 3) ls st sh I kc ks Post) : nw_Ev l g d M pc ls (.ref b :: st) sh I kc ks Post := by
  intro p e R s m args below meth c H locs cells slots Q la cx ws wh hs hlr h1 h2 hr
  refine W.objInit cx.1 cx.2.1 cx.2.2.2.1 (cx.2.2.2.2.1 _ hl) (cx.2.2.2.2.1 (.instanceMethod objectInit) (tb_in (i := 20) (by decide +kernel))) (cx.2.2.2.2.1 (.code objectInit ⟨#[0xb1]⟩ 1 none) (tb_in (i := 21) (by decide +kernel))) rfl (hlr.1.trans cx.2.2.1.symm) rfl hd (by have := cx.2.2.2.2.2.2.1; omega) ?_ (k p e R s m args below meth c H locs cells slots Q la cx ws wh hs hlr h1 h2 hr)
  have := cx.2.2.2.2.2.2.2
  show 2 * 0 + _ + 12 ≤ _
  omega
theorem ev_mmax {i : Nat} {x y : Int32} (hl : Cond.methodLink M.1.cls i Lib.Math.max.name ∈ nw_gw) (hd : decode M.2.1 pc = .ok (.invokestatic i, 3)) (hst : (st.map fun v => v.category).sum ≤ 8) (k : nw_Ev l g d M (pc + 3) ls (.int (if x < y then y else x) :: st) sh I kc ks Post) : nw_Ev l g d M pc ls (.int y :: .int x :: st) sh I kc ks Post := by
  intro p e R s m args below meth c H locs cells slots Q la cx ws wh hs hlr h1 h2 hr
  exact va_mmax cx.1 cx.2.1 (cx.2.2.1.trans hlr.1.symm) cx.2.2.2.1 (cx.2.2.2.2.1 _ hl) (cx.2.2.2.2.1 _ nw_max_s) (cx.2.2.2.2.1 _ nw_math_i) (cx.2.2.2.2.1 _ nw_max_c) (by have := cx.2.2.2.2.2.2.1; omega) (by have := cx.2.2.2.2.2.2.2; omega) (by omega) (by omega) hd (k p e R s m args below meth c H locs cells slots Q la cx ws wh hs hlr h1 h2 hr)
theorem ev_mmin {i : Nat} {x y : Int32} (hl : Cond.methodLink M.1.cls i Lib.Math.min.name ∈ nw_gw) (hd : decode M.2.1 pc = .ok (.invokestatic i, 3)) (hst : (st.map fun v => v.category).sum ≤ 8) (k : nw_Ev l g d M (pc + 3) ls (.int (if y < x then y else x) :: st) sh I kc ks Post) : nw_Ev l g d M pc ls (.int y :: .int x :: st) sh I kc ks Post := by
  intro p e R s m args below meth c H locs cells slots Q la cx ws wh hs hlr h1 h2 hr
  exact va_mmin cx.1 cx.2.1 (cx.2.2.1.trans hlr.1.symm) cx.2.2.2.1 (cx.2.2.2.2.1 _ hl) (cx.2.2.2.2.1 _ nw_min_s) (cx.2.2.2.2.1 _ nw_math_i) (cx.2.2.2.2.1 _ nw_min_c) (by have := cx.2.2.2.2.2.2.1; omega) (by have := cx.2.2.2.2.2.2.2; omega) (by omega) (by omega) hd (k p e R s m args below meth c H locs cells slots Q la cx ws wh hs hlr h1 h2 hr)
/-- n ints from place sp of cell j to place dp of cell k -/
def nw_cp (I : nw_Me) (j sp k dp n : Nat) : nw_Me := fun a => if a = k then va_cpy (I j) (I k) sp dp n else I a
theorem ev_copy {i j k n0 n1 : Nat} {sp dp n : Int32} (hl : Cond.methodLink M.1.cls i arraycopyName ∈ nw_gw) (hd : decode M.2.1 pc = .ok (.invokestatic i, 3)) (hj : sh[j]? = some (.inl (0, n0))) (hk : sh[k]? = some (.inl (0, n1))) (g1 : ¬ sp < 0) (g2 : ¬ dp < 0) (g3 : ¬ n < 0) (g4 : sp.toNatClampNeg + n.toNatClampNeg ≤ n0) (g5 : dp.toNatClampNeg + n.toNatClampNeg ≤ n1) (hst : (st.map fun v => v.category).sum ≤ 8)
    (kk : nw_Ev l g d M (pc + 3) ls st sh (nw_cp I j sp.toNatClampNeg k dp.toNatClampNeg n.toNatClampNeg) kc ks Post) : nw_Ev l g d M pc ls (.int n :: .int dp :: .ref (nw_a g k) :: .int sp :: .ref (nw_a g j) :: st) sh I kc ks Post := by
  intro p e R s m args below meth c H locs cells slots Q la cx ws wh hs hlr h1 h2 hr
  have nn : ∀ z : Int32, ¬ z < 0 → z.toInt = (z.toNatClampNeg : Int) := by
    intro z hz
    have hz0 : (0 : Int) ≤ z.toInt := by
      have := Int32.not_lt.mp hz
      simpa using Int32.le_iff_toInt_le.mp this
    show z.toInt = ((z.toInt.toNat : Nat) : Int)
    omega
  intro T hT X
  have hc0 : H[nw_a g j]? = some (vp_cell (nw_ca g 0) (n0, .inl (I j))) := wh.arr hj 0 _ rfl
  have hc1 : H[nw_a g k]? = some (vp_cell (nw_ca g 0) (n1, .inl (I k))) := wh.arr hk 0 _ rfl
  obtain ⟨-, k0, hk0, cm0, hkk0⟩ := (ws.2.1.2 0 _ rfl).1 n0 (fun q => .int (I j q))
  obtain ⟨-, k1, hk1, cm1, hkk1⟩ := (ws.2.1.2 0 _ rfl).1 n1 (fun q => .int (I k q))
  obtain ⟨vm', X', step⟩ := X.arraycopy cx.1 cx.2.2.2.1 (cx.2.2.2.2.1 _ hl) (cx.2.2.2.2.1 _ nw_cpy_n) (cx.2.2.2.2.1 _ nw_cpy_s) (cx.2.2.2.2.1 _ nw_sys_i) (src := nw_a g j) (dst := nw_a g k) (cs := vp_cell (nw_ca g 0) (n0, .inl (I j))) (cd := vp_cell (nw_ca g 0) (n1, .inl (I k))) (srcPos := sp) (destPos := dp) (n := n) (by rw [hT]; exact hc0) (by rw [hT]; exact hc1)
    (fun _ h => by cases h) (fun _ h => by cases h) (fun h => by cases h) (fun h => by cases h) hk0 hk1 hkk0 hkk1 (by simp [refKind]) g1 g2 g3
    (by rw [nn sp g1, nn n g3]; show ¬ _ > ((arrV (nw_ca g 0) n0 (fun q => .int (I j q))).slots.size : Int); rw [arrV_size]; omega)
    (by rw [nn dp g2, nn n g3]; show ¬ _ > ((arrV (nw_ca g 0) n1 (fun q => .int (I k q))).slots.size : Int); rw [arrV_size]; omega)
    (fun vm₁ _ i hi => by
      have e : (vp_cell (nw_ca g 0) (n0, .inl (I j))).slots.getD (sp.toNatClampNeg + i) .null = .int (I j (sp.toNatClampNeg + i)) := by
        show (arrV (nw_ca g 0) n0 (fun q => .int (I j q))).slots.getD _ _ = _
        rw [Array.getD_eq_getD_getElem?, arrV_read _ _ (by omega)]
        rfl
      refine ⟨?_, ?_⟩
      · rw [e]
        rfl
      · rw [e]
        exact trivial)
    (g := F0 m pc la (.int n :: .int dp :: .ref (nw_a g k) :: .int sp :: .ref (nw_a g j) :: st)) rfl (by rw [cx.2.2.1]; exact hlr.1) (rest := st) rfl (by rw [cx.2.1]; exact hd) (by have := cx.2.2.2.2.2.2.1; omega) (by
      have := cx.2.2.2.2.2.2.2
      show 2 * 0 + _ + _ ≤ _
      have e : nativeFrameWords "java/lang/System" "arraycopy" 5 + 11 = 18 := by decide +kernel
      omega)
  have e1 : copied (vp_cell (nw_ca g 0) (n0, .inl (I j))) (vp_cell (nw_ca g 0) (n1, .inl (I k))) sp dp n = vp_cell (nw_ca g 0) (n1, .inl (va_cpy (I j) (I k) sp.toNatClampNeg dp.toNatClampNeg n.toNatClampNeg)) := va_copied (fun z => .int z) _ _ (I j) (I k) g4
  rw [e1] at X' step
  have hlt : nw_a g k < H.size := (Array.getElem?_eq_some_iff.mp hc1).1
  have hheap : ((T.setVm vm').setCell (nw_a g k) (vp_cell (nw_ca g 0) (n1, .inl (va_cpy (I j) (I k) sp.toNatClampNeg dp.toNatClampNeg n.toNatClampNeg)))).heap = H.setIfInBounds (nw_a g k) (vp_cell (nw_ca g 0) (n1, .inl (va_cpy (I j) (I k) sp.toNatClampNeg dp.toNatClampNeg n.toNatClampNeg))) := by rw [← hT]; rfl
  have oq : ∀ q : Nat, q ≠ nw_a g k → (H.setIfInBounds (nw_a g k) (vp_cell (nw_ca g 0) (n1, .inl (va_cpy (I j) (I k) sp.toNatClampNeg dp.toNatClampNeg n.toNatClampNeg))))[q]? = H[q]? := fun q hq => by simp [Array.getElem?_setIfInBounds, Ne.symm hq]
  have wh' : nw_Wh g sh (nw_cp I j sp.toNatClampNeg k dp.toNatClampNeg n.toNatClampNeg) (H.setIfInBounds (nw_a g k) (vp_cell (nw_ca g 0) (n1, .inl (va_cpy (I j) (I k) sp.toNatClampNeg dp.toNatClampNeg n.toNatClampNeg)))) := by
    refine wh.set (c' := .inl (0, n1)) (nw_set_self hk) (fun q hq => by simp [nw_cp, hq]) (by simp) oq (List.getElem?_eq_some_iff.mp hk).1 ?_
    show (H.setIfInBounds (nw_a g k) _)[nw_a g k]? = some (vp_cell (nw_ca g 0) (n1, .inl (nw_cp I j _ k _ _ k)))
    simp [Array.getElem?_setIfInBounds, hlt, nw_cp]
  obtain ⟨t, a1, b1⟩ := kk p e R s m args below meth c _ _ cells slots Q la cx ws wh' ⟨by simp; exact hs.1, fun q z1 z2 => by
      rw [oq q (fun e => z2 (by rw [e]; exact nw_A_a g k))]
      exact hs.2.1 q z1 z2, fun q hq => by
      rcases List.mem_append.mp hq with h | h
      · exact hs.2.2 q h
      · obtain ⟨z, -, hz⟩ := List.mem_map.mp h
        rw [← hz]
        exact nw_A_a g k⟩ hlr h1 h2 hr _ hheap X'
  exact ⟨t, step t a1, b1⟩
end
end
section
/-! Cells that are made. -/
/-- cell k holds zeros -/
def nw_z (I : nw_Me) (k : Nat) : nw_Me := fun a => if a = k then fun _ => 0 else I a
theorem nw_z_ne {I : nw_Me} {k a : Nat} (h : a ≠ k) : nw_z I k a = I a := if_neg h
theorem nw_z_self (I : nw_Me) (k : Nat) : nw_z I k k = fun _ => 0 := if_pos rfl
theorem nw_cells {cells kc a : Nat} : cells + a + kc = cells + (kc + a) := by omega
section
variable {l : Launch} {g : nw_G} {d : Nat} {M : nw_Mt} {pc : Nat} {ls : List (Option Value)} {st : List Value} {sh : List nw_Sh} {I : nw_Me} {kc ks : Nat} {Post : Option Int32 → List nw_Sh → nw_Me → Prop}
theorem nw_fs_V (k : Nat) {fs : List (Option (Option Nat))} {ci N : Nat} (hfs : ∀ j, j < N → fs[j]? = some none ∧ defaultValue (nw_tyf ci j) = .int 0 ∨ fs[j]? = some (some none) ∧ defaultValue (nw_tyf ci j) = .null) : ∀ j, j < N → defaultValue (nw_tyf ci j) = vp_V (nw_fs g (nw_z I k) k 0 fs) j := by
  intro j hj
  unfold vp_V
  rw [List.getD_eq_getElem?_getD, nw_fs_get]
  rcases hfs j hj with ⟨h1, h2⟩ | ⟨h1, h2⟩
  · rw [h1, h2]
    simp [nw_fv, nw_z]
  · rw [h1, h2]
    simp [nw_fv]
theorem ev_new {i ci N : Nat} {C : String} {T : u_T} {fs : List (Option (Option Nat))} (hl : Cond.classLink M.1.cls i C ∈ nw_gw) (hcl : nw_cl[ci]? = some (C, T, N)) (hi : Cond.instantiable C N ∈ nw_gw) (hini : Cond.initialized C ∈ nw_gw) (hd : decode M.2.1 pc = .ok (.new i, 3)) (hci : ci < 100) (hfs : ∀ j, j < N → fs[j]? = some none ∧ defaultValue (nw_tyf ci j) = .int 0 ∨ fs[j]? = some (some none) ∧ defaultValue (nw_tyf ci j) = .null)
    (k : nw_Ev l g d M (pc + 3) ls (.ref (nw_a g sh.length) :: st) (sh ++ [.inr (ci, fs)]) (nw_z I sh.length) kc ks Post) : nw_Ev l g d M pc ls st sh I (kc + 1) (ks + N) Post := by
  intro p e R s m args below meth c H locs cells slots Q la cx ws wh hs hlr h1 h2 hr
  have hts := cx.2.2.2.2.1
  have hKn := ws.2.1.1 ci _ hcl
  refine W.newcK cx.1 cx.2.1 cx.2.2.2.1 (hts _ hl) (hts _ hi) (hts _ hini) rfl hd (by omega) (by omega) hKn.2.1 (h := nw_a g sh.length) wh.1 fun H1 kC hkC e1 z1 o1 => ?_
  have hsz : nw_a g sh.length = H.size := wh.1.symm
  have wh' : nw_Wh g (sh ++ [.inr (ci, fs)]) (nw_z I sh.length) H1 := by
    refine wh.push (fun j hj => nw_z_ne (by omega)) (by rw [z1, hsz]) (fun q hq => o1 q (by rw [hsz]; exact hq)) ?_
    simp only [nw_e, if_pos hci]
    exact ⟨_, hcl, (u_born (nw_tyf ci) hts (nw_lays hcl) hKn hkC e1 (nw_tyf_ok hcl)).to (nw_fs_V _ hfs)⟩
  refine k p e R s m args below meth c H1 locs (cells + 1) (slots + N) Q la cx ws wh' (nw_S_push hs (by omega) (fun q hq => o1 q (by rw [hsz]; exact hq))) hlr (by omega) (by omega) ?_
  intro v sh' I' H' locs' q1 q2 q3
  rw [nw_cells, nw_cells]
  exact hr v sh' I' H' locs' q1 q2 q3
theorem ev_newarr {t N : Nat} {atype : ArrayType} {ty : FieldType} {n : Int32} (ha : Cond.arrayClass (newarray.typeOf atype) ∈ nw_gw) (hty : newarray.typeOf atype = ty) (htt : (nw_ty g)[t]? = some (nw_ca g t, ty)) (hR : ∀ (s : State), va_RA s (nw_ca g t) ty → s.vm.findClass ("[" ++ ty.toString) = some (nw_ca g t)) (hdf : defaultValue ty = .int 0) (hd : decode M.2.1 pc = .ok (.newarray atype, 2)) (hn : ¬ n < 0) (hN : n.toNatClampNeg = N) (hby : N * componentBytes ty ≤ 536870912)
    (k : nw_Ev l g d M (pc + 2) ls (.ref (nw_a g sh.length) :: st) (sh ++ [.inl (t, N)]) (nw_z I sh.length) kc ks Post) : nw_Ev l g d M pc ls (.int n :: st) sh I (kc + 1) (ks + N) Post := by
  subst hty
  intro p e R s m args below meth c H locs cells slots Q la cx ws wh hs hlr h1 h2 hr
  refine va_newaK cx.1 cx.2.1 (cx.2.2.2.2.1 _ ha) rfl hd rfl hn hN hby (by omega) (by omega) (h := nw_a g sh.length) wh.1 fun H1 cA e1 z1 o1 hAr hNm => ?_
  have hcA : cA = nw_ca g t := Option.some.inj (hNm.symm.trans (hR s (ws.2.1.2 t _ htt).2))
  subst hcA
  have hsz : nw_a g sh.length = H.size := wh.1.symm
  have wh' : nw_Wh g (sh ++ [.inl (t, N)]) (nw_z I sh.length) H1 := by
    refine wh.push (fun j hj => nw_z_ne (by omega)) (by rw [z1, hsz]) (fun q hq => o1 q (by rw [hsz]; exact hq)) ?_
    show H1[nw_a g sh.length]? = some (vp_cell (nw_ca g t) (N, .inl (nw_z I sh.length sh.length)))
    rw [nw_z_self, vp_cell_i, e1, hdf]
  refine k p e R s m args below meth c H1 locs (cells + 1) (slots + N) Q la cx ws wh' (nw_S_push hs (by omega) (fun q hq => o1 q (by rw [hsz]; exact hq))) hlr (by omega) (by omega) ?_
  intro v sh' I' H' locs' q1 q2 q3
  rw [nw_cells, nw_cells]
  exact hr v sh' I' H' locs' q1 q2 q3
theorem ev_newI {N : Nat} {n : Int32} (hd : decode M.2.1 pc = .ok (.newarray .int, 2)) (hn : ¬ n < 0) (hN : n.toNatClampNeg = N) (hby : N * 4 ≤ 536870912)
    (k : nw_Ev l g d M (pc + 2) ls (.ref (nw_a g sh.length) :: st) (sh ++ [.inl (0, N)]) (nw_z I sh.length) kc ks Post) : nw_Ev l g d M pc ls (.int n :: st) sh I (kc + 1) (ks + N) Post :=
  ev_newarr (t := 0) (ty := .int) (tb_in (i := 40) (by decide +kernel)) rfl rfl (fun _ h => h) rfl hd hn hN hby k
theorem ev_newZ {N : Nat} {n : Int32} (hd : decode M.2.1 pc = .ok (.newarray .boolean, 2)) (hn : ¬ n < 0) (hN : n.toNatClampNeg = N) (hby : N * 1 ≤ 536870912)
    (k : nw_Ev l g d M (pc + 2) ls (.ref (nw_a g sh.length) :: st) (sh ++ [.inl (1, N)]) (nw_z I sh.length) kc ks Post) : nw_Ev l g d M pc ls (.int n :: st) sh I (kc + 1) (ks + N) Post :=
  ev_newarr (t := 1) (ty := .boolean) (tb_in (i := 893) (by decide +kernel)) rfl rfl (fun _ h => h) rfl hd hn hN hby k
theorem ev_anew {i t N : Nat} {C : String} {n : Int32} (hl : Cond.classLink M.1.cls i C ∈ nw_gw) (hao : ∀ s, nw_Ws g s → va_AO C s) (htt : (nw_ty g)[t]? = some (nw_ca g t, .object C)) (hd : decode M.2.1 pc = .ok (.anewarray i, 3)) (hn : ¬ n < 0) (hN : n.toNatClampNeg = N) (hby : N * 4 ≤ 536870912)
    (k : nw_Ev l g d M (pc + 3) ls (.ref (nw_a g sh.length) :: st) (sh ++ [.inr (100 + t, List.replicate N (some none))]) (nw_z I sh.length) kc ks Post) : nw_Ev l g d M pc ls (.int n :: st) sh I (kc + 1) (ks + N) Post := by
  subst hN
  intro p e R s m args below meth c H locs cells slots Q la cx ws wh hs hlr h1 h2 hr
  refine W.anew cx.1 cx.2.1 cx.2.2.2.1 (cx.2.2.2.2.1 _ hl) (va_AO.use (hao s ws)) rfl hd rfl hn hby (by omega) (by omega) fun cA kA comp f1 f2 f3 f4 => ?_
  generalize hH1 : H.push ({ cls := cA, slots := Array.replicate n.toNatClampNeg .null, vm := .none } : Cell) = H1
  have z1 : H1.size = H.size + 1 := by rw [← hH1, Array.size_push]
  have e1 : H1[H.size]? = some (arrV cA n.toNatClampNeg (fun _ => .null)) := by rw [← hH1, Array.getElem?_push_size, ← arrV_new]
  have o1 : ∀ q : Nat, q < H.size → H1[q]? = H[q]? := fun q hq => by rw [← hH1, Array.getElem?_push, if_neg (Nat.ne_of_lt hq)]
  obtain ⟨kB, cB, -, -, -, g4⟩ := (ws.2.1.2 t _ htt).2
  have hcA : cA = nw_ca g t := Option.some.inj (f1.symm.trans g4)
  subst hcA
  have hsz : H.size = nw_a g sh.length := wh.1
  have wh' : nw_Wh g (sh ++ [.inr (100 + t, List.replicate n.toNatClampNeg (some none))]) (nw_z I sh.length) H1 := by
    refine wh.push (fun j hj => nw_z_ne (by omega)) z1 o1 ?_
    simp only [nw_e, if_neg (show ¬ 100 + t < 100 by omega), Nat.add_sub_cancel_left, List.length_replicate]
    show H1[nw_a g sh.length]? = some (vp_cell (nw_ca g t) (n.toNatClampNeg, _))
    rw [vp_cell_q, ← hsz, e1]
    congr 2
    funext j
    simp only [nw_rf, List.getElem?_replicate]
    split <;> rename_i hj
    · split at hj <;> simp at hj
    · rfl
  rw [hsz]
  refine k p e R s m args below meth c H1 locs (cells + 1) (slots + n.toNatClampNeg) Q la cx ws wh' (nw_S_push hs (by omega) o1) hlr (by omega) (by omega) ?_
  intro v sh' I' H' locs' q1 q2 q3
  rw [nw_cells, nw_cells]
  exact hr v sh' I' H' locs' q1 q2 q3
theorem nw_fs_putR (g : nw_G) (I : nw_Me) (k i j : Nat) {fs : List (Option (Option Nat))} (hi : i < fs.length) : nw_fs g I k 0 (fs.set i (some (some j))) = (nw_fs g I k 0 fs).set i (.ref (nw_a g j)) := by
  apply List.ext_getElem?
  intro q
  rw [nw_fs_get, List.getElem?_set, List.getElem?_set, nw_fs_get, nw_fs_len]
  by_cases hq : i = q
  · subst hq
    rw [if_pos rfl, if_pos hi, if_pos rfl, if_pos hi]
    rfl
  · rw [if_neg hq, if_neg hq]
/-- a final field of references, in its own class's constructor -/
theorem ev_putR {i ci k f j : Nat} {fs : List (Option (Option Nat))} {T : u_T} {N : Nat} {C : String} (hf : nw_fl M.1.cls i ci f) (hd : decode M.2.1 pc = .ok (.putfield i, 3)) (hk : sh[k]? = some (.inr (ci, fs))) (hlf : f < fs.length) (hci : ci < 100) (hcl : nw_cl[ci]? = some (C, T, N)) (hC : C = M.1.cls) (hfin : (T f).2.2.2 = true) (hini : M.1.name = "<init>") (hn : narrow (nw_tyf ci f) (.ref (nw_a g j)) = .ref (nw_a g j)) (hfit : fits (nw_tyf ci f) (.ref (nw_a g j)) = true)
    (kk : nw_Ev l g d M (pc + 3) ls st (sh.set k (.inr (ci, fs.set f (some (some j))))) I kc ks Post) : nw_Ev l g d M pc ls (.ref (nw_a g j) :: .ref (nw_a g k) :: st) sh I kc ks Post := by
  intro p e R s m args below meth c H locs cells slots Q la cx ws wh hs hl h1 h2 hr
  obtain ⟨C', T', N', q1, q2, q3, q4⟩ := hf
  cases q1.symm.trans hcl
  have hts := cx.2.2.2.2.1
  have hown := cx.2.2.2.1
  have hP := wh.obj hk hci
  have hin := nw_lays hcl
  have hap := va_apart (own := M.1.cls) hts hin _ (nw_tyf_ok hcl) (nw_nmf hcl) ws.2.1 hcl
  obtain ⟨r, g1, cell, c1, c2, c3, c4⟩ := hP 0 _ rfl
  have hrr : r = (C, T, N) := Option.some.inj (g1.symm.trans hcl)
  subst hrr
  obtain ⟨hS, hfc, kC, hkC, hkind⟩ := ws.2.1.1 ci _ hcl
  obtain ⟨cf, kf, fi, fd, hi, hsl⟩ := hS f q2
  have hlay := hts _ (hin _ (u_in_lay q2))
  unfold u_lay at hlay
  rw [if_pos hfin] at hlay
  have hst := (u_facts hfc hkC (u_lays hts hin q2) hi).1
  have hcf : m.cls = cf := by
    obtain ⟨_, _, c', _, _, _, -, -, hf', -, -, -, hown2, -⟩ := Cond.laysFinal_spec hlay
    have e1 : c' = cf := by have := hi.symm.trans hf'; simp at this; exact this.1.symm
    rw [q3, hC] at hown2
    rw [← e1]; exact Option.some.inj (hown.symm.trans hown2)
  have h6 := u_fits hfc hkC hkind (Or.inr hlay) hi (nw_tyf_ok hcl f q2) hn hfit
  have hi' : s.fieldFound? C (T f).2.1 (T f).2.2.1 = some (cf, kf, fi, fd) := by rw [← q3]; exact hi
  refine W.putFinK cx.1 cx.2.1 hown (hts _ q4) hi' hst hcf (cx.2.2.2.2.2.1.trans hini) (by rw [c2]; exact h6) c1 c3 (by rw [hsl]; exact k2_hasslot (c4 f q2)) rfl rfl hd fun H' e1 e2 e3 => ?_
  rw [hsl] at e1 ⊢
  have hlen : k < sh.length := (List.getElem?_eq_some_iff.mp hk).1
  have wh' : nw_Wh g (sh.set k (.inr (ci, fs.set f (some (some j))))) I H' := by
    refine wh.set (c' := .inr (ci, fs.set f (some (some j)))) rfl (fun j hj => rfl) e2 e3 hlen ?_
    simp only [nw_e, if_pos hci]
    rw [nw_fs_putR g I k f j hlf]
    exact ⟨_, hcl, t_OB.to (V := updV (vp_V (nw_fs g I k 0 fs)) f (.ref (nw_a g j))) ⟨_, e1, c2, c3, t_set c4 hap q2 _⟩ (fun j _ => vp_updV_set (by rw [nw_fs_len]; exact hlf) _ j)⟩
  exact kk p e R s m args below meth c H' _ cells slots Q la cx ws wh' (hs.put e2 e3 (nw_A_a g k)) hl h1 h2 hr
theorem ev_aast {k t v ci N : Nat} {i : Int32} {C : String} {T : u_T} {fs vs : List (Option (Option Nat))} (hd : decode M.2.1 pc = .ok (.aastore, 1)) (hk : sh[k]? = some (.inr (100 + t, fs))) (htt : (nw_ty g)[t]? = some (nw_ca g t, .object C)) (hv : sh[v]? = some (.inr (ci, vs))) (hci : ci < 100) (hcl : nw_cl[ci]? = some (C, T, N)) (hin : vp_in i fs.length)
    (kk : nw_Ev l g d M (pc + 1) ls st (sh.set k (.inr (100 + t, fs.set i.toNatClampNeg (some (some v))))) I kc ks Post) : nw_Ev l g d M pc ls (.ref (nw_a g v) :: .int i :: .ref (nw_a g k) :: st) sh I kc ks Post := by
  intro p e R s m args below meth c H locs cells slots Q la cx ws wh hs hl h1 h2 hr
  have hlt : i.toNatClampNeg < fs.length := Nat.not_le.mp fun q => hin (Or.inr q)
  have h0 : ¬ i < 0 := fun q => hin (Or.inl q)
  obtain ⟨r', hr', cellV, g1, g2, g3, -⟩ := wh.obj hv hci 0 _ rfl
  have hcls := (ws.2.1.1 ci _ hcl).2
  obtain ⟨kA, comp, k1, k2, k3, -⟩ := (ws.2.1.2 t _ htt).2
  have hcomp : comp = (nw_D g).1 ci := Option.some.inj (k3.symm.trans hcls.1)
  subst hcomp
  obtain ⟨kC, hkC, -⟩ := hcls.2
  refine W.aast cx.1 cx.2.1 (wh.row hk 0 _ rfl) (fun q h => by cases h) (fun h => by cases h) k1 k2 rfl hkC ⟨h0, by show _ < (arrV _ _ _).slots.size; rw [arrV_size]; exact hlt⟩ g1 (fun q h => by rw [g3] at h; cases h) (by rw [g2]; exact hkC) (by rw [g2]; exact va_assign hcls) rfl rfl hd fun H1 e1 e2 e3 => ?_
  have wh' : nw_Wh g (sh.set k (.inr (100 + t, fs.set i.toNatClampNeg (some (some v))))) I H1 := by
    refine wh.set (c' := .inr (100 + t, fs.set i.toNatClampNeg (some (some v)))) rfl (fun j hj => rfl) e2 e3 (List.getElem?_eq_some_iff.mp hk).1 ?_
    simp only [nw_e, if_neg (show ¬ 100 + t < 100 by omega), Nat.add_sub_cancel_left, List.length_set]
    show H1[nw_a g k]? = some (vp_cell (nw_ca g t) (fs.length, _))
    rw [e1, vp_cell_q, vp_cell_q, arrV_store]
    congr 2
    funext q
    by_cases hq : q = i.toNatClampNeg
    · subst hq
      simp [updV, nw_rf, va_rf, hlt]
    · simp [updV, nw_rf, hq, List.getElem?_set, Ne.symm hq]
  exact kk p e R s m args below meth c H1 _ cells slots Q la cx ws wh' (hs.put e2 e3 (nw_A_a g k)) hl h1 h2 hr
end
end
section
/-! Behind the constructors: the shapes stand; only ints change. -/
abbrev nw_sI (n : Nat) : nw_Sh := .inl (0, n)
abbrev nw_rr (k : Nat) : Option (Option Nat) := some (some k)
abbrev nw_nn : Option (Option Nat) := none
abbrev nw_sSc (a : Nat) : List nw_Sh := [.inr (7, [nw_nn, nw_nn, nw_rr (a + 1), nw_rr (a + 2), nw_rr (a + 3), nw_rr (a + 4), nw_rr (a + 5)]), nw_sI 3, nw_sI 6, nw_sI 6, nw_sI 6, nw_sI 6]
abbrev nw_sCh (a : Nat) : List nw_Sh := [.inr (2, [nw_nn, nw_nn, nw_nn, nw_nn, nw_nn, nw_rr (a + 1), nw_rr (a + 2), nw_rr (a + 3), nw_rr (a + 4)]), nw_sI 20, nw_sI 20, nw_sI 3, nw_sI 6]
def nw_SH : List nw_Sh := [
  .inr (8, [nw_rr 1, nw_rr 13, nw_rr 15, nw_rr 20, nw_rr 25, nw_rr 31, nw_rr 37, nw_rr 183, nw_rr 192, nw_rr 194, nw_nn, nw_nn, nw_nn]),
  .inr (6, [nw_rr 2, nw_rr 3, nw_rr 4]),
  nw_sI 8,
  nw_sI 8,
  .inr (104, [nw_rr 5, nw_rr 6, nw_rr 7, nw_rr 8, nw_rr 9, nw_rr 10, nw_rr 11, nw_rr 12]),
  nw_sI 40,
  nw_sI 40,
  nw_sI 40,
  nw_sI 40,
  nw_sI 40,
  nw_sI 40,
  nw_sI 40,
  nw_sI 40,
  .inr (5, [nw_rr 14, nw_nn, nw_nn, nw_nn, nw_nn, nw_nn]),
  nw_sI 160,
  .inr (2, [nw_nn, nw_nn, nw_nn, nw_nn, nw_nn, nw_rr 16, nw_rr 17, nw_rr 18, nw_rr 19]),
  nw_sI 20,
  nw_sI 20,
  nw_sI 3,
  nw_sI 6,
  .inr (2, [nw_nn, nw_nn, nw_nn, nw_nn, nw_nn, nw_rr 21, nw_rr 22, nw_rr 23, nw_rr 24]),
  nw_sI 20,
  nw_sI 20,
  nw_sI 3,
  nw_sI 6,
  .inr (7, [nw_nn, nw_nn, nw_rr 26, nw_rr 27, nw_rr 28, nw_rr 29, nw_rr 30]),
  nw_sI 3,
  nw_sI 6,
  nw_sI 6,
  nw_sI 6,
  nw_sI 6,
  .inr (7, [nw_nn, nw_nn, nw_rr 32, nw_rr 33, nw_rr 34, nw_rr 35, nw_rr 36]),
  nw_sI 3,
  nw_sI 6,
  nw_sI 6,
  nw_sI 6,
  nw_sI 6,
  .inr (0, [nw_rr 38, nw_nn, nw_nn]),
  .inr (102, [nw_rr 39, nw_rr 45, nw_rr 51, nw_rr 57, nw_rr 63, nw_rr 69, nw_rr 75, nw_rr 81, nw_rr 87, nw_rr 93, nw_rr 99, nw_rr 105, nw_rr 111, nw_rr 117, nw_rr 123, nw_rr 129, nw_rr 135, nw_rr 141, nw_rr 147, nw_rr 153, nw_rr 159, nw_rr 165, nw_rr 171, nw_rr 177]),
  .inr (7, [nw_nn, nw_nn, nw_rr 40, nw_rr 41, nw_rr 42, nw_rr 43, nw_rr 44]),
  nw_sI 3,
  nw_sI 6,
  nw_sI 6,
  nw_sI 6,
  nw_sI 6,
  .inr (7, [nw_nn, nw_nn, nw_rr 46, nw_rr 47, nw_rr 48, nw_rr 49, nw_rr 50]),
  nw_sI 3,
  nw_sI 6,
  nw_sI 6,
  nw_sI 6,
  nw_sI 6,
  .inr (7, [nw_nn, nw_nn, nw_rr 52, nw_rr 53, nw_rr 54, nw_rr 55, nw_rr 56]),
  nw_sI 3,
  nw_sI 6,
  nw_sI 6,
  nw_sI 6,
  nw_sI 6,
  .inr (7, [nw_nn, nw_nn, nw_rr 58, nw_rr 59, nw_rr 60, nw_rr 61, nw_rr 62]),
  nw_sI 3,
  nw_sI 6,
  nw_sI 6,
  nw_sI 6,
  nw_sI 6,
  .inr (7, [nw_nn, nw_nn, nw_rr 64, nw_rr 65, nw_rr 66, nw_rr 67, nw_rr 68]),
  nw_sI 3,
  nw_sI 6,
  nw_sI 6,
  nw_sI 6,
  nw_sI 6,
  .inr (7, [nw_nn, nw_nn, nw_rr 70, nw_rr 71, nw_rr 72, nw_rr 73, nw_rr 74]),
  nw_sI 3,
  nw_sI 6,
  nw_sI 6,
  nw_sI 6,
  nw_sI 6,
  .inr (7, [nw_nn, nw_nn, nw_rr 76, nw_rr 77, nw_rr 78, nw_rr 79, nw_rr 80]),
  nw_sI 3,
  nw_sI 6,
  nw_sI 6,
  nw_sI 6,
  nw_sI 6,
  .inr (7, [nw_nn, nw_nn, nw_rr 82, nw_rr 83, nw_rr 84, nw_rr 85, nw_rr 86]),
  nw_sI 3,
  nw_sI 6,
  nw_sI 6,
  nw_sI 6,
  nw_sI 6,
  .inr (7, [nw_nn, nw_nn, nw_rr 88, nw_rr 89, nw_rr 90, nw_rr 91, nw_rr 92]),
  nw_sI 3,
  nw_sI 6,
  nw_sI 6,
  nw_sI 6,
  nw_sI 6,
  .inr (7, [nw_nn, nw_nn, nw_rr 94, nw_rr 95, nw_rr 96, nw_rr 97, nw_rr 98]),
  nw_sI 3,
  nw_sI 6,
  nw_sI 6,
  nw_sI 6,
  nw_sI 6,
  .inr (7, [nw_nn, nw_nn, nw_rr 100, nw_rr 101, nw_rr 102, nw_rr 103, nw_rr 104]),
  nw_sI 3,
  nw_sI 6,
  nw_sI 6,
  nw_sI 6,
  nw_sI 6,
  .inr (7, [nw_nn, nw_nn, nw_rr 106, nw_rr 107, nw_rr 108, nw_rr 109, nw_rr 110]),
  nw_sI 3,
  nw_sI 6,
  nw_sI 6,
  nw_sI 6,
  nw_sI 6,
  .inr (7, [nw_nn, nw_nn, nw_rr 112, nw_rr 113, nw_rr 114, nw_rr 115, nw_rr 116]),
  nw_sI 3,
  nw_sI 6,
  nw_sI 6,
  nw_sI 6,
  nw_sI 6,
  .inr (7, [nw_nn, nw_nn, nw_rr 118, nw_rr 119, nw_rr 120, nw_rr 121, nw_rr 122]),
  nw_sI 3,
  nw_sI 6,
  nw_sI 6,
  nw_sI 6,
  nw_sI 6,
  .inr (7, [nw_nn, nw_nn, nw_rr 124, nw_rr 125, nw_rr 126, nw_rr 127, nw_rr 128]),
  nw_sI 3,
  nw_sI 6,
  nw_sI 6,
  nw_sI 6,
  nw_sI 6,
  .inr (7, [nw_nn, nw_nn, nw_rr 130, nw_rr 131, nw_rr 132, nw_rr 133, nw_rr 134]),
  nw_sI 3,
  nw_sI 6,
  nw_sI 6,
  nw_sI 6,
  nw_sI 6,
  .inr (7, [nw_nn, nw_nn, nw_rr 136, nw_rr 137, nw_rr 138, nw_rr 139, nw_rr 140]),
  nw_sI 3,
  nw_sI 6,
  nw_sI 6,
  nw_sI 6,
  nw_sI 6,
  .inr (7, [nw_nn, nw_nn, nw_rr 142, nw_rr 143, nw_rr 144, nw_rr 145, nw_rr 146]),
  nw_sI 3,
  nw_sI 6,
  nw_sI 6,
  nw_sI 6,
  nw_sI 6,
  .inr (7, [nw_nn, nw_nn, nw_rr 148, nw_rr 149, nw_rr 150, nw_rr 151, nw_rr 152]),
  nw_sI 3,
  nw_sI 6,
  nw_sI 6,
  nw_sI 6,
  nw_sI 6,
  .inr (7, [nw_nn, nw_nn, nw_rr 154, nw_rr 155, nw_rr 156, nw_rr 157, nw_rr 158]),
  nw_sI 3,
  nw_sI 6,
  nw_sI 6,
  nw_sI 6,
  nw_sI 6,
  .inr (7, [nw_nn, nw_nn, nw_rr 160, nw_rr 161, nw_rr 162, nw_rr 163, nw_rr 164]),
  nw_sI 3,
  nw_sI 6,
  nw_sI 6,
  nw_sI 6,
  nw_sI 6,
  .inr (7, [nw_nn, nw_nn, nw_rr 166, nw_rr 167, nw_rr 168, nw_rr 169, nw_rr 170]),
  nw_sI 3,
  nw_sI 6,
  nw_sI 6,
  nw_sI 6,
  nw_sI 6,
  .inr (7, [nw_nn, nw_nn, nw_rr 172, nw_rr 173, nw_rr 174, nw_rr 175, nw_rr 176]),
  nw_sI 3,
  nw_sI 6,
  nw_sI 6,
  nw_sI 6,
  nw_sI 6,
  .inr (7, [nw_nn, nw_nn, nw_rr 178, nw_rr 179, nw_rr 180, nw_rr 181, nw_rr 182]),
  nw_sI 3,
  nw_sI 6,
  nw_sI 6,
  nw_sI 6,
  nw_sI 6,
  .inr (4, [nw_rr 184, nw_rr 188, nw_rr 189, nw_rr 190, nw_rr 191, nw_nn]),
  .inr (104, [nw_rr 185, nw_rr 186, nw_rr 187]),
  nw_sI 6,
  nw_sI 6,
  nw_sI 6,
  nw_sI 3,
  nw_sI 3,
  nw_sI 6,
  nw_sI 6,
  .inr (1, [nw_rr 193, nw_nn, nw_nn, nw_nn, nw_nn, nw_nn]),
  nw_sI 16,
  .inr (103, [nw_rr 195, nw_rr 207]),
  .inr (3, [nw_rr 196, nw_rr 201, nw_nn]),
  .inr (2, [nw_nn, nw_nn, nw_nn, nw_nn, nw_nn, nw_rr 197, nw_rr 198, nw_rr 199, nw_rr 200]),
  nw_sI 20,
  nw_sI 20,
  nw_sI 3,
  nw_sI 6,
  .inr (7, [nw_nn, nw_nn, nw_rr 202, nw_rr 203, nw_rr 204, nw_rr 205, nw_rr 206]),
  nw_sI 3,
  nw_sI 6,
  nw_sI 6,
  nw_sI 6,
  nw_sI 6,
  .inr (3, [nw_rr 208, nw_rr 213, nw_nn]),
  .inr (2, [nw_nn, nw_nn, nw_nn, nw_nn, nw_nn, nw_rr 209, nw_rr 210, nw_rr 211, nw_rr 212]),
  nw_sI 20,
  nw_sI 20,
  nw_sI 3,
  nw_sI 6,
  .inr (7, [nw_nn, nw_nn, nw_rr 214, nw_rr 215, nw_rr 216, nw_rr 217, nw_rr 218]),
  nw_sI 3,
  nw_sI 6,
  nw_sI 6,
  nw_sI 6,
  nw_sI 6,
  .inr (9, [nw_rr 220, nw_rr 221, nw_rr 222, nw_nn, nw_rr 223, nw_rr 224, nw_nn, nw_nn, nw_rr 225, nw_rr 226, nw_rr 227, nw_rr 228, nw_rr 229, nw_rr 230, nw_nn, nw_nn, nw_nn, nw_nn, nw_nn, nw_nn, nw_nn, nw_nn, nw_rr 231, nw_rr 232, nw_rr 233, nw_rr 234, nw_rr 235, nw_rr 236, nw_nn]),
  nw_sI 8,
  nw_sI 8,
  nw_sI 320,
  nw_sI 40,
  nw_sI 160,
  nw_sI 55,
  nw_sI 29,
  nw_sI 55,
  nw_sI 168,
  .inl (1, 2),
  nw_sI 696,
  nw_sI 3,
  nw_sI 6,
  nw_sI 29,
  nw_sI 6,
  nw_sI 6,
  nw_sI 16]
/-- a scene's cells, a chart's cells -/
def nw_iSc (a : Nat) : Prop := nw_SH[a]? = some (.inr (7, [nw_nn, nw_nn, nw_rr (a + 1), nw_rr (a + 2), nw_rr (a + 3), nw_rr (a + 4), nw_rr (a + 5)])) ∧ nw_SH[a + 1]? = some (nw_sI 3) ∧ nw_SH[a + 2]? = some (nw_sI 6) ∧ nw_SH[a + 3]? = some (nw_sI 6) ∧ nw_SH[a + 4]? = some (nw_sI 6) ∧ nw_SH[a + 5]? = some (nw_sI 6)
def nw_iCh (a : Nat) : Prop := nw_SH[a]? = some (.inr (2, [nw_nn, nw_nn, nw_nn, nw_nn, nw_nn, nw_rr (a + 1), nw_rr (a + 2), nw_rr (a + 3), nw_rr (a + 4)])) ∧ nw_SH[a + 1]? = some (nw_sI 20) ∧ nw_SH[a + 2]? = some (nw_sI 20) ∧ nw_SH[a + 3]? = some (nw_sI 3) ∧ nw_SH[a + 4]? = some (nw_sI 6)
/-- a boolean as an int -/
def nw_bi (b : Bool) : Int32 := if b then 1 else 0
theorem nw_bi_t : nw_bi true = 1 := rfl
theorem nw_bi_f : nw_bi false = 0 := rfl
theorem nw_bi_0 {b : Bool} : nw_bi b = 0 ↔ b = false := by cases b <;> decide
theorem nw_bi_nar (b : Bool) : narrow .boolean (.int (nw_bi b)) = .int (nw_bi b) := by cases b <;> decide +kernel
/-- contracts: an int, a boolean, nothing -/
def nw_qI (P : Int32 → nw_Me → Prop) : Option Int32 → List nw_Sh → nw_Me → Prop := fun v sh I => sh = nw_SH ∧ ∃ r, v = some r ∧ P r I
def nw_qZ (P : Bool → nw_Me → Prop) : Option Int32 → List nw_Sh → nw_Me → Prop := fun v sh I => sh = nw_SH ∧ ∃ b, v = some (nw_bi b) ∧ P b I
def nw_qV (P : nw_Me → Prop) : Option Int32 → List nw_Sh → nw_Me → Prop := fun v sh I => sh = nw_SH ∧ v = none ∧ P I
abbrev nw_S (l : Launch) (g : nw_G) (d : Nat) (M : nw_Mt) (pc : Nat) (ls : List (Option Value)) (st : List Value) (I : nw_Me) (Post : Option Int32 → List nw_Sh → nw_Me → Prop) : Prop := nw_Ev l g d M pc ls st nw_SH I 0 0 Post
def nw_cI (l : Launch) (g : nw_G) (d : Nat) (M : nw_Mt) (av : List Value) (I : nw_Me) (P : Int32 → nw_Me → Prop) : Prop := (nw_lo av).length ≤ M.2.2.1 ∧ nw_S l g d M 0 (nw_in M av) [] I (nw_qI P)
def nw_cZ (l : Launch) (g : nw_G) (d : Nat) (M : nw_Mt) (av : List Value) (I : nw_Me) (P : Bool → nw_Me → Prop) : Prop := (nw_lo av).length ≤ M.2.2.1 ∧ nw_S l g d M 0 (nw_in M av) [] I (nw_qZ P)
def nw_cV (l : Launch) (g : nw_G) (d : Nat) (M : nw_Mt) (av : List Value) (I : nw_Me) (P : nw_Me → Prop) : Prop := (nw_lo av).length ≤ M.2.2.1 ∧ nw_S l g d M 0 (nw_in M av) [] I (nw_qV P)
section
variable {l : Launch} {g : nw_G} {d d0 : Nat} {M M' : nw_Mt} {pc n : Nat} {ls : List (Option Value)} {st : List Value} {I : nw_Me} {Post : Option Int32 → List nw_Sh → nw_Me → Prop}
theorem nw_cI.mono {av : List Value} {P P' : Int32 → nw_Me → Prop} (h : nw_cI l g d M av I P) (hp : ∀ r I', P r I' → P' r I') : nw_cI l g d M av I P' := ⟨h.1, ev_post (fun v sh1 I1 q => ⟨q.1, by obtain ⟨-, r, e, q⟩ := q; exact ⟨r, e, hp _ _ q⟩⟩) h.2⟩
theorem nw_cZ.mono {av : List Value} {P P' : Bool → nw_Me → Prop} (h : nw_cZ l g d M av I P) (hp : ∀ r I', P r I' → P' r I') : nw_cZ l g d M av I P' := ⟨h.1, ev_post (fun v sh1 I1 q => ⟨q.1, by obtain ⟨-, r, e, q⟩ := q; exact ⟨r, e, hp _ _ q⟩⟩) h.2⟩
theorem nw_cV.mono {av : List Value} {P P' : nw_Me → Prop} (h : nw_cV l g d M av I P) (hp : ∀ I', P I' → P' I') : nw_cV l g d M av I P' := ⟨h.1, ev_post (fun v sh1 I1 q => ⟨q.1, q.2.1, hp _ q.2.2⟩) h.2⟩
theorem nw_cI.deep {av : List Value} {P : Int32 → nw_Me → Prop} (h : nw_cI l g d0 M av I P) (hd : d0 ≤ d) : nw_cI l g d M av I P := ⟨h.1, ev_deep hd h.2⟩
theorem nw_cZ.deep {av : List Value} {P : Bool → nw_Me → Prop} (h : nw_cZ l g d0 M av I P) (hd : d0 ≤ d) : nw_cZ l g d M av I P := ⟨h.1, ev_deep hd h.2⟩
theorem nw_cV.deep {av : List Value} {P : nw_Me → Prop} (h : nw_cV l g d0 M av I P) (hd : d0 ≤ d) : nw_cV l g d M av I P := ⟨h.1, ev_deep hd h.2⟩
theorem s_retI {x : Int32} {P : Int32 → nw_Me → Prop} (hd : decode M.2.1 pc = .ok (.ireturn, 1)) (hp : P x I) : nw_S l g d M pc ls [.int x] I (nw_qI P) := ev_ireturn hd ⟨rfl, x, rfl, hp⟩
theorem s_retZ {b : Bool} {P : Bool → nw_Me → Prop} (hd : decode M.2.1 pc = .ok (.ireturn, 1)) (hp : P b I) : nw_S l g d M pc ls [.int (nw_bi b)] I (nw_qZ P) := ev_ireturn hd ⟨rfl, b, rfl, hp⟩
theorem s_ret1 {P : Bool → nw_Me → Prop} (hd : decode M.2.1 pc = .ok (.ireturn, 1)) (hp : P true I) : nw_S l g d M pc ls [.int 1] I (nw_qZ P) := ev_ireturn hd ⟨rfl, true, rfl, hp⟩
theorem s_ret0 {P : Bool → nw_Me → Prop} (hd : decode M.2.1 pc = .ok (.ireturn, 1)) (hp : P false I) : nw_S l g d M pc ls [.int 0] I (nw_qZ P) := ev_ireturn hd ⟨rfl, false, rfl, hp⟩
theorem s_retV {P : nw_Me → Prop} (hd : decode M.2.1 pc = .ok (.return_, 1)) (hp : P I) : nw_S l g d M pc ls [] I (nw_qV P) := ev_return hd ⟨rfl, rfl, hp⟩
theorem s_ifZ_eq {b : Bool} {off : Int} {tgt : Nat} (hd : decode M.2.1 pc = .ok (.ifCond .eq off, 3)) (ht : (pc : Int) + off = (tgt : Int)) (kt : b = false → nw_S l g d M tgt ls st I Post) (kf : b = true → nw_S l g d M (pc + 3) ls st I Post) : nw_S l g d M pc ls (.int (nw_bi b) :: st) I Post := ev_if_eq hd ht (fun h => kt (nw_bi_0.mp h)) (fun h => kf (by cases b; exact absurd rfl h; rfl))
theorem s_ifZ_ne {b : Bool} {off : Int} {tgt : Nat} (hd : decode M.2.1 pc = .ok (.ifCond .ne off, 3)) (ht : (pc : Int) + off = (tgt : Int)) (kt : b = true → nw_S l g d M tgt ls st I Post) (kf : b = false → nw_S l g d M (pc + 3) ls st I Post) : nw_S l g d M pc ls (.int (nw_bi b) :: st) I Post := ev_if_ne hd ht (fun h => kt (by cases b; exact absurd rfl h; rfl)) (fun h => kf (nw_bi_0.mp h))
/-- calls: V of an object, S static, N static of a nest mate; i, z, v: what is answered -/
theorem s_callVi {i k ci N : Nat} {T : u_T} {fs : List (Option (Option Nat))} {As : List Value} {P : Int32 → nw_Me → Prop} (h : nw_cI l g d0 M' (.ref (nw_a g k) :: As) I P) (hdd : d0 ≤ d) (hl : nw_ml M.1.cls i M') (hk : nw_ok M' n) (hv : nw_iv M') (hd : decode M.2.1 pc = .ok (.invokevirtual i, 3)) (hret : M'.2.2.2 = some .int) (hn : As.length = n) (hsh : nw_SH[k]? = some (.inr (ci, fs))) (hci : ci < 100) (hcl : nw_cl[ci]? = some (M'.1.cls, T, N)) (hst : (st.map fun v => v.category).sum ≤ 8)
    (kk : ∀ r I', P r I' → nw_S l g (d + 1) M (pc + 3) ls (.int r :: st) I' Post) : nw_S l g (d + 1) M pc ls (As.reverse ++ .ref (nw_a g k) :: st) I Post :=
  ev_callVi (kc := 0) (ks := 0) (kc1 := 0) (ks1 := 0) (h.deep hdd).2 hl hk hv hd hret (fun v sh' I' q => by obtain ⟨-, r, e, -⟩ := q; exact ⟨r, e, rfl⟩) h.1 hn hsh hci hcl hst (fun r sh' I' q => by obtain ⟨rfl, r', e, hp⟩ := q; cases e; exact kk _ _ hp)
theorem s_callVz {i k ci N : Nat} {T : u_T} {fs : List (Option (Option Nat))} {As : List Value} {P : Bool → nw_Me → Prop} (h : nw_cZ l g d0 M' (.ref (nw_a g k) :: As) I P) (hdd : d0 ≤ d) (hl : nw_ml M.1.cls i M') (hk : nw_ok M' n) (hv : nw_iv M') (hd : decode M.2.1 pc = .ok (.invokevirtual i, 3)) (hret : M'.2.2.2 = some .boolean) (hn : As.length = n) (hsh : nw_SH[k]? = some (.inr (ci, fs))) (hci : ci < 100) (hcl : nw_cl[ci]? = some (M'.1.cls, T, N)) (hst : (st.map fun v => v.category).sum ≤ 8)
    (kk : ∀ r I', P r I' → nw_S l g (d + 1) M (pc + 3) ls (.int (nw_bi r) :: st) I' Post) : nw_S l g (d + 1) M pc ls (As.reverse ++ .ref (nw_a g k) :: st) I Post :=
  ev_callVi (kc := 0) (ks := 0) (kc1 := 0) (ks1 := 0) (h.deep hdd).2 hl hk hv hd hret (fun v sh' I' q => by obtain ⟨-, r, e, -⟩ := q; exact ⟨_, e, nw_bi_nar r⟩) h.1 hn hsh hci hcl hst (fun r sh' I' q => by obtain ⟨rfl, r', e, hp⟩ := q; cases e; exact kk _ _ hp)
theorem s_callVv {i k ci N : Nat} {T : u_T} {fs : List (Option (Option Nat))} {As : List Value} {P : nw_Me → Prop} (h : nw_cV l g d0 M' (.ref (nw_a g k) :: As) I P) (hdd : d0 ≤ d) (hl : nw_ml M.1.cls i M') (hk : nw_ok M' n) (hv : nw_iv M') (hd : decode M.2.1 pc = .ok (.invokevirtual i, 3)) (hret : M'.2.2.2 = none) (hn : As.length = n) (hsh : nw_SH[k]? = some (.inr (ci, fs))) (hci : ci < 100) (hcl : nw_cl[ci]? = some (M'.1.cls, T, N)) (hst : (st.map fun v => v.category).sum ≤ 8)
    (kk : ∀ I', P I' → nw_S l g (d + 1) M (pc + 3) ls st I' Post) : nw_S l g (d + 1) M pc ls (As.reverse ++ .ref (nw_a g k) :: st) I Post :=
  ev_callVv (kc := 0) (ks := 0) (kc1 := 0) (ks1 := 0) (h.deep hdd).2 hl hk hv hd hret (fun v sh' I' q => q.2.1) h.1 hn hsh hci hcl hst (fun sh' I' q => by obtain ⟨rfl, -, hp⟩ := q; exact kk _ hp)
theorem s_callSi {i : Nat} {As : List Value} {P : Int32 → nw_Me → Prop} (h : nw_cI l g d0 M' As I P) (hdd : d0 ≤ d) (hl : nw_ml M.1.cls i M') (hk : nw_ok M' n) (hv : nw_ss M') (hd : decode M.2.1 pc = .ok (.invokestatic i, 3)) (hret : M'.2.2.2 = some .int) (hn : As.length = n) (hst : (st.map fun v => v.category).sum ≤ 8)
    (kk : ∀ r I', P r I' → nw_S l g (d + 1) M (pc + 3) ls (.int r :: st) I' Post) : nw_S l g (d + 1) M pc ls (As.reverse ++ st) I Post :=
  ev_callSi (kc := 0) (ks := 0) (kc1 := 0) (ks1 := 0) (h.deep hdd).2 hl hk hv hd hret (fun v sh' I' q => by obtain ⟨-, r, e, -⟩ := q; exact ⟨r, e, rfl⟩) h.1 hn hst (fun r sh' I' q => by obtain ⟨rfl, r', e, hp⟩ := q; cases e; exact kk _ _ hp)
theorem s_callSz {i : Nat} {As : List Value} {P : Bool → nw_Me → Prop} (h : nw_cZ l g d0 M' As I P) (hdd : d0 ≤ d) (hl : nw_ml M.1.cls i M') (hk : nw_ok M' n) (hv : nw_ss M') (hd : decode M.2.1 pc = .ok (.invokestatic i, 3)) (hret : M'.2.2.2 = some .boolean) (hn : As.length = n) (hst : (st.map fun v => v.category).sum ≤ 8)
    (kk : ∀ r I', P r I' → nw_S l g (d + 1) M (pc + 3) ls (.int (nw_bi r) :: st) I' Post) : nw_S l g (d + 1) M pc ls (As.reverse ++ st) I Post :=
  ev_callSi (kc := 0) (ks := 0) (kc1 := 0) (ks1 := 0) (h.deep hdd).2 hl hk hv hd hret (fun v sh' I' q => by obtain ⟨-, r, e, -⟩ := q; exact ⟨_, e, nw_bi_nar r⟩) h.1 hn hst (fun r sh' I' q => by obtain ⟨rfl, r', e, hp⟩ := q; cases e; exact kk _ _ hp)
theorem s_callNz {i : Nat} {As : List Value} {P : Bool → nw_Me → Prop} (h : nw_cZ l g d0 M' As I P) (hdd : d0 ≤ d) (hl : nw_mn M.1.cls i M') (hk : nw_ok M' n) (hv : nw_ss M') (hd : decode M.2.1 pc = .ok (.invokestatic i, 3)) (hret : M'.2.2.2 = some .boolean) (hn : As.length = n) (hst : (st.map fun v => v.category).sum ≤ 8)
    (kk : ∀ r I', P r I' → nw_S l g (d + 1) M (pc + 3) ls (.int (nw_bi r) :: st) I' Post) : nw_S l g (d + 1) M pc ls (As.reverse ++ st) I Post :=
  ev_callSN (kc := 0) (ks := 0) (kc1 := 0) (ks1 := 0) (h.deep hdd).2 hl hk hv hd hret (fun v sh' I' q => by obtain ⟨-, r, e, -⟩ := q; exact ⟨_, e, nw_bi_nar r⟩) h.1 hn hst (fun r sh' I' q => by obtain ⟨rfl, r', e, hp⟩ := q; cases e; exact kk _ _ hp)
end
end
section
theorem dX0_init_0 : decode cX0_init 0 = .ok (.aload_n 0, 1) := by decide +kernel
theorem dX0_init_1 : decode cX0_init 1 = .ok (.invokespecial 1, 3) := by decide +kernel
theorem dX0_init_4 : decode cX0_init 4 = .ok (.aload_n 0, 1) := by decide +kernel
theorem dX0_init_5 : decode cX0_init 5 = .ok (.bipush 24, 2) := by decide +kernel
theorem dX0_init_7 : decode cX0_init 7 = .ok (.anewarray 9, 3) := by decide +kernel
theorem dX0_init_10 : decode cX0_init 10 = .ok (.putfield 11, 3) := by decide +kernel
theorem dX0_init_13 : decode cX0_init 13 = .ok (.iconst 0, 1) := by decide +kernel
theorem dX0_init_14 : decode cX0_init 14 = .ok (.istore_n 1, 1) := by decide +kernel
theorem dX0_init_15 : decode cX0_init 15 = .ok (.iload_n 1, 1) := by decide +kernel
theorem dX0_init_16 : decode cX0_init 16 = .ok (.bipush 24, 2) := by decide +kernel
theorem dX0_init_18 : decode cX0_init 18 = .ok (.if_icmp .ge 22, 3) := by decide +kernel
theorem dX0_init_21 : decode cX0_init 21 = .ok (.aload_n 0, 1) := by decide +kernel
theorem dX0_init_22 : decode cX0_init 22 = .ok (.getfield 11, 3) := by decide +kernel
theorem dX0_init_25 : decode cX0_init 25 = .ok (.iload_n 1, 1) := by decide +kernel
theorem dX0_init_26 : decode cX0_init 26 = .ok (.new 9, 3) := by decide +kernel
theorem dX0_init_29 : decode cX0_init 29 = .ok (.dup, 1) := by decide +kernel
theorem dX0_init_30 : decode cX0_init 30 = .ok (.invokespecial 15, 3) := by decide +kernel
theorem dX0_init_33 : decode cX0_init 33 = .ok (.aastore, 1) := by decide +kernel
theorem dX0_init_34 : decode cX0_init 34 = .ok (.iinc 1 1, 3) := by decide +kernel
theorem dX0_init_37 : decode cX0_init 37 = .ok (.goto (-22), 3) := by decide +kernel
theorem dX0_init_40 : decode cX0_init 40 = .ok (.return_, 1) := by decide +kernel
theorem dX0_keep_0 : decode cX0_keep 0 = .ok (.aload_n 0, 1) := by decide +kernel
theorem dX0_keep_1 : decode cX0_keep 1 = .ok (.getfield 11, 3) := by decide +kernel
theorem dX0_keep_4 : decode cX0_keep 4 = .ok (.aload_n 0, 1) := by decide +kernel
theorem dX0_keep_5 : decode cX0_keep 5 = .ok (.getfield 16, 3) := by decide +kernel
theorem dX0_keep_8 : decode cX0_keep 8 = .ok (.aaload, 1) := by decide +kernel
theorem dX0_keep_9 : decode cX0_keep 9 = .ok (.aload_n 1, 1) := by decide +kernel
theorem dX0_keep_10 : decode cX0_keep 10 = .ok (.invokevirtual 20, 3) := by decide +kernel
theorem dX0_keep_13 : decode cX0_keep 13 = .ok (.aload_n 0, 1) := by decide +kernel
theorem dX0_keep_14 : decode cX0_keep 14 = .ok (.aload_n 0, 1) := by decide +kernel
theorem dX0_keep_15 : decode cX0_keep 15 = .ok (.getfield 16, 3) := by decide +kernel
theorem dX0_keep_18 : decode cX0_keep 18 = .ok (.iconst 1, 1) := by decide +kernel
theorem dX0_keep_19 : decode cX0_keep 19 = .ok (.iadd, 1) := by decide +kernel
theorem dX0_keep_20 : decode cX0_keep 20 = .ok (.bipush 24, 2) := by decide +kernel
theorem dX0_keep_22 : decode cX0_keep 22 = .ok (.irem, 1) := by decide +kernel
theorem dX0_keep_23 : decode cX0_keep 23 = .ok (.putfield 16, 3) := by decide +kernel
theorem dX0_keep_26 : decode cX0_keep 26 = .ok (.aload_n 0, 1) := by decide +kernel
theorem dX0_keep_27 : decode cX0_keep 27 = .ok (.aload_n 0, 1) := by decide +kernel
theorem dX0_keep_28 : decode cX0_keep 28 = .ok (.getfield 24, 3) := by decide +kernel
theorem dX0_keep_31 : decode cX0_keep 31 = .ok (.iconst 1, 1) := by decide +kernel
theorem dX0_keep_32 : decode cX0_keep 32 = .ok (.iadd, 1) := by decide +kernel
theorem dX0_keep_33 : decode cX0_keep 33 = .ok (.bipush 24, 2) := by decide +kernel
theorem dX0_keep_35 : decode cX0_keep 35 = .ok (.invokestatic 27, 3) := by decide +kernel
theorem dX0_keep_38 : decode cX0_keep 38 = .ok (.putfield 24, 3) := by decide +kernel
theorem dX0_keep_41 : decode cX0_keep 41 = .ok (.return_, 1) := by decide +kernel
theorem dX0_takeBack_0 : decode cX0_takeBack 0 = .ok (.aload_n 0, 1) := by decide +kernel
theorem dX0_takeBack_1 : decode cX0_takeBack 1 = .ok (.aload_n 0, 1) := by decide +kernel
theorem dX0_takeBack_2 : decode cX0_takeBack 2 = .ok (.getfield 16, 3) := by decide +kernel
theorem dX0_takeBack_5 : decode cX0_takeBack 5 = .ok (.bipush 24, 2) := by decide +kernel
theorem dX0_takeBack_7 : decode cX0_takeBack 7 = .ok (.iadd, 1) := by decide +kernel
theorem dX0_takeBack_8 : decode cX0_takeBack 8 = .ok (.iconst 1, 1) := by decide +kernel
theorem dX0_takeBack_9 : decode cX0_takeBack 9 = .ok (.isub, 1) := by decide +kernel
theorem dX0_takeBack_10 : decode cX0_takeBack 10 = .ok (.bipush 24, 2) := by decide +kernel
theorem dX0_takeBack_12 : decode cX0_takeBack 12 = .ok (.irem, 1) := by decide +kernel
theorem dX0_takeBack_13 : decode cX0_takeBack 13 = .ok (.putfield 16, 3) := by decide +kernel
theorem dX0_takeBack_16 : decode cX0_takeBack 16 = .ok (.aload_n 0, 1) := by decide +kernel
theorem dX0_takeBack_17 : decode cX0_takeBack 17 = .ok (.dup, 1) := by decide +kernel
theorem dX0_takeBack_18 : decode cX0_takeBack 18 = .ok (.getfield 24, 3) := by decide +kernel
theorem dX0_takeBack_21 : decode cX0_takeBack 21 = .ok (.iconst 1, 1) := by decide +kernel
theorem dX0_takeBack_22 : decode cX0_takeBack 22 = .ok (.isub, 1) := by decide +kernel
theorem dX0_takeBack_23 : decode cX0_takeBack 23 = .ok (.putfield 24, 3) := by decide +kernel
theorem dX0_takeBack_26 : decode cX0_takeBack 26 = .ok (.aload_n 1, 1) := by decide +kernel
theorem dX0_takeBack_27 : decode cX0_takeBack 27 = .ok (.aload_n 0, 1) := by decide +kernel
theorem dX0_takeBack_28 : decode cX0_takeBack 28 = .ok (.getfield 11, 3) := by decide +kernel
theorem dX0_takeBack_31 : decode cX0_takeBack 31 = .ok (.aload_n 0, 1) := by decide +kernel
theorem dX0_takeBack_32 : decode cX0_takeBack 32 = .ok (.getfield 16, 3) := by decide +kernel
theorem dX0_takeBack_35 : decode cX0_takeBack 35 = .ok (.aaload, 1) := by decide +kernel
theorem dX0_takeBack_36 : decode cX0_takeBack 36 = .ok (.invokevirtual 20, 3) := by decide +kernel
theorem dX0_takeBack_39 : decode cX0_takeBack 39 = .ok (.return_, 1) := by decide +kernel
theorem dX0_forgetAll_0 : decode cX0_forgetAll 0 = .ok (.aload_n 0, 1) := by decide +kernel
theorem dX0_forgetAll_1 : decode cX0_forgetAll 1 = .ok (.iconst 0, 1) := by decide +kernel
theorem dX0_forgetAll_2 : decode cX0_forgetAll 2 = .ok (.putfield 24, 3) := by decide +kernel
theorem dX0_forgetAll_5 : decode cX0_forgetAll 5 = .ok (.return_, 1) := by decide +kernel
theorem dX1_init_0 : decode cX1_init 0 = .ok (.aload_n 0, 1) := by decide +kernel
theorem dX1_init_1 : decode cX1_init 1 = .ok (.invokespecial 1, 3) := by decide +kernel
theorem dX1_init_4 : decode cX1_init 4 = .ok (.aload_n 0, 1) := by decide +kernel
theorem dX1_init_5 : decode cX1_init 5 = .ok (.bipush 16, 2) := by decide +kernel
theorem dX1_init_7 : decode cX1_init 7 = .ok (.newarray .int, 2) := by decide +kernel
theorem dX1_init_9 : decode cX1_init 9 = .ok (.putfield 9, 3) := by decide +kernel
theorem dX1_init_12 : decode cX1_init 12 = .ok (.return_, 1) := by decide +kernel
theorem dX1_answer_0 : decode cX1_answer 0 = .ok (.aload_n 0, 1) := by decide +kernel
theorem dX1_answer_1 : decode cX1_answer 1 = .ok (.iconst 0, 1) := by decide +kernel
theorem dX1_answer_2 : decode cX1_answer 2 = .ok (.putfield 13, 3) := by decide +kernel
theorem dX1_answer_5 : decode cX1_answer 5 = .ok (.aload_n 0, 1) := by decide +kernel
theorem dX1_answer_6 : decode cX1_answer 6 = .ok (.aload_n 1, 1) := by decide +kernel
theorem dX1_answer_7 : decode cX1_answer 7 = .ok (.getfield 17, 3) := by decide +kernel
theorem dX1_answer_10 : decode cX1_answer 10 = .ok (.iload_n 2, 1) := by decide +kernel
theorem dX1_answer_11 : decode cX1_answer 11 = .ok (.iaload, 1) := by decide +kernel
theorem dX1_answer_12 : decode cX1_answer 12 = .ok (.putfield 22, 3) := by decide +kernel
theorem dX1_answer_15 : decode cX1_answer 15 = .ok (.aload_n 0, 1) := by decide +kernel
theorem dX1_answer_16 : decode cX1_answer 16 = .ok (.aload_n 1, 1) := by decide +kernel
theorem dX1_answer_17 : decode cX1_answer 17 = .ok (.getfield 25, 3) := by decide +kernel
theorem dX1_answer_20 : decode cX1_answer 20 = .ok (.iload_n 2, 1) := by decide +kernel
theorem dX1_answer_21 : decode cX1_answer 21 = .ok (.iaload, 1) := by decide +kernel
theorem dX1_answer_22 : decode cX1_answer 22 = .ok (.putfield 28, 3) := by decide +kernel
theorem dX1_answer_25 : decode cX1_answer 25 = .ok (.aload_n 0, 1) := by decide +kernel
theorem dX1_answer_26 : decode cX1_answer 26 = .ok (.aload_n 1, 1) := by decide +kernel
theorem dX1_answer_27 : decode cX1_answer 27 = .ok (.iload_n 2, 1) := by decide +kernel
theorem dX1_answer_28 : decode cX1_answer 28 = .ok (.invokevirtual 31, 3) := by decide +kernel
theorem dX1_answer_31 : decode cX1_answer 31 = .ok (.putfield 35, 3) := by decide +kernel
theorem dX1_answer_34 : decode cX1_answer 34 = .ok (.aload_n 0, 1) := by decide +kernel
theorem dX1_answer_35 : decode cX1_answer 35 = .ok (.iload_n 2, 1) := by decide +kernel
theorem dX1_answer_36 : decode cX1_answer 36 = .ok (.putfield 38, 3) := by decide +kernel
theorem dX1_answer_39 : decode cX1_answer 39 = .ok (.aload_n 0, 1) := by decide +kernel
theorem dX1_answer_40 : decode cX1_answer 40 = .ok (.iload_n 3, 1) := by decide +kernel
theorem dX1_answer_41 : decode cX1_answer 41 = .ok (.iconst 0, 1) := by decide +kernel
theorem dX1_answer_42 : decode cX1_answer 42 = .ok (.invokevirtual 41, 3) := by decide +kernel
theorem dX1_answer_45 : decode cX1_answer 45 = .ok (.ireturn, 1) := by decide +kernel
theorem dX1_asked_0 : decode cX1_asked 0 = .ok (.aload_n 0, 1) := by decide +kernel
theorem dX1_asked_1 : decode cX1_asked 1 = .ok (.getfield 22, 3) := by decide +kernel
theorem dX1_asked_4 : decode cX1_asked 4 = .ok (.istore_n 3, 1) := by decide +kernel
theorem dX1_asked_5 : decode cX1_asked 5 = .ok (.iconst 0, 1) := by decide +kernel
theorem dX1_asked_6 : decode cX1_asked 6 = .ok (.istore 4, 2) := by decide +kernel
theorem dX1_asked_8 : decode cX1_asked 8 = .ok (.iload 4, 2) := by decide +kernel
theorem dX1_asked_10 : decode cX1_asked 10 = .ok (.bipush 6, 2) := by decide +kernel
theorem dX1_asked_12 : decode cX1_asked 12 = .ok (.if_icmp .ge 46, 3) := by decide +kernel
theorem dX1_asked_15 : decode cX1_asked 15 = .ok (.iload_n 3, 1) := by decide +kernel
theorem dX1_asked_16 : decode cX1_asked 16 = .ok (.iconst (-1), 1) := by decide +kernel
theorem dX1_asked_17 : decode cX1_asked 17 = .ok (.if_icmp .eq 41, 3) := by decide +kernel
theorem dX1_asked_20 : decode cX1_asked 20 = .ok (.getstatic 47, 3) := by decide +kernel
theorem dX1_asked_23 : decode cX1_asked 23 = .ok (.bipush 6, 2) := by decide +kernel
theorem dX1_asked_25 : decode cX1_asked 25 = .ok (.iload_n 1, 1) := by decide +kernel
theorem dX1_asked_26 : decode cX1_asked 26 = .ok (.imul, 1) := by decide +kernel
theorem dX1_asked_27 : decode cX1_asked 27 = .ok (.iload_n 3, 1) := by decide +kernel
theorem dX1_asked_28 : decode cX1_asked 28 = .ok (.iadd, 1) := by decide +kernel
theorem dX1_asked_29 : decode cX1_asked 29 = .ok (.iaload, 1) := by decide +kernel
theorem dX1_asked_30 : decode cX1_asked 30 = .ok (.istore 5, 2) := by decide +kernel
theorem dX1_asked_32 : decode cX1_asked 32 = .ok (.iload 5, 2) := by decide +kernel
theorem dX1_asked_34 : decode cX1_asked 34 = .ok (.ifCond .eq 13, 3) := by decide +kernel
theorem dX1_asked_37 : decode cX1_asked 37 = .ok (.aload_n 0, 1) := by decide +kernel
theorem dX1_asked_38 : decode cX1_asked 38 = .ok (.iload 5, 2) := by decide +kernel
theorem dX1_asked_40 : decode cX1_asked 40 = .ok (.iload_n 2, 1) := by decide +kernel
theorem dX1_asked_41 : decode cX1_asked 41 = .ok (.iconst 1, 1) := by decide +kernel
theorem dX1_asked_42 : decode cX1_asked 42 = .ok (.iadd, 1) := by decide +kernel
theorem dX1_asked_43 : decode cX1_asked 43 = .ok (.invokevirtual 50, 3) := by decide +kernel
theorem dX1_asked_46 : decode cX1_asked 46 = .ok (.ireturn, 1) := by decide +kernel
theorem dX1_asked_47 : decode cX1_asked 47 = .ok (.iload_n 3, 1) := by decide +kernel
theorem dX1_asked_48 : decode cX1_asked 48 = .ok (.invokestatic 53, 3) := by decide +kernel
theorem dX1_asked_51 : decode cX1_asked 51 = .ok (.istore_n 3, 1) := by decide +kernel
theorem dX1_asked_52 : decode cX1_asked 52 = .ok (.iinc 4 1, 3) := by decide +kernel
theorem dX1_asked_55 : decode cX1_asked 55 = .ok (.goto (-47), 3) := by decide +kernel
theorem dX1_asked_58 : decode cX1_asked 58 = .ok (.iconst 0, 1) := by decide +kernel
theorem dX1_asked_59 : decode cX1_asked 59 = .ok (.ireturn, 1) := by decide +kernel
theorem dX1_given_0 : decode cX1_given 0 = .ok (.iload_n 2, 1) := by decide +kernel
theorem dX1_given_1 : decode cX1_given 1 = .ok (.bipush 30, 2) := by decide +kernel
theorem dX1_given_3 : decode cX1_given 3 = .ok (.if_icmp .le 5, 3) := by decide +kernel
theorem dX1_given_6 : decode cX1_given 6 = .ok (.iconst 0, 1) := by decide +kernel
theorem dX1_given_7 : decode cX1_given 7 = .ok (.ireturn, 1) := by decide +kernel
theorem dX1_given_8 : decode cX1_given 8 = .ok (.aload_n 0, 1) := by decide +kernel
theorem dX1_given_9 : decode cX1_given 9 = .ok (.iload_n 1, 1) := by decide +kernel
theorem dX1_given_10 : decode cX1_given 10 = .ok (.invokevirtual 56, 3) := by decide +kernel
theorem dX1_given_13 : decode cX1_given 13 = .ok (.iload_n 2, 1) := by decide +kernel
theorem dX1_given_14 : decode cX1_given 14 = .ok (.iconst 1, 1) := by decide +kernel
theorem dX1_given_15 : decode cX1_given 15 = .ok (.iadd, 1) := by decide +kernel
theorem dX1_given_16 : decode cX1_given 16 = .ok (.istore_n 3, 1) := by decide +kernel
theorem dX1_given_17 : decode cX1_given 17 = .ok (.iload_n 1, 1) := by decide +kernel
theorem dX1_given_18 : decode cX1_given 18 = .ok (.tableswitch 180 10 24 #[74, 79, 94, 104, 115, 180, 180, 180, 180, 180, 125, 130, 143, 155, 170], 74) := by decide +kernel
theorem dX1_given_92 : decode cX1_given 92 = .ok (.aload_n 0, 1) := by decide +kernel
theorem dX1_given_93 : decode cX1_given 93 = .ok (.getfield 28, 3) := by decide +kernel
theorem dX1_given_96 : decode cX1_given 96 = .ok (.ireturn, 1) := by decide +kernel
theorem dX1_given_97 : decode cX1_given 97 = .ok (.aload_n 0, 1) := by decide +kernel
theorem dX1_given_98 : decode cX1_given 98 = .ok (.bipush 10, 2) := by decide +kernel
theorem dX1_given_100 : decode cX1_given 100 = .ok (.iload_n 3, 1) := by decide +kernel
theorem dX1_given_101 : decode cX1_given 101 = .ok (.invokevirtual 50, 3) := by decide +kernel
theorem dX1_given_104 : decode cX1_given 104 = .ok (.aload_n 0, 1) := by decide +kernel
theorem dX1_given_105 : decode cX1_given 105 = .ok (.iconst 1, 1) := by decide +kernel
theorem dX1_given_106 : decode cX1_given 106 = .ok (.iload_n 3, 1) := by decide +kernel
theorem dX1_given_107 : decode cX1_given 107 = .ok (.invokevirtual 41, 3) := by decide +kernel
theorem dX1_given_110 : decode cX1_given 110 = .ok (.iadd, 1) := by decide +kernel
theorem dX1_given_111 : decode cX1_given 111 = .ok (.ireturn, 1) := by decide +kernel
theorem dX1_given_112 : decode cX1_given 112 = .ok (.iconst 0, 1) := by decide +kernel
theorem dX1_given_113 : decode cX1_given 113 = .ok (.aload_n 0, 1) := by decide +kernel
theorem dX1_given_114 : decode cX1_given 114 = .ok (.bipush 11, 2) := by decide +kernel
theorem dX1_given_116 : decode cX1_given 116 = .ok (.iload_n 3, 1) := by decide +kernel
theorem dX1_given_117 : decode cX1_given 117 = .ok (.invokevirtual 50, 3) := by decide +kernel
theorem dX1_given_120 : decode cX1_given 120 = .ok (.isub, 1) := by decide +kernel
theorem dX1_given_121 : decode cX1_given 121 = .ok (.ireturn, 1) := by decide +kernel
theorem dX1_given_122 : decode cX1_given 122 = .ok (.aload_n 0, 1) := by decide +kernel
theorem dX1_given_123 : decode cX1_given 123 = .ok (.bipush 10, 2) := by decide +kernel
theorem dX1_given_125 : decode cX1_given 125 = .ok (.iload_n 3, 1) := by decide +kernel
theorem dX1_given_126 : decode cX1_given 126 = .ok (.invokevirtual 50, 3) := by decide +kernel
theorem dX1_given_129 : decode cX1_given 129 = .ok (.bipush 100, 2) := by decide +kernel
theorem dX1_given_131 : decode cX1_given 131 = .ok (.isub, 1) := by decide +kernel
theorem dX1_given_132 : decode cX1_given 132 = .ok (.ireturn, 1) := by decide +kernel
theorem dX1_given_133 : decode cX1_given 133 = .ok (.aload_n 0, 1) := by decide +kernel
theorem dX1_given_134 : decode cX1_given 134 = .ok (.bipush 13, 2) := by decide +kernel
theorem dX1_given_136 : decode cX1_given 136 = .ok (.iload_n 3, 1) := by decide +kernel
theorem dX1_given_137 : decode cX1_given 137 = .ok (.invokevirtual 50, 3) := by decide +kernel
theorem dX1_given_140 : decode cX1_given 140 = .ok (.iconst 2, 1) := by decide +kernel
theorem dX1_given_141 : decode cX1_given 141 = .ok (.imul, 1) := by decide +kernel
theorem dX1_given_142 : decode cX1_given 142 = .ok (.ireturn, 1) := by decide +kernel
theorem dX1_given_143 : decode cX1_given 143 = .ok (.aload_n 0, 1) := by decide +kernel
theorem dX1_given_144 : decode cX1_given 144 = .ok (.getfield 38, 3) := by decide +kernel
theorem dX1_given_147 : decode cX1_given 147 = .ok (.ireturn, 1) := by decide +kernel
theorem dX1_given_148 : decode cX1_given 148 = .ok (.aload_n 0, 1) := by decide +kernel
theorem dX1_given_149 : decode cX1_given 149 = .ok (.bipush 20, 2) := by decide +kernel
theorem dX1_given_151 : decode cX1_given 151 = .ok (.iload_n 3, 1) := by decide +kernel
theorem dX1_given_152 : decode cX1_given 152 = .ok (.invokevirtual 50, 3) := by decide +kernel
theorem dX1_given_155 : decode cX1_given 155 = .ok (.aload_n 0, 1) := by decide +kernel
theorem dX1_given_156 : decode cX1_given 156 = .ok (.getfield 35, 3) := by decide +kernel
theorem dX1_given_159 : decode cX1_given 159 = .ok (.iadd, 1) := by decide +kernel
theorem dX1_given_160 : decode cX1_given 160 = .ok (.ireturn, 1) := by decide +kernel
theorem dX1_given_161 : decode cX1_given 161 = .ok (.aload_n 0, 1) := by decide +kernel
theorem dX1_given_162 : decode cX1_given 162 = .ok (.bipush 21, 2) := by decide +kernel
theorem dX1_given_164 : decode cX1_given 164 = .ok (.iload_n 3, 1) := by decide +kernel
theorem dX1_given_165 : decode cX1_given 165 = .ok (.invokevirtual 50, 3) := by decide +kernel
theorem dX1_given_168 : decode cX1_given 168 = .ok (.sipush 1000, 3) := by decide +kernel
theorem dX1_given_171 : decode cX1_given 171 = .ok (.isub, 1) := by decide +kernel
theorem dX1_given_172 : decode cX1_given 172 = .ok (.ireturn, 1) := by decide +kernel
theorem dX1_given_173 : decode cX1_given 173 = .ok (.aload_n 0, 1) := by decide +kernel
theorem dX1_given_174 : decode cX1_given 174 = .ok (.bipush 20, 2) := by decide +kernel
theorem dX1_given_176 : decode cX1_given 176 = .ok (.iload_n 3, 1) := by decide +kernel
theorem dX1_given_177 : decode cX1_given 177 = .ok (.invokevirtual 50, 3) := by decide +kernel
theorem dX1_given_180 : decode cX1_given 180 = .ok (.aload_n 0, 1) := by decide +kernel
theorem dX1_given_181 : decode cX1_given 181 = .ok (.iconst 0, 1) := by decide +kernel
theorem dX1_given_182 : decode cX1_given 182 = .ok (.iload_n 3, 1) := by decide +kernel
theorem dX1_given_183 : decode cX1_given 183 = .ok (.invokevirtual 41, 3) := by decide +kernel
theorem dX1_given_186 : decode cX1_given 186 = .ok (.isub, 1) := by decide +kernel
theorem dX1_given_187 : decode cX1_given 187 = .ok (.ireturn, 1) := by decide +kernel
theorem dX1_given_188 : decode cX1_given 188 = .ok (.aload_n 0, 1) := by decide +kernel
theorem dX1_given_189 : decode cX1_given 189 = .ok (.bipush 21, 2) := by decide +kernel
theorem dX1_given_191 : decode cX1_given 191 = .ok (.iload_n 3, 1) := by decide +kernel
theorem dX1_given_192 : decode cX1_given 192 = .ok (.invokevirtual 50, 3) := by decide +kernel
theorem dX1_given_195 : decode cX1_given 195 = .ok (.iconst 2, 1) := by decide +kernel
theorem dX1_given_196 : decode cX1_given 196 = .ok (.imul, 1) := by decide +kernel
theorem dX1_given_197 : decode cX1_given 197 = .ok (.ireturn, 1) := by decide +kernel
theorem dX1_given_198 : decode cX1_given 198 = .ok (.iconst 0, 1) := by decide +kernel
theorem dX1_given_199 : decode cX1_given 199 = .ok (.ireturn, 1) := by decide +kernel
theorem dX1_leave_0 : decode cX1_leave 0 = .ok (.aload_n 0, 1) := by decide +kernel
theorem dX1_leave_1 : decode cX1_leave 1 = .ok (.getfield 13, 3) := by decide +kernel
theorem dX1_leave_4 : decode cX1_leave 4 = .ok (.bipush 16, 2) := by decide +kernel
theorem dX1_leave_6 : decode cX1_leave 6 = .ok (.if_icmp .ge 23, 3) := by decide +kernel
theorem dX1_leave_9 : decode cX1_leave 9 = .ok (.aload_n 0, 1) := by decide +kernel
theorem dX1_leave_10 : decode cX1_leave 10 = .ok (.getfield 9, 3) := by decide +kernel
theorem dX1_leave_13 : decode cX1_leave 13 = .ok (.aload_n 0, 1) := by decide +kernel
theorem dX1_leave_14 : decode cX1_leave 14 = .ok (.getfield 13, 3) := by decide +kernel
theorem dX1_leave_17 : decode cX1_leave 17 = .ok (.iload_n 1, 1) := by decide +kernel
theorem dX1_leave_18 : decode cX1_leave 18 = .ok (.iastore, 1) := by decide +kernel
theorem dX1_leave_19 : decode cX1_leave 19 = .ok (.aload_n 0, 1) := by decide +kernel
theorem dX1_leave_20 : decode cX1_leave 20 = .ok (.dup, 1) := by decide +kernel
theorem dX1_leave_21 : decode cX1_leave 21 = .ok (.getfield 13, 3) := by decide +kernel
theorem dX1_leave_24 : decode cX1_leave 24 = .ok (.iconst 1, 1) := by decide +kernel
theorem dX1_leave_25 : decode cX1_leave 25 = .ok (.iadd, 1) := by decide +kernel
theorem dX1_leave_26 : decode cX1_leave 26 = .ok (.putfield 13, 3) := by decide +kernel
theorem dX1_leave_29 : decode cX1_leave 29 = .ok (.return_, 1) := by decide +kernel
theorem dX2_init_0 : decode cX2_init 0 = .ok (.aload_n 0, 1) := by decide +kernel
theorem dX2_init_1 : decode cX2_init 1 = .ok (.invokespecial 1, 3) := by decide +kernel
theorem dX2_init_4 : decode cX2_init 4 = .ok (.aload_n 0, 1) := by decide +kernel
theorem dX2_init_5 : decode cX2_init 5 = .ok (.bipush 20, 2) := by decide +kernel
theorem dX2_init_7 : decode cX2_init 7 = .ok (.newarray .int, 2) := by decide +kernel
theorem dX2_init_9 : decode cX2_init 9 = .ok (.putfield 9, 3) := by decide +kernel
theorem dX2_init_12 : decode cX2_init 12 = .ok (.aload_n 0, 1) := by decide +kernel
theorem dX2_init_13 : decode cX2_init 13 = .ok (.bipush 20, 2) := by decide +kernel
theorem dX2_init_15 : decode cX2_init 15 = .ok (.newarray .int, 2) := by decide +kernel
theorem dX2_init_17 : decode cX2_init 17 = .ok (.putfield 13, 3) := by decide +kernel
theorem dX2_init_20 : decode cX2_init 20 = .ok (.aload_n 0, 1) := by decide +kernel
theorem dX2_init_21 : decode cX2_init 21 = .ok (.iconst 3, 1) := by decide +kernel
theorem dX2_init_22 : decode cX2_init 22 = .ok (.newarray .int, 2) := by decide +kernel
theorem dX2_init_24 : decode cX2_init 24 = .ok (.putfield 16, 3) := by decide +kernel
theorem dX2_init_27 : decode cX2_init 27 = .ok (.aload_n 0, 1) := by decide +kernel
theorem dX2_init_28 : decode cX2_init 28 = .ok (.bipush 6, 2) := by decide +kernel
theorem dX2_init_30 : decode cX2_init 30 = .ok (.newarray .int, 2) := by decide +kernel
theorem dX2_init_32 : decode cX2_init 32 = .ok (.putfield 19, 3) := by decide +kernel
theorem dX2_init_35 : decode cX2_init 35 = .ok (.return_, 1) := by decide +kernel
theorem dX2_become_0 : decode cX2_become 0 = .ok (.aload_n 0, 1) := by decide +kernel
theorem dX2_become_1 : decode cX2_become 1 = .ok (.aload_n 1, 1) := by decide +kernel
theorem dX2_become_2 : decode cX2_become 2 = .ok (.getfield 22, 3) := by decide +kernel
theorem dX2_become_5 : decode cX2_become 5 = .ok (.putfield 22, 3) := by decide +kernel
theorem dX2_become_8 : decode cX2_become 8 = .ok (.aload_n 0, 1) := by decide +kernel
theorem dX2_become_9 : decode cX2_become 9 = .ok (.aload_n 1, 1) := by decide +kernel
theorem dX2_become_10 : decode cX2_become 10 = .ok (.getfield 26, 3) := by decide +kernel
theorem dX2_become_13 : decode cX2_become 13 = .ok (.putfield 26, 3) := by decide +kernel
theorem dX2_become_16 : decode cX2_become 16 = .ok (.aload_n 0, 1) := by decide +kernel
theorem dX2_become_17 : decode cX2_become 17 = .ok (.aload_n 1, 1) := by decide +kernel
theorem dX2_become_18 : decode cX2_become 18 = .ok (.getfield 29, 3) := by decide +kernel
theorem dX2_become_21 : decode cX2_become 21 = .ok (.putfield 29, 3) := by decide +kernel
theorem dX2_become_24 : decode cX2_become 24 = .ok (.aload_n 0, 1) := by decide +kernel
theorem dX2_become_25 : decode cX2_become 25 = .ok (.aload_n 1, 1) := by decide +kernel
theorem dX2_become_26 : decode cX2_become 26 = .ok (.getfield 32, 3) := by decide +kernel
theorem dX2_become_29 : decode cX2_become 29 = .ok (.putfield 32, 3) := by decide +kernel
theorem dX2_become_32 : decode cX2_become 32 = .ok (.aload_n 0, 1) := by decide +kernel
theorem dX2_become_33 : decode cX2_become 33 = .ok (.aload_n 1, 1) := by decide +kernel
theorem dX2_become_34 : decode cX2_become 34 = .ok (.getfield 35, 3) := by decide +kernel
theorem dX2_become_37 : decode cX2_become 37 = .ok (.putfield 35, 3) := by decide +kernel
theorem dX2_become_40 : decode cX2_become 40 = .ok (.aload_n 1, 1) := by decide +kernel
theorem dX2_become_41 : decode cX2_become 41 = .ok (.getfield 9, 3) := by decide +kernel
theorem dX2_become_44 : decode cX2_become 44 = .ok (.iconst 0, 1) := by decide +kernel
theorem dX2_become_45 : decode cX2_become 45 = .ok (.aload_n 0, 1) := by decide +kernel
theorem dX2_become_46 : decode cX2_become 46 = .ok (.getfield 9, 3) := by decide +kernel
theorem dX2_become_49 : decode cX2_become 49 = .ok (.iconst 0, 1) := by decide +kernel
theorem dX2_become_50 : decode cX2_become 50 = .ok (.bipush 20, 2) := by decide +kernel
theorem dX2_become_52 : decode cX2_become 52 = .ok (.invokestatic 38, 3) := by decide +kernel
theorem dX2_become_55 : decode cX2_become 55 = .ok (.aload_n 1, 1) := by decide +kernel
theorem dX2_become_56 : decode cX2_become 56 = .ok (.getfield 13, 3) := by decide +kernel
theorem dX2_become_59 : decode cX2_become 59 = .ok (.iconst 0, 1) := by decide +kernel
theorem dX2_become_60 : decode cX2_become 60 = .ok (.aload_n 0, 1) := by decide +kernel
theorem dX2_become_61 : decode cX2_become 61 = .ok (.getfield 13, 3) := by decide +kernel
theorem dX2_become_64 : decode cX2_become 64 = .ok (.iconst 0, 1) := by decide +kernel
theorem dX2_become_65 : decode cX2_become 65 = .ok (.bipush 20, 2) := by decide +kernel
theorem dX2_become_67 : decode cX2_become 67 = .ok (.invokestatic 38, 3) := by decide +kernel
theorem dX2_become_70 : decode cX2_become 70 = .ok (.aload_n 1, 1) := by decide +kernel
theorem dX2_become_71 : decode cX2_become 71 = .ok (.getfield 16, 3) := by decide +kernel
theorem dX2_become_74 : decode cX2_become 74 = .ok (.iconst 0, 1) := by decide +kernel
theorem dX2_become_75 : decode cX2_become 75 = .ok (.aload_n 0, 1) := by decide +kernel
theorem dX2_become_76 : decode cX2_become 76 = .ok (.getfield 16, 3) := by decide +kernel
theorem dX2_become_79 : decode cX2_become 79 = .ok (.iconst 0, 1) := by decide +kernel
theorem dX2_become_80 : decode cX2_become 80 = .ok (.iconst 3, 1) := by decide +kernel
theorem dX2_become_81 : decode cX2_become 81 = .ok (.invokestatic 38, 3) := by decide +kernel
theorem dX2_become_84 : decode cX2_become 84 = .ok (.aload_n 1, 1) := by decide +kernel
theorem dX2_become_85 : decode cX2_become 85 = .ok (.getfield 19, 3) := by decide +kernel
theorem dX2_become_88 : decode cX2_become 88 = .ok (.iconst 0, 1) := by decide +kernel
theorem dX2_become_89 : decode cX2_become 89 = .ok (.aload_n 0, 1) := by decide +kernel
theorem dX2_become_90 : decode cX2_become 90 = .ok (.getfield 19, 3) := by decide +kernel
theorem dX2_become_93 : decode cX2_become 93 = .ok (.iconst 0, 1) := by decide +kernel
theorem dX2_become_94 : decode cX2_become 94 = .ok (.bipush 6, 2) := by decide +kernel
theorem dX2_become_96 : decode cX2_become 96 = .ok (.invokestatic 38, 3) := by decide +kernel
theorem dX2_become_99 : decode cX2_become 99 = .ok (.return_, 1) := by decide +kernel
theorem dX2_swellOf_0 : decode cX2_swellOf 0 = .ok (.aload_n 0, 1) := by decide +kernel
theorem dX2_swellOf_1 : decode cX2_swellOf 1 = .ok (.getfield 29, 3) := by decide +kernel
theorem dX2_swellOf_4 : decode cX2_swellOf 4 = .ok (.ifCond .le 16, 3) := by decide +kernel
theorem dX2_swellOf_7 : decode cX2_swellOf 7 = .ok (.iload_n 1, 1) := by decide +kernel
theorem dX2_swellOf_8 : decode cX2_swellOf 8 = .ok (.ifCond .lt 12, 3) := by decide +kernel
theorem dX2_swellOf_11 : decode cX2_swellOf 11 = .ok (.iload_n 1, 1) := by decide +kernel
theorem dX2_swellOf_12 : decode cX2_swellOf 12 = .ok (.aload_n 0, 1) := by decide +kernel
theorem dX2_swellOf_13 : decode cX2_swellOf 13 = .ok (.getfield 29, 3) := by decide +kernel
theorem dX2_swellOf_16 : decode cX2_swellOf 16 = .ok (.irem, 1) := by decide +kernel
theorem dX2_swellOf_17 : decode cX2_swellOf 17 = .ok (.goto 4, 3) := by decide +kernel
theorem dX2_swellOf_20 : decode cX2_swellOf 20 = .ok (.iconst 0, 1) := by decide +kernel
theorem dX2_swellOf_21 : decode cX2_swellOf 21 = .ok (.ireturn, 1) := by decide +kernel
theorem dX2_kindIn_0 : decode cX2_kindIn 0 = .ok (.aload_n 0, 1) := by decide +kernel
theorem dX2_kindIn_1 : decode cX2_kindIn 1 = .ok (.getfield 9, 3) := by decide +kernel
theorem dX2_kindIn_4 : decode cX2_kindIn 4 = .ok (.aload_n 0, 1) := by decide +kernel
theorem dX2_kindIn_5 : decode cX2_kindIn 5 = .ok (.iload_n 1, 1) := by decide +kernel
theorem dX2_kindIn_6 : decode cX2_kindIn 6 = .ok (.invokevirtual 44, 3) := by decide +kernel
theorem dX2_kindIn_9 : decode cX2_kindIn 9 = .ok (.iaload, 1) := by decide +kernel
theorem dX2_kindIn_10 : decode cX2_kindIn 10 = .ok (.ireturn, 1) := by decide +kernel
theorem dX2_stepOf_0 : decode cX2_stepOf 0 = .ok (.aload_n 0, 1) := by decide +kernel
theorem dX2_stepOf_1 : decode cX2_stepOf 1 = .ok (.getfield 16, 3) := by decide +kernel
theorem dX2_stepOf_4 : decode cX2_stepOf 4 = .ok (.iload_n 1, 1) := by decide +kernel
theorem dX2_stepOf_5 : decode cX2_stepOf 5 = .ok (.iaload, 1) := by decide +kernel
theorem dX2_stepOf_6 : decode cX2_stepOf 6 = .ok (.iload_n 2, 1) := by decide +kernel
theorem dX2_stepOf_7 : decode cX2_stepOf 7 = .ok (.invokestatic 48, 3) := by decide +kernel
theorem dX2_stepOf_10 : decode cX2_stepOf 10 = .ok (.ireturn, 1) := by decide +kernel
theorem dX2_liftOf_0 : decode cX2_liftOf 0 = .ok (.iload_n 0, 1) := by decide +kernel
theorem dX2_liftOf_1 : decode cX2_liftOf 1 = .ok (.tableswitch 49 2 5 #[31, 35, 39, 41], 31) := by decide +kernel
theorem dX2_liftOf_32 : decode cX2_liftOf 32 = .ok (.iload_n 1, 1) := by decide +kernel
theorem dX2_liftOf_33 : decode cX2_liftOf 33 = .ok (.iconst 2, 1) := by decide +kernel
theorem dX2_liftOf_34 : decode cX2_liftOf 34 = .ok (.idiv, 1) := by decide +kernel
theorem dX2_liftOf_35 : decode cX2_liftOf 35 = .ok (.ireturn, 1) := by decide +kernel
theorem dX2_liftOf_36 : decode cX2_liftOf 36 = .ok (.iload_n 1, 1) := by decide +kernel
theorem dX2_liftOf_37 : decode cX2_liftOf 37 = .ok (.iconst 2, 1) := by decide +kernel
theorem dX2_liftOf_38 : decode cX2_liftOf 38 = .ok (.imul, 1) := by decide +kernel
theorem dX2_liftOf_39 : decode cX2_liftOf 39 = .ok (.ireturn, 1) := by decide +kernel
theorem dX2_liftOf_40 : decode cX2_liftOf 40 = .ok (.iconst 0, 1) := by decide +kernel
theorem dX2_liftOf_41 : decode cX2_liftOf 41 = .ok (.ireturn, 1) := by decide +kernel
theorem dX2_liftOf_42 : decode cX2_liftOf 42 = .ok (.iconst 0, 1) := by decide +kernel
theorem dX2_liftOf_43 : decode cX2_liftOf 43 = .ok (.iload_n 1, 1) := by decide +kernel
theorem dX2_liftOf_44 : decode cX2_liftOf 44 = .ok (.iconst 5, 1) := by decide +kernel
theorem dX2_liftOf_45 : decode cX2_liftOf 45 = .ok (.isub, 1) := by decide +kernel
theorem dX2_liftOf_46 : decode cX2_liftOf 46 = .ok (.invokestatic 54, 3) := by decide +kernel
theorem dX2_liftOf_49 : decode cX2_liftOf 49 = .ok (.ireturn, 1) := by decide +kernel
theorem dX2_liftOf_50 : decode cX2_liftOf 50 = .ok (.iload_n 1, 1) := by decide +kernel
theorem dX2_liftOf_51 : decode cX2_liftOf 51 = .ok (.ireturn, 1) := by decide +kernel
theorem dX2_liftOfSwell_0 : decode cX2_liftOfSwell 0 = .ok (.aload_n 0, 1) := by decide +kernel
theorem dX2_liftOfSwell_1 : decode cX2_liftOfSwell 1 = .ok (.getfield 9, 3) := by decide +kernel
theorem dX2_liftOfSwell_4 : decode cX2_liftOfSwell 4 = .ok (.iload_n 1, 1) := by decide +kernel
theorem dX2_liftOfSwell_5 : decode cX2_liftOfSwell 5 = .ok (.iaload, 1) := by decide +kernel
theorem dX2_liftOfSwell_6 : decode cX2_liftOfSwell 6 = .ok (.aload_n 0, 1) := by decide +kernel
theorem dX2_liftOfSwell_7 : decode cX2_liftOfSwell 7 = .ok (.getfield 13, 3) := by decide +kernel
theorem dX2_liftOfSwell_10 : decode cX2_liftOfSwell 10 = .ok (.iload_n 1, 1) := by decide +kernel
theorem dX2_liftOfSwell_11 : decode cX2_liftOfSwell 11 = .ok (.iaload, 1) := by decide +kernel
theorem dX2_liftOfSwell_12 : decode cX2_liftOfSwell 12 = .ok (.invokestatic 59, 3) := by decide +kernel
theorem dX2_liftOfSwell_15 : decode cX2_liftOfSwell 15 = .ok (.ireturn, 1) := by decide +kernel
theorem dX2_depthIn_0 : decode cX2_depthIn 0 = .ok (.iconst 0, 1) := by decide +kernel
theorem dX2_depthIn_1 : decode cX2_depthIn 1 = .ok (.aload_n 0, 1) := by decide +kernel
theorem dX2_depthIn_2 : decode cX2_depthIn 2 = .ok (.getfield 22, 3) := by decide +kernel
theorem dX2_depthIn_5 : decode cX2_depthIn 5 = .ok (.aload_n 0, 1) := by decide +kernel
theorem dX2_depthIn_6 : decode cX2_depthIn 6 = .ok (.getfield 26, 3) := by decide +kernel
theorem dX2_depthIn_9 : decode cX2_depthIn 9 = .ok (.iload_n 1, 1) := by decide +kernel
theorem dX2_depthIn_10 : decode cX2_depthIn 10 = .ok (.imul, 1) := by decide +kernel
theorem dX2_depthIn_11 : decode cX2_depthIn 11 = .ok (.bipush 10, 2) := by decide +kernel
theorem dX2_depthIn_13 : decode cX2_depthIn 13 = .ok (.idiv, 1) := by decide +kernel
theorem dX2_depthIn_14 : decode cX2_depthIn 14 = .ok (.isub, 1) := by decide +kernel
theorem dX2_depthIn_15 : decode cX2_depthIn 15 = .ok (.invokestatic 54, 3) := by decide +kernel
theorem dX2_depthIn_18 : decode cX2_depthIn 18 = .ok (.ireturn, 1) := by decide +kernel
theorem dX2_waterIn_0 : decode cX2_waterIn 0 = .ok (.aload_n 0, 1) := by decide +kernel
theorem dX2_waterIn_1 : decode cX2_waterIn 1 = .ok (.iload_n 1, 1) := by decide +kernel
theorem dX2_waterIn_2 : decode cX2_waterIn 2 = .ok (.invokevirtual 62, 3) := by decide +kernel
theorem dX2_waterIn_5 : decode cX2_waterIn 5 = .ok (.aload_n 0, 1) := by decide +kernel
theorem dX2_waterIn_6 : decode cX2_waterIn 6 = .ok (.aload_n 0, 1) := by decide +kernel
theorem dX2_waterIn_7 : decode cX2_waterIn 7 = .ok (.iload_n 1, 1) := by decide +kernel
theorem dX2_waterIn_8 : decode cX2_waterIn 8 = .ok (.invokevirtual 44, 3) := by decide +kernel
theorem dX2_waterIn_11 : decode cX2_waterIn 11 = .ok (.invokevirtual 65, 3) := by decide +kernel
theorem dX2_waterIn_14 : decode cX2_waterIn 14 = .ok (.iadd, 1) := by decide +kernel
theorem dX2_waterIn_15 : decode cX2_waterIn 15 = .ok (.ireturn, 1) := by decide +kernel
theorem dX3_init_0 : decode cX3_init 0 = .ok (.aload_n 0, 1) := by decide +kernel
theorem dX3_init_1 : decode cX3_init 1 = .ok (.invokespecial 1, 3) := by decide +kernel
theorem dX3_init_4 : decode cX3_init 4 = .ok (.aload_n 0, 1) := by decide +kernel
theorem dX3_init_5 : decode cX3_init 5 = .ok (.new 7, 3) := by decide +kernel
theorem dX3_init_8 : decode cX3_init 8 = .ok (.dup, 1) := by decide +kernel
theorem dX3_init_9 : decode cX3_init 9 = .ok (.invokespecial 9, 3) := by decide +kernel
theorem dX3_init_12 : decode cX3_init 12 = .ok (.putfield 10, 3) := by decide +kernel
theorem dX3_init_15 : decode cX3_init 15 = .ok (.aload_n 0, 1) := by decide +kernel
theorem dX3_init_16 : decode cX3_init 16 = .ok (.new 16, 3) := by decide +kernel
theorem dX3_init_19 : decode cX3_init 19 = .ok (.dup, 1) := by decide +kernel
theorem dX3_init_20 : decode cX3_init 20 = .ok (.invokespecial 18, 3) := by decide +kernel
theorem dX3_init_23 : decode cX3_init 23 = .ok (.putfield 19, 3) := by decide +kernel
theorem dX3_init_26 : decode cX3_init 26 = .ok (.return_, 1) := by decide +kernel
theorem dX3_keep_0 : decode cX3_keep 0 = .ok (.aload_n 0, 1) := by decide +kernel
theorem dX3_keep_1 : decode cX3_keep 1 = .ok (.getfield 10, 3) := by decide +kernel
theorem dX3_keep_4 : decode cX3_keep 4 = .ok (.aload_n 1, 1) := by decide +kernel
theorem dX3_keep_5 : decode cX3_keep 5 = .ok (.invokevirtual 23, 3) := by decide +kernel
theorem dX3_keep_8 : decode cX3_keep 8 = .ok (.aload_n 0, 1) := by decide +kernel
theorem dX3_keep_9 : decode cX3_keep 9 = .ok (.getfield 19, 3) := by decide +kernel
theorem dX3_keep_12 : decode cX3_keep 12 = .ok (.aload_n 2, 1) := by decide +kernel
theorem dX3_keep_13 : decode cX3_keep 13 = .ok (.invokevirtual 27, 3) := by decide +kernel
theorem dX3_keep_16 : decode cX3_keep 16 = .ok (.aload_n 0, 1) := by decide +kernel
theorem dX3_keep_17 : decode cX3_keep 17 = .ok (.iconst 1, 1) := by decide +kernel
theorem dX3_keep_18 : decode cX3_keep 18 = .ok (.putfield 30, 3) := by decide +kernel
theorem dX3_keep_21 : decode cX3_keep 21 = .ok (.return_, 1) := by decide +kernel
theorem dX4_next_0 : decode cX4_next 0 = .ok (.iload_n 0, 1) := by decide +kernel
theorem dX4_next_1 : decode cX4_next 1 = .ok (.ifCond .lt 19, 3) := by decide +kernel
theorem dX4_next_4 : decode cX4_next 4 = .ok (.iload_n 0, 1) := by decide +kernel
theorem dX4_next_5 : decode cX4_next 5 = .ok (.getstatic 7, 3) := by decide +kernel
theorem dX4_next_8 : decode cX4_next 8 = .ok (.arraylength, 1) := by decide +kernel
theorem dX4_next_9 : decode cX4_next 9 = .ok (.if_icmp .ge 11, 3) := by decide +kernel
theorem dX4_next_12 : decode cX4_next 12 = .ok (.getstatic 7, 3) := by decide +kernel
theorem dX4_next_15 : decode cX4_next 15 = .ok (.iload_n 0, 1) := by decide +kernel
theorem dX4_next_16 : decode cX4_next 16 = .ok (.iaload, 1) := by decide +kernel
theorem dX4_next_17 : decode cX4_next 17 = .ok (.goto 4, 3) := by decide +kernel
theorem dX4_next_20 : decode cX4_next 20 = .ok (.iconst (-1), 1) := by decide +kernel
theorem dX4_next_21 : decode cX4_next 21 = .ok (.ireturn, 1) := by decide +kernel
theorem dX4_isA_0 : decode cX4_isA 0 = .ok (.iload_n 0, 1) := by decide +kernel
theorem dX4_isA_1 : decode cX4_isA 1 = .ok (.istore_n 2, 1) := by decide +kernel
theorem dX4_isA_2 : decode cX4_isA 2 = .ok (.iconst 0, 1) := by decide +kernel
theorem dX4_isA_3 : decode cX4_isA 3 = .ok (.istore_n 3, 1) := by decide +kernel
theorem dX4_isA_4 : decode cX4_isA 4 = .ok (.iload_n 3, 1) := by decide +kernel
theorem dX4_isA_5 : decode cX4_isA 5 = .ok (.getstatic 7, 3) := by decide +kernel
theorem dX4_isA_8 : decode cX4_isA 8 = .ok (.arraylength, 1) := by decide +kernel
theorem dX4_isA_9 : decode cX4_isA 9 = .ok (.if_icmp .ge 26, 3) := by decide +kernel
theorem dX4_isA_12 : decode cX4_isA 12 = .ok (.iload_n 2, 1) := by decide +kernel
theorem dX4_isA_13 : decode cX4_isA 13 = .ok (.iconst (-1), 1) := by decide +kernel
theorem dX4_isA_14 : decode cX4_isA 14 = .ok (.if_icmp .eq 21, 3) := by decide +kernel
theorem dX4_isA_17 : decode cX4_isA 17 = .ok (.iload_n 2, 1) := by decide +kernel
theorem dX4_isA_18 : decode cX4_isA 18 = .ok (.iload_n 1, 1) := by decide +kernel
theorem dX4_isA_19 : decode cX4_isA 19 = .ok (.if_icmp .ne 5, 3) := by decide +kernel
theorem dX4_isA_22 : decode cX4_isA 22 = .ok (.iconst 1, 1) := by decide +kernel
theorem dX4_isA_23 : decode cX4_isA 23 = .ok (.ireturn, 1) := by decide +kernel
theorem dX4_isA_24 : decode cX4_isA 24 = .ok (.iload_n 2, 1) := by decide +kernel
theorem dX4_isA_25 : decode cX4_isA 25 = .ok (.invokestatic 13, 3) := by decide +kernel
theorem dX4_isA_28 : decode cX4_isA 28 = .ok (.istore_n 2, 1) := by decide +kernel
theorem dX4_isA_29 : decode cX4_isA 29 = .ok (.iinc 3 1, 3) := by decide +kernel
theorem dX4_isA_32 : decode cX4_isA 32 = .ok (.goto (-28), 3) := by decide +kernel
theorem dX4_isA_35 : decode cX4_isA 35 = .ok (.iconst 0, 1) := by decide +kernel
theorem dX4_isA_36 : decode cX4_isA 36 = .ok (.ireturn, 1) := by decide +kernel
theorem dX4_stepOf_0 : decode cX4_stepOf 0 = .ok (.iload_n 1, 1) := by decide +kernel
theorem dX4_stepOf_1 : decode cX4_stepOf 1 = .ok (.tableswitch 49 2 5 #[31, 49, 37, 43], 31) := by decide +kernel
theorem dX4_stepOf_32 : decode cX4_stepOf 32 = .ok (.iconst 1, 1) := by decide +kernel
theorem dX4_stepOf_33 : decode cX4_stepOf 33 = .ok (.iload_n 0, 1) := by decide +kernel
theorem dX4_stepOf_34 : decode cX4_stepOf 34 = .ok (.iconst 1, 1) := by decide +kernel
theorem dX4_stepOf_35 : decode cX4_stepOf 35 = .ok (.iand, 1) := by decide +kernel
theorem dX4_stepOf_36 : decode cX4_stepOf 36 = .ok (.iadd, 1) := by decide +kernel
theorem dX4_stepOf_37 : decode cX4_stepOf 37 = .ok (.ireturn, 1) := by decide +kernel
theorem dX4_stepOf_38 : decode cX4_stepOf 38 = .ok (.iload_n 0, 1) := by decide +kernel
theorem dX4_stepOf_39 : decode cX4_stepOf 39 = .ok (.iconst 1, 1) := by decide +kernel
theorem dX4_stepOf_40 : decode cX4_stepOf 40 = .ok (.ishr, 1) := by decide +kernel
theorem dX4_stepOf_41 : decode cX4_stepOf 41 = .ok (.iconst 1, 1) := by decide +kernel
theorem dX4_stepOf_42 : decode cX4_stepOf 42 = .ok (.iand, 1) := by decide +kernel
theorem dX4_stepOf_43 : decode cX4_stepOf 43 = .ok (.ireturn, 1) := by decide +kernel
theorem dX4_stepOf_44 : decode cX4_stepOf 44 = .ok (.iload_n 0, 1) := by decide +kernel
theorem dX4_stepOf_45 : decode cX4_stepOf 45 = .ok (.iconst 2, 1) := by decide +kernel
theorem dX4_stepOf_46 : decode cX4_stepOf 46 = .ok (.ishr, 1) := by decide +kernel
theorem dX4_stepOf_47 : decode cX4_stepOf 47 = .ok (.iconst 1, 1) := by decide +kernel
theorem dX4_stepOf_48 : decode cX4_stepOf 48 = .ok (.iand, 1) := by decide +kernel
theorem dX4_stepOf_49 : decode cX4_stepOf 49 = .ok (.ireturn, 1) := by decide +kernel
theorem dX4_stepOf_50 : decode cX4_stepOf 50 = .ok (.iconst 1, 1) := by decide +kernel
theorem dX4_stepOf_51 : decode cX4_stepOf 51 = .ok (.ireturn, 1) := by decide +kernel
theorem dX4_toldBy_0 : decode cX4_toldBy 0 = .ok (.iload_n 0, 1) := by decide +kernel
theorem dX4_toldBy_1 : decode cX4_toldBy 1 = .ok (.lookupswitch 61 #[(100, 55), (108, 57), (109, 59), (112, 51), (115, 53)], 51) := by decide +kernel
theorem dX4_toldBy_52 : decode cX4_toldBy 52 = .ok (.iconst 1, 1) := by decide +kernel
theorem dX4_toldBy_53 : decode cX4_toldBy 53 = .ok (.ireturn, 1) := by decide +kernel
theorem dX4_toldBy_54 : decode cX4_toldBy 54 = .ok (.iconst 2, 1) := by decide +kernel
theorem dX4_toldBy_55 : decode cX4_toldBy 55 = .ok (.ireturn, 1) := by decide +kernel
theorem dX4_toldBy_56 : decode cX4_toldBy 56 = .ok (.iconst 3, 1) := by decide +kernel
theorem dX4_toldBy_57 : decode cX4_toldBy 57 = .ok (.ireturn, 1) := by decide +kernel
theorem dX4_toldBy_58 : decode cX4_toldBy 58 = .ok (.iconst 4, 1) := by decide +kernel
theorem dX4_toldBy_59 : decode cX4_toldBy 59 = .ok (.ireturn, 1) := by decide +kernel
theorem dX4_toldBy_60 : decode cX4_toldBy 60 = .ok (.iconst 5, 1) := by decide +kernel
theorem dX4_toldBy_61 : decode cX4_toldBy 61 = .ok (.ireturn, 1) := by decide +kernel
theorem dX4_toldBy_62 : decode cX4_toldBy 62 = .ok (.iconst (-1), 1) := by decide +kernel
theorem dX4_toldBy_63 : decode cX4_toldBy 63 = .ok (.ireturn, 1) := by decide +kernel
theorem dX5_init_0 : decode cX5_init 0 = .ok (.aload_n 0, 1) := by decide +kernel
theorem dX5_init_1 : decode cX5_init 1 = .ok (.invokespecial 1, 3) := by decide +kernel
theorem dX5_init_4 : decode cX5_init 4 = .ok (.aload_n 0, 1) := by decide +kernel
theorem dX5_init_5 : decode cX5_init 5 = .ok (.iconst 3, 1) := by decide +kernel
theorem dX5_init_6 : decode cX5_init 6 = .ok (.bipush 6, 2) := by decide +kernel
theorem dX5_init_8 : decode cX5_init 8 = .ok (.multianewarray 9 2, 4) := by decide +kernel
theorem dX5_init_12 : decode cX5_init 12 = .ok (.putfield 11, 3) := by decide +kernel
theorem dX5_init_15 : decode cX5_init 15 = .ok (.aload_n 0, 1) := by decide +kernel
theorem dX5_init_16 : decode cX5_init 16 = .ok (.iconst 3, 1) := by decide +kernel
theorem dX5_init_17 : decode cX5_init 17 = .ok (.newarray .int, 2) := by decide +kernel
theorem dX5_init_19 : decode cX5_init 19 = .ok (.putfield 16, 3) := by decide +kernel
theorem dX5_init_22 : decode cX5_init 22 = .ok (.aload_n 0, 1) := by decide +kernel
theorem dX5_init_23 : decode cX5_init 23 = .ok (.iconst 3, 1) := by decide +kernel
theorem dX5_init_24 : decode cX5_init 24 = .ok (.newarray .int, 2) := by decide +kernel
theorem dX5_init_26 : decode cX5_init 26 = .ok (.putfield 20, 3) := by decide +kernel
theorem dX5_init_29 : decode cX5_init 29 = .ok (.aload_n 0, 1) := by decide +kernel
theorem dX5_init_30 : decode cX5_init 30 = .ok (.bipush 6, 2) := by decide +kernel
theorem dX5_init_32 : decode cX5_init 32 = .ok (.newarray .int, 2) := by decide +kernel
theorem dX5_init_34 : decode cX5_init 34 = .ok (.putfield 23, 3) := by decide +kernel
theorem dX5_init_37 : decode cX5_init 37 = .ok (.aload_n 0, 1) := by decide +kernel
theorem dX5_init_38 : decode cX5_init 38 = .ok (.bipush 6, 2) := by decide +kernel
theorem dX5_init_40 : decode cX5_init 40 = .ok (.newarray .int, 2) := by decide +kernel
theorem dX5_init_42 : decode cX5_init 42 = .ok (.putfield 26, 3) := by decide +kernel
theorem dX5_init_45 : decode cX5_init 45 = .ok (.return_, 1) := by decide +kernel
theorem dX5_listen_0 : decode cX5_listen 0 = .ok (.iconst 0, 1) := by decide +kernel
theorem dX5_listen_1 : decode cX5_listen 1 = .ok (.istore 4, 2) := by decide +kernel
theorem dX5_listen_3 : decode cX5_listen 3 = .ok (.iload 4, 2) := by decide +kernel
theorem dX5_listen_5 : decode cX5_listen 5 = .ok (.aload_n 1, 1) := by decide +kernel
theorem dX5_listen_6 : decode cX5_listen 6 = .ok (.getfield 29, 3) := by decide +kernel
theorem dX5_listen_9 : decode cX5_listen 9 = .ok (.if_icmp .ge 128, 3) := by decide +kernel
theorem dX5_listen_12 : decode cX5_listen 12 = .ok (.aload_n 0, 1) := by decide +kernel
theorem dX5_listen_13 : decode cX5_listen 13 = .ok (.getfield 16, 3) := by decide +kernel
theorem dX5_listen_16 : decode cX5_listen 16 = .ok (.iload 4, 2) := by decide +kernel
theorem dX5_listen_18 : decode cX5_listen 18 = .ok (.iconst 0, 1) := by decide +kernel
theorem dX5_listen_19 : decode cX5_listen 19 = .ok (.iastore, 1) := by decide +kernel
theorem dX5_listen_20 : decode cX5_listen 20 = .ok (.aload_n 2, 1) := by decide +kernel
theorem dX5_listen_21 : decode cX5_listen 21 = .ok (.getfield 33, 3) := by decide +kernel
theorem dX5_listen_24 : decode cX5_listen 24 = .ok (.iload 4, 2) := by decide +kernel
theorem dX5_listen_26 : decode cX5_listen 26 = .ok (.iaload, 1) := by decide +kernel
theorem dX5_listen_27 : decode cX5_listen 27 = .ok (.istore 5, 2) := by decide +kernel
theorem dX5_listen_29 : decode cX5_listen 29 = .ok (.aload_n 2, 1) := by decide +kernel
theorem dX5_listen_30 : decode cX5_listen 30 = .ok (.getfield 38, 3) := by decide +kernel
theorem dX5_listen_33 : decode cX5_listen 33 = .ok (.istore 6, 2) := by decide +kernel
theorem dX5_listen_35 : decode cX5_listen 35 = .ok (.iload 6, 2) := by decide +kernel
theorem dX5_listen_37 : decode cX5_listen 37 = .ok (.aload_n 2, 1) := by decide +kernel
theorem dX5_listen_38 : decode cX5_listen 38 = .ok (.getfield 38, 3) := by decide +kernel
theorem dX5_listen_41 : decode cX5_listen 41 = .ok (.iload_n 3, 1) := by decide +kernel
theorem dX5_listen_42 : decode cX5_listen 42 = .ok (.iadd, 1) := by decide +kernel
theorem dX5_listen_43 : decode cX5_listen 43 = .ok (.if_icmp .ge 88, 3) := by decide +kernel
theorem dX5_listen_46 : decode cX5_listen 46 = .ok (.aload_n 1, 1) := by decide +kernel
theorem dX5_listen_47 : decode cX5_listen 47 = .ok (.iload 4, 2) := by decide +kernel
theorem dX5_listen_49 : decode cX5_listen 49 = .ok (.aload_n 1, 1) := by decide +kernel
theorem dX5_listen_50 : decode cX5_listen 50 = .ok (.iload 6, 2) := by decide +kernel
theorem dX5_listen_52 : decode cX5_listen 52 = .ok (.invokevirtual 41, 3) := by decide +kernel
theorem dX5_listen_55 : decode cX5_listen 55 = .ok (.invokevirtual 45, 3) := by decide +kernel
theorem dX5_listen_58 : decode cX5_listen 58 = .ok (.istore 7, 2) := by decide +kernel
theorem dX5_listen_60 : decode cX5_listen 60 = .ok (.aload_n 0, 1) := by decide +kernel
theorem dX5_listen_61 : decode cX5_listen 61 = .ok (.getfield 16, 3) := by decide +kernel
theorem dX5_listen_64 : decode cX5_listen 64 = .ok (.iload 4, 2) := by decide +kernel
theorem dX5_listen_66 : decode cX5_listen 66 = .ok (.iaload, 1) := by decide +kernel
theorem dX5_listen_67 : decode cX5_listen 67 = .ok (.bipush 6, 2) := by decide +kernel
theorem dX5_listen_69 : decode cX5_listen 69 = .ok (.if_icmp .ge 49, 3) := by decide +kernel
theorem dX5_listen_72 : decode cX5_listen 72 = .ok (.iload 5, 2) := by decide +kernel
theorem dX5_listen_74 : decode cX5_listen 74 = .ok (.iload 7, 2) := by decide +kernel
theorem dX5_listen_76 : decode cX5_listen 76 = .ok (.aload_n 2, 1) := by decide +kernel
theorem dX5_listen_77 : decode cX5_listen 77 = .ok (.getfield 49, 3) := by decide +kernel
theorem dX5_listen_80 : decode cX5_listen 80 = .ok (.invokestatic 52, 3) := by decide +kernel
theorem dX5_listen_83 : decode cX5_listen 83 = .ok (.ifCond .eq 35, 3) := by decide +kernel
theorem dX5_listen_86 : decode cX5_listen 86 = .ok (.aload_n 0, 1) := by decide +kernel
theorem dX5_listen_87 : decode cX5_listen 87 = .ok (.getfield 11, 3) := by decide +kernel
theorem dX5_listen_90 : decode cX5_listen 90 = .ok (.iload 4, 2) := by decide +kernel
theorem dX5_listen_92 : decode cX5_listen 92 = .ok (.aaload, 1) := by decide +kernel
theorem dX5_listen_93 : decode cX5_listen 93 = .ok (.aload_n 0, 1) := by decide +kernel
theorem dX5_listen_94 : decode cX5_listen 94 = .ok (.getfield 16, 3) := by decide +kernel
theorem dX5_listen_97 : decode cX5_listen 97 = .ok (.iload 4, 2) := by decide +kernel
theorem dX5_listen_99 : decode cX5_listen 99 = .ok (.iaload, 1) := by decide +kernel
theorem dX5_listen_100 : decode cX5_listen 100 = .ok (.aload_n 1, 1) := by decide +kernel
theorem dX5_listen_101 : decode cX5_listen 101 = .ok (.iload 6, 2) := by decide +kernel
theorem dX5_listen_103 : decode cX5_listen 103 = .ok (.invokevirtual 58, 3) := by decide +kernel
theorem dX5_listen_106 : decode cX5_listen 106 = .ok (.iastore, 1) := by decide +kernel
theorem dX5_listen_107 : decode cX5_listen 107 = .ok (.aload_n 0, 1) := by decide +kernel
theorem dX5_listen_108 : decode cX5_listen 108 = .ok (.getfield 16, 3) := by decide +kernel
theorem dX5_listen_111 : decode cX5_listen 111 = .ok (.iload 4, 2) := by decide +kernel
theorem dX5_listen_113 : decode cX5_listen 113 = .ok (.dup2, 1) := by decide +kernel
theorem dX5_listen_114 : decode cX5_listen 114 = .ok (.iaload, 1) := by decide +kernel
theorem dX5_listen_115 : decode cX5_listen 115 = .ok (.iconst 1, 1) := by decide +kernel
theorem dX5_listen_116 : decode cX5_listen 116 = .ok (.iadd, 1) := by decide +kernel
theorem dX5_listen_117 : decode cX5_listen 117 = .ok (.iastore, 1) := by decide +kernel
theorem dX5_listen_118 : decode cX5_listen 118 = .ok (.iload 5, 2) := by decide +kernel
theorem dX5_listen_120 : decode cX5_listen 120 = .ok (.iload 7, 2) := by decide +kernel
theorem dX5_listen_122 : decode cX5_listen 122 = .ok (.iadd, 1) := by decide +kernel
theorem dX5_listen_123 : decode cX5_listen 123 = .ok (.istore 5, 2) := by decide +kernel
theorem dX5_listen_125 : decode cX5_listen 125 = .ok (.iinc 6 1, 3) := by decide +kernel
theorem dX5_listen_128 : decode cX5_listen 128 = .ok (.goto (-93), 3) := by decide +kernel
theorem dX5_listen_131 : decode cX5_listen 131 = .ok (.iinc 4 1, 3) := by decide +kernel
theorem dX5_listen_134 : decode cX5_listen 134 = .ok (.goto (-131), 3) := by decide +kernel
theorem dX5_listen_137 : decode cX5_listen 137 = .ok (.return_, 1) := by decide +kernel
theorem dX5_search_0 : decode cX5_search 0 = .ok (.aload_n 0, 1) := by decide +kernel
theorem dX5_search_1 : decode cX5_search 1 = .ok (.iconst (-1), 1) := by decide +kernel
theorem dX5_search_2 : decode cX5_search 2 = .ok (.putfield 61, 3) := by decide +kernel
theorem dX5_search_5 : decode cX5_search 5 = .ok (.iconst 0, 1) := by decide +kernel
theorem dX5_search_6 : decode cX5_search 6 = .ok (.istore_n 3, 1) := by decide +kernel
theorem dX5_search_7 : decode cX5_search 7 = .ok (.iload_n 3, 1) := by decide +kernel
theorem dX5_search_8 : decode cX5_search 8 = .ok (.aload_n 1, 1) := by decide +kernel
theorem dX5_search_9 : decode cX5_search 9 = .ok (.getfield 64, 3) := by decide +kernel
theorem dX5_search_12 : decode cX5_search 12 = .ok (.if_icmp .ge 16, 3) := by decide +kernel
theorem dX5_search_15 : decode cX5_search 15 = .ok (.aload_n 0, 1) := by decide +kernel
theorem dX5_search_16 : decode cX5_search 16 = .ok (.getfield 23, 3) := by decide +kernel
theorem dX5_search_19 : decode cX5_search 19 = .ok (.iload_n 3, 1) := by decide +kernel
theorem dX5_search_20 : decode cX5_search 20 = .ok (.iload_n 3, 1) := by decide +kernel
theorem dX5_search_21 : decode cX5_search 21 = .ok (.iastore, 1) := by decide +kernel
theorem dX5_search_22 : decode cX5_search 22 = .ok (.iinc 3 1, 3) := by decide +kernel
theorem dX5_search_25 : decode cX5_search 25 = .ok (.goto (-18), 3) := by decide +kernel
theorem dX5_search_28 : decode cX5_search 28 = .ok (.iconst 1, 1) := by decide +kernel
theorem dX5_search_29 : decode cX5_search 29 = .ok (.istore_n 3, 1) := by decide +kernel
theorem dX5_search_30 : decode cX5_search 30 = .ok (.iconst 0, 1) := by decide +kernel
theorem dX5_search_31 : decode cX5_search 31 = .ok (.istore 4, 2) := by decide +kernel
theorem dX5_search_33 : decode cX5_search 33 = .ok (.iload 4, 2) := by decide +kernel
theorem dX5_search_35 : decode cX5_search 35 = .ok (.sipush 720, 3) := by decide +kernel
theorem dX5_search_38 : decode cX5_search 38 = .ok (.if_icmp .ge 62, 3) := by decide +kernel
theorem dX5_search_41 : decode cX5_search 41 = .ok (.iload_n 3, 1) := by decide +kernel
theorem dX5_search_42 : decode cX5_search 42 = .ok (.ifCond .eq 58, 3) := by decide +kernel
theorem dX5_search_45 : decode cX5_search 45 = .ok (.aload_n 0, 1) := by decide +kernel
theorem dX5_search_46 : decode cX5_search 46 = .ok (.aload_n 1, 1) := by decide +kernel
theorem dX5_search_47 : decode cX5_search 47 = .ok (.aload_n 2, 1) := by decide +kernel
theorem dX5_search_48 : decode cX5_search 48 = .ok (.invokevirtual 67, 3) := by decide +kernel
theorem dX5_search_51 : decode cX5_search 51 = .ok (.istore 5, 2) := by decide +kernel
theorem dX5_search_53 : decode cX5_search 53 = .ok (.iload 5, 2) := by decide +kernel
theorem dX5_search_55 : decode cX5_search 55 = .ok (.aload_n 0, 1) := by decide +kernel
theorem dX5_search_56 : decode cX5_search 56 = .ok (.getfield 61, 3) := by decide +kernel
theorem dX5_search_59 : decode cX5_search 59 = .ok (.if_icmp .le 26, 3) := by decide +kernel
theorem dX5_search_62 : decode cX5_search 62 = .ok (.aload_n 0, 1) := by decide +kernel
theorem dX5_search_63 : decode cX5_search 63 = .ok (.iload 5, 2) := by decide +kernel
theorem dX5_search_65 : decode cX5_search 65 = .ok (.putfield 61, 3) := by decide +kernel
theorem dX5_search_68 : decode cX5_search 68 = .ok (.aload_n 0, 1) := by decide +kernel
theorem dX5_search_69 : decode cX5_search 69 = .ok (.getfield 23, 3) := by decide +kernel
theorem dX5_search_72 : decode cX5_search 72 = .ok (.iconst 0, 1) := by decide +kernel
theorem dX5_search_73 : decode cX5_search 73 = .ok (.aload_n 0, 1) := by decide +kernel
theorem dX5_search_74 : decode cX5_search 74 = .ok (.getfield 26, 3) := by decide +kernel
theorem dX5_search_77 : decode cX5_search 77 = .ok (.iconst 0, 1) := by decide +kernel
theorem dX5_search_78 : decode cX5_search 78 = .ok (.aload_n 1, 1) := by decide +kernel
theorem dX5_search_79 : decode cX5_search 79 = .ok (.getfield 64, 3) := by decide +kernel
theorem dX5_search_82 : decode cX5_search 82 = .ok (.invokestatic 71, 3) := by decide +kernel
theorem dX5_search_85 : decode cX5_search 85 = .ok (.aload_n 0, 1) := by decide +kernel
theorem dX5_search_86 : decode cX5_search 86 = .ok (.aload_n 1, 1) := by decide +kernel
theorem dX5_search_87 : decode cX5_search 87 = .ok (.getfield 64, 3) := by decide +kernel
theorem dX5_search_90 : decode cX5_search 90 = .ok (.invokevirtual 77, 3) := by decide +kernel
theorem dX5_search_93 : decode cX5_search 93 = .ok (.istore_n 3, 1) := by decide +kernel
theorem dX5_search_94 : decode cX5_search 94 = .ok (.iinc 4 1, 3) := by decide +kernel
theorem dX5_search_97 : decode cX5_search 97 = .ok (.goto (-64), 3) := by decide +kernel
theorem dX5_search_100 : decode cX5_search 100 = .ok (.return_, 1) := by decide +kernel
theorem dX5_howManyCross_0 : decode cX5_howManyCross 0 = .ok (.iconst 0, 1) := by decide +kernel
theorem dX5_howManyCross_1 : decode cX5_howManyCross 1 = .ok (.istore_n 3, 1) := by decide +kernel
theorem dX5_howManyCross_2 : decode cX5_howManyCross 2 = .ok (.iconst 0, 1) := by decide +kernel
theorem dX5_howManyCross_3 : decode cX5_howManyCross 3 = .ok (.istore 4, 2) := by decide +kernel
theorem dX5_howManyCross_5 : decode cX5_howManyCross 5 = .ok (.iload 4, 2) := by decide +kernel
theorem dX5_howManyCross_7 : decode cX5_howManyCross 7 = .ok (.aload_n 1, 1) := by decide +kernel
theorem dX5_howManyCross_8 : decode cX5_howManyCross 8 = .ok (.getfield 29, 3) := by decide +kernel
theorem dX5_howManyCross_11 : decode cX5_howManyCross 11 = .ok (.if_icmp .ge 17, 3) := by decide +kernel
theorem dX5_howManyCross_14 : decode cX5_howManyCross 14 = .ok (.aload_n 0, 1) := by decide +kernel
theorem dX5_howManyCross_15 : decode cX5_howManyCross 15 = .ok (.getfield 20, 3) := by decide +kernel
theorem dX5_howManyCross_18 : decode cX5_howManyCross 18 = .ok (.iload 4, 2) := by decide +kernel
theorem dX5_howManyCross_20 : decode cX5_howManyCross 20 = .ok (.iconst 0, 1) := by decide +kernel
theorem dX5_howManyCross_21 : decode cX5_howManyCross 21 = .ok (.iastore, 1) := by decide +kernel
theorem dX5_howManyCross_22 : decode cX5_howManyCross 22 = .ok (.iinc 4 1, 3) := by decide +kernel
theorem dX5_howManyCross_25 : decode cX5_howManyCross 25 = .ok (.goto (-20), 3) := by decide +kernel
theorem dX5_howManyCross_28 : decode cX5_howManyCross 28 = .ok (.iconst 0, 1) := by decide +kernel
theorem dX5_howManyCross_29 : decode cX5_howManyCross 29 = .ok (.istore 4, 2) := by decide +kernel
theorem dX5_howManyCross_31 : decode cX5_howManyCross 31 = .ok (.iload 4, 2) := by decide +kernel
theorem dX5_howManyCross_33 : decode cX5_howManyCross 33 = .ok (.aload_n 1, 1) := by decide +kernel
theorem dX5_howManyCross_34 : decode cX5_howManyCross 34 = .ok (.getfield 64, 3) := by decide +kernel
theorem dX5_howManyCross_37 : decode cX5_howManyCross 37 = .ok (.if_icmp .ge 97, 3) := by decide +kernel
theorem dX5_howManyCross_40 : decode cX5_howManyCross 40 = .ok (.aload_n 0, 1) := by decide +kernel
theorem dX5_howManyCross_41 : decode cX5_howManyCross 41 = .ok (.getfield 23, 3) := by decide +kernel
theorem dX5_howManyCross_44 : decode cX5_howManyCross 44 = .ok (.iload 4, 2) := by decide +kernel
theorem dX5_howManyCross_46 : decode cX5_howManyCross 46 = .ok (.iaload, 1) := by decide +kernel
theorem dX5_howManyCross_47 : decode cX5_howManyCross 47 = .ok (.istore 5, 2) := by decide +kernel
theorem dX5_howManyCross_49 : decode cX5_howManyCross 49 = .ok (.aload_n 2, 1) := by decide +kernel
theorem dX5_howManyCross_50 : decode cX5_howManyCross 50 = .ok (.getfield 81, 3) := by decide +kernel
theorem dX5_howManyCross_53 : decode cX5_howManyCross 53 = .ok (.iload 5, 2) := by decide +kernel
theorem dX5_howManyCross_55 : decode cX5_howManyCross 55 = .ok (.iaload, 1) := by decide +kernel
theorem dX5_howManyCross_56 : decode cX5_howManyCross 56 = .ok (.istore 6, 2) := by decide +kernel
theorem dX5_howManyCross_58 : decode cX5_howManyCross 58 = .ok (.aload_n 2, 1) := by decide +kernel
theorem dX5_howManyCross_59 : decode cX5_howManyCross 59 = .ok (.iload 5, 2) := by decide +kernel
theorem dX5_howManyCross_61 : decode cX5_howManyCross 61 = .ok (.invokevirtual 84, 3) := by decide +kernel
theorem dX5_howManyCross_64 : decode cX5_howManyCross 64 = .ok (.ifCond .eq 64, 3) := by decide +kernel
theorem dX5_howManyCross_67 : decode cX5_howManyCross 67 = .ok (.aload_n 0, 1) := by decide +kernel
theorem dX5_howManyCross_68 : decode cX5_howManyCross 68 = .ok (.getfield 20, 3) := by decide +kernel
theorem dX5_howManyCross_71 : decode cX5_howManyCross 71 = .ok (.iload 6, 2) := by decide +kernel
theorem dX5_howManyCross_73 : decode cX5_howManyCross 73 = .ok (.iaload, 1) := by decide +kernel
theorem dX5_howManyCross_74 : decode cX5_howManyCross 74 = .ok (.aload_n 0, 1) := by decide +kernel
theorem dX5_howManyCross_75 : decode cX5_howManyCross 75 = .ok (.getfield 16, 3) := by decide +kernel
theorem dX5_howManyCross_78 : decode cX5_howManyCross 78 = .ok (.iload 6, 2) := by decide +kernel
theorem dX5_howManyCross_80 : decode cX5_howManyCross 80 = .ok (.iaload, 1) := by decide +kernel
theorem dX5_howManyCross_81 : decode cX5_howManyCross 81 = .ok (.if_icmp .ge 47, 3) := by decide +kernel
theorem dX5_howManyCross_84 : decode cX5_howManyCross 84 = .ok (.iload_n 3, 1) := by decide +kernel
theorem dX5_howManyCross_85 : decode cX5_howManyCross 85 = .ok (.aload_n 0, 1) := by decide +kernel
theorem dX5_howManyCross_86 : decode cX5_howManyCross 86 = .ok (.getfield 11, 3) := by decide +kernel
theorem dX5_howManyCross_89 : decode cX5_howManyCross 89 = .ok (.iload 6, 2) := by decide +kernel
theorem dX5_howManyCross_91 : decode cX5_howManyCross 91 = .ok (.aaload, 1) := by decide +kernel
theorem dX5_howManyCross_92 : decode cX5_howManyCross 92 = .ok (.aload_n 0, 1) := by decide +kernel
theorem dX5_howManyCross_93 : decode cX5_howManyCross 93 = .ok (.getfield 20, 3) := by decide +kernel
theorem dX5_howManyCross_96 : decode cX5_howManyCross 96 = .ok (.iload 6, 2) := by decide +kernel
theorem dX5_howManyCross_98 : decode cX5_howManyCross 98 = .ok (.iaload, 1) := by decide +kernel
theorem dX5_howManyCross_99 : decode cX5_howManyCross 99 = .ok (.iaload, 1) := by decide +kernel
theorem dX5_howManyCross_100 : decode cX5_howManyCross 100 = .ok (.aload_n 1, 1) := by decide +kernel
theorem dX5_howManyCross_101 : decode cX5_howManyCross 101 = .ok (.getfield 87, 3) := by decide +kernel
theorem dX5_howManyCross_104 : decode cX5_howManyCross 104 = .ok (.iload 5, 2) := by decide +kernel
theorem dX5_howManyCross_106 : decode cX5_howManyCross 106 = .ok (.iaload, 1) := by decide +kernel
theorem dX5_howManyCross_107 : decode cX5_howManyCross 107 = .ok (.if_icmp .lt 7, 3) := by decide +kernel
theorem dX5_howManyCross_110 : decode cX5_howManyCross 110 = .ok (.iconst 1, 1) := by decide +kernel
theorem dX5_howManyCross_111 : decode cX5_howManyCross 111 = .ok (.goto 4, 3) := by decide +kernel
theorem dX5_howManyCross_114 : decode cX5_howManyCross 114 = .ok (.iconst 0, 1) := by decide +kernel
theorem dX5_howManyCross_115 : decode cX5_howManyCross 115 = .ok (.iadd, 1) := by decide +kernel
theorem dX5_howManyCross_116 : decode cX5_howManyCross 116 = .ok (.istore_n 3, 1) := by decide +kernel
theorem dX5_howManyCross_117 : decode cX5_howManyCross 117 = .ok (.aload_n 0, 1) := by decide +kernel
theorem dX5_howManyCross_118 : decode cX5_howManyCross 118 = .ok (.getfield 20, 3) := by decide +kernel
theorem dX5_howManyCross_121 : decode cX5_howManyCross 121 = .ok (.iload 6, 2) := by decide +kernel
theorem dX5_howManyCross_123 : decode cX5_howManyCross 123 = .ok (.dup2, 1) := by decide +kernel
theorem dX5_howManyCross_124 : decode cX5_howManyCross 124 = .ok (.iaload, 1) := by decide +kernel
theorem dX5_howManyCross_125 : decode cX5_howManyCross 125 = .ok (.iconst 1, 1) := by decide +kernel
theorem dX5_howManyCross_126 : decode cX5_howManyCross 126 = .ok (.iadd, 1) := by decide +kernel
theorem dX5_howManyCross_127 : decode cX5_howManyCross 127 = .ok (.iastore, 1) := by decide +kernel
theorem dX5_howManyCross_128 : decode cX5_howManyCross 128 = .ok (.iinc 4 1, 3) := by decide +kernel
theorem dX5_howManyCross_131 : decode cX5_howManyCross 131 = .ok (.goto (-100), 3) := by decide +kernel
theorem dX5_howManyCross_134 : decode cX5_howManyCross 134 = .ok (.iload_n 3, 1) := by decide +kernel
theorem dX5_howManyCross_135 : decode cX5_howManyCross 135 = .ok (.ireturn, 1) := by decide +kernel
theorem dX5_goOn_0 : decode cX5_goOn 0 = .ok (.iload_n 1, 1) := by decide +kernel
theorem dX5_goOn_1 : decode cX5_goOn 1 = .ok (.iconst 2, 1) := by decide +kernel
theorem dX5_goOn_2 : decode cX5_goOn 2 = .ok (.isub, 1) := by decide +kernel
theorem dX5_goOn_3 : decode cX5_goOn 3 = .ok (.istore_n 2, 1) := by decide +kernel
theorem dX5_goOn_4 : decode cX5_goOn 4 = .ok (.iload_n 2, 1) := by decide +kernel
theorem dX5_goOn_5 : decode cX5_goOn 5 = .ok (.ifCond .lt 26, 3) := by decide +kernel
theorem dX5_goOn_8 : decode cX5_goOn 8 = .ok (.aload_n 0, 1) := by decide +kernel
theorem dX5_goOn_9 : decode cX5_goOn 9 = .ok (.getfield 23, 3) := by decide +kernel
theorem dX5_goOn_12 : decode cX5_goOn 12 = .ok (.iload_n 2, 1) := by decide +kernel
theorem dX5_goOn_13 : decode cX5_goOn 13 = .ok (.iaload, 1) := by decide +kernel
theorem dX5_goOn_14 : decode cX5_goOn 14 = .ok (.aload_n 0, 1) := by decide +kernel
theorem dX5_goOn_15 : decode cX5_goOn 15 = .ok (.getfield 23, 3) := by decide +kernel
theorem dX5_goOn_18 : decode cX5_goOn 18 = .ok (.iload_n 2, 1) := by decide +kernel
theorem dX5_goOn_19 : decode cX5_goOn 19 = .ok (.iconst 1, 1) := by decide +kernel
theorem dX5_goOn_20 : decode cX5_goOn 20 = .ok (.iadd, 1) := by decide +kernel
theorem dX5_goOn_21 : decode cX5_goOn 21 = .ok (.iaload, 1) := by decide +kernel
theorem dX5_goOn_22 : decode cX5_goOn 22 = .ok (.if_icmp .le 9, 3) := by decide +kernel
theorem dX5_goOn_25 : decode cX5_goOn 25 = .ok (.iinc 2 (-1), 3) := by decide +kernel
theorem dX5_goOn_28 : decode cX5_goOn 28 = .ok (.goto (-24), 3) := by decide +kernel
theorem dX5_goOn_31 : decode cX5_goOn 31 = .ok (.iload_n 2, 1) := by decide +kernel
theorem dX5_goOn_32 : decode cX5_goOn 32 = .ok (.ifCond .ge 5, 3) := by decide +kernel
theorem dX5_goOn_35 : decode cX5_goOn 35 = .ok (.iconst 0, 1) := by decide +kernel
theorem dX5_goOn_36 : decode cX5_goOn 36 = .ok (.ireturn, 1) := by decide +kernel
theorem dX5_goOn_37 : decode cX5_goOn 37 = .ok (.iload_n 1, 1) := by decide +kernel
theorem dX5_goOn_38 : decode cX5_goOn 38 = .ok (.iconst 1, 1) := by decide +kernel
theorem dX5_goOn_39 : decode cX5_goOn 39 = .ok (.isub, 1) := by decide +kernel
theorem dX5_goOn_40 : decode cX5_goOn 40 = .ok (.istore_n 3, 1) := by decide +kernel
theorem dX5_goOn_41 : decode cX5_goOn 41 = .ok (.iload_n 3, 1) := by decide +kernel
theorem dX5_goOn_42 : decode cX5_goOn 42 = .ok (.iload_n 2, 1) := by decide +kernel
theorem dX5_goOn_43 : decode cX5_goOn 43 = .ok (.if_icmp .le 24, 3) := by decide +kernel
theorem dX5_goOn_46 : decode cX5_goOn 46 = .ok (.aload_n 0, 1) := by decide +kernel
theorem dX5_goOn_47 : decode cX5_goOn 47 = .ok (.getfield 23, 3) := by decide +kernel
theorem dX5_goOn_50 : decode cX5_goOn 50 = .ok (.iload_n 3, 1) := by decide +kernel
theorem dX5_goOn_51 : decode cX5_goOn 51 = .ok (.iaload, 1) := by decide +kernel
theorem dX5_goOn_52 : decode cX5_goOn 52 = .ok (.aload_n 0, 1) := by decide +kernel
theorem dX5_goOn_53 : decode cX5_goOn 53 = .ok (.getfield 23, 3) := by decide +kernel
theorem dX5_goOn_56 : decode cX5_goOn 56 = .ok (.iload_n 2, 1) := by decide +kernel
theorem dX5_goOn_57 : decode cX5_goOn 57 = .ok (.iaload, 1) := by decide +kernel
theorem dX5_goOn_58 : decode cX5_goOn 58 = .ok (.if_icmp .ge 9, 3) := by decide +kernel
theorem dX5_goOn_61 : decode cX5_goOn 61 = .ok (.iinc 3 (-1), 3) := by decide +kernel
theorem dX5_goOn_64 : decode cX5_goOn 64 = .ok (.goto (-23), 3) := by decide +kernel
theorem dX5_goOn_67 : decode cX5_goOn 67 = .ok (.aload_n 0, 1) := by decide +kernel
theorem dX5_goOn_68 : decode cX5_goOn 68 = .ok (.iload_n 2, 1) := by decide +kernel
theorem dX5_goOn_69 : decode cX5_goOn 69 = .ok (.iload_n 3, 1) := by decide +kernel
theorem dX5_goOn_70 : decode cX5_goOn 70 = .ok (.invokevirtual 90, 3) := by decide +kernel
theorem dX5_goOn_73 : decode cX5_goOn 73 = .ok (.iload_n 2, 1) := by decide +kernel
theorem dX5_goOn_74 : decode cX5_goOn 74 = .ok (.iconst 1, 1) := by decide +kernel
theorem dX5_goOn_75 : decode cX5_goOn 75 = .ok (.iadd, 1) := by decide +kernel
theorem dX5_goOn_76 : decode cX5_goOn 76 = .ok (.istore 4, 2) := by decide +kernel
theorem dX5_goOn_78 : decode cX5_goOn 78 = .ok (.iload_n 1, 1) := by decide +kernel
theorem dX5_goOn_79 : decode cX5_goOn 79 = .ok (.iconst 1, 1) := by decide +kernel
theorem dX5_goOn_80 : decode cX5_goOn 80 = .ok (.isub, 1) := by decide +kernel
theorem dX5_goOn_81 : decode cX5_goOn 81 = .ok (.istore 5, 2) := by decide +kernel
theorem dX5_goOn_83 : decode cX5_goOn 83 = .ok (.iload 4, 2) := by decide +kernel
theorem dX5_goOn_85 : decode cX5_goOn 85 = .ok (.iload 5, 2) := by decide +kernel
theorem dX5_goOn_87 : decode cX5_goOn 87 = .ok (.if_icmp .ge 20, 3) := by decide +kernel
theorem dX5_goOn_90 : decode cX5_goOn 90 = .ok (.aload_n 0, 1) := by decide +kernel
theorem dX5_goOn_91 : decode cX5_goOn 91 = .ok (.iload 4, 2) := by decide +kernel
theorem dX5_goOn_93 : decode cX5_goOn 93 = .ok (.iload 5, 2) := by decide +kernel
theorem dX5_goOn_95 : decode cX5_goOn 95 = .ok (.invokevirtual 90, 3) := by decide +kernel
theorem dX5_goOn_98 : decode cX5_goOn 98 = .ok (.iinc 4 1, 3) := by decide +kernel
theorem dX5_goOn_101 : decode cX5_goOn 101 = .ok (.iinc 5 (-1), 3) := by decide +kernel
theorem dX5_goOn_104 : decode cX5_goOn 104 = .ok (.goto (-21), 3) := by decide +kernel
theorem dX5_goOn_107 : decode cX5_goOn 107 = .ok (.iconst 1, 1) := by decide +kernel
theorem dX5_goOn_108 : decode cX5_goOn 108 = .ok (.ireturn, 1) := by decide +kernel
theorem dX5_swap_0 : decode cX5_swap 0 = .ok (.aload_n 0, 1) := by decide +kernel
theorem dX5_swap_1 : decode cX5_swap 1 = .ok (.getfield 23, 3) := by decide +kernel
theorem dX5_swap_4 : decode cX5_swap 4 = .ok (.iload_n 1, 1) := by decide +kernel
theorem dX5_swap_5 : decode cX5_swap 5 = .ok (.iaload, 1) := by decide +kernel
theorem dX5_swap_6 : decode cX5_swap 6 = .ok (.istore_n 3, 1) := by decide +kernel
theorem dX5_swap_7 : decode cX5_swap 7 = .ok (.aload_n 0, 1) := by decide +kernel
theorem dX5_swap_8 : decode cX5_swap 8 = .ok (.getfield 23, 3) := by decide +kernel
theorem dX5_swap_11 : decode cX5_swap 11 = .ok (.iload_n 1, 1) := by decide +kernel
theorem dX5_swap_12 : decode cX5_swap 12 = .ok (.aload_n 0, 1) := by decide +kernel
theorem dX5_swap_13 : decode cX5_swap 13 = .ok (.getfield 23, 3) := by decide +kernel
theorem dX5_swap_16 : decode cX5_swap 16 = .ok (.iload_n 2, 1) := by decide +kernel
theorem dX5_swap_17 : decode cX5_swap 17 = .ok (.iaload, 1) := by decide +kernel
theorem dX5_swap_18 : decode cX5_swap 18 = .ok (.iastore, 1) := by decide +kernel
theorem dX5_swap_19 : decode cX5_swap 19 = .ok (.aload_n 0, 1) := by decide +kernel
theorem dX5_swap_20 : decode cX5_swap 20 = .ok (.getfield 23, 3) := by decide +kernel
theorem dX5_swap_23 : decode cX5_swap 23 = .ok (.iload_n 2, 1) := by decide +kernel
theorem dX5_swap_24 : decode cX5_swap 24 = .ok (.iload_n 3, 1) := by decide +kernel
theorem dX5_swap_25 : decode cX5_swap 25 = .ok (.iastore, 1) := by decide +kernel
theorem dX5_swap_26 : decode cX5_swap 26 = .ok (.return_, 1) := by decide +kernel
theorem dX6_init_0 : decode cX6_init 0 = .ok (.aload_n 0, 1) := by decide +kernel
theorem dX6_init_1 : decode cX6_init 1 = .ok (.invokespecial 1, 3) := by decide +kernel
theorem dX6_init_4 : decode cX6_init 4 = .ok (.aload_n 0, 1) := by decide +kernel
theorem dX6_init_5 : decode cX6_init 5 = .ok (.sipush 160, 3) := by decide +kernel
theorem dX6_init_8 : decode cX6_init 8 = .ok (.newarray .int, 2) := by decide +kernel
theorem dX6_init_10 : decode cX6_init 10 = .ok (.putfield 9, 3) := by decide +kernel
theorem dX6_init_13 : decode cX6_init 13 = .ok (.return_, 1) := by decide +kernel
theorem dX6_isFull_0 : decode cX6_isFull 0 = .ok (.aload_n 0, 1) := by decide +kernel
theorem dX6_isFull_1 : decode cX6_isFull 1 = .ok (.getfield 13, 3) := by decide +kernel
theorem dX6_isFull_4 : decode cX6_isFull 4 = .ok (.sipush 160, 3) := by decide +kernel
theorem dX6_isFull_7 : decode cX6_isFull 7 = .ok (.if_icmp .lt 7, 3) := by decide +kernel
theorem dX6_isFull_10 : decode cX6_isFull 10 = .ok (.iconst 1, 1) := by decide +kernel
theorem dX6_isFull_11 : decode cX6_isFull 11 = .ok (.goto 4, 3) := by decide +kernel
theorem dX6_isFull_14 : decode cX6_isFull 14 = .ok (.iconst 0, 1) := by decide +kernel
theorem dX6_isFull_15 : decode cX6_isFull 15 = .ok (.ireturn, 1) := by decide +kernel
theorem dX6_append_0 : decode cX6_append 0 = .ok (.aload_n 0, 1) := by decide +kernel
theorem dX6_append_1 : decode cX6_append 1 = .ok (.invokevirtual 17, 3) := by decide +kernel
theorem dX6_append_4 : decode cX6_append 4 = .ok (.ifCond .ne 23, 3) := by decide +kernel
theorem dX6_append_7 : decode cX6_append 7 = .ok (.aload_n 0, 1) := by decide +kernel
theorem dX6_append_8 : decode cX6_append 8 = .ok (.getfield 9, 3) := by decide +kernel
theorem dX6_append_11 : decode cX6_append 11 = .ok (.aload_n 0, 1) := by decide +kernel
theorem dX6_append_12 : decode cX6_append 12 = .ok (.getfield 13, 3) := by decide +kernel
theorem dX6_append_15 : decode cX6_append 15 = .ok (.iload_n 1, 1) := by decide +kernel
theorem dX6_append_16 : decode cX6_append 16 = .ok (.iastore, 1) := by decide +kernel
theorem dX6_append_17 : decode cX6_append 17 = .ok (.aload_n 0, 1) := by decide +kernel
theorem dX6_append_18 : decode cX6_append 18 = .ok (.dup, 1) := by decide +kernel
theorem dX6_append_19 : decode cX6_append 19 = .ok (.getfield 13, 3) := by decide +kernel
theorem dX6_append_22 : decode cX6_append 22 = .ok (.iconst 1, 1) := by decide +kernel
theorem dX6_append_23 : decode cX6_append 23 = .ok (.iadd, 1) := by decide +kernel
theorem dX6_append_24 : decode cX6_append 24 = .ok (.putfield 13, 3) := by decide +kernel
theorem dX6_append_27 : decode cX6_append 27 = .ok (.aload_n 0, 1) := by decide +kernel
theorem dX6_append_28 : decode cX6_append 28 = .ok (.getfield 13, 3) := by decide +kernel
theorem dX6_append_31 : decode cX6_append 31 = .ok (.ireturn, 1) := by decide +kernel
theorem dX6_empty_0 : decode cX6_empty 0 = .ok (.aload_n 0, 1) := by decide +kernel
theorem dX6_empty_1 : decode cX6_empty 1 = .ok (.iconst 0, 1) := by decide +kernel
theorem dX6_empty_2 : decode cX6_empty 2 = .ok (.putfield 13, 3) := by decide +kernel
theorem dX6_empty_5 : decode cX6_empty 5 = .ok (.return_, 1) := by decide +kernel
theorem dX6_faultNumber_0 : decode cX6_faultNumber 0 = .ok (.aload_n 0, 1) := by decide +kernel
theorem dX6_faultNumber_1 : decode cX6_faultNumber 1 = .ok (.getfield 21, 3) := by decide +kernel
theorem dX6_faultNumber_4 : decode cX6_faultNumber 4 = .ok (.ireturn, 1) := by decide +kernel
theorem dX6_faultPlace_0 : decode cX6_faultPlace 0 = .ok (.aload_n 0, 1) := by decide +kernel
theorem dX6_faultPlace_1 : decode cX6_faultPlace 1 = .ok (.getfield 24, 3) := by decide +kernel
theorem dX6_faultPlace_4 : decode cX6_faultPlace 4 = .ok (.ireturn, 1) := by decide +kernel
theorem dX6_read_0 : decode cX6_read 0 = .ok (.aload_n 0, 1) := by decide +kernel
theorem dX6_read_1 : decode cX6_read 1 = .ok (.iconst 0, 1) := by decide +kernel
theorem dX6_read_2 : decode cX6_read 2 = .ok (.putfield 24, 3) := by decide +kernel
theorem dX6_read_5 : decode cX6_read 5 = .ok (.aload_n 0, 1) := by decide +kernel
theorem dX6_read_6 : decode cX6_read 6 = .ok (.iconst 0, 1) := by decide +kernel
theorem dX6_read_7 : decode cX6_read 7 = .ok (.putfield 21, 3) := by decide +kernel
theorem dX6_read_10 : decode cX6_read 10 = .ok (.aload_n 1, 1) := by decide +kernel
theorem dX6_read_11 : decode cX6_read 11 = .ok (.iconst 0, 1) := by decide +kernel
theorem dX6_read_12 : decode cX6_read 12 = .ok (.putfield 27, 3) := by decide +kernel
theorem dX6_read_15 : decode cX6_read 15 = .ok (.aload_n 1, 1) := by decide +kernel
theorem dX6_read_16 : decode cX6_read 16 = .ok (.iconst 0, 1) := by decide +kernel
theorem dX6_read_17 : decode cX6_read 17 = .ok (.putfield 32, 3) := by decide +kernel
theorem dX6_read_20 : decode cX6_read 20 = .ok (.aload_n 1, 1) := by decide +kernel
theorem dX6_read_21 : decode cX6_read 21 = .ok (.iconst 0, 1) := by decide +kernel
theorem dX6_read_22 : decode cX6_read 22 = .ok (.putfield 35, 3) := by decide +kernel
theorem dX6_read_25 : decode cX6_read 25 = .ok (.aload_n 2, 1) := by decide +kernel
theorem dX6_read_26 : decode cX6_read 26 = .ok (.invokevirtual 38, 3) := by decide +kernel
theorem dX6_read_29 : decode cX6_read 29 = .ok (.aload_n 0, 1) := by decide +kernel
theorem dX6_read_30 : decode cX6_read 30 = .ok (.aload_n 1, 1) := by decide +kernel
theorem dX6_read_31 : decode cX6_read 31 = .ok (.invokevirtual 43, 3) := by decide +kernel
theorem dX6_read_34 : decode cX6_read 34 = .ok (.ifCond .eq 40, 3) := by decide +kernel
theorem dX6_read_37 : decode cX6_read 37 = .ok (.aload_n 0, 1) := by decide +kernel
theorem dX6_read_38 : decode cX6_read 38 = .ok (.aload_n 1, 1) := by decide +kernel
theorem dX6_read_39 : decode cX6_read 39 = .ok (.invokevirtual 47, 3) := by decide +kernel
theorem dX6_read_42 : decode cX6_read 42 = .ok (.ifCond .eq 32, 3) := by decide +kernel
theorem dX6_read_45 : decode cX6_read 45 = .ok (.aload_n 0, 1) := by decide +kernel
theorem dX6_read_46 : decode cX6_read 46 = .ok (.aload_n 1, 1) := by decide +kernel
theorem dX6_read_47 : decode cX6_read 47 = .ok (.aload_n 2, 1) := by decide +kernel
theorem dX6_read_48 : decode cX6_read 48 = .ok (.invokevirtual 50, 3) := by decide +kernel
theorem dX6_read_51 : decode cX6_read 51 = .ok (.ifCond .eq 23, 3) := by decide +kernel
theorem dX6_read_54 : decode cX6_read 54 = .ok (.aload_n 0, 1) := by decide +kernel
theorem dX6_read_55 : decode cX6_read 55 = .ok (.aload_n 1, 1) := by decide +kernel
theorem dX6_read_56 : decode cX6_read 56 = .ok (.aload_n 2, 1) := by decide +kernel
theorem dX6_read_57 : decode cX6_read 57 = .ok (.invokevirtual 54, 3) := by decide +kernel
theorem dX6_read_60 : decode cX6_read 60 = .ok (.ifCond .eq 14, 3) := by decide +kernel
theorem dX6_read_63 : decode cX6_read 63 = .ok (.aload_n 0, 1) := by decide +kernel
theorem dX6_read_64 : decode cX6_read 64 = .ok (.invokevirtual 57, 3) := by decide +kernel
theorem dX6_read_67 : decode cX6_read 67 = .ok (.ifCond .eq 7, 3) := by decide +kernel
theorem dX6_read_70 : decode cX6_read 70 = .ok (.iconst 1, 1) := by decide +kernel
theorem dX6_read_71 : decode cX6_read 71 = .ok (.goto 4, 3) := by decide +kernel
theorem dX6_read_74 : decode cX6_read 74 = .ok (.iconst 0, 1) := by decide +kernel
theorem dX6_read_75 : decode cX6_read 75 = .ok (.ireturn, 1) := by decide +kernel
theorem dX6_readBar_0 : decode cX6_readBar 0 = .ok (.aload_n 0, 1) := by decide +kernel
theorem dX6_readBar_1 : decode cX6_readBar 1 = .ok (.bipush 98, 2) := by decide +kernel
theorem dX6_readBar_3 : decode cX6_readBar 3 = .ok (.invokevirtual 60, 3) := by decide +kernel
theorem dX6_readBar_6 : decode cX6_readBar 6 = .ok (.ifCond .eq 14, 3) := by decide +kernel
theorem dX6_readBar_9 : decode cX6_readBar 9 = .ok (.aload_n 0, 1) := by decide +kernel
theorem dX6_readBar_10 : decode cX6_readBar 10 = .ok (.bipush 60, 2) := by decide +kernel
theorem dX6_readBar_12 : decode cX6_readBar 12 = .ok (.bipush 9, 2) := by decide +kernel
theorem dX6_readBar_14 : decode cX6_readBar 14 = .ok (.invokevirtual 64, 3) := by decide +kernel
theorem dX6_readBar_17 : decode cX6_readBar 17 = .ok (.ifCond .ne 5, 3) := by decide +kernel
theorem dX6_readBar_20 : decode cX6_readBar 20 = .ok (.iconst 0, 1) := by decide +kernel
theorem dX6_readBar_21 : decode cX6_readBar 21 = .ok (.ireturn, 1) := by decide +kernel
theorem dX6_readBar_22 : decode cX6_readBar 22 = .ok (.aload_n 1, 1) := by decide +kernel
theorem dX6_readBar_23 : decode cX6_readBar 23 = .ok (.aload_n 0, 1) := by decide +kernel
theorem dX6_readBar_24 : decode cX6_readBar 24 = .ok (.getfield 68, 3) := by decide +kernel
theorem dX6_readBar_27 : decode cX6_readBar 27 = .ok (.putfield 71, 3) := by decide +kernel
theorem dX6_readBar_30 : decode cX6_readBar 30 = .ok (.aload_n 1, 1) := by decide +kernel
theorem dX6_readBar_31 : decode cX6_readBar 31 = .ok (.aload_n 0, 1) := by decide +kernel
theorem dX6_readBar_32 : decode cX6_readBar 32 = .ok (.getfield 74, 3) := by decide +kernel
theorem dX6_readBar_35 : decode cX6_readBar 35 = .ok (.putfield 77, 3) := by decide +kernel
theorem dX6_readBar_38 : decode cX6_readBar 38 = .ok (.iconst 1, 1) := by decide +kernel
theorem dX6_readBar_39 : decode cX6_readBar 39 = .ok (.ireturn, 1) := by decide +kernel
theorem dX6_readSwells_0 : decode cX6_readSwells 0 = .ok (.iconst 0, 1) := by decide +kernel
theorem dX6_readSwells_1 : decode cX6_readSwells 1 = .ok (.istore_n 2, 1) := by decide +kernel
theorem dX6_readSwells_2 : decode cX6_readSwells 2 = .ok (.iload_n 2, 1) := by decide +kernel
theorem dX6_readSwells_3 : decode cX6_readSwells 3 = .ok (.bipush 20, 2) := by decide +kernel
theorem dX6_readSwells_5 : decode cX6_readSwells 5 = .ok (.if_icmp .gt 93, 3) := by decide +kernel
theorem dX6_readSwells_8 : decode cX6_readSwells 8 = .ok (.aload_n 0, 1) := by decide +kernel
theorem dX6_readSwells_9 : decode cX6_readSwells 9 = .ok (.aload_n 0, 1) := by decide +kernel
theorem dX6_readSwells_10 : decode cX6_readSwells 10 = .ok (.getfield 24, 3) := by decide +kernel
theorem dX6_readSwells_13 : decode cX6_readSwells 13 = .ok (.invokevirtual 80, 3) := by decide +kernel
theorem dX6_readSwells_16 : decode cX6_readSwells 16 = .ok (.invokestatic 84, 3) := by decide +kernel
theorem dX6_readSwells_19 : decode cX6_readSwells 19 = .ok (.iconst (-1), 1) := by decide +kernel
theorem dX6_readSwells_20 : decode cX6_readSwells 20 = .ok (.if_icmp .eq 78, 3) := by decide +kernel
theorem dX6_readSwells_23 : decode cX6_readSwells 23 = .ok (.iload_n 2, 1) := by decide +kernel
theorem dX6_readSwells_24 : decode cX6_readSwells 24 = .ok (.bipush 20, 2) := by decide +kernel
theorem dX6_readSwells_26 : decode cX6_readSwells 26 = .ok (.if_icmp .ne 9, 3) := by decide +kernel
theorem dX6_readSwells_29 : decode cX6_readSwells 29 = .ok (.aload_n 0, 1) := by decide +kernel
theorem dX6_readSwells_30 : decode cX6_readSwells 30 = .ok (.iconst 3, 1) := by decide +kernel
theorem dX6_readSwells_31 : decode cX6_readSwells 31 = .ok (.invokevirtual 89, 3) := by decide +kernel
theorem dX6_readSwells_34 : decode cX6_readSwells 34 = .ok (.ireturn, 1) := by decide +kernel
theorem dX6_readSwells_35 : decode cX6_readSwells 35 = .ok (.aload_n 1, 1) := by decide +kernel
theorem dX6_readSwells_36 : decode cX6_readSwells 36 = .ok (.getfield 92, 3) := by decide +kernel
theorem dX6_readSwells_39 : decode cX6_readSwells 39 = .ok (.iload_n 2, 1) := by decide +kernel
theorem dX6_readSwells_40 : decode cX6_readSwells 40 = .ok (.aload_n 0, 1) := by decide +kernel
theorem dX6_readSwells_41 : decode cX6_readSwells 41 = .ok (.aload_n 0, 1) := by decide +kernel
theorem dX6_readSwells_42 : decode cX6_readSwells 42 = .ok (.getfield 24, 3) := by decide +kernel
theorem dX6_readSwells_45 : decode cX6_readSwells 45 = .ok (.invokevirtual 80, 3) := by decide +kernel
theorem dX6_readSwells_48 : decode cX6_readSwells 48 = .ok (.invokestatic 84, 3) := by decide +kernel
theorem dX6_readSwells_51 : decode cX6_readSwells 51 = .ok (.iastore, 1) := by decide +kernel
theorem dX6_readSwells_52 : decode cX6_readSwells 52 = .ok (.aload_n 0, 1) := by decide +kernel
theorem dX6_readSwells_53 : decode cX6_readSwells 53 = .ok (.dup, 1) := by decide +kernel
theorem dX6_readSwells_54 : decode cX6_readSwells 54 = .ok (.getfield 24, 3) := by decide +kernel
theorem dX6_readSwells_57 : decode cX6_readSwells 57 = .ok (.iconst 1, 1) := by decide +kernel
theorem dX6_readSwells_58 : decode cX6_readSwells 58 = .ok (.iadd, 1) := by decide +kernel
theorem dX6_readSwells_59 : decode cX6_readSwells 59 = .ok (.putfield 24, 3) := by decide +kernel
theorem dX6_readSwells_62 : decode cX6_readSwells 62 = .ok (.aload_n 1, 1) := by decide +kernel
theorem dX6_readSwells_63 : decode cX6_readSwells 63 = .ok (.getfield 95, 3) := by decide +kernel
theorem dX6_readSwells_66 : decode cX6_readSwells 66 = .ok (.iload_n 2, 1) := by decide +kernel
theorem dX6_readSwells_67 : decode cX6_readSwells 67 = .ok (.aload_n 0, 1) := by decide +kernel
theorem dX6_readSwells_68 : decode cX6_readSwells 68 = .ok (.bipush 30, 2) := by decide +kernel
theorem dX6_readSwells_70 : decode cX6_readSwells 70 = .ok (.invokevirtual 98, 3) := by decide +kernel
theorem dX6_readSwells_73 : decode cX6_readSwells 73 = .ok (.iastore, 1) := by decide +kernel
theorem dX6_readSwells_74 : decode cX6_readSwells 74 = .ok (.aload_n 0, 1) := by decide +kernel
theorem dX6_readSwells_75 : decode cX6_readSwells 75 = .ok (.bipush 59, 2) := by decide +kernel
theorem dX6_readSwells_77 : decode cX6_readSwells 77 = .ok (.invokevirtual 60, 3) := by decide +kernel
theorem dX6_readSwells_80 : decode cX6_readSwells 80 = .ok (.ifCond .ne 5, 3) := by decide +kernel
theorem dX6_readSwells_83 : decode cX6_readSwells 83 = .ok (.iconst 0, 1) := by decide +kernel
theorem dX6_readSwells_84 : decode cX6_readSwells 84 = .ok (.ireturn, 1) := by decide +kernel
theorem dX6_readSwells_85 : decode cX6_readSwells 85 = .ok (.aload_n 1, 1) := by decide +kernel
theorem dX6_readSwells_86 : decode cX6_readSwells 86 = .ok (.iload_n 2, 1) := by decide +kernel
theorem dX6_readSwells_87 : decode cX6_readSwells 87 = .ok (.iconst 1, 1) := by decide +kernel
theorem dX6_readSwells_88 : decode cX6_readSwells 88 = .ok (.iadd, 1) := by decide +kernel
theorem dX6_readSwells_89 : decode cX6_readSwells 89 = .ok (.putfield 27, 3) := by decide +kernel
theorem dX6_readSwells_92 : decode cX6_readSwells 92 = .ok (.iinc 2 1, 3) := by decide +kernel
theorem dX6_readSwells_95 : decode cX6_readSwells 95 = .ok (.goto (-93), 3) := by decide +kernel
theorem dX6_readSwells_98 : decode cX6_readSwells 98 = .ok (.aload_n 1, 1) := by decide +kernel
theorem dX6_readSwells_99 : decode cX6_readSwells 99 = .ok (.getfield 27, 3) := by decide +kernel
theorem dX6_readSwells_102 : decode cX6_readSwells 102 = .ok (.ifCond .gt 11, 3) := by decide +kernel
theorem dX6_readSwells_105 : decode cX6_readSwells 105 = .ok (.aload_n 0, 1) := by decide +kernel
theorem dX6_readSwells_106 : decode cX6_readSwells 106 = .ok (.iconst 1, 1) := by decide +kernel
theorem dX6_readSwells_107 : decode cX6_readSwells 107 = .ok (.invokevirtual 89, 3) := by decide +kernel
theorem dX6_readSwells_110 : decode cX6_readSwells 110 = .ok (.ifCond .eq 7, 3) := by decide +kernel
theorem dX6_readSwells_113 : decode cX6_readSwells 113 = .ok (.iconst 1, 1) := by decide +kernel
theorem dX6_readSwells_114 : decode cX6_readSwells 114 = .ok (.goto 4, 3) := by decide +kernel
theorem dX6_readSwells_117 : decode cX6_readSwells 117 = .ok (.iconst 0, 1) := by decide +kernel
theorem dX6_readSwells_118 : decode cX6_readSwells 118 = .ok (.ireturn, 1) := by decide +kernel
theorem dX6_readTowers_0 : decode cX6_readTowers 0 = .ok (.iconst 0, 1) := by decide +kernel
theorem dX6_readTowers_1 : decode cX6_readTowers 1 = .ok (.istore_n 3, 1) := by decide +kernel
theorem dX6_readTowers_2 : decode cX6_readTowers 2 = .ok (.iload_n 3, 1) := by decide +kernel
theorem dX6_readTowers_3 : decode cX6_readTowers 3 = .ok (.iconst 3, 1) := by decide +kernel
theorem dX6_readTowers_4 : decode cX6_readTowers 4 = .ok (.if_icmp .gt 83, 3) := by decide +kernel
theorem dX6_readTowers_7 : decode cX6_readTowers 7 = .ok (.aload_n 0, 1) := by decide +kernel
theorem dX6_readTowers_8 : decode cX6_readTowers 8 = .ok (.aload_n 0, 1) := by decide +kernel
theorem dX6_readTowers_9 : decode cX6_readTowers 9 = .ok (.getfield 24, 3) := by decide +kernel
theorem dX6_readTowers_12 : decode cX6_readTowers 12 = .ok (.invokevirtual 80, 3) := by decide +kernel
theorem dX6_readTowers_15 : decode cX6_readTowers 15 = .ok (.bipush 116, 2) := by decide +kernel
theorem dX6_readTowers_17 : decode cX6_readTowers 17 = .ok (.if_icmp .ne 70, 3) := by decide +kernel
theorem dX6_readTowers_20 : decode cX6_readTowers 20 = .ok (.iload_n 3, 1) := by decide +kernel
theorem dX6_readTowers_21 : decode cX6_readTowers 21 = .ok (.iconst 3, 1) := by decide +kernel
theorem dX6_readTowers_22 : decode cX6_readTowers 22 = .ok (.if_icmp .ne 9, 3) := by decide +kernel
theorem dX6_readTowers_25 : decode cX6_readTowers 25 = .ok (.aload_n 0, 1) := by decide +kernel
theorem dX6_readTowers_26 : decode cX6_readTowers 26 = .ok (.iconst 3, 1) := by decide +kernel
theorem dX6_readTowers_27 : decode cX6_readTowers 27 = .ok (.invokevirtual 89, 3) := by decide +kernel
theorem dX6_readTowers_30 : decode cX6_readTowers 30 = .ok (.ireturn, 1) := by decide +kernel
theorem dX6_readTowers_31 : decode cX6_readTowers 31 = .ok (.aload_n 0, 1) := by decide +kernel
theorem dX6_readTowers_32 : decode cX6_readTowers 32 = .ok (.dup, 1) := by decide +kernel
theorem dX6_readTowers_33 : decode cX6_readTowers 33 = .ok (.getfield 24, 3) := by decide +kernel
theorem dX6_readTowers_36 : decode cX6_readTowers 36 = .ok (.iconst 1, 1) := by decide +kernel
theorem dX6_readTowers_37 : decode cX6_readTowers 37 = .ok (.iadd, 1) := by decide +kernel
theorem dX6_readTowers_38 : decode cX6_readTowers 38 = .ok (.putfield 24, 3) := by decide +kernel
theorem dX6_readTowers_41 : decode cX6_readTowers 41 = .ok (.aload_n 0, 1) := by decide +kernel
theorem dX6_readTowers_42 : decode cX6_readTowers 42 = .ok (.bipush 7, 2) := by decide +kernel
theorem dX6_readTowers_44 : decode cX6_readTowers 44 = .ok (.bipush 8, 2) := by decide +kernel
theorem dX6_readTowers_46 : decode cX6_readTowers 46 = .ok (.invokevirtual 64, 3) := by decide +kernel
theorem dX6_readTowers_49 : decode cX6_readTowers 49 = .ok (.ifCond .ne 5, 3) := by decide +kernel
theorem dX6_readTowers_52 : decode cX6_readTowers 52 = .ok (.iconst 0, 1) := by decide +kernel
theorem dX6_readTowers_53 : decode cX6_readTowers 53 = .ok (.ireturn, 1) := by decide +kernel
theorem dX6_readTowers_54 : decode cX6_readTowers 54 = .ok (.aload_n 1, 1) := by decide +kernel
theorem dX6_readTowers_55 : decode cX6_readTowers 55 = .ok (.getfield 101, 3) := by decide +kernel
theorem dX6_readTowers_58 : decode cX6_readTowers 58 = .ok (.iload_n 3, 1) := by decide +kernel
theorem dX6_readTowers_59 : decode cX6_readTowers 59 = .ok (.aload_n 0, 1) := by decide +kernel
theorem dX6_readTowers_60 : decode cX6_readTowers 60 = .ok (.getfield 68, 3) := by decide +kernel
theorem dX6_readTowers_63 : decode cX6_readTowers 63 = .ok (.iastore, 1) := by decide +kernel
theorem dX6_readTowers_64 : decode cX6_readTowers 64 = .ok (.aload_n 2, 1) := by decide +kernel
theorem dX6_readTowers_65 : decode cX6_readTowers 65 = .ok (.getfield 104, 3) := by decide +kernel
theorem dX6_readTowers_68 : decode cX6_readTowers 68 = .ok (.iload_n 3, 1) := by decide +kernel
theorem dX6_readTowers_69 : decode cX6_readTowers 69 = .ok (.aload_n 0, 1) := by decide +kernel
theorem dX6_readTowers_70 : decode cX6_readTowers 70 = .ok (.getfield 74, 3) := by decide +kernel
theorem dX6_readTowers_73 : decode cX6_readTowers 73 = .ok (.iastore, 1) := by decide +kernel
theorem dX6_readTowers_74 : decode cX6_readTowers 74 = .ok (.aload_n 1, 1) := by decide +kernel
theorem dX6_readTowers_75 : decode cX6_readTowers 75 = .ok (.iload_n 3, 1) := by decide +kernel
theorem dX6_readTowers_76 : decode cX6_readTowers 76 = .ok (.iconst 1, 1) := by decide +kernel
theorem dX6_readTowers_77 : decode cX6_readTowers 77 = .ok (.iadd, 1) := by decide +kernel
theorem dX6_readTowers_78 : decode cX6_readTowers 78 = .ok (.putfield 32, 3) := by decide +kernel
theorem dX6_readTowers_81 : decode cX6_readTowers 81 = .ok (.iinc 3 1, 3) := by decide +kernel
theorem dX6_readTowers_84 : decode cX6_readTowers 84 = .ok (.goto (-82), 3) := by decide +kernel
theorem dX6_readTowers_87 : decode cX6_readTowers 87 = .ok (.aload_n 1, 1) := by decide +kernel
theorem dX6_readTowers_88 : decode cX6_readTowers 88 = .ok (.getfield 32, 3) := by decide +kernel
theorem dX6_readTowers_91 : decode cX6_readTowers 91 = .ok (.ifCond .gt 11, 3) := by decide +kernel
theorem dX6_readTowers_94 : decode cX6_readTowers 94 = .ok (.aload_n 0, 1) := by decide +kernel
theorem dX6_readTowers_95 : decode cX6_readTowers 95 = .ok (.iconst 1, 1) := by decide +kernel
theorem dX6_readTowers_96 : decode cX6_readTowers 96 = .ok (.invokevirtual 89, 3) := by decide +kernel
theorem dX6_readTowers_99 : decode cX6_readTowers 99 = .ok (.ifCond .eq 7, 3) := by decide +kernel
theorem dX6_readTowers_102 : decode cX6_readTowers 102 = .ok (.iconst 1, 1) := by decide +kernel
theorem dX6_readTowers_103 : decode cX6_readTowers 103 = .ok (.goto 4, 3) := by decide +kernel
theorem dX6_readTowers_106 : decode cX6_readTowers 106 = .ok (.iconst 0, 1) := by decide +kernel
theorem dX6_readTowers_107 : decode cX6_readTowers 107 = .ok (.ireturn, 1) := by decide +kernel
theorem dX6_readShips_0 : decode cX6_readShips 0 = .ok (.iconst 0, 1) := by decide +kernel
theorem dX6_readShips_1 : decode cX6_readShips 1 = .ok (.istore_n 3, 1) := by decide +kernel
theorem dX6_readShips_2 : decode cX6_readShips 2 = .ok (.iload_n 3, 1) := by decide +kernel
theorem dX6_readShips_3 : decode cX6_readShips 3 = .ok (.bipush 6, 2) := by decide +kernel
theorem dX6_readShips_5 : decode cX6_readShips 5 = .ok (.if_icmp .gt 88, 3) := by decide +kernel
theorem dX6_readShips_8 : decode cX6_readShips 8 = .ok (.aload_n 0, 1) := by decide +kernel
theorem dX6_readShips_9 : decode cX6_readShips 9 = .ok (.aload_n 0, 1) := by decide +kernel
theorem dX6_readShips_10 : decode cX6_readShips 10 = .ok (.getfield 24, 3) := by decide +kernel
theorem dX6_readShips_13 : decode cX6_readShips 13 = .ok (.invokevirtual 80, 3) := by decide +kernel
theorem dX6_readShips_16 : decode cX6_readShips 16 = .ok (.bipush 104, 2) := by decide +kernel
theorem dX6_readShips_18 : decode cX6_readShips 18 = .ok (.if_icmp .ne 75, 3) := by decide +kernel
theorem dX6_readShips_21 : decode cX6_readShips 21 = .ok (.iload_n 3, 1) := by decide +kernel
theorem dX6_readShips_22 : decode cX6_readShips 22 = .ok (.bipush 6, 2) := by decide +kernel
theorem dX6_readShips_24 : decode cX6_readShips 24 = .ok (.if_icmp .ne 9, 3) := by decide +kernel
theorem dX6_readShips_27 : decode cX6_readShips 27 = .ok (.aload_n 0, 1) := by decide +kernel
theorem dX6_readShips_28 : decode cX6_readShips 28 = .ok (.iconst 3, 1) := by decide +kernel
theorem dX6_readShips_29 : decode cX6_readShips 29 = .ok (.invokevirtual 89, 3) := by decide +kernel
theorem dX6_readShips_32 : decode cX6_readShips 32 = .ok (.ireturn, 1) := by decide +kernel
theorem dX6_readShips_33 : decode cX6_readShips 33 = .ok (.aload_n 0, 1) := by decide +kernel
theorem dX6_readShips_34 : decode cX6_readShips 34 = .ok (.dup, 1) := by decide +kernel
theorem dX6_readShips_35 : decode cX6_readShips 35 = .ok (.getfield 24, 3) := by decide +kernel
theorem dX6_readShips_38 : decode cX6_readShips 38 = .ok (.iconst 1, 1) := by decide +kernel
theorem dX6_readShips_39 : decode cX6_readShips 39 = .ok (.iadd, 1) := by decide +kernel
theorem dX6_readShips_40 : decode cX6_readShips 40 = .ok (.putfield 24, 3) := by decide +kernel
theorem dX6_readShips_43 : decode cX6_readShips 43 = .ok (.aload_n 0, 1) := by decide +kernel
theorem dX6_readShips_44 : decode cX6_readShips 44 = .ok (.bipush 99, 2) := by decide +kernel
theorem dX6_readShips_46 : decode cX6_readShips 46 = .ok (.aload_n 1, 1) := by decide +kernel
theorem dX6_readShips_47 : decode cX6_readShips 47 = .ok (.getfield 32, 3) := by decide +kernel
theorem dX6_readShips_50 : decode cX6_readShips 50 = .ok (.iconst 1, 1) := by decide +kernel
theorem dX6_readShips_51 : decode cX6_readShips 51 = .ok (.isub, 1) := by decide +kernel
theorem dX6_readShips_52 : decode cX6_readShips 52 = .ok (.invokevirtual 64, 3) := by decide +kernel
theorem dX6_readShips_55 : decode cX6_readShips 55 = .ok (.ifCond .ne 5, 3) := by decide +kernel
theorem dX6_readShips_58 : decode cX6_readShips 58 = .ok (.iconst 0, 1) := by decide +kernel
theorem dX6_readShips_59 : decode cX6_readShips 59 = .ok (.ireturn, 1) := by decide +kernel
theorem dX6_readShips_60 : decode cX6_readShips 60 = .ok (.aload_n 1, 1) := by decide +kernel
theorem dX6_readShips_61 : decode cX6_readShips 61 = .ok (.getfield 107, 3) := by decide +kernel
theorem dX6_readShips_64 : decode cX6_readShips 64 = .ok (.iload_n 3, 1) := by decide +kernel
theorem dX6_readShips_65 : decode cX6_readShips 65 = .ok (.aload_n 0, 1) := by decide +kernel
theorem dX6_readShips_66 : decode cX6_readShips 66 = .ok (.getfield 68, 3) := by decide +kernel
theorem dX6_readShips_69 : decode cX6_readShips 69 = .ok (.iastore, 1) := by decide +kernel
theorem dX6_readShips_70 : decode cX6_readShips 70 = .ok (.aload_n 2, 1) := by decide +kernel
theorem dX6_readShips_71 : decode cX6_readShips 71 = .ok (.getfield 110, 3) := by decide +kernel
theorem dX6_readShips_74 : decode cX6_readShips 74 = .ok (.iload_n 3, 1) := by decide +kernel
theorem dX6_readShips_75 : decode cX6_readShips 75 = .ok (.aload_n 0, 1) := by decide +kernel
theorem dX6_readShips_76 : decode cX6_readShips 76 = .ok (.getfield 74, 3) := by decide +kernel
theorem dX6_readShips_79 : decode cX6_readShips 79 = .ok (.iastore, 1) := by decide +kernel
theorem dX6_readShips_80 : decode cX6_readShips 80 = .ok (.aload_n 1, 1) := by decide +kernel
theorem dX6_readShips_81 : decode cX6_readShips 81 = .ok (.iload_n 3, 1) := by decide +kernel
theorem dX6_readShips_82 : decode cX6_readShips 82 = .ok (.iconst 1, 1) := by decide +kernel
theorem dX6_readShips_83 : decode cX6_readShips 83 = .ok (.iadd, 1) := by decide +kernel
theorem dX6_readShips_84 : decode cX6_readShips 84 = .ok (.putfield 35, 3) := by decide +kernel
theorem dX6_readShips_87 : decode cX6_readShips 87 = .ok (.iinc 3 1, 3) := by decide +kernel
theorem dX6_readShips_90 : decode cX6_readShips 90 = .ok (.goto (-88), 3) := by decide +kernel
theorem dX6_readShips_93 : decode cX6_readShips 93 = .ok (.iconst 1, 1) := by decide +kernel
theorem dX6_readShips_94 : decode cX6_readShips 94 = .ok (.ireturn, 1) := by decide +kernel
theorem dX6_readPair_0 : decode cX6_readPair 0 = .ok (.aload_n 0, 1) := by decide +kernel
theorem dX6_readPair_1 : decode cX6_readPair 1 = .ok (.aload_n 0, 1) := by decide +kernel
theorem dX6_readPair_2 : decode cX6_readPair 2 = .ok (.iload_n 1, 1) := by decide +kernel
theorem dX6_readPair_3 : decode cX6_readPair 3 = .ok (.invokevirtual 98, 3) := by decide +kernel
theorem dX6_readPair_6 : decode cX6_readPair 6 = .ok (.putfield 68, 3) := by decide +kernel
theorem dX6_readPair_9 : decode cX6_readPair 9 = .ok (.aload_n 0, 1) := by decide +kernel
theorem dX6_readPair_10 : decode cX6_readPair 10 = .ok (.bipush 44, 2) := by decide +kernel
theorem dX6_readPair_12 : decode cX6_readPair 12 = .ok (.invokevirtual 60, 3) := by decide +kernel
theorem dX6_readPair_15 : decode cX6_readPair 15 = .ok (.ifCond .ne 5, 3) := by decide +kernel
theorem dX6_readPair_18 : decode cX6_readPair 18 = .ok (.iconst 0, 1) := by decide +kernel
theorem dX6_readPair_19 : decode cX6_readPair 19 = .ok (.ireturn, 1) := by decide +kernel
theorem dX6_readPair_20 : decode cX6_readPair 20 = .ok (.aload_n 0, 1) := by decide +kernel
theorem dX6_readPair_21 : decode cX6_readPair 21 = .ok (.aload_n 0, 1) := by decide +kernel
theorem dX6_readPair_22 : decode cX6_readPair 22 = .ok (.iload_n 2, 1) := by decide +kernel
theorem dX6_readPair_23 : decode cX6_readPair 23 = .ok (.invokevirtual 98, 3) := by decide +kernel
theorem dX6_readPair_26 : decode cX6_readPair 26 = .ok (.putfield 74, 3) := by decide +kernel
theorem dX6_readPair_29 : decode cX6_readPair 29 = .ok (.aload_n 0, 1) := by decide +kernel
theorem dX6_readPair_30 : decode cX6_readPair 30 = .ok (.bipush 59, 2) := by decide +kernel
theorem dX6_readPair_32 : decode cX6_readPair 32 = .ok (.invokevirtual 60, 3) := by decide +kernel
theorem dX6_readPair_35 : decode cX6_readPair 35 = .ok (.ireturn, 1) := by decide +kernel
theorem dX6_isAtEnd_0 : decode cX6_isAtEnd 0 = .ok (.aload_n 0, 1) := by decide +kernel
theorem dX6_isAtEnd_1 : decode cX6_isAtEnd 1 = .ok (.aload_n 0, 1) := by decide +kernel
theorem dX6_isAtEnd_2 : decode cX6_isAtEnd 2 = .ok (.getfield 24, 3) := by decide +kernel
theorem dX6_isAtEnd_5 : decode cX6_isAtEnd 5 = .ok (.invokevirtual 80, 3) := by decide +kernel
theorem dX6_isAtEnd_8 : decode cX6_isAtEnd 8 = .ok (.iconst (-1), 1) := by decide +kernel
theorem dX6_isAtEnd_9 : decode cX6_isAtEnd 9 = .ok (.if_icmp .eq 11, 3) := by decide +kernel
theorem dX6_isAtEnd_12 : decode cX6_isAtEnd 12 = .ok (.aload_n 0, 1) := by decide +kernel
theorem dX6_isAtEnd_13 : decode cX6_isAtEnd 13 = .ok (.iconst 1, 1) := by decide +kernel
theorem dX6_isAtEnd_14 : decode cX6_isAtEnd 14 = .ok (.invokevirtual 89, 3) := by decide +kernel
theorem dX6_isAtEnd_17 : decode cX6_isAtEnd 17 = .ok (.ifCond .eq 7, 3) := by decide +kernel
theorem dX6_isAtEnd_20 : decode cX6_isAtEnd 20 = .ok (.iconst 1, 1) := by decide +kernel
theorem dX6_isAtEnd_21 : decode cX6_isAtEnd 21 = .ok (.goto 4, 3) := by decide +kernel
theorem dX6_isAtEnd_24 : decode cX6_isAtEnd 24 = .ok (.iconst 0, 1) := by decide +kernel
theorem dX6_isAtEnd_25 : decode cX6_isAtEnd 25 = .ok (.ireturn, 1) := by decide +kernel
theorem dX6_at_0 : decode cX6_at 0 = .ok (.iload_n 1, 1) := by decide +kernel
theorem dX6_at_1 : decode cX6_at 1 = .ok (.ifCond .lt 20, 3) := by decide +kernel
theorem dX6_at_4 : decode cX6_at 4 = .ok (.iload_n 1, 1) := by decide +kernel
theorem dX6_at_5 : decode cX6_at 5 = .ok (.aload_n 0, 1) := by decide +kernel
theorem dX6_at_6 : decode cX6_at 6 = .ok (.getfield 13, 3) := by decide +kernel
theorem dX6_at_9 : decode cX6_at 9 = .ok (.if_icmp .ge 12, 3) := by decide +kernel
theorem dX6_at_12 : decode cX6_at 12 = .ok (.aload_n 0, 1) := by decide +kernel
theorem dX6_at_13 : decode cX6_at 13 = .ok (.getfield 9, 3) := by decide +kernel
theorem dX6_at_16 : decode cX6_at 16 = .ok (.iload_n 1, 1) := by decide +kernel
theorem dX6_at_17 : decode cX6_at 17 = .ok (.iaload, 1) := by decide +kernel
theorem dX6_at_18 : decode cX6_at 18 = .ok (.goto 4, 3) := by decide +kernel
theorem dX6_at_21 : decode cX6_at 21 = .ok (.iconst (-1), 1) := by decide +kernel
theorem dX6_at_22 : decode cX6_at 22 = .ok (.ireturn, 1) := by decide +kernel
theorem dX6_fails_0 : decode cX6_fails 0 = .ok (.aload_n 0, 1) := by decide +kernel
theorem dX6_fails_1 : decode cX6_fails 1 = .ok (.getfield 21, 3) := by decide +kernel
theorem dX6_fails_4 : decode cX6_fails 4 = .ok (.ifCond .ne 8, 3) := by decide +kernel
theorem dX6_fails_7 : decode cX6_fails 7 = .ok (.aload_n 0, 1) := by decide +kernel
theorem dX6_fails_8 : decode cX6_fails 8 = .ok (.iload_n 1, 1) := by decide +kernel
theorem dX6_fails_9 : decode cX6_fails 9 = .ok (.putfield 21, 3) := by decide +kernel
theorem dX6_fails_12 : decode cX6_fails 12 = .ok (.iconst 0, 1) := by decide +kernel
theorem dX6_fails_13 : decode cX6_fails 13 = .ok (.ireturn, 1) := by decide +kernel
theorem dX6_passes_0 : decode cX6_passes 0 = .ok (.aload_n 0, 1) := by decide +kernel
theorem dX6_passes_1 : decode cX6_passes 1 = .ok (.getfield 21, 3) := by decide +kernel
theorem dX6_passes_4 : decode cX6_passes 4 = .ok (.ifCond .eq 5, 3) := by decide +kernel
theorem dX6_passes_7 : decode cX6_passes 7 = .ok (.iconst 0, 1) := by decide +kernel
theorem dX6_passes_8 : decode cX6_passes 8 = .ok (.ireturn, 1) := by decide +kernel
theorem dX6_passes_9 : decode cX6_passes 9 = .ok (.aload_n 0, 1) := by decide +kernel
theorem dX6_passes_10 : decode cX6_passes 10 = .ok (.aload_n 0, 1) := by decide +kernel
theorem dX6_passes_11 : decode cX6_passes 11 = .ok (.getfield 24, 3) := by decide +kernel
theorem dX6_passes_14 : decode cX6_passes 14 = .ok (.invokevirtual 80, 3) := by decide +kernel
theorem dX6_passes_17 : decode cX6_passes 17 = .ok (.iload_n 1, 1) := by decide +kernel
theorem dX6_passes_18 : decode cX6_passes 18 = .ok (.if_icmp .eq 9, 3) := by decide +kernel
theorem dX6_passes_21 : decode cX6_passes 21 = .ok (.aload_n 0, 1) := by decide +kernel
theorem dX6_passes_22 : decode cX6_passes 22 = .ok (.iconst 1, 1) := by decide +kernel
theorem dX6_passes_23 : decode cX6_passes 23 = .ok (.invokevirtual 89, 3) := by decide +kernel
theorem dX6_passes_26 : decode cX6_passes 26 = .ok (.ireturn, 1) := by decide +kernel
theorem dX6_passes_27 : decode cX6_passes 27 = .ok (.aload_n 0, 1) := by decide +kernel
theorem dX6_passes_28 : decode cX6_passes 28 = .ok (.dup, 1) := by decide +kernel
theorem dX6_passes_29 : decode cX6_passes 29 = .ok (.getfield 24, 3) := by decide +kernel
theorem dX6_passes_32 : decode cX6_passes 32 = .ok (.iconst 1, 1) := by decide +kernel
theorem dX6_passes_33 : decode cX6_passes 33 = .ok (.iadd, 1) := by decide +kernel
theorem dX6_passes_34 : decode cX6_passes 34 = .ok (.putfield 24, 3) := by decide +kernel
theorem dX6_passes_37 : decode cX6_passes 37 = .ok (.iconst 1, 1) := by decide +kernel
theorem dX6_passes_38 : decode cX6_passes 38 = .ok (.ireturn, 1) := by decide +kernel
theorem dX6_number_0 : decode cX6_number 0 = .ok (.iconst 0, 1) := by decide +kernel
theorem dX6_number_1 : decode cX6_number 1 = .ok (.istore_n 2, 1) := by decide +kernel
theorem dX6_number_2 : decode cX6_number 2 = .ok (.iconst 0, 1) := by decide +kernel
theorem dX6_number_3 : decode cX6_number 3 = .ok (.istore_n 3, 1) := by decide +kernel
theorem dX6_number_4 : decode cX6_number 4 = .ok (.iload_n 2, 1) := by decide +kernel
theorem dX6_number_5 : decode cX6_number 5 = .ok (.iconst 3, 1) := by decide +kernel
theorem dX6_number_6 : decode cX6_number 6 = .ok (.if_icmp .ge 44, 3) := by decide +kernel
theorem dX6_number_9 : decode cX6_number 9 = .ok (.aload_n 0, 1) := by decide +kernel
theorem dX6_number_10 : decode cX6_number 10 = .ok (.aload_n 0, 1) := by decide +kernel
theorem dX6_number_11 : decode cX6_number 11 = .ok (.getfield 24, 3) := by decide +kernel
theorem dX6_number_14 : decode cX6_number 14 = .ok (.iload_n 2, 1) := by decide +kernel
theorem dX6_number_15 : decode cX6_number 15 = .ok (.iadd, 1) := by decide +kernel
theorem dX6_number_16 : decode cX6_number 16 = .ok (.invokevirtual 80, 3) := by decide +kernel
theorem dX6_number_19 : decode cX6_number 19 = .ok (.invokestatic 113, 3) := by decide +kernel
theorem dX6_number_22 : decode cX6_number 22 = .ok (.ifCond .eq 28, 3) := by decide +kernel
theorem dX6_number_25 : decode cX6_number 25 = .ok (.bipush 10, 2) := by decide +kernel
theorem dX6_number_27 : decode cX6_number 27 = .ok (.iload_n 3, 1) := by decide +kernel
theorem dX6_number_28 : decode cX6_number 28 = .ok (.imul, 1) := by decide +kernel
theorem dX6_number_29 : decode cX6_number 29 = .ok (.aload_n 0, 1) := by decide +kernel
theorem dX6_number_30 : decode cX6_number 30 = .ok (.aload_n 0, 1) := by decide +kernel
theorem dX6_number_31 : decode cX6_number 31 = .ok (.getfield 24, 3) := by decide +kernel
theorem dX6_number_34 : decode cX6_number 34 = .ok (.iload_n 2, 1) := by decide +kernel
theorem dX6_number_35 : decode cX6_number 35 = .ok (.iadd, 1) := by decide +kernel
theorem dX6_number_36 : decode cX6_number 36 = .ok (.invokevirtual 80, 3) := by decide +kernel
theorem dX6_number_39 : decode cX6_number 39 = .ok (.iadd, 1) := by decide +kernel
theorem dX6_number_40 : decode cX6_number 40 = .ok (.bipush 48, 2) := by decide +kernel
theorem dX6_number_42 : decode cX6_number 42 = .ok (.isub, 1) := by decide +kernel
theorem dX6_number_43 : decode cX6_number 43 = .ok (.istore_n 3, 1) := by decide +kernel
theorem dX6_number_44 : decode cX6_number 44 = .ok (.iinc 2 1, 3) := by decide +kernel
theorem dX6_number_47 : decode cX6_number 47 = .ok (.goto (-43), 3) := by decide +kernel
theorem dX6_number_50 : decode cX6_number 50 = .ok (.iload_n 2, 1) := by decide +kernel
theorem dX6_number_51 : decode cX6_number 51 = .ok (.ifCond .eq 8, 3) := by decide +kernel
theorem dX6_number_54 : decode cX6_number 54 = .ok (.iload_n 2, 1) := by decide +kernel
theorem dX6_number_55 : decode cX6_number 55 = .ok (.iconst 2, 1) := by decide +kernel
theorem dX6_number_56 : decode cX6_number 56 = .ok (.if_icmp .le 11, 3) := by decide +kernel
theorem dX6_number_59 : decode cX6_number 59 = .ok (.aload_n 0, 1) := by decide +kernel
theorem dX6_number_60 : decode cX6_number 60 = .ok (.iconst 1, 1) := by decide +kernel
theorem dX6_number_61 : decode cX6_number 61 = .ok (.invokevirtual 89, 3) := by decide +kernel
theorem dX6_number_64 : decode cX6_number 64 = .ok (.pop, 1) := by decide +kernel
theorem dX6_number_65 : decode cX6_number 65 = .ok (.iconst 0, 1) := by decide +kernel
theorem dX6_number_66 : decode cX6_number 66 = .ok (.ireturn, 1) := by decide +kernel
theorem dX6_number_67 : decode cX6_number 67 = .ok (.iload_n 3, 1) := by decide +kernel
theorem dX6_number_68 : decode cX6_number 68 = .ok (.iload_n 1, 1) := by decide +kernel
theorem dX6_number_69 : decode cX6_number 69 = .ok (.if_icmp .le 11, 3) := by decide +kernel
theorem dX6_number_72 : decode cX6_number 72 = .ok (.aload_n 0, 1) := by decide +kernel
theorem dX6_number_73 : decode cX6_number 73 = .ok (.iconst 2, 1) := by decide +kernel
theorem dX6_number_74 : decode cX6_number 74 = .ok (.invokevirtual 89, 3) := by decide +kernel
theorem dX6_number_77 : decode cX6_number 77 = .ok (.pop, 1) := by decide +kernel
theorem dX6_number_78 : decode cX6_number 78 = .ok (.iconst 0, 1) := by decide +kernel
theorem dX6_number_79 : decode cX6_number 79 = .ok (.ireturn, 1) := by decide +kernel
theorem dX6_number_80 : decode cX6_number 80 = .ok (.aload_n 0, 1) := by decide +kernel
theorem dX6_number_81 : decode cX6_number 81 = .ok (.dup, 1) := by decide +kernel
theorem dX6_number_82 : decode cX6_number 82 = .ok (.getfield 24, 3) := by decide +kernel
theorem dX6_number_85 : decode cX6_number 85 = .ok (.iload_n 2, 1) := by decide +kernel
theorem dX6_number_86 : decode cX6_number 86 = .ok (.iadd, 1) := by decide +kernel
theorem dX6_number_87 : decode cX6_number 87 = .ok (.putfield 24, 3) := by decide +kernel
theorem dX6_number_90 : decode cX6_number 90 = .ok (.iload_n 3, 1) := by decide +kernel
theorem dX6_number_91 : decode cX6_number 91 = .ok (.ireturn, 1) := by decide +kernel
theorem dX6_isFigure_0 : decode cX6_isFigure 0 = .ok (.iload_n 0, 1) := by decide +kernel
theorem dX6_isFigure_1 : decode cX6_isFigure 1 = .ok (.bipush 48, 2) := by decide +kernel
theorem dX6_isFigure_3 : decode cX6_isFigure 3 = .ok (.if_icmp .lt 13, 3) := by decide +kernel
theorem dX6_isFigure_6 : decode cX6_isFigure 6 = .ok (.iload_n 0, 1) := by decide +kernel
theorem dX6_isFigure_7 : decode cX6_isFigure 7 = .ok (.bipush 57, 2) := by decide +kernel
theorem dX6_isFigure_9 : decode cX6_isFigure 9 = .ok (.if_icmp .gt 7, 3) := by decide +kernel
theorem dX6_isFigure_12 : decode cX6_isFigure 12 = .ok (.iconst 1, 1) := by decide +kernel
theorem dX6_isFigure_13 : decode cX6_isFigure 13 = .ok (.goto 4, 3) := by decide +kernel
theorem dX6_isFigure_16 : decode cX6_isFigure 16 = .ok (.iconst 0, 1) := by decide +kernel
theorem dX6_isFigure_17 : decode cX6_isFigure 17 = .ok (.ireturn, 1) := by decide +kernel
theorem dX7_init_0 : decode cX7_init 0 = .ok (.aload_n 0, 1) := by decide +kernel
theorem dX7_init_1 : decode cX7_init 1 = .ok (.invokespecial 3, 3) := by decide +kernel
theorem dX7_init_4 : decode cX7_init 4 = .ok (.aload_n 0, 1) := by decide +kernel
theorem dX7_init_5 : decode cX7_init 5 = .ok (.bipush 8, 2) := by decide +kernel
theorem dX7_init_7 : decode cX7_init 7 = .ok (.newarray .int, 2) := by decide +kernel
theorem dX7_init_9 : decode cX7_init 9 = .ok (.putfield 11, 3) := by decide +kernel
theorem dX7_init_12 : decode cX7_init 12 = .ok (.aload_n 0, 1) := by decide +kernel
theorem dX7_init_13 : decode cX7_init 13 = .ok (.bipush 8, 2) := by decide +kernel
theorem dX7_init_15 : decode cX7_init 15 = .ok (.newarray .int, 2) := by decide +kernel
theorem dX7_init_17 : decode cX7_init 17 = .ok (.putfield 15, 3) := by decide +kernel
theorem dX7_init_20 : decode cX7_init 20 = .ok (.aload_n 0, 1) := by decide +kernel
theorem dX7_init_21 : decode cX7_init 21 = .ok (.bipush 8, 2) := by decide +kernel
theorem dX7_init_23 : decode cX7_init 23 = .ok (.bipush 40, 2) := by decide +kernel
theorem dX7_init_25 : decode cX7_init 25 = .ok (.multianewarray 18 2, 4) := by decide +kernel
theorem dX7_init_29 : decode cX7_init 29 = .ok (.putfield 20, 3) := by decide +kernel
theorem dX7_init_32 : decode cX7_init 32 = .ok (.iconst 0, 1) := by decide +kernel
theorem dX7_init_33 : decode cX7_init 33 = .ok (.istore_n 1, 1) := by decide +kernel
theorem dX7_init_34 : decode cX7_init 34 = .ok (.iload_n 1, 1) := by decide +kernel
theorem dX7_init_35 : decode cX7_init 35 = .ok (.bipush 8, 2) := by decide +kernel
theorem dX7_init_37 : decode cX7_init 37 = .ok (.if_icmp .ge 16, 3) := by decide +kernel
theorem dX7_init_40 : decode cX7_init 40 = .ok (.aload_n 0, 1) := by decide +kernel
theorem dX7_init_41 : decode cX7_init 41 = .ok (.getfield 15, 3) := by decide +kernel
theorem dX7_init_44 : decode cX7_init 44 = .ok (.iload_n 1, 1) := by decide +kernel
theorem dX7_init_45 : decode cX7_init 45 = .ok (.iconst (-1), 1) := by decide +kernel
theorem dX7_init_46 : decode cX7_init 46 = .ok (.iastore, 1) := by decide +kernel
theorem dX7_init_47 : decode cX7_init 47 = .ok (.iinc 1 1, 3) := by decide +kernel
theorem dX7_init_50 : decode cX7_init 50 = .ok (.goto (-16), 3) := by decide +kernel
theorem dX7_init_53 : decode cX7_init 53 = .ok (.return_, 1) := by decide +kernel
theorem dX7_isMissing_0 : decode cX7_isMissing 0 = .ok (.aload_n 0, 1) := by decide +kernel
theorem dX7_isMissing_1 : decode cX7_isMissing 1 = .ok (.getfield 15, 3) := by decide +kernel
theorem dX7_isMissing_4 : decode cX7_isMissing 4 = .ok (.iload_n 1, 1) := by decide +kernel
theorem dX7_isMissing_5 : decode cX7_isMissing 5 = .ok (.iaload, 1) := by decide +kernel
theorem dX7_isMissing_6 : decode cX7_isMissing 6 = .ok (.iconst (-1), 1) := by decide +kernel
theorem dX7_isMissing_7 : decode cX7_isMissing 7 = .ok (.if_icmp .ne 7, 3) := by decide +kernel
theorem dX7_isMissing_10 : decode cX7_isMissing 10 = .ok (.iconst 1, 1) := by decide +kernel
theorem dX7_isMissing_11 : decode cX7_isMissing 11 = .ok (.goto 4, 3) := by decide +kernel
theorem dX7_isMissing_14 : decode cX7_isMissing 14 = .ok (.iconst 0, 1) := by decide +kernel
theorem dX7_isMissing_15 : decode cX7_isMissing 15 = .ok (.ireturn, 1) := by decide +kernel
theorem dX7_alike_0 : decode cX7_alike 0 = .ok (.aload_n 0, 1) := by decide +kernel
theorem dX7_alike_1 : decode cX7_alike 1 = .ok (.getfield 11, 3) := by decide +kernel
theorem dX7_alike_4 : decode cX7_alike 4 = .ok (.iload_n 1, 1) := by decide +kernel
theorem dX7_alike_5 : decode cX7_alike 5 = .ok (.iaload, 1) := by decide +kernel
theorem dX7_alike_6 : decode cX7_alike 6 = .ok (.aload_n 0, 1) := by decide +kernel
theorem dX7_alike_7 : decode cX7_alike 7 = .ok (.getfield 11, 3) := by decide +kernel
theorem dX7_alike_10 : decode cX7_alike 10 = .ok (.iload_n 2, 1) := by decide +kernel
theorem dX7_alike_11 : decode cX7_alike 11 = .ok (.iaload, 1) := by decide +kernel
theorem dX7_alike_12 : decode cX7_alike 12 = .ok (.if_icmp .ne 7, 3) := by decide +kernel
theorem dX7_alike_15 : decode cX7_alike 15 = .ok (.iconst 1, 1) := by decide +kernel
theorem dX7_alike_16 : decode cX7_alike 16 = .ok (.goto 4, 3) := by decide +kernel
theorem dX7_alike_19 : decode cX7_alike 19 = .ok (.iconst 0, 1) := by decide +kernel
theorem dX7_alike_20 : decode cX7_alike 20 = .ok (.ireturn, 1) := by decide +kernel
theorem dX7_hasPlaces_0 : decode cX7_hasPlaces 0 = .ok (.iload_n 2, 1) := by decide +kernel
theorem dX7_hasPlaces_1 : decode cX7_hasPlaces 1 = .ok (.ifCond .lt 23, 3) := by decide +kernel
theorem dX7_hasPlaces_4 : decode cX7_hasPlaces 4 = .ok (.iload_n 3, 1) := by decide +kernel
theorem dX7_hasPlaces_5 : decode cX7_hasPlaces 5 = .ok (.ifCond .lt 19, 3) := by decide +kernel
theorem dX7_hasPlaces_8 : decode cX7_hasPlaces 8 = .ok (.iload_n 2, 1) := by decide +kernel
theorem dX7_hasPlaces_9 : decode cX7_hasPlaces 9 = .ok (.aload_n 0, 1) := by decide +kernel
theorem dX7_hasPlaces_10 : decode cX7_hasPlaces 10 = .ok (.getfield 15, 3) := by decide +kernel
theorem dX7_hasPlaces_13 : decode cX7_hasPlaces 13 = .ok (.iload_n 1, 1) := by decide +kernel
theorem dX7_hasPlaces_14 : decode cX7_hasPlaces 14 = .ok (.iaload, 1) := by decide +kernel
theorem dX7_hasPlaces_15 : decode cX7_hasPlaces 15 = .ok (.iload_n 3, 1) := by decide +kernel
theorem dX7_hasPlaces_16 : decode cX7_hasPlaces 16 = .ok (.isub, 1) := by decide +kernel
theorem dX7_hasPlaces_17 : decode cX7_hasPlaces 17 = .ok (.if_icmp .gt 7, 3) := by decide +kernel
theorem dX7_hasPlaces_20 : decode cX7_hasPlaces 20 = .ok (.iconst 1, 1) := by decide +kernel
theorem dX7_hasPlaces_21 : decode cX7_hasPlaces 21 = .ok (.goto 4, 3) := by decide +kernel
theorem dX7_hasPlaces_24 : decode cX7_hasPlaces 24 = .ok (.iconst 0, 1) := by decide +kernel
theorem dX7_hasPlaces_25 : decode cX7_hasPlaces 25 = .ok (.ireturn, 1) := by decide +kernel
theorem dX7_make_0 : decode cX7_make 0 = .ok (.aload_n 0, 1) := by decide +kernel
theorem dX7_make_1 : decode cX7_make 1 = .ok (.getfield 11, 3) := by decide +kernel
theorem dX7_make_4 : decode cX7_make 4 = .ok (.iload_n 1, 1) := by decide +kernel
theorem dX7_make_5 : decode cX7_make 5 = .ok (.iload_n 2, 1) := by decide +kernel
theorem dX7_make_6 : decode cX7_make 6 = .ok (.iastore, 1) := by decide +kernel
theorem dX7_make_7 : decode cX7_make 7 = .ok (.aload_n 0, 1) := by decide +kernel
theorem dX7_make_8 : decode cX7_make 8 = .ok (.getfield 15, 3) := by decide +kernel
theorem dX7_make_11 : decode cX7_make 11 = .ok (.iload_n 1, 1) := by decide +kernel
theorem dX7_make_12 : decode cX7_make 12 = .ok (.iload_n 3, 1) := by decide +kernel
theorem dX7_make_13 : decode cX7_make 13 = .ok (.iastore, 1) := by decide +kernel
theorem dX7_make_14 : decode cX7_make 14 = .ok (.iconst 0, 1) := by decide +kernel
theorem dX7_make_15 : decode cX7_make 15 = .ok (.istore 4, 2) := by decide +kernel
theorem dX7_make_17 : decode cX7_make 17 = .ok (.iload 4, 2) := by decide +kernel
theorem dX7_make_19 : decode cX7_make 19 = .ok (.iload_n 3, 1) := by decide +kernel
theorem dX7_make_20 : decode cX7_make 20 = .ok (.if_icmp .ge 19, 3) := by decide +kernel
theorem dX7_make_23 : decode cX7_make 23 = .ok (.aload_n 0, 1) := by decide +kernel
theorem dX7_make_24 : decode cX7_make 24 = .ok (.getfield 20, 3) := by decide +kernel
theorem dX7_make_27 : decode cX7_make 27 = .ok (.iload_n 1, 1) := by decide +kernel
theorem dX7_make_28 : decode cX7_make 28 = .ok (.aaload, 1) := by decide +kernel
theorem dX7_make_29 : decode cX7_make 29 = .ok (.iload 4, 2) := by decide +kernel
theorem dX7_make_31 : decode cX7_make 31 = .ok (.iconst 0, 1) := by decide +kernel
theorem dX7_make_32 : decode cX7_make 32 = .ok (.iastore, 1) := by decide +kernel
theorem dX7_make_33 : decode cX7_make 33 = .ok (.iinc 4 1, 3) := by decide +kernel
theorem dX7_make_36 : decode cX7_make 36 = .ok (.goto (-19), 3) := by decide +kernel
theorem dX7_make_39 : decode cX7_make 39 = .ok (.return_, 1) := by decide +kernel
theorem dX7_put_0 : decode cX7_put 0 = .ok (.aload_n 0, 1) := by decide +kernel
theorem dX7_put_1 : decode cX7_put 1 = .ok (.getfield 11, 3) := by decide +kernel
theorem dX7_put_4 : decode cX7_put 4 = .ok (.iload_n 1, 1) := by decide +kernel
theorem dX7_put_5 : decode cX7_put 5 = .ok (.iaload, 1) := by decide +kernel
theorem dX7_put_6 : decode cX7_put 6 = .ok (.ifCond .ne 8, 3) := by decide +kernel
theorem dX7_put_9 : decode cX7_put 9 = .ok (.iload_n 3, 1) := by decide +kernel
theorem dX7_put_10 : decode cX7_put 10 = .ok (.i2b, 1) := by decide +kernel
theorem dX7_put_11 : decode cX7_put 11 = .ok (.goto 19, 3) := by decide +kernel
theorem dX7_put_14 : decode cX7_put 14 = .ok (.aload_n 0, 1) := by decide +kernel
theorem dX7_put_15 : decode cX7_put 15 = .ok (.getfield 11, 3) := by decide +kernel
theorem dX7_put_18 : decode cX7_put 18 = .ok (.iload_n 1, 1) := by decide +kernel
theorem dX7_put_19 : decode cX7_put 19 = .ok (.iaload, 1) := by decide +kernel
theorem dX7_put_20 : decode cX7_put 20 = .ok (.iconst 1, 1) := by decide +kernel
theorem dX7_put_21 : decode cX7_put 21 = .ok (.if_icmp .ne 8, 3) := by decide +kernel
theorem dX7_put_24 : decode cX7_put 24 = .ok (.iload_n 3, 1) := by decide +kernel
theorem dX7_put_25 : decode cX7_put 25 = .ok (.i2s, 1) := by decide +kernel
theorem dX7_put_26 : decode cX7_put 26 = .ok (.goto 4, 3) := by decide +kernel
theorem dX7_put_29 : decode cX7_put 29 = .ok (.iload_n 3, 1) := by decide +kernel
theorem dX7_put_30 : decode cX7_put 30 = .ok (.istore 4, 2) := by decide +kernel
theorem dX7_put_32 : decode cX7_put 32 = .ok (.aload_n 0, 1) := by decide +kernel
theorem dX7_put_33 : decode cX7_put 33 = .ok (.getfield 20, 3) := by decide +kernel
theorem dX7_put_36 : decode cX7_put 36 = .ok (.iload_n 1, 1) := by decide +kernel
theorem dX7_put_37 : decode cX7_put 37 = .ok (.aaload, 1) := by decide +kernel
theorem dX7_put_38 : decode cX7_put 38 = .ok (.iload_n 2, 1) := by decide +kernel
theorem dX7_put_39 : decode cX7_put 39 = .ok (.iload 4, 2) := by decide +kernel
theorem dX7_put_41 : decode cX7_put 41 = .ok (.iastore, 1) := by decide +kernel
theorem dX7_put_42 : decode cX7_put 42 = .ok (.iload 4, 2) := by decide +kernel
theorem dX7_put_44 : decode cX7_put 44 = .ok (.ireturn, 1) := by decide +kernel
theorem dX7_move_0 : decode cX7_move 0 = .ok (.aload_n 0, 1) := by decide +kernel
theorem dX7_move_1 : decode cX7_move 1 = .ok (.getfield 20, 3) := by decide +kernel
theorem dX7_move_4 : decode cX7_move 4 = .ok (.iload_n 1, 1) := by decide +kernel
theorem dX7_move_5 : decode cX7_move 5 = .ok (.aaload, 1) := by decide +kernel
theorem dX7_move_6 : decode cX7_move 6 = .ok (.iload_n 2, 1) := by decide +kernel
theorem dX7_move_7 : decode cX7_move 7 = .ok (.aload_n 0, 1) := by decide +kernel
theorem dX7_move_8 : decode cX7_move 8 = .ok (.getfield 20, 3) := by decide +kernel
theorem dX7_move_11 : decode cX7_move 11 = .ok (.iload_n 3, 1) := by decide +kernel
theorem dX7_move_12 : decode cX7_move 12 = .ok (.aaload, 1) := by decide +kernel
theorem dX7_move_13 : decode cX7_move 13 = .ok (.iload 4, 2) := by decide +kernel
theorem dX7_move_15 : decode cX7_move 15 = .ok (.iload 5, 2) := by decide +kernel
theorem dX7_move_17 : decode cX7_move 17 = .ok (.invokestatic 23, 3) := by decide +kernel
theorem dX7_move_20 : decode cX7_move 20 = .ok (.return_, 1) := by decide +kernel
theorem dX7_lose_0 : decode cX7_lose 0 = .ok (.aload_n 0, 1) := by decide +kernel
theorem dX7_lose_1 : decode cX7_lose 1 = .ok (.getfield 15, 3) := by decide +kernel
theorem dX7_lose_4 : decode cX7_lose 4 = .ok (.iload_n 1, 1) := by decide +kernel
theorem dX7_lose_5 : decode cX7_lose 5 = .ok (.iaload, 1) := by decide +kernel
theorem dX7_lose_6 : decode cX7_lose 6 = .ok (.istore_n 2, 1) := by decide +kernel
theorem dX7_lose_7 : decode cX7_lose 7 = .ok (.aload_n 0, 1) := by decide +kernel
theorem dX7_lose_8 : decode cX7_lose 8 = .ok (.getfield 15, 3) := by decide +kernel
theorem dX7_lose_11 : decode cX7_lose 11 = .ok (.iload_n 1, 1) := by decide +kernel
theorem dX7_lose_12 : decode cX7_lose 12 = .ok (.iconst (-1), 1) := by decide +kernel
theorem dX7_lose_13 : decode cX7_lose 13 = .ok (.iastore, 1) := by decide +kernel
theorem dX7_lose_14 : decode cX7_lose 14 = .ok (.iload_n 2, 1) := by decide +kernel
theorem dX7_lose_15 : decode cX7_lose 15 = .ok (.ireturn, 1) := by decide +kernel
theorem dX7_item_0 : decode cX7_item 0 = .ok (.aload_n 0, 1) := by decide +kernel
theorem dX7_item_1 : decode cX7_item 1 = .ok (.iload_n 1, 1) := by decide +kernel
theorem dX7_item_2 : decode cX7_item 2 = .ok (.iload_n 2, 1) := by decide +kernel
theorem dX7_item_3 : decode cX7_item 3 = .ok (.iconst 1, 1) := by decide +kernel
theorem dX7_item_4 : decode cX7_item 4 = .ok (.invokevirtual 29, 3) := by decide +kernel
theorem dX7_item_7 : decode cX7_item 7 = .ok (.ifCond .eq 14, 3) := by decide +kernel
theorem dX7_item_10 : decode cX7_item 10 = .ok (.aload_n 0, 1) := by decide +kernel
theorem dX7_item_11 : decode cX7_item 11 = .ok (.getfield 20, 3) := by decide +kernel
theorem dX7_item_14 : decode cX7_item 14 = .ok (.iload_n 1, 1) := by decide +kernel
theorem dX7_item_15 : decode cX7_item 15 = .ok (.aaload, 1) := by decide +kernel
theorem dX7_item_16 : decode cX7_item 16 = .ok (.iload_n 2, 1) := by decide +kernel
theorem dX7_item_17 : decode cX7_item 17 = .ok (.iaload, 1) := by decide +kernel
theorem dX7_item_18 : decode cX7_item 18 = .ok (.goto 5, 3) := by decide +kernel
theorem dX7_item_21 : decode cX7_item 21 = .ok (.ldc 33, 2) := by decide +kernel
theorem dX7_item_23 : decode cX7_item 23 = .ok (.ireturn, 1) := by decide +kernel
theorem dX7_rises_0 : decode cX7_rises 0 = .ok (.iconst (-1), 1) := by decide +kernel
theorem dX7_rises_1 : decode cX7_rises 1 = .ok (.istore 5, 2) := by decide +kernel
theorem dX7_rises_3 : decode cX7_rises 3 = .ok (.iload_n 2, 1) := by decide +kernel
theorem dX7_rises_4 : decode cX7_rises 4 = .ok (.istore 6, 2) := by decide +kernel
theorem dX7_rises_6 : decode cX7_rises 6 = .ok (.iload 6, 2) := by decide +kernel
theorem dX7_rises_8 : decode cX7_rises 8 = .ok (.iload_n 2, 1) := by decide +kernel
theorem dX7_rises_9 : decode cX7_rises 9 = .ok (.iload_n 3, 1) := by decide +kernel
theorem dX7_rises_10 : decode cX7_rises 10 = .ok (.iadd, 1) := by decide +kernel
theorem dX7_rises_11 : decode cX7_rises 11 = .ok (.if_icmp .ge 40, 3) := by decide +kernel
theorem dX7_rises_14 : decode cX7_rises 14 = .ok (.aload_n 0, 1) := by decide +kernel
theorem dX7_rises_15 : decode cX7_rises 15 = .ok (.getfield 20, 3) := by decide +kernel
theorem dX7_rises_18 : decode cX7_rises 18 = .ok (.iload_n 1, 1) := by decide +kernel
theorem dX7_rises_19 : decode cX7_rises 19 = .ok (.aaload, 1) := by decide +kernel
theorem dX7_rises_20 : decode cX7_rises 20 = .ok (.iload 6, 2) := by decide +kernel
theorem dX7_rises_22 : decode cX7_rises 22 = .ok (.iaload, 1) := by decide +kernel
theorem dX7_rises_23 : decode cX7_rises 23 = .ok (.istore 7, 2) := by decide +kernel
theorem dX7_rises_25 : decode cX7_rises 25 = .ok (.iload 7, 2) := by decide +kernel
theorem dX7_rises_27 : decode cX7_rises 27 = .ok (.iload 5, 2) := by decide +kernel
theorem dX7_rises_29 : decode cX7_rises 29 = .ok (.if_icmp .le 10, 3) := by decide +kernel
theorem dX7_rises_32 : decode cX7_rises 32 = .ok (.iload 7, 2) := by decide +kernel
theorem dX7_rises_34 : decode cX7_rises 34 = .ok (.iload 4, 2) := by decide +kernel
theorem dX7_rises_36 : decode cX7_rises 36 = .ok (.if_icmp .le 5, 3) := by decide +kernel
theorem dX7_rises_39 : decode cX7_rises 39 = .ok (.iconst 0, 1) := by decide +kernel
theorem dX7_rises_40 : decode cX7_rises 40 = .ok (.ireturn, 1) := by decide +kernel
theorem dX7_rises_41 : decode cX7_rises 41 = .ok (.iload 7, 2) := by decide +kernel
theorem dX7_rises_43 : decode cX7_rises 43 = .ok (.istore 5, 2) := by decide +kernel
theorem dX7_rises_45 : decode cX7_rises 45 = .ok (.iinc 6 1, 3) := by decide +kernel
theorem dX7_rises_48 : decode cX7_rises 48 = .ok (.goto (-42), 3) := by decide +kernel
theorem dX7_rises_51 : decode cX7_rises 51 = .ok (.iconst 1, 1) := by decide +kernel
theorem dX7_rises_52 : decode cX7_rises 52 = .ok (.ireturn, 1) := by decide +kernel
theorem dX7_howManyThere_0 : decode cX7_howManyThere 0 = .ok (.iconst 0, 1) := by decide +kernel
theorem dX7_howManyThere_1 : decode cX7_howManyThere 1 = .ok (.istore_n 1, 1) := by decide +kernel
theorem dX7_howManyThere_2 : decode cX7_howManyThere 2 = .ok (.iconst 0, 1) := by decide +kernel
theorem dX7_howManyThere_3 : decode cX7_howManyThere 3 = .ok (.istore_n 2, 1) := by decide +kernel
theorem dX7_howManyThere_4 : decode cX7_howManyThere 4 = .ok (.iload_n 2, 1) := by decide +kernel
theorem dX7_howManyThere_5 : decode cX7_howManyThere 5 = .ok (.bipush 8, 2) := by decide +kernel
theorem dX7_howManyThere_7 : decode cX7_howManyThere 7 = .ok (.if_icmp .ge 25, 3) := by decide +kernel
theorem dX7_howManyThere_10 : decode cX7_howManyThere 10 = .ok (.iload_n 1, 1) := by decide +kernel
theorem dX7_howManyThere_11 : decode cX7_howManyThere 11 = .ok (.aload_n 0, 1) := by decide +kernel
theorem dX7_howManyThere_12 : decode cX7_howManyThere 12 = .ok (.iload_n 2, 1) := by decide +kernel
theorem dX7_howManyThere_13 : decode cX7_howManyThere 13 = .ok (.invokevirtual 34, 3) := by decide +kernel
theorem dX7_howManyThere_16 : decode cX7_howManyThere 16 = .ok (.ifCond .eq 7, 3) := by decide +kernel
theorem dX7_howManyThere_19 : decode cX7_howManyThere 19 = .ok (.iconst 0, 1) := by decide +kernel
theorem dX7_howManyThere_20 : decode cX7_howManyThere 20 = .ok (.goto 4, 3) := by decide +kernel
theorem dX7_howManyThere_23 : decode cX7_howManyThere 23 = .ok (.iconst 1, 1) := by decide +kernel
theorem dX7_howManyThere_24 : decode cX7_howManyThere 24 = .ok (.iadd, 1) := by decide +kernel
theorem dX7_howManyThere_25 : decode cX7_howManyThere 25 = .ok (.istore_n 1, 1) := by decide +kernel
theorem dX7_howManyThere_26 : decode cX7_howManyThere 26 = .ok (.iinc 2 1, 3) := by decide +kernel
theorem dX7_howManyThere_29 : decode cX7_howManyThere 29 = .ok (.goto (-25), 3) := by decide +kernel
theorem dX7_howManyThere_32 : decode cX7_howManyThere 32 = .ok (.iload_n 1, 1) := by decide +kernel
theorem dX7_howManyThere_33 : decode cX7_howManyThere 33 = .ok (.ireturn, 1) := by decide +kernel
theorem dX8_init_0 : decode cX8_init 0 = .ok (.aload_n 0, 1) := by decide +kernel
theorem dX8_init_1 : decode cX8_init 1 = .ok (.invokespecial 3, 3) := by decide +kernel
theorem dX8_init_4 : decode cX8_init 4 = .ok (.aload_n 0, 1) := by decide +kernel
theorem dX8_init_5 : decode cX8_init 5 = .ok (.bipush 9, 2) := by decide +kernel
theorem dX8_init_7 : decode cX8_init 7 = .ok (.putfield 9, 3) := by decide +kernel
theorem dX8_init_10 : decode cX8_init 10 = .ok (.aload_n 0, 1) := by decide +kernel
theorem dX8_init_11 : decode cX8_init 11 = .ok (.iconst 3, 1) := by decide +kernel
theorem dX8_init_12 : decode cX8_init 12 = .ok (.newarray .int, 2) := by decide +kernel
theorem dX8_init_14 : decode cX8_init 14 = .ok (.putfield 17, 3) := by decide +kernel
theorem dX8_init_17 : decode cX8_init 17 = .ok (.aload_n 0, 1) := by decide +kernel
theorem dX8_init_18 : decode cX8_init 18 = .ok (.bipush 6, 2) := by decide +kernel
theorem dX8_init_20 : decode cX8_init 20 = .ok (.newarray .int, 2) := by decide +kernel
theorem dX8_init_22 : decode cX8_init 22 = .ok (.putfield 21, 3) := by decide +kernel
theorem dX8_init_25 : decode cX8_init 25 = .ok (.aload_n 0, 1) := by decide +kernel
theorem dX8_init_26 : decode cX8_init 26 = .ok (.bipush 6, 2) := by decide +kernel
theorem dX8_init_28 : decode cX8_init 28 = .ok (.newarray .int, 2) := by decide +kernel
theorem dX8_init_30 : decode cX8_init 30 = .ok (.putfield 24, 3) := by decide +kernel
theorem dX8_init_33 : decode cX8_init 33 = .ok (.aload_n 0, 1) := by decide +kernel
theorem dX8_init_34 : decode cX8_init 34 = .ok (.bipush 6, 2) := by decide +kernel
theorem dX8_init_36 : decode cX8_init 36 = .ok (.newarray .int, 2) := by decide +kernel
theorem dX8_init_38 : decode cX8_init 38 = .ok (.putfield 27, 3) := by decide +kernel
theorem dX8_init_41 : decode cX8_init 41 = .ok (.aload_n 0, 1) := by decide +kernel
theorem dX8_init_42 : decode cX8_init 42 = .ok (.bipush 6, 2) := by decide +kernel
theorem dX8_init_44 : decode cX8_init 44 = .ok (.newarray .int, 2) := by decide +kernel
theorem dX8_init_46 : decode cX8_init 46 = .ok (.putfield 30, 3) := by decide +kernel
theorem dX8_init_49 : decode cX8_init 49 = .ok (.return_, 1) := by decide +kernel
theorem dX8_begin_0 : decode cX8_begin 0 = .ok (.aload_n 0, 1) := by decide +kernel
theorem dX8_begin_1 : decode cX8_begin 1 = .ok (.iconst 0, 1) := by decide +kernel
theorem dX8_begin_2 : decode cX8_begin 2 = .ok (.putfield 33, 3) := by decide +kernel
theorem dX8_begin_5 : decode cX8_begin 5 = .ok (.aload_n 0, 1) := by decide +kernel
theorem dX8_begin_6 : decode cX8_begin 6 = .ok (.bipush 9, 2) := by decide +kernel
theorem dX8_begin_8 : decode cX8_begin 8 = .ok (.putfield 9, 3) := by decide +kernel
theorem dX8_begin_11 : decode cX8_begin 11 = .ok (.iconst 0, 1) := by decide +kernel
theorem dX8_begin_12 : decode cX8_begin 12 = .ok (.istore_n 1, 1) := by decide +kernel
theorem dX8_begin_13 : decode cX8_begin 13 = .ok (.iload_n 1, 1) := by decide +kernel
theorem dX8_begin_14 : decode cX8_begin 14 = .ok (.bipush 6, 2) := by decide +kernel
theorem dX8_begin_16 : decode cX8_begin 16 = .ok (.if_icmp .ge 31, 3) := by decide +kernel
theorem dX8_begin_19 : decode cX8_begin 19 = .ok (.aload_n 0, 1) := by decide +kernel
theorem dX8_begin_20 : decode cX8_begin 20 = .ok (.getfield 21, 3) := by decide +kernel
theorem dX8_begin_23 : decode cX8_begin 23 = .ok (.iload_n 1, 1) := by decide +kernel
theorem dX8_begin_24 : decode cX8_begin 24 = .ok (.iload_n 1, 1) := by decide +kernel
theorem dX8_begin_25 : decode cX8_begin 25 = .ok (.iastore, 1) := by decide +kernel
theorem dX8_begin_26 : decode cX8_begin 26 = .ok (.aload_n 0, 1) := by decide +kernel
theorem dX8_begin_27 : decode cX8_begin 27 = .ok (.getfield 27, 3) := by decide +kernel
theorem dX8_begin_30 : decode cX8_begin 30 = .ok (.iload_n 1, 1) := by decide +kernel
theorem dX8_begin_31 : decode cX8_begin 31 = .ok (.iconst 0, 1) := by decide +kernel
theorem dX8_begin_32 : decode cX8_begin 32 = .ok (.iastore, 1) := by decide +kernel
theorem dX8_begin_33 : decode cX8_begin 33 = .ok (.aload_n 0, 1) := by decide +kernel
theorem dX8_begin_34 : decode cX8_begin 34 = .ok (.getfield 30, 3) := by decide +kernel
theorem dX8_begin_37 : decode cX8_begin 37 = .ok (.iload_n 1, 1) := by decide +kernel
theorem dX8_begin_38 : decode cX8_begin 38 = .ok (.ldc 36, 2) := by decide +kernel
theorem dX8_begin_40 : decode cX8_begin 40 = .ok (.iastore, 1) := by decide +kernel
theorem dX8_begin_41 : decode cX8_begin 41 = .ok (.iinc 1 1, 3) := by decide +kernel
theorem dX8_begin_44 : decode cX8_begin 44 = .ok (.goto (-31), 3) := by decide +kernel
theorem dX8_begin_47 : decode cX8_begin 47 = .ok (.return_, 1) := by decide +kernel
theorem dX8_become_0 : decode cX8_become 0 = .ok (.aload_n 0, 1) := by decide +kernel
theorem dX8_become_1 : decode cX8_become 1 = .ok (.aload_n 1, 1) := by decide +kernel
theorem dX8_become_2 : decode cX8_become 2 = .ok (.getfield 33, 3) := by decide +kernel
theorem dX8_become_5 : decode cX8_become 5 = .ok (.putfield 33, 3) := by decide +kernel
theorem dX8_become_8 : decode cX8_become 8 = .ok (.aload_n 0, 1) := by decide +kernel
theorem dX8_become_9 : decode cX8_become 9 = .ok (.aload_n 1, 1) := by decide +kernel
theorem dX8_become_10 : decode cX8_become 10 = .ok (.getfield 9, 3) := by decide +kernel
theorem dX8_become_13 : decode cX8_become 13 = .ok (.putfield 9, 3) := by decide +kernel
theorem dX8_become_16 : decode cX8_become 16 = .ok (.aload_n 1, 1) := by decide +kernel
theorem dX8_become_17 : decode cX8_become 17 = .ok (.getfield 17, 3) := by decide +kernel
theorem dX8_become_20 : decode cX8_become 20 = .ok (.iconst 0, 1) := by decide +kernel
theorem dX8_become_21 : decode cX8_become 21 = .ok (.aload_n 0, 1) := by decide +kernel
theorem dX8_become_22 : decode cX8_become 22 = .ok (.getfield 17, 3) := by decide +kernel
theorem dX8_become_25 : decode cX8_become 25 = .ok (.iconst 0, 1) := by decide +kernel
theorem dX8_become_26 : decode cX8_become 26 = .ok (.iconst 3, 1) := by decide +kernel
theorem dX8_become_27 : decode cX8_become 27 = .ok (.invokestatic 37, 3) := by decide +kernel
theorem dX8_become_30 : decode cX8_become 30 = .ok (.aload_n 1, 1) := by decide +kernel
theorem dX8_become_31 : decode cX8_become 31 = .ok (.getfield 21, 3) := by decide +kernel
theorem dX8_become_34 : decode cX8_become 34 = .ok (.iconst 0, 1) := by decide +kernel
theorem dX8_become_35 : decode cX8_become 35 = .ok (.aload_n 0, 1) := by decide +kernel
theorem dX8_become_36 : decode cX8_become 36 = .ok (.getfield 21, 3) := by decide +kernel
theorem dX8_become_39 : decode cX8_become 39 = .ok (.iconst 0, 1) := by decide +kernel
theorem dX8_become_40 : decode cX8_become 40 = .ok (.bipush 6, 2) := by decide +kernel
theorem dX8_become_42 : decode cX8_become 42 = .ok (.invokestatic 37, 3) := by decide +kernel
theorem dX8_become_45 : decode cX8_become 45 = .ok (.aload_n 1, 1) := by decide +kernel
theorem dX8_become_46 : decode cX8_become 46 = .ok (.getfield 24, 3) := by decide +kernel
theorem dX8_become_49 : decode cX8_become 49 = .ok (.iconst 0, 1) := by decide +kernel
theorem dX8_become_50 : decode cX8_become 50 = .ok (.aload_n 0, 1) := by decide +kernel
theorem dX8_become_51 : decode cX8_become 51 = .ok (.getfield 24, 3) := by decide +kernel
theorem dX8_become_54 : decode cX8_become 54 = .ok (.iconst 0, 1) := by decide +kernel
theorem dX8_become_55 : decode cX8_become 55 = .ok (.bipush 6, 2) := by decide +kernel
theorem dX8_become_57 : decode cX8_become 57 = .ok (.invokestatic 37, 3) := by decide +kernel
theorem dX8_become_60 : decode cX8_become 60 = .ok (.aload_n 1, 1) := by decide +kernel
theorem dX8_become_61 : decode cX8_become 61 = .ok (.getfield 27, 3) := by decide +kernel
theorem dX8_become_64 : decode cX8_become 64 = .ok (.iconst 0, 1) := by decide +kernel
theorem dX8_become_65 : decode cX8_become 65 = .ok (.aload_n 0, 1) := by decide +kernel
theorem dX8_become_66 : decode cX8_become 66 = .ok (.getfield 27, 3) := by decide +kernel
theorem dX8_become_69 : decode cX8_become 69 = .ok (.iconst 0, 1) := by decide +kernel
theorem dX8_become_70 : decode cX8_become 70 = .ok (.bipush 6, 2) := by decide +kernel
theorem dX8_become_72 : decode cX8_become 72 = .ok (.invokestatic 37, 3) := by decide +kernel
theorem dX8_become_75 : decode cX8_become 75 = .ok (.aload_n 1, 1) := by decide +kernel
theorem dX8_become_76 : decode cX8_become 76 = .ok (.getfield 30, 3) := by decide +kernel
theorem dX8_become_79 : decode cX8_become 79 = .ok (.iconst 0, 1) := by decide +kernel
theorem dX8_become_80 : decode cX8_become 80 = .ok (.aload_n 0, 1) := by decide +kernel
theorem dX8_become_81 : decode cX8_become 81 = .ok (.getfield 30, 3) := by decide +kernel
theorem dX8_become_84 : decode cX8_become 84 = .ok (.iconst 0, 1) := by decide +kernel
theorem dX8_become_85 : decode cX8_become 85 = .ok (.bipush 6, 2) := by decide +kernel
theorem dX8_become_87 : decode cX8_become 87 = .ok (.invokestatic 37, 3) := by decide +kernel
theorem dX8_become_90 : decode cX8_become 90 = .ok (.return_, 1) := by decide +kernel
theorem dX8_pass_0 : decode cX8_pass 0 = .ok (.iconst 0, 1) := by decide +kernel
theorem dX8_pass_1 : decode cX8_pass 1 = .ok (.istore_n 3, 1) := by decide +kernel
theorem dX8_pass_2 : decode cX8_pass 2 = .ok (.iload_n 3, 1) := by decide +kernel
theorem dX8_pass_3 : decode cX8_pass 3 = .ok (.iload_n 2, 1) := by decide +kernel
theorem dX8_pass_4 : decode cX8_pass 4 = .ok (.if_icmp .ge 15, 3) := by decide +kernel
theorem dX8_pass_7 : decode cX8_pass 7 = .ok (.aload_n 0, 1) := by decide +kernel
theorem dX8_pass_8 : decode cX8_pass 8 = .ok (.aload_n 1, 1) := by decide +kernel
theorem dX8_pass_9 : decode cX8_pass 9 = .ok (.invokevirtual 43, 3) := by decide +kernel
theorem dX8_pass_12 : decode cX8_pass 12 = .ok (.pop, 1) := by decide +kernel
theorem dX8_pass_13 : decode cX8_pass 13 = .ok (.iinc 3 1, 3) := by decide +kernel
theorem dX8_pass_16 : decode cX8_pass 16 = .ok (.goto (-14), 3) := by decide +kernel
theorem dX8_pass_19 : decode cX8_pass 19 = .ok (.return_, 1) := by decide +kernel
theorem dX8_comeInBy_0 : decode cX8_comeInBy 0 = .ok (.aload_n 0, 1) := by decide +kernel
theorem dX8_comeInBy_1 : decode cX8_comeInBy 1 = .ok (.aload_n 1, 1) := by decide +kernel
theorem dX8_comeInBy_2 : decode cX8_comeInBy 2 = .ok (.aload_n 1, 1) := by decide +kernel
theorem dX8_comeInBy_3 : decode cX8_comeInBy 3 = .ok (.aload_n 0, 1) := by decide +kernel
theorem dX8_comeInBy_4 : decode cX8_comeInBy 4 = .ok (.getfield 33, 3) := by decide +kernel
theorem dX8_comeInBy_7 : decode cX8_comeInBy 7 = .ok (.invokevirtual 47, 3) := by decide +kernel
theorem dX8_comeInBy_10 : decode cX8_comeInBy 10 = .ok (.aload_n 1, 1) := by decide +kernel
theorem dX8_comeInBy_11 : decode cX8_comeInBy 11 = .ok (.aload_n 0, 1) := by decide +kernel
theorem dX8_comeInBy_12 : decode cX8_comeInBy 12 = .ok (.getfield 33, 3) := by decide +kernel
theorem dX8_comeInBy_15 : decode cX8_comeInBy 15 = .ok (.invokevirtual 51, 3) := by decide +kernel
theorem dX8_comeInBy_18 : decode cX8_comeInBy 18 = .ok (.invokevirtual 54, 3) := by decide +kernel
theorem dX8_comeInBy_21 : decode cX8_comeInBy 21 = .ok (.ireturn, 1) := by decide +kernel
theorem dX8_comeIn_0 : decode cX8_comeIn 0 = .ok (.iconst 0, 1) := by decide +kernel
theorem dX8_comeIn_1 : decode cX8_comeIn 1 = .ok (.istore 4, 2) := by decide +kernel
theorem dX8_comeIn_3 : decode cX8_comeIn 3 = .ok (.iconst 0, 1) := by decide +kernel
theorem dX8_comeIn_4 : decode cX8_comeIn 4 = .ok (.istore 5, 2) := by decide +kernel
theorem dX8_comeIn_6 : decode cX8_comeIn 6 = .ok (.iload 5, 2) := by decide +kernel
theorem dX8_comeIn_8 : decode cX8_comeIn 8 = .ok (.aload_n 1, 1) := by decide +kernel
theorem dX8_comeIn_9 : decode cX8_comeIn 9 = .ok (.getfield 58, 3) := by decide +kernel
theorem dX8_comeIn_12 : decode cX8_comeIn 12 = .ok (.if_icmp .ge 60, 3) := by decide +kernel
theorem dX8_comeIn_15 : decode cX8_comeIn 15 = .ok (.aload_n 1, 1) := by decide +kernel
theorem dX8_comeIn_16 : decode cX8_comeIn 16 = .ok (.iload 5, 2) := by decide +kernel
theorem dX8_comeIn_18 : decode cX8_comeIn 18 = .ok (.iload_n 2, 1) := by decide +kernel
theorem dX8_comeIn_19 : decode cX8_comeIn 19 = .ok (.invokevirtual 61, 3) := by decide +kernel
theorem dX8_comeIn_22 : decode cX8_comeIn 22 = .ok (.istore 6, 2) := by decide +kernel
theorem dX8_comeIn_24 : decode cX8_comeIn 24 = .ok (.aload_n 0, 1) := by decide +kernel
theorem dX8_comeIn_25 : decode cX8_comeIn 25 = .ok (.getfield 17, 3) := by decide +kernel
theorem dX8_comeIn_28 : decode cX8_comeIn 28 = .ok (.iload 5, 2) := by decide +kernel
theorem dX8_comeIn_30 : decode cX8_comeIn 30 = .ok (.iaload, 1) := by decide +kernel
theorem dX8_comeIn_31 : decode cX8_comeIn 31 = .ok (.iload 6, 2) := by decide +kernel
theorem dX8_comeIn_33 : decode cX8_comeIn 33 = .ok (.aload_n 0, 1) := by decide +kernel
theorem dX8_comeIn_34 : decode cX8_comeIn 34 = .ok (.getfield 9, 3) := by decide +kernel
theorem dX8_comeIn_37 : decode cX8_comeIn 37 = .ok (.invokestatic 65, 3) := by decide +kernel
theorem dX8_comeIn_40 : decode cX8_comeIn 40 = .ok (.ifCond .eq 14, 3) := by decide +kernel
theorem dX8_comeIn_43 : decode cX8_comeIn 43 = .ok (.iinc 4 1, 3) := by decide +kernel
theorem dX8_comeIn_46 : decode cX8_comeIn 46 = .ok (.aload_n 0, 1) := by decide +kernel
theorem dX8_comeIn_47 : decode cX8_comeIn 47 = .ok (.aload_n 1, 1) := by decide +kernel
theorem dX8_comeIn_48 : decode cX8_comeIn 48 = .ok (.iload 5, 2) := by decide +kernel
theorem dX8_comeIn_50 : decode cX8_comeIn 50 = .ok (.iload_n 3, 1) := by decide +kernel
theorem dX8_comeIn_51 : decode cX8_comeIn 51 = .ok (.invokevirtual 69, 3) := by decide +kernel
theorem dX8_comeIn_54 : decode cX8_comeIn 54 = .ok (.aload_n 0, 1) := by decide +kernel
theorem dX8_comeIn_55 : decode cX8_comeIn 55 = .ok (.getfield 17, 3) := by decide +kernel
theorem dX8_comeIn_58 : decode cX8_comeIn 58 = .ok (.iload 5, 2) := by decide +kernel
theorem dX8_comeIn_60 : decode cX8_comeIn 60 = .ok (.dup2, 1) := by decide +kernel
theorem dX8_comeIn_61 : decode cX8_comeIn 61 = .ok (.iaload, 1) := by decide +kernel
theorem dX8_comeIn_62 : decode cX8_comeIn 62 = .ok (.iload 6, 2) := by decide +kernel
theorem dX8_comeIn_64 : decode cX8_comeIn 64 = .ok (.iadd, 1) := by decide +kernel
theorem dX8_comeIn_65 : decode cX8_comeIn 65 = .ok (.iastore, 1) := by decide +kernel
theorem dX8_comeIn_66 : decode cX8_comeIn 66 = .ok (.iinc 5 1, 3) := by decide +kernel
theorem dX8_comeIn_69 : decode cX8_comeIn 69 = .ok (.goto (-63), 3) := by decide +kernel
theorem dX8_comeIn_72 : decode cX8_comeIn 72 = .ok (.aload_n 0, 1) := by decide +kernel
theorem dX8_comeIn_73 : decode cX8_comeIn 73 = .ok (.dup, 1) := by decide +kernel
theorem dX8_comeIn_74 : decode cX8_comeIn 74 = .ok (.getfield 33, 3) := by decide +kernel
theorem dX8_comeIn_77 : decode cX8_comeIn 77 = .ok (.iconst 1, 1) := by decide +kernel
theorem dX8_comeIn_78 : decode cX8_comeIn 78 = .ok (.iadd, 1) := by decide +kernel
theorem dX8_comeIn_79 : decode cX8_comeIn 79 = .ok (.putfield 33, 3) := by decide +kernel
theorem dX8_comeIn_82 : decode cX8_comeIn 82 = .ok (.iload 4, 2) := by decide +kernel
theorem dX8_comeIn_84 : decode cX8_comeIn 84 = .ok (.ireturn, 1) := by decide +kernel
theorem dX8_cross_0 : decode cX8_cross 0 = .ok (.iconst 0, 1) := by decide +kernel
theorem dX8_cross_1 : decode cX8_cross 1 = .ok (.istore 4, 2) := by decide +kernel
theorem dX8_cross_3 : decode cX8_cross 3 = .ok (.iload 4, 2) := by decide +kernel
theorem dX8_cross_5 : decode cX8_cross 5 = .ok (.aload_n 1, 1) := by decide +kernel
theorem dX8_cross_6 : decode cX8_cross 6 = .ok (.getfield 73, 3) := by decide +kernel
theorem dX8_cross_9 : decode cX8_cross 9 = .ok (.if_icmp .ge 74, 3) := by decide +kernel
theorem dX8_cross_12 : decode cX8_cross 12 = .ok (.aload_n 0, 1) := by decide +kernel
theorem dX8_cross_13 : decode cX8_cross 13 = .ok (.getfield 21, 3) := by decide +kernel
theorem dX8_cross_16 : decode cX8_cross 16 = .ok (.iload 4, 2) := by decide +kernel
theorem dX8_cross_18 : decode cX8_cross 18 = .ok (.iaload, 1) := by decide +kernel
theorem dX8_cross_19 : decode cX8_cross 19 = .ok (.istore 5, 2) := by decide +kernel
theorem dX8_cross_21 : decode cX8_cross 21 = .ok (.aload_n 0, 1) := by decide +kernel
theorem dX8_cross_22 : decode cX8_cross 22 = .ok (.getfield 27, 3) := by decide +kernel
theorem dX8_cross_25 : decode cX8_cross 25 = .ok (.iload 5, 2) := by decide +kernel
theorem dX8_cross_27 : decode cX8_cross 27 = .ok (.iaload, 1) := by decide +kernel
theorem dX8_cross_28 : decode cX8_cross 28 = .ok (.ifCond .ne 49, 3) := by decide +kernel
theorem dX8_cross_31 : decode cX8_cross 31 = .ok (.aload_n 0, 1) := by decide +kernel
theorem dX8_cross_32 : decode cX8_cross 32 = .ok (.getfield 24, 3) := by decide +kernel
theorem dX8_cross_35 : decode cX8_cross 35 = .ok (.iload 5, 2) := by decide +kernel
theorem dX8_cross_37 : decode cX8_cross 37 = .ok (.iaload, 1) := by decide +kernel
theorem dX8_cross_38 : decode cX8_cross 38 = .ok (.iload_n 2, 1) := by decide +kernel
theorem dX8_cross_39 : decode cX8_cross 39 = .ok (.if_icmp .ne 38, 3) := by decide +kernel
theorem dX8_cross_42 : decode cX8_cross 42 = .ok (.aload_n 0, 1) := by decide +kernel
theorem dX8_cross_43 : decode cX8_cross 43 = .ok (.getfield 27, 3) := by decide +kernel
theorem dX8_cross_46 : decode cX8_cross 46 = .ok (.iload 5, 2) := by decide +kernel
theorem dX8_cross_48 : decode cX8_cross 48 = .ok (.iload_n 3, 1) := by decide +kernel
theorem dX8_cross_49 : decode cX8_cross 49 = .ok (.aload_n 1, 1) := by decide +kernel
theorem dX8_cross_50 : decode cX8_cross 50 = .ok (.getfield 76, 3) := by decide +kernel
theorem dX8_cross_53 : decode cX8_cross 53 = .ok (.iload 5, 2) := by decide +kernel
theorem dX8_cross_55 : decode cX8_cross 55 = .ok (.iaload, 1) := by decide +kernel
theorem dX8_cross_56 : decode cX8_cross 56 = .ok (.if_icmp .lt 7, 3) := by decide +kernel
theorem dX8_cross_59 : decode cX8_cross 59 = .ok (.iconst 1, 1) := by decide +kernel
theorem dX8_cross_60 : decode cX8_cross 60 = .ok (.goto 4, 3) := by decide +kernel
theorem dX8_cross_63 : decode cX8_cross 63 = .ok (.iconst 2, 1) := by decide +kernel
theorem dX8_cross_64 : decode cX8_cross 64 = .ok (.iastore, 1) := by decide +kernel
theorem dX8_cross_65 : decode cX8_cross 65 = .ok (.aload_n 0, 1) := by decide +kernel
theorem dX8_cross_66 : decode cX8_cross 66 = .ok (.getfield 30, 3) := by decide +kernel
theorem dX8_cross_69 : decode cX8_cross 69 = .ok (.iload 5, 2) := by decide +kernel
theorem dX8_cross_71 : decode cX8_cross 71 = .ok (.aload_n 0, 1) := by decide +kernel
theorem dX8_cross_72 : decode cX8_cross 72 = .ok (.getfield 33, 3) := by decide +kernel
theorem dX8_cross_75 : decode cX8_cross 75 = .ok (.iastore, 1) := by decide +kernel
theorem dX8_cross_76 : decode cX8_cross 76 = .ok (.return_, 1) := by decide +kernel
theorem dX8_cross_77 : decode cX8_cross 77 = .ok (.iinc 4 1, 3) := by decide +kernel
theorem dX8_cross_80 : decode cX8_cross 80 = .ok (.goto (-77), 3) := by decide +kernel
theorem dX8_cross_83 : decode cX8_cross 83 = .ok (.return_, 1) := by decide +kernel
theorem dX8_slipBy_0 : decode cX8_slipBy 0 = .ok (.aload_n 0, 1) := by decide +kernel
theorem dX8_slipBy_1 : decode cX8_slipBy 1 = .ok (.getfield 17, 3) := by decide +kernel
theorem dX8_slipBy_4 : decode cX8_slipBy 4 = .ok (.iload_n 1, 1) := by decide +kernel
theorem dX8_slipBy_5 : decode cX8_slipBy 5 = .ok (.iconst 0, 1) := by decide +kernel
theorem dX8_slipBy_6 : decode cX8_slipBy 6 = .ok (.aload_n 0, 1) := by decide +kernel
theorem dX8_slipBy_7 : decode cX8_slipBy 7 = .ok (.getfield 17, 3) := by decide +kernel
theorem dX8_slipBy_10 : decode cX8_slipBy 10 = .ok (.iload_n 1, 1) := by decide +kernel
theorem dX8_slipBy_11 : decode cX8_slipBy 11 = .ok (.iaload, 1) := by decide +kernel
theorem dX8_slipBy_12 : decode cX8_slipBy 12 = .ok (.iload_n 2, 1) := by decide +kernel
theorem dX8_slipBy_13 : decode cX8_slipBy 13 = .ok (.iadd, 1) := by decide +kernel
theorem dX8_slipBy_14 : decode cX8_slipBy 14 = .ok (.invokestatic 79, 3) := by decide +kernel
theorem dX8_slipBy_17 : decode cX8_slipBy 17 = .ok (.iastore, 1) := by decide +kernel
theorem dX8_slipBy_18 : decode cX8_slipBy 18 = .ok (.aload_n 0, 1) := by decide +kernel
theorem dX8_slipBy_19 : decode cX8_slipBy 19 = .ok (.getfield 17, 3) := by decide +kernel
theorem dX8_slipBy_22 : decode cX8_slipBy 22 = .ok (.iload_n 1, 1) := by decide +kernel
theorem dX8_slipBy_23 : decode cX8_slipBy 23 = .ok (.iaload, 1) := by decide +kernel
theorem dX8_slipBy_24 : decode cX8_slipBy 24 = .ok (.ireturn, 1) := by decide +kernel
theorem dX8_waits_0 : decode cX8_waits 0 = .ok (.aload_n 0, 1) := by decide +kernel
theorem dX8_waits_1 : decode cX8_waits 1 = .ok (.getfield 27, 3) := by decide +kernel
theorem dX8_waits_4 : decode cX8_waits 4 = .ok (.iload_n 1, 1) := by decide +kernel
theorem dX8_waits_5 : decode cX8_waits 5 = .ok (.iaload, 1) := by decide +kernel
theorem dX8_waits_6 : decode cX8_waits 6 = .ok (.ifCond .ne 7, 3) := by decide +kernel
theorem dX8_waits_9 : decode cX8_waits 9 = .ok (.iconst 1, 1) := by decide +kernel
theorem dX8_waits_10 : decode cX8_waits 10 = .ok (.goto 4, 3) := by decide +kernel
theorem dX8_waits_13 : decode cX8_waits 13 = .ok (.iconst 0, 1) := by decide +kernel
theorem dX8_waits_14 : decode cX8_waits 14 = .ok (.ireturn, 1) := by decide +kernel
theorem dX8_isOverAheadOf_0 : decode cX8_isOverAheadOf 0 = .ok (.aload_n 0, 1) := by decide +kernel
theorem dX8_isOverAheadOf_1 : decode cX8_isOverAheadOf 1 = .ok (.getfield 27, 3) := by decide +kernel
theorem dX8_isOverAheadOf_4 : decode cX8_isOverAheadOf 4 = .ok (.iload_n 1, 1) := by decide +kernel
theorem dX8_isOverAheadOf_5 : decode cX8_isOverAheadOf 5 = .ok (.iaload, 1) := by decide +kernel
theorem dX8_isOverAheadOf_6 : decode cX8_isOverAheadOf 6 = .ok (.iconst 1, 1) := by decide +kernel
theorem dX8_isOverAheadOf_7 : decode cX8_isOverAheadOf 7 = .ok (.if_icmp .ne 23, 3) := by decide +kernel
theorem dX8_isOverAheadOf_10 : decode cX8_isOverAheadOf 10 = .ok (.iload_n 2, 1) := by decide +kernel
theorem dX8_isOverAheadOf_11 : decode cX8_isOverAheadOf 11 = .ok (.ldc 36, 2) := by decide +kernel
theorem dX8_isOverAheadOf_13 : decode cX8_isOverAheadOf 13 = .ok (.if_icmp .eq 13, 3) := by decide +kernel
theorem dX8_isOverAheadOf_16 : decode cX8_isOverAheadOf 16 = .ok (.aload_n 0, 1) := by decide +kernel
theorem dX8_isOverAheadOf_17 : decode cX8_isOverAheadOf 17 = .ok (.getfield 30, 3) := by decide +kernel
theorem dX8_isOverAheadOf_20 : decode cX8_isOverAheadOf 20 = .ok (.iload_n 1, 1) := by decide +kernel
theorem dX8_isOverAheadOf_21 : decode cX8_isOverAheadOf 21 = .ok (.iaload, 1) := by decide +kernel
theorem dX8_isOverAheadOf_22 : decode cX8_isOverAheadOf 22 = .ok (.iload_n 2, 1) := by decide +kernel
theorem dX8_isOverAheadOf_23 : decode cX8_isOverAheadOf 23 = .ok (.if_icmp .ge 7, 3) := by decide +kernel
theorem dX8_isOverAheadOf_26 : decode cX8_isOverAheadOf 26 = .ok (.iconst 1, 1) := by decide +kernel
theorem dX8_isOverAheadOf_27 : decode cX8_isOverAheadOf 27 = .ok (.goto 4, 3) := by decide +kernel
theorem dX8_isOverAheadOf_30 : decode cX8_isOverAheadOf 30 = .ok (.iconst 0, 1) := by decide +kernel
theorem dX8_isOverAheadOf_31 : decode cX8_isOverAheadOf 31 = .ok (.ireturn, 1) := by decide +kernel
theorem dX8_placeOf_0 : decode cX8_placeOf 0 = .ok (.iconst 0, 1) := by decide +kernel
theorem dX8_placeOf_1 : decode cX8_placeOf 1 = .ok (.istore_n 2, 1) := by decide +kernel
theorem dX8_placeOf_2 : decode cX8_placeOf 2 = .ok (.iload_n 2, 1) := by decide +kernel
theorem dX8_placeOf_3 : decode cX8_placeOf 3 = .ok (.bipush 6, 2) := by decide +kernel
theorem dX8_placeOf_5 : decode cX8_placeOf 5 = .ok (.if_icmp .ge 21, 3) := by decide +kernel
theorem dX8_placeOf_8 : decode cX8_placeOf 8 = .ok (.aload_n 0, 1) := by decide +kernel
theorem dX8_placeOf_9 : decode cX8_placeOf 9 = .ok (.getfield 21, 3) := by decide +kernel
theorem dX8_placeOf_12 : decode cX8_placeOf 12 = .ok (.iload_n 2, 1) := by decide +kernel
theorem dX8_placeOf_13 : decode cX8_placeOf 13 = .ok (.iaload, 1) := by decide +kernel
theorem dX8_placeOf_14 : decode cX8_placeOf 14 = .ok (.iload_n 1, 1) := by decide +kernel
theorem dX8_placeOf_15 : decode cX8_placeOf 15 = .ok (.if_icmp .ne 5, 3) := by decide +kernel
theorem dX8_placeOf_18 : decode cX8_placeOf 18 = .ok (.iload_n 2, 1) := by decide +kernel
theorem dX8_placeOf_19 : decode cX8_placeOf 19 = .ok (.ireturn, 1) := by decide +kernel
theorem dX8_placeOf_20 : decode cX8_placeOf 20 = .ok (.iinc 2 1, 3) := by decide +kernel
theorem dX8_placeOf_23 : decode cX8_placeOf 23 = .ok (.goto (-21), 3) := by decide +kernel
theorem dX8_placeOf_26 : decode cX8_placeOf 26 = .ok (.iconst 0, 1) := by decide +kernel
theorem dX8_placeOf_27 : decode cX8_placeOf 27 = .ok (.ireturn, 1) := by decide +kernel
theorem dX8_howMany_0 : decode cX8_howMany 0 = .ok (.iconst 0, 1) := by decide +kernel
theorem dX8_howMany_1 : decode cX8_howMany 1 = .ok (.istore_n 3, 1) := by decide +kernel
theorem dX8_howMany_2 : decode cX8_howMany 2 = .ok (.iconst 0, 1) := by decide +kernel
theorem dX8_howMany_3 : decode cX8_howMany 3 = .ok (.istore 4, 2) := by decide +kernel
theorem dX8_howMany_5 : decode cX8_howMany 5 = .ok (.iload 4, 2) := by decide +kernel
theorem dX8_howMany_7 : decode cX8_howMany 7 = .ok (.aload_n 1, 1) := by decide +kernel
theorem dX8_howMany_8 : decode cX8_howMany 8 = .ok (.getfield 73, 3) := by decide +kernel
theorem dX8_howMany_11 : decode cX8_howMany 11 = .ok (.if_icmp .ge 28, 3) := by decide +kernel
theorem dX8_howMany_14 : decode cX8_howMany 14 = .ok (.iload_n 3, 1) := by decide +kernel
theorem dX8_howMany_15 : decode cX8_howMany 15 = .ok (.aload_n 0, 1) := by decide +kernel
theorem dX8_howMany_16 : decode cX8_howMany 16 = .ok (.getfield 27, 3) := by decide +kernel
theorem dX8_howMany_19 : decode cX8_howMany 19 = .ok (.iload 4, 2) := by decide +kernel
theorem dX8_howMany_21 : decode cX8_howMany 21 = .ok (.iaload, 1) := by decide +kernel
theorem dX8_howMany_22 : decode cX8_howMany 22 = .ok (.iload_n 2, 1) := by decide +kernel
theorem dX8_howMany_23 : decode cX8_howMany 23 = .ok (.if_icmp .ne 7, 3) := by decide +kernel
theorem dX8_howMany_26 : decode cX8_howMany 26 = .ok (.iconst 1, 1) := by decide +kernel
theorem dX8_howMany_27 : decode cX8_howMany 27 = .ok (.goto 4, 3) := by decide +kernel
theorem dX8_howMany_30 : decode cX8_howMany 30 = .ok (.iconst 0, 1) := by decide +kernel
theorem dX8_howMany_31 : decode cX8_howMany 31 = .ok (.iadd, 1) := by decide +kernel
theorem dX8_howMany_32 : decode cX8_howMany 32 = .ok (.istore_n 3, 1) := by decide +kernel
theorem dX8_howMany_33 : decode cX8_howMany 33 = .ok (.iinc 4 1, 3) := by decide +kernel
theorem dX8_howMany_36 : decode cX8_howMany 36 = .ok (.goto (-31), 3) := by decide +kernel
theorem dX8_howMany_39 : decode cX8_howMany 39 = .ok (.iload_n 3, 1) := by decide +kernel
theorem dX8_howMany_40 : decode cX8_howMany 40 = .ok (.ireturn, 1) := by decide +kernel
theorem dX8_howManyWaitFor_0 : decode cX8_howManyWaitFor 0 = .ok (.iconst 0, 1) := by decide +kernel
theorem dX8_howManyWaitFor_1 : decode cX8_howManyWaitFor 1 = .ok (.istore_n 3, 1) := by decide +kernel
theorem dX8_howManyWaitFor_2 : decode cX8_howManyWaitFor 2 = .ok (.iconst 0, 1) := by decide +kernel
theorem dX8_howManyWaitFor_3 : decode cX8_howManyWaitFor 3 = .ok (.istore 4, 2) := by decide +kernel
theorem dX8_howManyWaitFor_5 : decode cX8_howManyWaitFor 5 = .ok (.iload 4, 2) := by decide +kernel
theorem dX8_howManyWaitFor_7 : decode cX8_howManyWaitFor 7 = .ok (.aload_n 1, 1) := by decide +kernel
theorem dX8_howManyWaitFor_8 : decode cX8_howManyWaitFor 8 = .ok (.getfield 73, 3) := by decide +kernel
theorem dX8_howManyWaitFor_11 : decode cX8_howManyWaitFor 11 = .ok (.if_icmp .ge 38, 3) := by decide +kernel
theorem dX8_howManyWaitFor_14 : decode cX8_howManyWaitFor 14 = .ok (.iload_n 3, 1) := by decide +kernel
theorem dX8_howManyWaitFor_15 : decode cX8_howManyWaitFor 15 = .ok (.aload_n 0, 1) := by decide +kernel
theorem dX8_howManyWaitFor_16 : decode cX8_howManyWaitFor 16 = .ok (.getfield 27, 3) := by decide +kernel
theorem dX8_howManyWaitFor_19 : decode cX8_howManyWaitFor 19 = .ok (.iload 4, 2) := by decide +kernel
theorem dX8_howManyWaitFor_21 : decode cX8_howManyWaitFor 21 = .ok (.iaload, 1) := by decide +kernel
theorem dX8_howManyWaitFor_22 : decode cX8_howManyWaitFor 22 = .ok (.ifCond .ne 18, 3) := by decide +kernel
theorem dX8_howManyWaitFor_25 : decode cX8_howManyWaitFor 25 = .ok (.aload_n 0, 1) := by decide +kernel
theorem dX8_howManyWaitFor_26 : decode cX8_howManyWaitFor 26 = .ok (.getfield 24, 3) := by decide +kernel
theorem dX8_howManyWaitFor_29 : decode cX8_howManyWaitFor 29 = .ok (.iload 4, 2) := by decide +kernel
theorem dX8_howManyWaitFor_31 : decode cX8_howManyWaitFor 31 = .ok (.iaload, 1) := by decide +kernel
theorem dX8_howManyWaitFor_32 : decode cX8_howManyWaitFor 32 = .ok (.iload_n 2, 1) := by decide +kernel
theorem dX8_howManyWaitFor_33 : decode cX8_howManyWaitFor 33 = .ok (.if_icmp .ne 7, 3) := by decide +kernel
theorem dX8_howManyWaitFor_36 : decode cX8_howManyWaitFor 36 = .ok (.iconst 1, 1) := by decide +kernel
theorem dX8_howManyWaitFor_37 : decode cX8_howManyWaitFor 37 = .ok (.goto 4, 3) := by decide +kernel
theorem dX8_howManyWaitFor_40 : decode cX8_howManyWaitFor 40 = .ok (.iconst 0, 1) := by decide +kernel
theorem dX8_howManyWaitFor_41 : decode cX8_howManyWaitFor 41 = .ok (.iadd, 1) := by decide +kernel
theorem dX8_howManyWaitFor_42 : decode cX8_howManyWaitFor 42 = .ok (.istore_n 3, 1) := by decide +kernel
theorem dX8_howManyWaitFor_43 : decode cX8_howManyWaitFor 43 = .ok (.iinc 4 1, 3) := by decide +kernel
theorem dX8_howManyWaitFor_46 : decode cX8_howManyWaitFor 46 = .ok (.goto (-41), 3) := by decide +kernel
theorem dX8_howManyWaitFor_49 : decode cX8_howManyWaitFor 49 = .ok (.iload_n 3, 1) := by decide +kernel
theorem dX8_howManyWaitFor_50 : decode cX8_howManyWaitFor 50 = .ok (.ireturn, 1) := by decide +kernel
theorem dX9_init_0 : decode cX9_init 0 = .ok (.aload_n 0, 1) := by decide +kernel
theorem dX9_init_1 : decode cX9_init 1 = .ok (.invokespecial 1, 3) := by decide +kernel
theorem dX9_init_4 : decode cX9_init 4 = .ok (.aload_n 0, 1) := by decide +kernel
theorem dX9_init_5 : decode cX9_init 5 = .ok (.new 7, 3) := by decide +kernel
theorem dX9_init_8 : decode cX9_init 8 = .ok (.dup, 1) := by decide +kernel
theorem dX9_init_9 : decode cX9_init 9 = .ok (.invokespecial 9, 3) := by decide +kernel
theorem dX9_init_12 : decode cX9_init 12 = .ok (.putfield 10, 3) := by decide +kernel
theorem dX9_init_15 : decode cX9_init 15 = .ok (.aload_n 0, 1) := by decide +kernel
theorem dX9_init_16 : decode cX9_init 16 = .ok (.new 16, 3) := by decide +kernel
theorem dX9_init_19 : decode cX9_init 19 = .ok (.dup, 1) := by decide +kernel
theorem dX9_init_20 : decode cX9_init 20 = .ok (.invokespecial 18, 3) := by decide +kernel
theorem dX9_init_23 : decode cX9_init 23 = .ok (.putfield 19, 3) := by decide +kernel
theorem dX9_init_26 : decode cX9_init 26 = .ok (.aload_n 0, 1) := by decide +kernel
theorem dX9_init_27 : decode cX9_init 27 = .ok (.new 23, 3) := by decide +kernel
theorem dX9_init_30 : decode cX9_init 30 = .ok (.dup, 1) := by decide +kernel
theorem dX9_init_31 : decode cX9_init 31 = .ok (.invokespecial 25, 3) := by decide +kernel
theorem dX9_init_34 : decode cX9_init 34 = .ok (.putfield 26, 3) := by decide +kernel
theorem dX9_init_37 : decode cX9_init 37 = .ok (.aload_n 0, 1) := by decide +kernel
theorem dX9_init_38 : decode cX9_init 38 = .ok (.new 23, 3) := by decide +kernel
theorem dX9_init_41 : decode cX9_init 41 = .ok (.dup, 1) := by decide +kernel
theorem dX9_init_42 : decode cX9_init 42 = .ok (.invokespecial 25, 3) := by decide +kernel
theorem dX9_init_45 : decode cX9_init 45 = .ok (.putfield 30, 3) := by decide +kernel
theorem dX9_init_48 : decode cX9_init 48 = .ok (.aload_n 0, 1) := by decide +kernel
theorem dX9_init_49 : decode cX9_init 49 = .ok (.new 33, 3) := by decide +kernel
theorem dX9_init_52 : decode cX9_init 52 = .ok (.dup, 1) := by decide +kernel
theorem dX9_init_53 : decode cX9_init 53 = .ok (.invokespecial 35, 3) := by decide +kernel
theorem dX9_init_56 : decode cX9_init 56 = .ok (.putfield 36, 3) := by decide +kernel
theorem dX9_init_59 : decode cX9_init 59 = .ok (.aload_n 0, 1) := by decide +kernel
theorem dX9_init_60 : decode cX9_init 60 = .ok (.new 33, 3) := by decide +kernel
theorem dX9_init_63 : decode cX9_init 63 = .ok (.dup, 1) := by decide +kernel
theorem dX9_init_64 : decode cX9_init 64 = .ok (.invokespecial 35, 3) := by decide +kernel
theorem dX9_init_67 : decode cX9_init 67 = .ok (.putfield 40, 3) := by decide +kernel
theorem dX9_init_70 : decode cX9_init 70 = .ok (.aload_n 0, 1) := by decide +kernel
theorem dX9_init_71 : decode cX9_init 71 = .ok (.new 43, 3) := by decide +kernel
theorem dX9_init_74 : decode cX9_init 74 = .ok (.dup, 1) := by decide +kernel
theorem dX9_init_75 : decode cX9_init 75 = .ok (.invokespecial 45, 3) := by decide +kernel
theorem dX9_init_78 : decode cX9_init 78 = .ok (.putfield 46, 3) := by decide +kernel
theorem dX9_init_81 : decode cX9_init 81 = .ok (.aload_n 0, 1) := by decide +kernel
theorem dX9_init_82 : decode cX9_init 82 = .ok (.new 50, 3) := by decide +kernel
theorem dX9_init_85 : decode cX9_init 85 = .ok (.dup, 1) := by decide +kernel
theorem dX9_init_86 : decode cX9_init 86 = .ok (.invokespecial 52, 3) := by decide +kernel
theorem dX9_init_89 : decode cX9_init 89 = .ok (.putfield 53, 3) := by decide +kernel
theorem dX9_init_92 : decode cX9_init 92 = .ok (.aload_n 0, 1) := by decide +kernel
theorem dX9_init_93 : decode cX9_init 93 = .ok (.new 57, 3) := by decide +kernel
theorem dX9_init_96 : decode cX9_init 96 = .ok (.dup, 1) := by decide +kernel
theorem dX9_init_97 : decode cX9_init 97 = .ok (.invokespecial 59, 3) := by decide +kernel
theorem dX9_init_100 : decode cX9_init 100 = .ok (.putfield 60, 3) := by decide +kernel
theorem dX9_init_103 : decode cX9_init 103 = .ok (.aload_n 0, 1) := by decide +kernel
theorem dX9_init_104 : decode cX9_init 104 = .ok (.iconst 2, 1) := by decide +kernel
theorem dX9_init_105 : decode cX9_init 105 = .ok (.anewarray 64, 3) := by decide +kernel
theorem dX9_init_108 : decode cX9_init 108 = .ok (.putfield 66, 3) := by decide +kernel
theorem dX9_init_111 : decode cX9_init 111 = .ok (.iconst 0, 1) := by decide +kernel
theorem dX9_init_112 : decode cX9_init 112 = .ok (.istore_n 1, 1) := by decide +kernel
theorem dX9_init_113 : decode cX9_init 113 = .ok (.iload_n 1, 1) := by decide +kernel
theorem dX9_init_114 : decode cX9_init 114 = .ok (.iconst 2, 1) := by decide +kernel
theorem dX9_init_115 : decode cX9_init 115 = .ok (.if_icmp .ge 22, 3) := by decide +kernel
theorem dX9_init_118 : decode cX9_init 118 = .ok (.aload_n 0, 1) := by decide +kernel
theorem dX9_init_119 : decode cX9_init 119 = .ok (.getfield 66, 3) := by decide +kernel
theorem dX9_init_122 : decode cX9_init 122 = .ok (.iload_n 1, 1) := by decide +kernel
theorem dX9_init_123 : decode cX9_init 123 = .ok (.new 64, 3) := by decide +kernel
theorem dX9_init_126 : decode cX9_init 126 = .ok (.dup, 1) := by decide +kernel
theorem dX9_init_127 : decode cX9_init 127 = .ok (.invokespecial 70, 3) := by decide +kernel
theorem dX9_init_130 : decode cX9_init 130 = .ok (.aastore, 1) := by decide +kernel
theorem dX9_init_131 : decode cX9_init 131 = .ok (.iinc 1 1, 3) := by decide +kernel
theorem dX9_init_134 : decode cX9_init 134 = .ok (.goto (-21), 3) := by decide +kernel
theorem dX9_init_137 : decode cX9_init 137 = .ok (.return_, 1) := by decide +kernel
theorem dX9_row_0 : decode cX9_row 0 = .ok (.aload_n 0, 1) := by decide +kernel
theorem dX9_row_1 : decode cX9_row 1 = .ok (.iload_n 1, 1) := by decide +kernel
theorem dX9_row_2 : decode cX9_row 2 = .ok (.invokevirtual 71, 3) := by decide +kernel
theorem dX9_row_5 : decode cX9_row 5 = .ok (.ifCond .eq 18, 3) := by decide +kernel
theorem dX9_row_8 : decode cX9_row 8 = .ok (.iload_n 2, 1) := by decide +kernel
theorem dX9_row_9 : decode cX9_row 9 = .ok (.iconst 0, 1) := by decide +kernel
theorem dX9_row_10 : decode cX9_row 10 = .ok (.iconst 2, 1) := by decide +kernel
theorem dX9_row_11 : decode cX9_row 11 = .ok (.invokestatic 75, 3) := by decide +kernel
theorem dX9_row_14 : decode cX9_row 14 = .ok (.ifCond .eq 9, 3) := by decide +kernel
theorem dX9_row_17 : decode cX9_row 17 = .ok (.iload_n 3, 1) := by decide +kernel
theorem dX9_row_18 : decode cX9_row 18 = .ok (.bipush 40, 2) := by decide +kernel
theorem dX9_row_20 : decode cX9_row 20 = .ok (.if_icmp .le 6, 3) := by decide +kernel
theorem dX9_row_23 : decode cX9_row 23 = .ok (.ldc 79, 2) := by decide +kernel
theorem dX9_row_25 : decode cX9_row 25 = .ok (.ireturn, 1) := by decide +kernel
theorem dX9_row_26 : decode cX9_row 26 = .ok (.iload_n 3, 1) := by decide +kernel
theorem dX9_row_27 : decode cX9_row 27 = .ok (.ifCond .ge 9, 3) := by decide +kernel
theorem dX9_row_30 : decode cX9_row 30 = .ok (.aload_n 0, 1) := by decide +kernel
theorem dX9_row_31 : decode cX9_row 31 = .ok (.iconst 4, 1) := by decide +kernel
theorem dX9_row_32 : decode cX9_row 32 = .ok (.invokevirtual 80, 3) := by decide +kernel
theorem dX9_row_35 : decode cX9_row 35 = .ok (.ireturn, 1) := by decide +kernel
theorem dX9_row_36 : decode cX9_row 36 = .ok (.aload_n 0, 1) := by decide +kernel
theorem dX9_row_37 : decode cX9_row 37 = .ok (.getfield 10, 3) := by decide +kernel
theorem dX9_row_40 : decode cX9_row 40 = .ok (.iload_n 1, 1) := by decide +kernel
theorem dX9_row_41 : decode cX9_row 41 = .ok (.iload_n 2, 1) := by decide +kernel
theorem dX9_row_42 : decode cX9_row 42 = .ok (.iload_n 3, 1) := by decide +kernel
theorem dX9_row_43 : decode cX9_row 43 = .ok (.invokevirtual 84, 3) := by decide +kernel
theorem dX9_row_46 : decode cX9_row 46 = .ok (.aload_n 0, 1) := by decide +kernel
theorem dX9_row_47 : decode cX9_row 47 = .ok (.iload_n 3, 1) := by decide +kernel
theorem dX9_row_48 : decode cX9_row 48 = .ok (.invokevirtual 88, 3) := by decide +kernel
theorem dX9_row_51 : decode cX9_row 51 = .ok (.ireturn, 1) := by decide +kernel
theorem dX9_set_0 : decode cX9_set 0 = .ok (.aload_n 0, 1) := by decide +kernel
theorem dX9_set_1 : decode cX9_set 1 = .ok (.iload_n 1, 1) := by decide +kernel
theorem dX9_set_2 : decode cX9_set 2 = .ok (.invokevirtual 71, 3) := by decide +kernel
theorem dX9_set_5 : decode cX9_set 5 = .ok (.ifCond .ne 6, 3) := by decide +kernel
theorem dX9_set_8 : decode cX9_set 8 = .ok (.ldc 79, 2) := by decide +kernel
theorem dX9_set_10 : decode cX9_set 10 = .ok (.ireturn, 1) := by decide +kernel
theorem dX9_set_11 : decode cX9_set 11 = .ok (.aload_n 0, 1) := by decide +kernel
theorem dX9_set_12 : decode cX9_set 12 = .ok (.getfield 10, 3) := by decide +kernel
theorem dX9_set_15 : decode cX9_set 15 = .ok (.iload_n 1, 1) := by decide +kernel
theorem dX9_set_16 : decode cX9_set 16 = .ok (.invokevirtual 91, 3) := by decide +kernel
theorem dX9_set_19 : decode cX9_set 19 = .ok (.ifCond .eq 9, 3) := by decide +kernel
theorem dX9_set_22 : decode cX9_set 22 = .ok (.aload_n 0, 1) := by decide +kernel
theorem dX9_set_23 : decode cX9_set 23 = .ok (.iconst 1, 1) := by decide +kernel
theorem dX9_set_24 : decode cX9_set 24 = .ok (.invokevirtual 80, 3) := by decide +kernel
theorem dX9_set_27 : decode cX9_set 27 = .ok (.ireturn, 1) := by decide +kernel
theorem dX9_set_28 : decode cX9_set 28 = .ok (.aload_n 0, 1) := by decide +kernel
theorem dX9_set_29 : decode cX9_set 29 = .ok (.getfield 10, 3) := by decide +kernel
theorem dX9_set_32 : decode cX9_set 32 = .ok (.iload_n 1, 1) := by decide +kernel
theorem dX9_set_33 : decode cX9_set 33 = .ok (.iload_n 2, 1) := by decide +kernel
theorem dX9_set_34 : decode cX9_set 34 = .ok (.iconst 1, 1) := by decide +kernel
theorem dX9_set_35 : decode cX9_set 35 = .ok (.invokevirtual 94, 3) := by decide +kernel
theorem dX9_set_38 : decode cX9_set 38 = .ok (.ifCond .ne 9, 3) := by decide +kernel
theorem dX9_set_41 : decode cX9_set 41 = .ok (.aload_n 0, 1) := by decide +kernel
theorem dX9_set_42 : decode cX9_set 42 = .ok (.iconst 2, 1) := by decide +kernel
theorem dX9_set_43 : decode cX9_set 43 = .ok (.invokevirtual 80, 3) := by decide +kernel
theorem dX9_set_46 : decode cX9_set 46 = .ok (.ireturn, 1) := by decide +kernel
theorem dX9_set_47 : decode cX9_set 47 = .ok (.aload_n 0, 1) := by decide +kernel
theorem dX9_set_48 : decode cX9_set 48 = .ok (.aload_n 0, 1) := by decide +kernel
theorem dX9_set_49 : decode cX9_set 49 = .ok (.getfield 10, 3) := by decide +kernel
theorem dX9_set_52 : decode cX9_set 52 = .ok (.iload_n 1, 1) := by decide +kernel
theorem dX9_set_53 : decode cX9_set 53 = .ok (.iload_n 2, 1) := by decide +kernel
theorem dX9_set_54 : decode cX9_set 54 = .ok (.iload_n 3, 1) := by decide +kernel
theorem dX9_set_55 : decode cX9_set 55 = .ok (.invokevirtual 97, 3) := by decide +kernel
theorem dX9_set_58 : decode cX9_set 58 = .ok (.invokevirtual 88, 3) := by decide +kernel
theorem dX9_set_61 : decode cX9_set 61 = .ok (.ireturn, 1) := by decide +kernel
theorem dX9_copy_0 : decode cX9_copy 0 = .ok (.aload_n 0, 1) := by decide +kernel
theorem dX9_copy_1 : decode cX9_copy 1 = .ok (.iload_n 1, 1) := by decide +kernel
theorem dX9_copy_2 : decode cX9_copy 2 = .ok (.invokevirtual 71, 3) := by decide +kernel
theorem dX9_copy_5 : decode cX9_copy 5 = .ok (.ifCond .eq 11, 3) := by decide +kernel
theorem dX9_copy_8 : decode cX9_copy 8 = .ok (.aload_n 0, 1) := by decide +kernel
theorem dX9_copy_9 : decode cX9_copy 9 = .ok (.iload_n 3, 1) := by decide +kernel
theorem dX9_copy_10 : decode cX9_copy 10 = .ok (.invokevirtual 71, 3) := by decide +kernel
theorem dX9_copy_13 : decode cX9_copy 13 = .ok (.ifCond .ne 6, 3) := by decide +kernel
theorem dX9_copy_16 : decode cX9_copy 16 = .ok (.ldc 79, 2) := by decide +kernel
theorem dX9_copy_18 : decode cX9_copy 18 = .ok (.ireturn, 1) := by decide +kernel
theorem dX9_copy_19 : decode cX9_copy 19 = .ok (.aload_n 0, 1) := by decide +kernel
theorem dX9_copy_20 : decode cX9_copy 20 = .ok (.getfield 10, 3) := by decide +kernel
theorem dX9_copy_23 : decode cX9_copy 23 = .ok (.iload_n 1, 1) := by decide +kernel
theorem dX9_copy_24 : decode cX9_copy 24 = .ok (.invokevirtual 91, 3) := by decide +kernel
theorem dX9_copy_27 : decode cX9_copy 27 = .ok (.ifCond .ne 14, 3) := by decide +kernel
theorem dX9_copy_30 : decode cX9_copy 30 = .ok (.aload_n 0, 1) := by decide +kernel
theorem dX9_copy_31 : decode cX9_copy 31 = .ok (.getfield 10, 3) := by decide +kernel
theorem dX9_copy_34 : decode cX9_copy 34 = .ok (.iload_n 3, 1) := by decide +kernel
theorem dX9_copy_35 : decode cX9_copy 35 = .ok (.invokevirtual 91, 3) := by decide +kernel
theorem dX9_copy_38 : decode cX9_copy 38 = .ok (.ifCond .eq 9, 3) := by decide +kernel
theorem dX9_copy_41 : decode cX9_copy 41 = .ok (.aload_n 0, 1) := by decide +kernel
theorem dX9_copy_42 : decode cX9_copy 42 = .ok (.iconst 1, 1) := by decide +kernel
theorem dX9_copy_43 : decode cX9_copy 43 = .ok (.invokevirtual 80, 3) := by decide +kernel
theorem dX9_copy_46 : decode cX9_copy 46 = .ok (.ireturn, 1) := by decide +kernel
theorem dX9_copy_47 : decode cX9_copy 47 = .ok (.aload_n 0, 1) := by decide +kernel
theorem dX9_copy_48 : decode cX9_copy 48 = .ok (.getfield 10, 3) := by decide +kernel
theorem dX9_copy_51 : decode cX9_copy 51 = .ok (.iload_n 1, 1) := by decide +kernel
theorem dX9_copy_52 : decode cX9_copy 52 = .ok (.iload_n 3, 1) := by decide +kernel
theorem dX9_copy_53 : decode cX9_copy 53 = .ok (.invokevirtual 101, 3) := by decide +kernel
theorem dX9_copy_56 : decode cX9_copy 56 = .ok (.ifCond .ne 9, 3) := by decide +kernel
theorem dX9_copy_59 : decode cX9_copy 59 = .ok (.aload_n 0, 1) := by decide +kernel
theorem dX9_copy_60 : decode cX9_copy 60 = .ok (.iconst 5, 1) := by decide +kernel
theorem dX9_copy_61 : decode cX9_copy 61 = .ok (.invokevirtual 80, 3) := by decide +kernel
theorem dX9_copy_64 : decode cX9_copy 64 = .ok (.ireturn, 1) := by decide +kernel
theorem dX9_copy_65 : decode cX9_copy 65 = .ok (.aload_n 0, 1) := by decide +kernel
theorem dX9_copy_66 : decode cX9_copy 66 = .ok (.getfield 10, 3) := by decide +kernel
theorem dX9_copy_69 : decode cX9_copy 69 = .ok (.iload_n 1, 1) := by decide +kernel
theorem dX9_copy_70 : decode cX9_copy 70 = .ok (.iload_n 2, 1) := by decide +kernel
theorem dX9_copy_71 : decode cX9_copy 71 = .ok (.iload 5, 2) := by decide +kernel
theorem dX9_copy_73 : decode cX9_copy 73 = .ok (.invokevirtual 94, 3) := by decide +kernel
theorem dX9_copy_76 : decode cX9_copy 76 = .ok (.ifCond .eq 18, 3) := by decide +kernel
theorem dX9_copy_79 : decode cX9_copy 79 = .ok (.aload_n 0, 1) := by decide +kernel
theorem dX9_copy_80 : decode cX9_copy 80 = .ok (.getfield 10, 3) := by decide +kernel
theorem dX9_copy_83 : decode cX9_copy 83 = .ok (.iload_n 3, 1) := by decide +kernel
theorem dX9_copy_84 : decode cX9_copy 84 = .ok (.iload 4, 2) := by decide +kernel
theorem dX9_copy_86 : decode cX9_copy 86 = .ok (.iload 5, 2) := by decide +kernel
theorem dX9_copy_88 : decode cX9_copy 88 = .ok (.invokevirtual 94, 3) := by decide +kernel
theorem dX9_copy_91 : decode cX9_copy 91 = .ok (.ifCond .ne 9, 3) := by decide +kernel
theorem dX9_copy_94 : decode cX9_copy 94 = .ok (.aload_n 0, 1) := by decide +kernel
theorem dX9_copy_95 : decode cX9_copy 95 = .ok (.iconst 2, 1) := by decide +kernel
theorem dX9_copy_96 : decode cX9_copy 96 = .ok (.invokevirtual 80, 3) := by decide +kernel
theorem dX9_copy_99 : decode cX9_copy 99 = .ok (.ireturn, 1) := by decide +kernel
theorem dX9_copy_100 : decode cX9_copy 100 = .ok (.aload_n 0, 1) := by decide +kernel
theorem dX9_copy_101 : decode cX9_copy 101 = .ok (.getfield 10, 3) := by decide +kernel
theorem dX9_copy_104 : decode cX9_copy 104 = .ok (.iload_n 1, 1) := by decide +kernel
theorem dX9_copy_105 : decode cX9_copy 105 = .ok (.iload_n 2, 1) := by decide +kernel
theorem dX9_copy_106 : decode cX9_copy 106 = .ok (.iload_n 3, 1) := by decide +kernel
theorem dX9_copy_107 : decode cX9_copy 107 = .ok (.iload 4, 2) := by decide +kernel
theorem dX9_copy_109 : decode cX9_copy 109 = .ok (.iload 5, 2) := by decide +kernel
theorem dX9_copy_111 : decode cX9_copy 111 = .ok (.invokevirtual 105, 3) := by decide +kernel
theorem dX9_copy_114 : decode cX9_copy 114 = .ok (.aload_n 0, 1) := by decide +kernel
theorem dX9_copy_115 : decode cX9_copy 115 = .ok (.iload 5, 2) := by decide +kernel
theorem dX9_copy_117 : decode cX9_copy 117 = .ok (.invokevirtual 88, 3) := by decide +kernel
theorem dX9_copy_120 : decode cX9_copy 120 = .ok (.ireturn, 1) := by decide +kernel
theorem dX9_drop_0 : decode cX9_drop 0 = .ok (.aload_n 0, 1) := by decide +kernel
theorem dX9_drop_1 : decode cX9_drop 1 = .ok (.iload_n 1, 1) := by decide +kernel
theorem dX9_drop_2 : decode cX9_drop 2 = .ok (.invokevirtual 71, 3) := by decide +kernel
theorem dX9_drop_5 : decode cX9_drop 5 = .ok (.ifCond .ne 6, 3) := by decide +kernel
theorem dX9_drop_8 : decode cX9_drop 8 = .ok (.ldc 79, 2) := by decide +kernel
theorem dX9_drop_10 : decode cX9_drop 10 = .ok (.ireturn, 1) := by decide +kernel
theorem dX9_drop_11 : decode cX9_drop 11 = .ok (.aload_n 0, 1) := by decide +kernel
theorem dX9_drop_12 : decode cX9_drop 12 = .ok (.getfield 10, 3) := by decide +kernel
theorem dX9_drop_15 : decode cX9_drop 15 = .ok (.iload_n 1, 1) := by decide +kernel
theorem dX9_drop_16 : decode cX9_drop 16 = .ok (.invokevirtual 91, 3) := by decide +kernel
theorem dX9_drop_19 : decode cX9_drop 19 = .ok (.ifCond .eq 9, 3) := by decide +kernel
theorem dX9_drop_22 : decode cX9_drop 22 = .ok (.aload_n 0, 1) := by decide +kernel
theorem dX9_drop_23 : decode cX9_drop 23 = .ok (.iconst 1, 1) := by decide +kernel
theorem dX9_drop_24 : decode cX9_drop 24 = .ok (.invokevirtual 80, 3) := by decide +kernel
theorem dX9_drop_27 : decode cX9_drop 27 = .ok (.ireturn, 1) := by decide +kernel
theorem dX9_drop_28 : decode cX9_drop 28 = .ok (.aload_n 0, 1) := by decide +kernel
theorem dX9_drop_29 : decode cX9_drop 29 = .ok (.aload_n 0, 1) := by decide +kernel
theorem dX9_drop_30 : decode cX9_drop 30 = .ok (.getfield 10, 3) := by decide +kernel
theorem dX9_drop_33 : decode cX9_drop 33 = .ok (.iload_n 1, 1) := by decide +kernel
theorem dX9_drop_34 : decode cX9_drop 34 = .ok (.invokevirtual 109, 3) := by decide +kernel
theorem dX9_drop_37 : decode cX9_drop 37 = .ok (.invokevirtual 88, 3) := by decide +kernel
theorem dX9_drop_40 : decode cX9_drop 40 = .ok (.ireturn, 1) := by decide +kernel
theorem dX9_feed_0 : decode cX9_feed 0 = .ok (.iload_n 1, 1) := by decide +kernel
theorem dX9_feed_1 : decode cX9_feed 1 = .ok (.iconst 0, 1) := by decide +kernel
theorem dX9_feed_2 : decode cX9_feed 2 = .ok (.sipush 255, 3) := by decide +kernel
theorem dX9_feed_5 : decode cX9_feed 5 = .ok (.invokestatic 75, 3) := by decide +kernel
theorem dX9_feed_8 : decode cX9_feed 8 = .ok (.ifCond .ne 6, 3) := by decide +kernel
theorem dX9_feed_11 : decode cX9_feed 11 = .ok (.ldc 79, 2) := by decide +kernel
theorem dX9_feed_13 : decode cX9_feed 13 = .ok (.ireturn, 1) := by decide +kernel
theorem dX9_feed_14 : decode cX9_feed 14 = .ok (.aload_n 0, 1) := by decide +kernel
theorem dX9_feed_15 : decode cX9_feed 15 = .ok (.getfield 19, 3) := by decide +kernel
theorem dX9_feed_18 : decode cX9_feed 18 = .ok (.invokevirtual 112, 3) := by decide +kernel
theorem dX9_feed_21 : decode cX9_feed 21 = .ok (.ifCond .eq 6, 3) := by decide +kernel
theorem dX9_feed_24 : decode cX9_feed 24 = .ok (.ldc 116, 2) := by decide +kernel
theorem dX9_feed_26 : decode cX9_feed 26 = .ok (.ireturn, 1) := by decide +kernel
theorem dX9_feed_27 : decode cX9_feed 27 = .ok (.aload_n 0, 1) := by decide +kernel
theorem dX9_feed_28 : decode cX9_feed 28 = .ok (.getfield 19, 3) := by decide +kernel
theorem dX9_feed_31 : decode cX9_feed 31 = .ok (.iload_n 1, 1) := by decide +kernel
theorem dX9_feed_32 : decode cX9_feed 32 = .ok (.invokevirtual 117, 3) := by decide +kernel
theorem dX9_feed_35 : decode cX9_feed 35 = .ok (.ireturn, 1) := by decide +kernel
theorem dX9_sea_0 : decode cX9_sea 0 = .ok (.aload_n 0, 1) := by decide +kernel
theorem dX9_sea_1 : decode cX9_sea 1 = .ok (.getfield 19, 3) := by decide +kernel
theorem dX9_sea_4 : decode cX9_sea 4 = .ok (.aload_n 0, 1) := by decide +kernel
theorem dX9_sea_5 : decode cX9_sea 5 = .ok (.getfield 30, 3) := by decide +kernel
theorem dX9_sea_8 : decode cX9_sea 8 = .ok (.aload_n 0, 1) := by decide +kernel
theorem dX9_sea_9 : decode cX9_sea 9 = .ok (.getfield 40, 3) := by decide +kernel
theorem dX9_sea_12 : decode cX9_sea 12 = .ok (.invokevirtual 120, 3) := by decide +kernel
theorem dX9_sea_15 : decode cX9_sea 15 = .ok (.istore_n 1, 1) := by decide +kernel
theorem dX9_sea_16 : decode cX9_sea 16 = .ok (.aload_n 0, 1) := by decide +kernel
theorem dX9_sea_17 : decode cX9_sea 17 = .ok (.getfield 19, 3) := by decide +kernel
theorem dX9_sea_20 : decode cX9_sea 20 = .ok (.invokevirtual 124, 3) := by decide +kernel
theorem dX9_sea_23 : decode cX9_sea 23 = .ok (.iload_n 1, 1) := by decide +kernel
theorem dX9_sea_24 : decode cX9_sea 24 = .ok (.ifCond .ne 25, 3) := by decide +kernel
theorem dX9_sea_27 : decode cX9_sea 27 = .ok (.aload_n 0, 1) := by decide +kernel
theorem dX9_sea_28 : decode cX9_sea 28 = .ok (.aload_n 0, 1) := by decide +kernel
theorem dX9_sea_29 : decode cX9_sea 29 = .ok (.getfield 19, 3) := by decide +kernel
theorem dX9_sea_32 : decode cX9_sea 32 = .ok (.invokevirtual 127, 3) := by decide +kernel
theorem dX9_sea_35 : decode cX9_sea 35 = .ok (.putfield 131, 3) := by decide +kernel
theorem dX9_sea_38 : decode cX9_sea 38 = .ok (.ldc 135, 2) := by decide +kernel
theorem dX9_sea_40 : decode cX9_sea 40 = .ok (.aload_n 0, 1) := by decide +kernel
theorem dX9_sea_41 : decode cX9_sea 41 = .ok (.getfield 19, 3) := by decide +kernel
theorem dX9_sea_44 : decode cX9_sea 44 = .ok (.invokevirtual 136, 3) := by decide +kernel
theorem dX9_sea_47 : decode cX9_sea 47 = .ok (.isub, 1) := by decide +kernel
theorem dX9_sea_48 : decode cX9_sea 48 = .ok (.ireturn, 1) := by decide +kernel
theorem dX9_sea_49 : decode cX9_sea 49 = .ok (.aload_n 0, 1) := by decide +kernel
theorem dX9_sea_50 : decode cX9_sea 50 = .ok (.getfield 26, 3) := by decide +kernel
theorem dX9_sea_53 : decode cX9_sea 53 = .ok (.aload_n 0, 1) := by decide +kernel
theorem dX9_sea_54 : decode cX9_sea 54 = .ok (.getfield 30, 3) := by decide +kernel
theorem dX9_sea_57 : decode cX9_sea 57 = .ok (.invokevirtual 139, 3) := by decide +kernel
theorem dX9_sea_60 : decode cX9_sea 60 = .ok (.aload_n 0, 1) := by decide +kernel
theorem dX9_sea_61 : decode cX9_sea 61 = .ok (.getfield 36, 3) := by decide +kernel
theorem dX9_sea_64 : decode cX9_sea 64 = .ok (.aload_n 0, 1) := by decide +kernel
theorem dX9_sea_65 : decode cX9_sea 65 = .ok (.getfield 40, 3) := by decide +kernel
theorem dX9_sea_68 : decode cX9_sea 68 = .ok (.invokevirtual 143, 3) := by decide +kernel
theorem dX9_sea_71 : decode cX9_sea 71 = .ok (.aload_n 0, 1) := by decide +kernel
theorem dX9_sea_72 : decode cX9_sea 72 = .ok (.getfield 46, 3) := by decide +kernel
theorem dX9_sea_75 : decode cX9_sea 75 = .ok (.invokevirtual 146, 3) := by decide +kernel
theorem dX9_sea_78 : decode cX9_sea 78 = .ok (.aload_n 0, 1) := by decide +kernel
theorem dX9_sea_79 : decode cX9_sea 79 = .ok (.iconst 1, 1) := by decide +kernel
theorem dX9_sea_80 : decode cX9_sea 80 = .ok (.putfield 149, 3) := by decide +kernel
theorem dX9_sea_83 : decode cX9_sea 83 = .ok (.aload_n 0, 1) := by decide +kernel
theorem dX9_sea_84 : decode cX9_sea 84 = .ok (.getfield 26, 3) := by decide +kernel
theorem dX9_sea_87 : decode cX9_sea 87 = .ok (.getfield 153, 3) := by decide +kernel
theorem dX9_sea_90 : decode cX9_sea 90 = .ok (.ireturn, 1) := by decide +kernel
theorem dX9_fault_0 : decode cX9_fault 0 = .ok (.aload_n 0, 1) := by decide +kernel
theorem dX9_fault_1 : decode cX9_fault 1 = .ok (.getfield 131, 3) := by decide +kernel
theorem dX9_fault_4 : decode cX9_fault 4 = .ok (.ireturn, 1) := by decide +kernel
theorem dX9_waves_0 : decode cX9_waves 0 = .ok (.aload_n 0, 1) := by decide +kernel
theorem dX9_waves_1 : decode cX9_waves 1 = .ok (.getfield 149, 3) := by decide +kernel
theorem dX9_waves_4 : decode cX9_waves 4 = .ok (.ifCond .ne 6, 3) := by decide +kernel
theorem dX9_waves_7 : decode cX9_waves 7 = .ok (.ldc 156, 2) := by decide +kernel
theorem dX9_waves_9 : decode cX9_waves 9 = .ok (.ireturn, 1) := by decide +kernel
theorem dX9_waves_10 : decode cX9_waves 10 = .ok (.iload_n 1, 1) := by decide +kernel
theorem dX9_waves_11 : decode cX9_waves 11 = .ok (.iconst 1, 1) := by decide +kernel
theorem dX9_waves_12 : decode cX9_waves 12 = .ok (.bipush 24, 2) := by decide +kernel
theorem dX9_waves_14 : decode cX9_waves 14 = .ok (.invokestatic 75, 3) := by decide +kernel
theorem dX9_waves_17 : decode cX9_waves 17 = .ok (.ifCond .ne 6, 3) := by decide +kernel
theorem dX9_waves_20 : decode cX9_waves 20 = .ok (.ldc 79, 2) := by decide +kernel
theorem dX9_waves_22 : decode cX9_waves 22 = .ok (.ireturn, 1) := by decide +kernel
theorem dX9_waves_23 : decode cX9_waves 23 = .ok (.aload_n 0, 1) := by decide +kernel
theorem dX9_waves_24 : decode cX9_waves 24 = .ok (.getfield 36, 3) := by decide +kernel
theorem dX9_waves_27 : decode cX9_waves 27 = .ok (.getfield 157, 3) := by decide +kernel
theorem dX9_waves_30 : decode cX9_waves 30 = .ok (.iload_n 1, 1) := by decide +kernel
theorem dX9_waves_31 : decode cX9_waves 31 = .ok (.iadd, 1) := by decide +kernel
theorem dX9_waves_32 : decode cX9_waves 32 = .ok (.sipush 999, 3) := by decide +kernel
theorem dX9_waves_35 : decode cX9_waves 35 = .ok (.if_icmp .le 6, 3) := by decide +kernel
theorem dX9_waves_38 : decode cX9_waves 38 = .ok (.ldc 116, 2) := by decide +kernel
theorem dX9_waves_40 : decode cX9_waves 40 = .ok (.ireturn, 1) := by decide +kernel
theorem dX9_waves_41 : decode cX9_waves 41 = .ok (.iconst 0, 1) := by decide +kernel
theorem dX9_waves_42 : decode cX9_waves 42 = .ok (.istore_n 2, 1) := by decide +kernel
theorem dX9_waves_43 : decode cX9_waves 43 = .ok (.iload_n 2, 1) := by decide +kernel
theorem dX9_waves_44 : decode cX9_waves 44 = .ok (.iload_n 1, 1) := by decide +kernel
theorem dX9_waves_45 : decode cX9_waves 45 = .ok (.if_icmp .ge 32, 3) := by decide +kernel
theorem dX9_waves_48 : decode cX9_waves 48 = .ok (.aload_n 0, 1) := by decide +kernel
theorem dX9_waves_49 : decode cX9_waves 49 = .ok (.getfield 46, 3) := by decide +kernel
theorem dX9_waves_52 : decode cX9_waves 52 = .ok (.aload_n 0, 1) := by decide +kernel
theorem dX9_waves_53 : decode cX9_waves 53 = .ok (.getfield 36, 3) := by decide +kernel
theorem dX9_waves_56 : decode cX9_waves 56 = .ok (.invokevirtual 160, 3) := by decide +kernel
theorem dX9_waves_59 : decode cX9_waves 59 = .ok (.aload_n 0, 1) := by decide +kernel
theorem dX9_waves_60 : decode cX9_waves 60 = .ok (.getfield 36, 3) := by decide +kernel
theorem dX9_waves_63 : decode cX9_waves 63 = .ok (.aload_n 0, 1) := by decide +kernel
theorem dX9_waves_64 : decode cX9_waves 64 = .ok (.getfield 26, 3) := by decide +kernel
theorem dX9_waves_67 : decode cX9_waves 67 = .ok (.invokevirtual 163, 3) := by decide +kernel
theorem dX9_waves_70 : decode cX9_waves 70 = .ok (.pop, 1) := by decide +kernel
theorem dX9_waves_71 : decode cX9_waves 71 = .ok (.iinc 2 1, 3) := by decide +kernel
theorem dX9_waves_74 : decode cX9_waves 74 = .ok (.goto (-31), 3) := by decide +kernel
theorem dX9_waves_77 : decode cX9_waves 77 = .ok (.aload_n 0, 1) := by decide +kernel
theorem dX9_waves_78 : decode cX9_waves 78 = .ok (.getfield 36, 3) := by decide +kernel
theorem dX9_waves_81 : decode cX9_waves 81 = .ok (.getfield 157, 3) := by decide +kernel
theorem dX9_waves_84 : decode cX9_waves 84 = .ok (.ireturn, 1) := by decide +kernel
theorem dX9_slip_0 : decode cX9_slip 0 = .ok (.aload_n 0, 1) := by decide +kernel
theorem dX9_slip_1 : decode cX9_slip 1 = .ok (.iload_n 1, 1) := by decide +kernel
theorem dX9_slip_2 : decode cX9_slip 2 = .ok (.invokevirtual 167, 3) := by decide +kernel
theorem dX9_slip_5 : decode cX9_slip 5 = .ok (.ifCond .eq 14, 3) := by decide +kernel
theorem dX9_slip_8 : decode cX9_slip 8 = .ok (.iload_n 2, 1) := by decide +kernel
theorem dX9_slip_9 : decode cX9_slip 9 = .ok (.bipush (-9), 2) := by decide +kernel
theorem dX9_slip_11 : decode cX9_slip 11 = .ok (.bipush 9, 2) := by decide +kernel
theorem dX9_slip_13 : decode cX9_slip 13 = .ok (.invokestatic 75, 3) := by decide +kernel
theorem dX9_slip_16 : decode cX9_slip 16 = .ok (.ifCond .ne 6, 3) := by decide +kernel
theorem dX9_slip_19 : decode cX9_slip 19 = .ok (.ldc 79, 2) := by decide +kernel
theorem dX9_slip_21 : decode cX9_slip 21 = .ok (.ireturn, 1) := by decide +kernel
theorem dX9_slip_22 : decode cX9_slip 22 = .ok (.aload_n 0, 1) := by decide +kernel
theorem dX9_slip_23 : decode cX9_slip 23 = .ok (.getfield 46, 3) := by decide +kernel
theorem dX9_slip_26 : decode cX9_slip 26 = .ok (.aload_n 0, 1) := by decide +kernel
theorem dX9_slip_27 : decode cX9_slip 27 = .ok (.getfield 36, 3) := by decide +kernel
theorem dX9_slip_30 : decode cX9_slip 30 = .ok (.invokevirtual 160, 3) := by decide +kernel
theorem dX9_slip_33 : decode cX9_slip 33 = .ok (.aload_n 0, 1) := by decide +kernel
theorem dX9_slip_34 : decode cX9_slip 34 = .ok (.getfield 36, 3) := by decide +kernel
theorem dX9_slip_37 : decode cX9_slip 37 = .ok (.iload_n 1, 1) := by decide +kernel
theorem dX9_slip_38 : decode cX9_slip 38 = .ok (.iload_n 2, 1) := by decide +kernel
theorem dX9_slip_39 : decode cX9_slip 39 = .ok (.invokevirtual 170, 3) := by decide +kernel
theorem dX9_slip_42 : decode cX9_slip 42 = .ok (.ireturn, 1) := by decide +kernel
theorem dX9_law_0 : decode cX9_law 0 = .ok (.aload_n 0, 1) := by decide +kernel
theorem dX9_law_1 : decode cX9_law 1 = .ok (.getfield 149, 3) := by decide +kernel
theorem dX9_law_4 : decode cX9_law 4 = .ok (.ifCond .ne 6, 3) := by decide +kernel
theorem dX9_law_7 : decode cX9_law 7 = .ok (.ldc 156, 2) := by decide +kernel
theorem dX9_law_9 : decode cX9_law 9 = .ok (.ireturn, 1) := by decide +kernel
theorem dX9_law_10 : decode cX9_law 10 = .ok (.iload_n 1, 1) := by decide +kernel
theorem dX9_law_11 : decode cX9_law 11 = .ok (.iconst 2, 1) := by decide +kernel
theorem dX9_law_12 : decode cX9_law 12 = .ok (.bipush 12, 2) := by decide +kernel
theorem dX9_law_14 : decode cX9_law 14 = .ok (.invokestatic 75, 3) := by decide +kernel
theorem dX9_law_17 : decode cX9_law 17 = .ok (.ifCond .ne 6, 3) := by decide +kernel
theorem dX9_law_20 : decode cX9_law 20 = .ok (.ldc 79, 2) := by decide +kernel
theorem dX9_law_22 : decode cX9_law 22 = .ok (.ireturn, 1) := by decide +kernel
theorem dX9_law_23 : decode cX9_law 23 = .ok (.aload_n 0, 1) := by decide +kernel
theorem dX9_law_24 : decode cX9_law 24 = .ok (.getfield 36, 3) := by decide +kernel
theorem dX9_law_27 : decode cX9_law 27 = .ok (.getfield 174, 3) := by decide +kernel
theorem dX9_law_30 : decode cX9_law 30 = .ok (.istore_n 2, 1) := by decide +kernel
theorem dX9_law_31 : decode cX9_law 31 = .ok (.aload_n 0, 1) := by decide +kernel
theorem dX9_law_32 : decode cX9_law 32 = .ok (.getfield 46, 3) := by decide +kernel
theorem dX9_law_35 : decode cX9_law 35 = .ok (.aload_n 0, 1) := by decide +kernel
theorem dX9_law_36 : decode cX9_law 36 = .ok (.getfield 36, 3) := by decide +kernel
theorem dX9_law_39 : decode cX9_law 39 = .ok (.invokevirtual 160, 3) := by decide +kernel
theorem dX9_law_42 : decode cX9_law 42 = .ok (.aload_n 0, 1) := by decide +kernel
theorem dX9_law_43 : decode cX9_law 43 = .ok (.getfield 36, 3) := by decide +kernel
theorem dX9_law_46 : decode cX9_law 46 = .ok (.iload_n 1, 1) := by decide +kernel
theorem dX9_law_47 : decode cX9_law 47 = .ok (.putfield 174, 3) := by decide +kernel
theorem dX9_law_50 : decode cX9_law 50 = .ok (.iload_n 2, 1) := by decide +kernel
theorem dX9_law_51 : decode cX9_law 51 = .ok (.ireturn, 1) := by decide +kernel
theorem dX9_change_0 : decode cX9_change 0 = .ok (.aload_n 0, 1) := by decide +kernel
theorem dX9_change_1 : decode cX9_change 1 = .ok (.iload_n 1, 1) := by decide +kernel
theorem dX9_change_2 : decode cX9_change 2 = .ok (.invokevirtual 177, 3) := by decide +kernel
theorem dX9_change_5 : decode cX9_change 5 = .ok (.ifCond .eq 16, 3) := by decide +kernel
theorem dX9_change_8 : decode cX9_change 8 = .ok (.aload_n 0, 1) := by decide +kernel
theorem dX9_change_9 : decode cX9_change 9 = .ok (.iload_n 2, 1) := by decide +kernel
theorem dX9_change_10 : decode cX9_change 10 = .ok (.invokevirtual 177, 3) := by decide +kernel
theorem dX9_change_13 : decode cX9_change 13 = .ok (.ifCond .eq 8, 3) := by decide +kernel
theorem dX9_change_16 : decode cX9_change 16 = .ok (.iload_n 1, 1) := by decide +kernel
theorem dX9_change_17 : decode cX9_change 17 = .ok (.iload_n 2, 1) := by decide +kernel
theorem dX9_change_18 : decode cX9_change 18 = .ok (.if_icmp .ne 6, 3) := by decide +kernel
theorem dX9_change_21 : decode cX9_change 21 = .ok (.ldc 79, 2) := by decide +kernel
theorem dX9_change_23 : decode cX9_change 23 = .ok (.ireturn, 1) := by decide +kernel
theorem dX9_change_24 : decode cX9_change 24 = .ok (.aload_n 0, 1) := by decide +kernel
theorem dX9_change_25 : decode cX9_change 25 = .ok (.getfield 46, 3) := by decide +kernel
theorem dX9_change_28 : decode cX9_change 28 = .ok (.aload_n 0, 1) := by decide +kernel
theorem dX9_change_29 : decode cX9_change 29 = .ok (.getfield 36, 3) := by decide +kernel
theorem dX9_change_32 : decode cX9_change 32 = .ok (.invokevirtual 160, 3) := by decide +kernel
theorem dX9_change_35 : decode cX9_change 35 = .ok (.aload_n 0, 1) := by decide +kernel
theorem dX9_change_36 : decode cX9_change 36 = .ok (.getfield 36, 3) := by decide +kernel
theorem dX9_change_39 : decode cX9_change 39 = .ok (.iload_n 1, 1) := by decide +kernel
theorem dX9_change_40 : decode cX9_change 40 = .ok (.invokevirtual 180, 3) := by decide +kernel
theorem dX9_change_43 : decode cX9_change 43 = .ok (.istore_n 3, 1) := by decide +kernel
theorem dX9_change_44 : decode cX9_change 44 = .ok (.aload_n 0, 1) := by decide +kernel
theorem dX9_change_45 : decode cX9_change 45 = .ok (.getfield 36, 3) := by decide +kernel
theorem dX9_change_48 : decode cX9_change 48 = .ok (.iload_n 2, 1) := by decide +kernel
theorem dX9_change_49 : decode cX9_change 49 = .ok (.invokevirtual 180, 3) := by decide +kernel
theorem dX9_change_52 : decode cX9_change 52 = .ok (.istore 4, 2) := by decide +kernel
theorem dX9_change_54 : decode cX9_change 54 = .ok (.aload_n 0, 1) := by decide +kernel
theorem dX9_change_55 : decode cX9_change 55 = .ok (.getfield 36, 3) := by decide +kernel
theorem dX9_change_58 : decode cX9_change 58 = .ok (.getfield 183, 3) := by decide +kernel
theorem dX9_change_61 : decode cX9_change 61 = .ok (.iload_n 3, 1) := by decide +kernel
theorem dX9_change_62 : decode cX9_change 62 = .ok (.iload_n 2, 1) := by decide +kernel
theorem dX9_change_63 : decode cX9_change 63 = .ok (.iastore, 1) := by decide +kernel
theorem dX9_change_64 : decode cX9_change 64 = .ok (.aload_n 0, 1) := by decide +kernel
theorem dX9_change_65 : decode cX9_change 65 = .ok (.getfield 36, 3) := by decide +kernel
theorem dX9_change_68 : decode cX9_change 68 = .ok (.getfield 183, 3) := by decide +kernel
theorem dX9_change_71 : decode cX9_change 71 = .ok (.iload 4, 2) := by decide +kernel
theorem dX9_change_73 : decode cX9_change 73 = .ok (.iload_n 1, 1) := by decide +kernel
theorem dX9_change_74 : decode cX9_change 74 = .ok (.iastore, 1) := by decide +kernel
theorem dX9_change_75 : decode cX9_change 75 = .ok (.iload 4, 2) := by decide +kernel
theorem dX9_change_77 : decode cX9_change 77 = .ok (.ireturn, 1) := by decide +kernel
theorem dX9_heeds_0 : decode cX9_heeds 0 = .ok (.aload_n 0, 1) := by decide +kernel
theorem dX9_heeds_1 : decode cX9_heeds 1 = .ok (.iload_n 1, 1) := by decide +kernel
theorem dX9_heeds_2 : decode cX9_heeds 2 = .ok (.invokevirtual 177, 3) := by decide +kernel
theorem dX9_heeds_5 : decode cX9_heeds 5 = .ok (.ifCond .eq 11, 3) := by decide +kernel
theorem dX9_heeds_8 : decode cX9_heeds 8 = .ok (.aload_n 0, 1) := by decide +kernel
theorem dX9_heeds_9 : decode cX9_heeds 9 = .ok (.iload_n 2, 1) := by decide +kernel
theorem dX9_heeds_10 : decode cX9_heeds 10 = .ok (.invokevirtual 167, 3) := by decide +kernel
theorem dX9_heeds_13 : decode cX9_heeds 13 = .ok (.ifCond .ne 6, 3) := by decide +kernel
theorem dX9_heeds_16 : decode cX9_heeds 16 = .ok (.ldc 79, 2) := by decide +kernel
theorem dX9_heeds_18 : decode cX9_heeds 18 = .ok (.ireturn, 1) := by decide +kernel
theorem dX9_heeds_19 : decode cX9_heeds 19 = .ok (.aload_n 0, 1) := by decide +kernel
theorem dX9_heeds_20 : decode cX9_heeds 20 = .ok (.getfield 36, 3) := by decide +kernel
theorem dX9_heeds_23 : decode cX9_heeds 23 = .ok (.iload_n 1, 1) := by decide +kernel
theorem dX9_heeds_24 : decode cX9_heeds 24 = .ok (.invokevirtual 187, 3) := by decide +kernel
theorem dX9_heeds_27 : decode cX9_heeds 27 = .ok (.ifCond .ne 6, 3) := by decide +kernel
theorem dX9_heeds_30 : decode cX9_heeds 30 = .ok (.ldc 156, 2) := by decide +kernel
theorem dX9_heeds_32 : decode cX9_heeds 32 = .ok (.ireturn, 1) := by decide +kernel
theorem dX9_heeds_33 : decode cX9_heeds 33 = .ok (.aload_n 0, 1) := by decide +kernel
theorem dX9_heeds_34 : decode cX9_heeds 34 = .ok (.getfield 36, 3) := by decide +kernel
theorem dX9_heeds_37 : decode cX9_heeds 37 = .ok (.getfield 190, 3) := by decide +kernel
theorem dX9_heeds_40 : decode cX9_heeds 40 = .ok (.iload_n 1, 1) := by decide +kernel
theorem dX9_heeds_41 : decode cX9_heeds 41 = .ok (.iaload, 1) := by decide +kernel
theorem dX9_heeds_42 : decode cX9_heeds 42 = .ok (.istore_n 3, 1) := by decide +kernel
theorem dX9_heeds_43 : decode cX9_heeds 43 = .ok (.aload_n 0, 1) := by decide +kernel
theorem dX9_heeds_44 : decode cX9_heeds 44 = .ok (.getfield 46, 3) := by decide +kernel
theorem dX9_heeds_47 : decode cX9_heeds 47 = .ok (.aload_n 0, 1) := by decide +kernel
theorem dX9_heeds_48 : decode cX9_heeds 48 = .ok (.getfield 36, 3) := by decide +kernel
theorem dX9_heeds_51 : decode cX9_heeds 51 = .ok (.invokevirtual 160, 3) := by decide +kernel
theorem dX9_heeds_54 : decode cX9_heeds 54 = .ok (.aload_n 0, 1) := by decide +kernel
theorem dX9_heeds_55 : decode cX9_heeds 55 = .ok (.getfield 36, 3) := by decide +kernel
theorem dX9_heeds_58 : decode cX9_heeds 58 = .ok (.getfield 190, 3) := by decide +kernel
theorem dX9_heeds_61 : decode cX9_heeds 61 = .ok (.iload_n 1, 1) := by decide +kernel
theorem dX9_heeds_62 : decode cX9_heeds 62 = .ok (.iload_n 2, 1) := by decide +kernel
theorem dX9_heeds_63 : decode cX9_heeds 63 = .ok (.iastore, 1) := by decide +kernel
theorem dX9_heeds_64 : decode cX9_heeds 64 = .ok (.iload_n 3, 1) := by decide +kernel
theorem dX9_heeds_65 : decode cX9_heeds 65 = .ok (.ireturn, 1) := by decide +kernel
theorem dX9_undo_0 : decode cX9_undo 0 = .ok (.aload_n 0, 1) := by decide +kernel
theorem dX9_undo_1 : decode cX9_undo 1 = .ok (.getfield 46, 3) := by decide +kernel
theorem dX9_undo_4 : decode cX9_undo 4 = .ok (.getfield 193, 3) := by decide +kernel
theorem dX9_undo_7 : decode cX9_undo 7 = .ok (.ifCond .ne 6, 3) := by decide +kernel
theorem dX9_undo_10 : decode cX9_undo 10 = .ok (.ldc 156, 2) := by decide +kernel
theorem dX9_undo_12 : decode cX9_undo 12 = .ok (.ireturn, 1) := by decide +kernel
theorem dX9_undo_13 : decode cX9_undo 13 = .ok (.aload_n 0, 1) := by decide +kernel
theorem dX9_undo_14 : decode cX9_undo 14 = .ok (.getfield 46, 3) := by decide +kernel
theorem dX9_undo_17 : decode cX9_undo 17 = .ok (.aload_n 0, 1) := by decide +kernel
theorem dX9_undo_18 : decode cX9_undo 18 = .ok (.getfield 36, 3) := by decide +kernel
theorem dX9_undo_21 : decode cX9_undo 21 = .ok (.invokevirtual 196, 3) := by decide +kernel
theorem dX9_undo_24 : decode cX9_undo 24 = .ok (.aload_n 0, 1) := by decide +kernel
theorem dX9_undo_25 : decode cX9_undo 25 = .ok (.getfield 46, 3) := by decide +kernel
theorem dX9_undo_28 : decode cX9_undo 28 = .ok (.getfield 193, 3) := by decide +kernel
theorem dX9_undo_31 : decode cX9_undo 31 = .ok (.ireturn, 1) := by decide +kernel
theorem dX9_ship_0 : decode cX9_ship 0 = .ok (.aload_n 0, 1) := by decide +kernel
theorem dX9_ship_1 : decode cX9_ship 1 = .ok (.iload_n 1, 1) := by decide +kernel
theorem dX9_ship_2 : decode cX9_ship 2 = .ok (.invokevirtual 177, 3) := by decide +kernel
theorem dX9_ship_5 : decode cX9_ship 5 = .ok (.ifCond .ne 6, 3) := by decide +kernel
theorem dX9_ship_8 : decode cX9_ship 8 = .ok (.ldc 79, 2) := by decide +kernel
theorem dX9_ship_10 : decode cX9_ship 10 = .ok (.ireturn, 1) := by decide +kernel
theorem dX9_ship_11 : decode cX9_ship 11 = .ok (.iload_n 2, 1) := by decide +kernel
theorem dX9_ship_12 : decode cX9_ship 12 = .ok (.tableswitch 85 0 4 #[36, 46, 56, 65, 75], 36) := by decide +kernel
theorem dX9_ship_48 : decode cX9_ship 48 = .ok (.aload_n 0, 1) := by decide +kernel
theorem dX9_ship_49 : decode cX9_ship 49 = .ok (.getfield 26, 3) := by decide +kernel
theorem dX9_ship_52 : decode cX9_ship 52 = .ok (.getfield 199, 3) := by decide +kernel
theorem dX9_ship_55 : decode cX9_ship 55 = .ok (.iload_n 1, 1) := by decide +kernel
theorem dX9_ship_56 : decode cX9_ship 56 = .ok (.iaload, 1) := by decide +kernel
theorem dX9_ship_57 : decode cX9_ship 57 = .ok (.ireturn, 1) := by decide +kernel
theorem dX9_ship_58 : decode cX9_ship 58 = .ok (.aload_n 0, 1) := by decide +kernel
theorem dX9_ship_59 : decode cX9_ship 59 = .ok (.getfield 36, 3) := by decide +kernel
theorem dX9_ship_62 : decode cX9_ship 62 = .ok (.getfield 190, 3) := by decide +kernel
theorem dX9_ship_65 : decode cX9_ship 65 = .ok (.iload_n 1, 1) := by decide +kernel
theorem dX9_ship_66 : decode cX9_ship 66 = .ok (.iaload, 1) := by decide +kernel
theorem dX9_ship_67 : decode cX9_ship 67 = .ok (.ireturn, 1) := by decide +kernel
theorem dX9_ship_68 : decode cX9_ship 68 = .ok (.aload_n 0, 1) := by decide +kernel
theorem dX9_ship_69 : decode cX9_ship 69 = .ok (.getfield 36, 3) := by decide +kernel
theorem dX9_ship_72 : decode cX9_ship 72 = .ok (.iload_n 1, 1) := by decide +kernel
theorem dX9_ship_73 : decode cX9_ship 73 = .ok (.invokevirtual 180, 3) := by decide +kernel
theorem dX9_ship_76 : decode cX9_ship 76 = .ok (.ireturn, 1) := by decide +kernel
theorem dX9_ship_77 : decode cX9_ship 77 = .ok (.aload_n 0, 1) := by decide +kernel
theorem dX9_ship_78 : decode cX9_ship 78 = .ok (.getfield 36, 3) := by decide +kernel
theorem dX9_ship_81 : decode cX9_ship 81 = .ok (.getfield 202, 3) := by decide +kernel
theorem dX9_ship_84 : decode cX9_ship 84 = .ok (.iload_n 1, 1) := by decide +kernel
theorem dX9_ship_85 : decode cX9_ship 85 = .ok (.iaload, 1) := by decide +kernel
theorem dX9_ship_86 : decode cX9_ship 86 = .ok (.ireturn, 1) := by decide +kernel
theorem dX9_ship_87 : decode cX9_ship 87 = .ok (.aload_n 0, 1) := by decide +kernel
theorem dX9_ship_88 : decode cX9_ship 88 = .ok (.getfield 36, 3) := by decide +kernel
theorem dX9_ship_91 : decode cX9_ship 91 = .ok (.getfield 205, 3) := by decide +kernel
theorem dX9_ship_94 : decode cX9_ship 94 = .ok (.iload_n 1, 1) := by decide +kernel
theorem dX9_ship_95 : decode cX9_ship 95 = .ok (.iaload, 1) := by decide +kernel
theorem dX9_ship_96 : decode cX9_ship 96 = .ok (.ireturn, 1) := by decide +kernel
theorem dX9_ship_97 : decode cX9_ship 97 = .ok (.ldc 79, 2) := by decide +kernel
theorem dX9_ship_99 : decode cX9_ship 99 = .ok (.ireturn, 1) := by decide +kernel
theorem dX9_tower_0 : decode cX9_tower 0 = .ok (.aload_n 0, 1) := by decide +kernel
theorem dX9_tower_1 : decode cX9_tower 1 = .ok (.iload_n 1, 1) := by decide +kernel
theorem dX9_tower_2 : decode cX9_tower 2 = .ok (.invokevirtual 167, 3) := by decide +kernel
theorem dX9_tower_5 : decode cX9_tower 5 = .ok (.ifCond .ne 6, 3) := by decide +kernel
theorem dX9_tower_8 : decode cX9_tower 8 = .ok (.ldc 79, 2) := by decide +kernel
theorem dX9_tower_10 : decode cX9_tower 10 = .ok (.ireturn, 1) := by decide +kernel
theorem dX9_tower_11 : decode cX9_tower 11 = .ok (.iload_n 2, 1) := by decide +kernel
theorem dX9_tower_12 : decode cX9_tower 12 = .ok (.tableswitch 61 0 2 #[28, 38, 48], 28) := by decide +kernel
theorem dX9_tower_40 : decode cX9_tower 40 = .ok (.aload_n 0, 1) := by decide +kernel
theorem dX9_tower_41 : decode cX9_tower 41 = .ok (.getfield 26, 3) := by decide +kernel
theorem dX9_tower_44 : decode cX9_tower 44 = .ok (.getfield 208, 3) := by decide +kernel
theorem dX9_tower_47 : decode cX9_tower 47 = .ok (.iload_n 1, 1) := by decide +kernel
theorem dX9_tower_48 : decode cX9_tower 48 = .ok (.iaload, 1) := by decide +kernel
theorem dX9_tower_49 : decode cX9_tower 49 = .ok (.ireturn, 1) := by decide +kernel
theorem dX9_tower_50 : decode cX9_tower 50 = .ok (.aload_n 0, 1) := by decide +kernel
theorem dX9_tower_51 : decode cX9_tower 51 = .ok (.getfield 36, 3) := by decide +kernel
theorem dX9_tower_54 : decode cX9_tower 54 = .ok (.getfield 211, 3) := by decide +kernel
theorem dX9_tower_57 : decode cX9_tower 57 = .ok (.iload_n 1, 1) := by decide +kernel
theorem dX9_tower_58 : decode cX9_tower 58 = .ok (.iaload, 1) := by decide +kernel
theorem dX9_tower_59 : decode cX9_tower 59 = .ok (.ireturn, 1) := by decide +kernel
theorem dX9_tower_60 : decode cX9_tower 60 = .ok (.aload_n 0, 1) := by decide +kernel
theorem dX9_tower_61 : decode cX9_tower 61 = .ok (.getfield 36, 3) := by decide +kernel
theorem dX9_tower_64 : decode cX9_tower 64 = .ok (.aload_n 0, 1) := by decide +kernel
theorem dX9_tower_65 : decode cX9_tower 65 = .ok (.getfield 26, 3) := by decide +kernel
theorem dX9_tower_68 : decode cX9_tower 68 = .ok (.iload_n 1, 1) := by decide +kernel
theorem dX9_tower_69 : decode cX9_tower 69 = .ok (.invokevirtual 214, 3) := by decide +kernel
theorem dX9_tower_72 : decode cX9_tower 72 = .ok (.ireturn, 1) := by decide +kernel
theorem dX9_tower_73 : decode cX9_tower 73 = .ok (.ldc 79, 2) := by decide +kernel
theorem dX9_tower_75 : decode cX9_tower 75 = .ok (.ireturn, 1) := by decide +kernel
theorem dX9_wave_0 : decode cX9_wave 0 = .ok (.aload_n 0, 1) := by decide +kernel
theorem dX9_wave_1 : decode cX9_wave 1 = .ok (.getfield 149, 3) := by decide +kernel
theorem dX9_wave_4 : decode cX9_wave 4 = .ok (.ifCond .ne 6, 3) := by decide +kernel
theorem dX9_wave_7 : decode cX9_wave 7 = .ok (.ldc 156, 2) := by decide +kernel
theorem dX9_wave_9 : decode cX9_wave 9 = .ok (.ireturn, 1) := by decide +kernel
theorem dX9_wave_10 : decode cX9_wave 10 = .ok (.iload_n 1, 1) := by decide +kernel
theorem dX9_wave_11 : decode cX9_wave 11 = .ok (.iconst 0, 1) := by decide +kernel
theorem dX9_wave_12 : decode cX9_wave 12 = .ok (.sipush 1199, 3) := by decide +kernel
theorem dX9_wave_15 : decode cX9_wave 15 = .ok (.invokestatic 75, 3) := by decide +kernel
theorem dX9_wave_18 : decode cX9_wave 18 = .ok (.ifCond .ne 6, 3) := by decide +kernel
theorem dX9_wave_21 : decode cX9_wave 21 = .ok (.ldc 79, 2) := by decide +kernel
theorem dX9_wave_23 : decode cX9_wave 23 = .ok (.ireturn, 1) := by decide +kernel
theorem dX9_wave_24 : decode cX9_wave 24 = .ok (.aload_n 0, 1) := by decide +kernel
theorem dX9_wave_25 : decode cX9_wave 25 = .ok (.getfield 26, 3) := by decide +kernel
theorem dX9_wave_28 : decode cX9_wave 28 = .ok (.iload_n 1, 1) := by decide +kernel
theorem dX9_wave_29 : decode cX9_wave 29 = .ok (.invokevirtual 218, 3) := by decide +kernel
theorem dX9_wave_32 : decode cX9_wave 32 = .ok (.istore_n 3, 1) := by decide +kernel
theorem dX9_wave_33 : decode cX9_wave 33 = .ok (.iload_n 2, 1) := by decide +kernel
theorem dX9_wave_34 : decode cX9_wave 34 = .ok (.tableswitch 68 0 3 #[30, 40, 49, 58], 30) := by decide +kernel
theorem dX9_wave_64 : decode cX9_wave 64 = .ok (.aload_n 0, 1) := by decide +kernel
theorem dX9_wave_65 : decode cX9_wave 65 = .ok (.getfield 26, 3) := by decide +kernel
theorem dX9_wave_68 : decode cX9_wave 68 = .ok (.getfield 221, 3) := by decide +kernel
theorem dX9_wave_71 : decode cX9_wave 71 = .ok (.iload_n 3, 1) := by decide +kernel
theorem dX9_wave_72 : decode cX9_wave 72 = .ok (.iaload, 1) := by decide +kernel
theorem dX9_wave_73 : decode cX9_wave 73 = .ok (.ireturn, 1) := by decide +kernel
theorem dX9_wave_74 : decode cX9_wave 74 = .ok (.aload_n 0, 1) := by decide +kernel
theorem dX9_wave_75 : decode cX9_wave 75 = .ok (.getfield 26, 3) := by decide +kernel
theorem dX9_wave_78 : decode cX9_wave 78 = .ok (.iload_n 3, 1) := by decide +kernel
theorem dX9_wave_79 : decode cX9_wave 79 = .ok (.invokevirtual 224, 3) := by decide +kernel
theorem dX9_wave_82 : decode cX9_wave 82 = .ok (.ireturn, 1) := by decide +kernel
theorem dX9_wave_83 : decode cX9_wave 83 = .ok (.aload_n 0, 1) := by decide +kernel
theorem dX9_wave_84 : decode cX9_wave 84 = .ok (.getfield 26, 3) := by decide +kernel
theorem dX9_wave_87 : decode cX9_wave 87 = .ok (.iload_n 1, 1) := by decide +kernel
theorem dX9_wave_88 : decode cX9_wave 88 = .ok (.invokevirtual 227, 3) := by decide +kernel
theorem dX9_wave_91 : decode cX9_wave 91 = .ok (.ireturn, 1) := by decide +kernel
theorem dX9_wave_92 : decode cX9_wave 92 = .ok (.aload_n 0, 1) := by decide +kernel
theorem dX9_wave_93 : decode cX9_wave 93 = .ok (.getfield 26, 3) := by decide +kernel
theorem dX9_wave_96 : decode cX9_wave 96 = .ok (.getfield 230, 3) := by decide +kernel
theorem dX9_wave_99 : decode cX9_wave 99 = .ok (.iload_n 3, 1) := by decide +kernel
theorem dX9_wave_100 : decode cX9_wave 100 = .ok (.iaload, 1) := by decide +kernel
theorem dX9_wave_101 : decode cX9_wave 101 = .ok (.ireturn, 1) := by decide +kernel
theorem dX9_wave_102 : decode cX9_wave 102 = .ok (.ldc 79, 2) := by decide +kernel
theorem dX9_wave_104 : decode cX9_wave 104 = .ok (.ireturn, 1) := by decide +kernel
theorem dX9_ahead_0 : decode cX9_ahead 0 = .ok (.aload_n 0, 1) := by decide +kernel
theorem dX9_ahead_1 : decode cX9_ahead 1 = .ok (.getfield 149, 3) := by decide +kernel
theorem dX9_ahead_4 : decode cX9_ahead 4 = .ok (.ifCond .ne 6, 3) := by decide +kernel
theorem dX9_ahead_7 : decode cX9_ahead 7 = .ok (.ldc 156, 2) := by decide +kernel
theorem dX9_ahead_9 : decode cX9_ahead 9 = .ok (.ireturn, 1) := by decide +kernel
theorem dX9_ahead_10 : decode cX9_ahead 10 = .ok (.iload_n 1, 1) := by decide +kernel
theorem dX9_ahead_11 : decode cX9_ahead 11 = .ok (.iconst 0, 1) := by decide +kernel
theorem dX9_ahead_12 : decode cX9_ahead 12 = .ok (.sipush 200, 3) := by decide +kernel
theorem dX9_ahead_15 : decode cX9_ahead 15 = .ok (.invokestatic 75, 3) := by decide +kernel
theorem dX9_ahead_18 : decode cX9_ahead 18 = .ok (.ifCond .eq 12, 3) := by decide +kernel
theorem dX9_ahead_21 : decode cX9_ahead 21 = .ok (.iload_n 2, 1) := by decide +kernel
theorem dX9_ahead_22 : decode cX9_ahead 22 = .ok (.iconst 0, 1) := by decide +kernel
theorem dX9_ahead_23 : decode cX9_ahead 23 = .ok (.iconst 1, 1) := by decide +kernel
theorem dX9_ahead_24 : decode cX9_ahead 24 = .ok (.invokestatic 75, 3) := by decide +kernel
theorem dX9_ahead_27 : decode cX9_ahead 27 = .ok (.ifCond .ne 6, 3) := by decide +kernel
theorem dX9_ahead_30 : decode cX9_ahead 30 = .ok (.ldc 79, 2) := by decide +kernel
theorem dX9_ahead_32 : decode cX9_ahead 32 = .ok (.ireturn, 1) := by decide +kernel
theorem dX9_ahead_33 : decode cX9_ahead 33 = .ok (.aload_n 0, 1) := by decide +kernel
theorem dX9_ahead_34 : decode cX9_ahead 34 = .ok (.iload_n 1, 1) := by decide +kernel
theorem dX9_ahead_35 : decode cX9_ahead 35 = .ok (.invokevirtual 233, 3) := by decide +kernel
theorem dX9_ahead_38 : decode cX9_ahead 38 = .ok (.aload_n 0, 1) := by decide +kernel
theorem dX9_ahead_39 : decode cX9_ahead 39 = .ok (.getfield 40, 3) := by decide +kernel
theorem dX9_ahead_42 : decode cX9_ahead 42 = .ok (.aload_n 0, 1) := by decide +kernel
theorem dX9_ahead_43 : decode cX9_ahead 43 = .ok (.getfield 26, 3) := by decide +kernel
theorem dX9_ahead_46 : decode cX9_ahead 46 = .ok (.iload_n 2, 1) := by decide +kernel
theorem dX9_ahead_47 : decode cX9_ahead 47 = .ok (.ifCond .ne 7, 3) := by decide +kernel
theorem dX9_ahead_50 : decode cX9_ahead 50 = .ok (.iconst 1, 1) := by decide +kernel
theorem dX9_ahead_51 : decode cX9_ahead 51 = .ok (.goto 4, 3) := by decide +kernel
theorem dX9_ahead_54 : decode cX9_ahead 54 = .ok (.iconst 2, 1) := by decide +kernel
theorem dX9_ahead_55 : decode cX9_ahead 55 = .ok (.invokevirtual 237, 3) := by decide +kernel
theorem dX9_ahead_58 : decode cX9_ahead 58 = .ok (.ireturn, 1) := by decide +kernel
theorem dX9_shipAhead_0 : decode cX9_shipAhead 0 = .ok (.aload_n 0, 1) := by decide +kernel
theorem dX9_shipAhead_1 : decode cX9_shipAhead 1 = .ok (.iload_n 1, 1) := by decide +kernel
theorem dX9_shipAhead_2 : decode cX9_shipAhead 2 = .ok (.invokevirtual 177, 3) := by decide +kernel
theorem dX9_shipAhead_5 : decode cX9_shipAhead 5 = .ok (.ifCond .eq 23, 3) := by decide +kernel
theorem dX9_shipAhead_8 : decode cX9_shipAhead 8 = .ok (.iload_n 2, 1) := by decide +kernel
theorem dX9_shipAhead_9 : decode cX9_shipAhead 9 = .ok (.iconst 0, 1) := by decide +kernel
theorem dX9_shipAhead_10 : decode cX9_shipAhead 10 = .ok (.sipush 200, 3) := by decide +kernel
theorem dX9_shipAhead_13 : decode cX9_shipAhead 13 = .ok (.invokestatic 75, 3) := by decide +kernel
theorem dX9_shipAhead_16 : decode cX9_shipAhead 16 = .ok (.ifCond .eq 12, 3) := by decide +kernel
theorem dX9_shipAhead_19 : decode cX9_shipAhead 19 = .ok (.iload_n 3, 1) := by decide +kernel
theorem dX9_shipAhead_20 : decode cX9_shipAhead 20 = .ok (.iconst 0, 1) := by decide +kernel
theorem dX9_shipAhead_21 : decode cX9_shipAhead 21 = .ok (.iconst 1, 1) := by decide +kernel
theorem dX9_shipAhead_22 : decode cX9_shipAhead 22 = .ok (.invokestatic 75, 3) := by decide +kernel
theorem dX9_shipAhead_25 : decode cX9_shipAhead 25 = .ok (.ifCond .ne 6, 3) := by decide +kernel
theorem dX9_shipAhead_28 : decode cX9_shipAhead 28 = .ok (.ldc 79, 2) := by decide +kernel
theorem dX9_shipAhead_30 : decode cX9_shipAhead 30 = .ok (.ireturn, 1) := by decide +kernel
theorem dX9_shipAhead_31 : decode cX9_shipAhead 31 = .ok (.aload_n 0, 1) := by decide +kernel
theorem dX9_shipAhead_32 : decode cX9_shipAhead 32 = .ok (.iload_n 2, 1) := by decide +kernel
theorem dX9_shipAhead_33 : decode cX9_shipAhead 33 = .ok (.invokevirtual 233, 3) := by decide +kernel
theorem dX9_shipAhead_36 : decode cX9_shipAhead 36 = .ok (.iload_n 3, 1) := by decide +kernel
theorem dX9_shipAhead_37 : decode cX9_shipAhead 37 = .ok (.ifCond .ne 15, 3) := by decide +kernel
theorem dX9_shipAhead_40 : decode cX9_shipAhead 40 = .ok (.aload_n 0, 1) := by decide +kernel
theorem dX9_shipAhead_41 : decode cX9_shipAhead 41 = .ok (.getfield 40, 3) := by decide +kernel
theorem dX9_shipAhead_44 : decode cX9_shipAhead 44 = .ok (.getfield 202, 3) := by decide +kernel
theorem dX9_shipAhead_47 : decode cX9_shipAhead 47 = .ok (.iload_n 1, 1) := by decide +kernel
theorem dX9_shipAhead_48 : decode cX9_shipAhead 48 = .ok (.iaload, 1) := by decide +kernel
theorem dX9_shipAhead_49 : decode cX9_shipAhead 49 = .ok (.goto 12, 3) := by decide +kernel
theorem dX9_shipAhead_52 : decode cX9_shipAhead 52 = .ok (.aload_n 0, 1) := by decide +kernel
theorem dX9_shipAhead_53 : decode cX9_shipAhead 53 = .ok (.getfield 40, 3) := by decide +kernel
theorem dX9_shipAhead_56 : decode cX9_shipAhead 56 = .ok (.getfield 205, 3) := by decide +kernel
theorem dX9_shipAhead_59 : decode cX9_shipAhead 59 = .ok (.iload_n 1, 1) := by decide +kernel
theorem dX9_shipAhead_60 : decode cX9_shipAhead 60 = .ok (.iaload, 1) := by decide +kernel
theorem dX9_shipAhead_61 : decode cX9_shipAhead 61 = .ok (.ireturn, 1) := by decide +kernel
theorem dX9_towerAhead_0 : decode cX9_towerAhead 0 = .ok (.aload_n 0, 1) := by decide +kernel
theorem dX9_towerAhead_1 : decode cX9_towerAhead 1 = .ok (.iload_n 1, 1) := by decide +kernel
theorem dX9_towerAhead_2 : decode cX9_towerAhead 2 = .ok (.invokevirtual 167, 3) := by decide +kernel
theorem dX9_towerAhead_5 : decode cX9_towerAhead 5 = .ok (.ifCond .eq 14, 3) := by decide +kernel
theorem dX9_towerAhead_8 : decode cX9_towerAhead 8 = .ok (.iload_n 2, 1) := by decide +kernel
theorem dX9_towerAhead_9 : decode cX9_towerAhead 9 = .ok (.iconst 0, 1) := by decide +kernel
theorem dX9_towerAhead_10 : decode cX9_towerAhead 10 = .ok (.sipush 200, 3) := by decide +kernel
theorem dX9_towerAhead_13 : decode cX9_towerAhead 13 = .ok (.invokestatic 75, 3) := by decide +kernel
theorem dX9_towerAhead_16 : decode cX9_towerAhead 16 = .ok (.ifCond .ne 6, 3) := by decide +kernel
theorem dX9_towerAhead_19 : decode cX9_towerAhead 19 = .ok (.ldc 79, 2) := by decide +kernel
theorem dX9_towerAhead_21 : decode cX9_towerAhead 21 = .ok (.ireturn, 1) := by decide +kernel
theorem dX9_towerAhead_22 : decode cX9_towerAhead 22 = .ok (.aload_n 0, 1) := by decide +kernel
theorem dX9_towerAhead_23 : decode cX9_towerAhead 23 = .ok (.iload_n 2, 1) := by decide +kernel
theorem dX9_towerAhead_24 : decode cX9_towerAhead 24 = .ok (.invokevirtual 233, 3) := by decide +kernel
theorem dX9_towerAhead_27 : decode cX9_towerAhead 27 = .ok (.aload_n 0, 1) := by decide +kernel
theorem dX9_towerAhead_28 : decode cX9_towerAhead 28 = .ok (.getfield 40, 3) := by decide +kernel
theorem dX9_towerAhead_31 : decode cX9_towerAhead 31 = .ok (.getfield 211, 3) := by decide +kernel
theorem dX9_towerAhead_34 : decode cX9_towerAhead 34 = .ok (.iload_n 1, 1) := by decide +kernel
theorem dX9_towerAhead_35 : decode cX9_towerAhead 35 = .ok (.iaload, 1) := by decide +kernel
theorem dX9_towerAhead_36 : decode cX9_towerAhead 36 = .ok (.ireturn, 1) := by decide +kernel
theorem dX9_called_0 : decode cX9_called 0 = .ok (.aload_n 0, 1) := by decide +kernel
theorem dX9_called_1 : decode cX9_called 1 = .ok (.iload_n 1, 1) := by decide +kernel
theorem dX9_called_2 : decode cX9_called 2 = .ok (.invokevirtual 167, 3) := by decide +kernel
theorem dX9_called_5 : decode cX9_called 5 = .ok (.ifCond .eq 7, 3) := by decide +kernel
theorem dX9_called_8 : decode cX9_called 8 = .ok (.iload_n 2, 1) := by decide +kernel
theorem dX9_called_9 : decode cX9_called 9 = .ok (.ifCond .ge 6, 3) := by decide +kernel
theorem dX9_called_12 : decode cX9_called 12 = .ok (.ldc 79, 2) := by decide +kernel
theorem dX9_called_14 : decode cX9_called 14 = .ok (.ireturn, 1) := by decide +kernel
theorem dX9_called_15 : decode cX9_called 15 = .ok (.aload_n 0, 1) := by decide +kernel
theorem dX9_called_16 : decode cX9_called 16 = .ok (.getfield 36, 3) := by decide +kernel
theorem dX9_called_19 : decode cX9_called 19 = .ok (.getfield 211, 3) := by decide +kernel
theorem dX9_called_22 : decode cX9_called 22 = .ok (.iload_n 1, 1) := by decide +kernel
theorem dX9_called_23 : decode cX9_called 23 = .ok (.iaload, 1) := by decide +kernel
theorem dX9_called_24 : decode cX9_called 24 = .ok (.istore_n 3, 1) := by decide +kernel
theorem dX9_called_25 : decode cX9_called 25 = .ok (.iload_n 2, 1) := by decide +kernel
theorem dX9_called_26 : decode cX9_called 26 = .ok (.istore 4, 2) := by decide +kernel
theorem dX9_called_28 : decode cX9_called 28 = .ok (.aload_n 0, 1) := by decide +kernel
theorem dX9_called_29 : decode cX9_called 29 = .ok (.getfield 36, 3) := by decide +kernel
theorem dX9_called_32 : decode cX9_called 32 = .ok (.getfield 157, 3) := by decide +kernel
theorem dX9_called_35 : decode cX9_called 35 = .ok (.istore 5, 2) := by decide +kernel
theorem dX9_called_37 : decode cX9_called 37 = .ok (.iload 5, 2) := by decide +kernel
theorem dX9_called_39 : decode cX9_called 39 = .ok (.aload_n 0, 1) := by decide +kernel
theorem dX9_called_40 : decode cX9_called 40 = .ok (.getfield 36, 3) := by decide +kernel
theorem dX9_called_43 : decode cX9_called 43 = .ok (.getfield 157, 3) := by decide +kernel
theorem dX9_called_46 : decode cX9_called 46 = .ok (.sipush 200, 3) := by decide +kernel
theorem dX9_called_49 : decode cX9_called 49 = .ok (.iadd, 1) := by decide +kernel
theorem dX9_called_50 : decode cX9_called 50 = .ok (.if_icmp .ge 60, 3) := by decide +kernel
theorem dX9_called_53 : decode cX9_called 53 = .ok (.aload_n 0, 1) := by decide +kernel
theorem dX9_called_54 : decode cX9_called 54 = .ok (.getfield 26, 3) := by decide +kernel
theorem dX9_called_57 : decode cX9_called 57 = .ok (.iload_n 1, 1) := by decide +kernel
theorem dX9_called_58 : decode cX9_called 58 = .ok (.aload_n 0, 1) := by decide +kernel
theorem dX9_called_59 : decode cX9_called 59 = .ok (.getfield 26, 3) := by decide +kernel
theorem dX9_called_62 : decode cX9_called 62 = .ok (.iload 5, 2) := by decide +kernel
theorem dX9_called_64 : decode cX9_called 64 = .ok (.invokevirtual 240, 3) := by decide +kernel
theorem dX9_called_67 : decode cX9_called 67 = .ok (.invokevirtual 243, 3) := by decide +kernel
theorem dX9_called_70 : decode cX9_called 70 = .ok (.istore 6, 2) := by decide +kernel
theorem dX9_called_72 : decode cX9_called 72 = .ok (.iload_n 3, 1) := by decide +kernel
theorem dX9_called_73 : decode cX9_called 73 = .ok (.iload 6, 2) := by decide +kernel
theorem dX9_called_75 : decode cX9_called 75 = .ok (.aload_n 0, 1) := by decide +kernel
theorem dX9_called_76 : decode cX9_called 76 = .ok (.getfield 36, 3) := by decide +kernel
theorem dX9_called_79 : decode cX9_called 79 = .ok (.getfield 174, 3) := by decide +kernel
theorem dX9_called_82 : decode cX9_called 82 = .ok (.invokestatic 246, 3) := by decide +kernel
theorem dX9_called_85 : decode cX9_called 85 = .ok (.ifCond .eq 14, 3) := by decide +kernel
theorem dX9_called_88 : decode cX9_called 88 = .ok (.iload 4, 2) := by decide +kernel
theorem dX9_called_90 : decode cX9_called 90 = .ok (.ifCond .ne 6, 3) := by decide +kernel
theorem dX9_called_93 : decode cX9_called 93 = .ok (.iload 5, 2) := by decide +kernel
theorem dX9_called_95 : decode cX9_called 95 = .ok (.ireturn, 1) := by decide +kernel
theorem dX9_called_96 : decode cX9_called 96 = .ok (.iinc 4 (-1), 3) := by decide +kernel
theorem dX9_called_99 : decode cX9_called 99 = .ok (.iload_n 3, 1) := by decide +kernel
theorem dX9_called_100 : decode cX9_called 100 = .ok (.iload 6, 2) := by decide +kernel
theorem dX9_called_102 : decode cX9_called 102 = .ok (.iadd, 1) := by decide +kernel
theorem dX9_called_103 : decode cX9_called 103 = .ok (.istore_n 3, 1) := by decide +kernel
theorem dX9_called_104 : decode cX9_called 104 = .ok (.iinc 5 1, 3) := by decide +kernel
theorem dX9_called_107 : decode cX9_called 107 = .ok (.goto (-70), 3) := by decide +kernel
theorem dX9_called_110 : decode cX9_called 110 = .ok (.ldc 249, 2) := by decide +kernel
theorem dX9_called_112 : decode cX9_called 112 = .ok (.ireturn, 1) := by decide +kernel
theorem dX9_fit_0 : decode cX9_fit 0 = .ok (.aload_n 0, 1) := by decide +kernel
theorem dX9_fit_1 : decode cX9_fit 1 = .ok (.iload_n 1, 1) := by decide +kernel
theorem dX9_fit_2 : decode cX9_fit 2 = .ok (.invokevirtual 177, 3) := by decide +kernel
theorem dX9_fit_5 : decode cX9_fit 5 = .ok (.ifCond .eq 7, 3) := by decide +kernel
theorem dX9_fit_8 : decode cX9_fit 8 = .ok (.iload_n 2, 1) := by decide +kernel
theorem dX9_fit_9 : decode cX9_fit 9 = .ok (.ifCond .ge 6, 3) := by decide +kernel
theorem dX9_fit_12 : decode cX9_fit 12 = .ok (.ldc 79, 2) := by decide +kernel
theorem dX9_fit_14 : decode cX9_fit 14 = .ok (.ireturn, 1) := by decide +kernel
theorem dX9_fit_15 : decode cX9_fit 15 = .ok (.iload_n 2, 1) := by decide +kernel
theorem dX9_fit_16 : decode cX9_fit 16 = .ok (.istore_n 3, 1) := by decide +kernel
theorem dX9_fit_17 : decode cX9_fit 17 = .ok (.aload_n 0, 1) := by decide +kernel
theorem dX9_fit_18 : decode cX9_fit 18 = .ok (.getfield 36, 3) := by decide +kernel
theorem dX9_fit_21 : decode cX9_fit 21 = .ok (.getfield 157, 3) := by decide +kernel
theorem dX9_fit_24 : decode cX9_fit 24 = .ok (.istore 4, 2) := by decide +kernel
theorem dX9_fit_26 : decode cX9_fit 26 = .ok (.iload 4, 2) := by decide +kernel
theorem dX9_fit_28 : decode cX9_fit 28 = .ok (.aload_n 0, 1) := by decide +kernel
theorem dX9_fit_29 : decode cX9_fit 29 = .ok (.getfield 36, 3) := by decide +kernel
theorem dX9_fit_32 : decode cX9_fit 32 = .ok (.getfield 157, 3) := by decide +kernel
theorem dX9_fit_35 : decode cX9_fit 35 = .ok (.bipush 100, 2) := by decide +kernel
theorem dX9_fit_37 : decode cX9_fit 37 = .ok (.iadd, 1) := by decide +kernel
theorem dX9_fit_38 : decode cX9_fit 38 = .ok (.if_icmp .ge 40, 3) := by decide +kernel
theorem dX9_fit_41 : decode cX9_fit 41 = .ok (.aload_n 0, 1) := by decide +kernel
theorem dX9_fit_42 : decode cX9_fit 42 = .ok (.getfield 26, 3) := by decide +kernel
theorem dX9_fit_45 : decode cX9_fit 45 = .ok (.iload 4, 2) := by decide +kernel
theorem dX9_fit_47 : decode cX9_fit 47 = .ok (.invokevirtual 227, 3) := by decide +kernel
theorem dX9_fit_50 : decode cX9_fit 50 = .ok (.aload_n 0, 1) := by decide +kernel
theorem dX9_fit_51 : decode cX9_fit 51 = .ok (.getfield 26, 3) := by decide +kernel
theorem dX9_fit_54 : decode cX9_fit 54 = .ok (.getfield 199, 3) := by decide +kernel
theorem dX9_fit_57 : decode cX9_fit 57 = .ok (.iload_n 1, 1) := by decide +kernel
theorem dX9_fit_58 : decode cX9_fit 58 = .ok (.iaload, 1) := by decide +kernel
theorem dX9_fit_59 : decode cX9_fit 59 = .ok (.if_icmp .lt 13, 3) := by decide +kernel
theorem dX9_fit_62 : decode cX9_fit 62 = .ok (.iload_n 3, 1) := by decide +kernel
theorem dX9_fit_63 : decode cX9_fit 63 = .ok (.ifCond .ne 6, 3) := by decide +kernel
theorem dX9_fit_66 : decode cX9_fit 66 = .ok (.iload 4, 2) := by decide +kernel
theorem dX9_fit_68 : decode cX9_fit 68 = .ok (.ireturn, 1) := by decide +kernel
theorem dX9_fit_69 : decode cX9_fit 69 = .ok (.iinc 3 (-1), 3) := by decide +kernel
theorem dX9_fit_72 : decode cX9_fit 72 = .ok (.iinc 4 1, 3) := by decide +kernel
theorem dX9_fit_75 : decode cX9_fit 75 = .ok (.goto (-49), 3) := by decide +kernel
theorem dX9_fit_78 : decode cX9_fit 78 = .ok (.ldc 249, 2) := by decide +kernel
theorem dX9_fit_80 : decode cX9_fit 80 = .ok (.ireturn, 1) := by decide +kernel
theorem dX9_highest_0 : decode cX9_highest 0 = .ok (.aload_n 0, 1) := by decide +kernel
theorem dX9_highest_1 : decode cX9_highest 1 = .ok (.getfield 149, 3) := by decide +kernel
theorem dX9_highest_4 : decode cX9_highest 4 = .ok (.ifCond .ne 6, 3) := by decide +kernel
theorem dX9_highest_7 : decode cX9_highest 7 = .ok (.ldc 156, 2) := by decide +kernel
theorem dX9_highest_9 : decode cX9_highest 9 = .ok (.ireturn, 1) := by decide +kernel
theorem dX9_highest_10 : decode cX9_highest 10 = .ok (.iload_n 1, 1) := by decide +kernel
theorem dX9_highest_11 : decode cX9_highest 11 = .ok (.iconst 1, 1) := by decide +kernel
theorem dX9_highest_12 : decode cX9_highest 12 = .ok (.bipush 100, 2) := by decide +kernel
theorem dX9_highest_14 : decode cX9_highest 14 = .ok (.invokestatic 75, 3) := by decide +kernel
theorem dX9_highest_17 : decode cX9_highest 17 = .ok (.ifCond .eq 12, 3) := by decide +kernel
theorem dX9_highest_20 : decode cX9_highest 20 = .ok (.iload_n 2, 1) := by decide +kernel
theorem dX9_highest_21 : decode cX9_highest 21 = .ok (.iconst 0, 1) := by decide +kernel
theorem dX9_highest_22 : decode cX9_highest 22 = .ok (.iconst 1, 1) := by decide +kernel
theorem dX9_highest_23 : decode cX9_highest 23 = .ok (.invokestatic 75, 3) := by decide +kernel
theorem dX9_highest_26 : decode cX9_highest 26 = .ok (.ifCond .ne 6, 3) := by decide +kernel
theorem dX9_highest_29 : decode cX9_highest 29 = .ok (.ldc 79, 2) := by decide +kernel
theorem dX9_highest_31 : decode cX9_highest 31 = .ok (.ireturn, 1) := by decide +kernel
theorem dX9_highest_32 : decode cX9_highest 32 = .ok (.aload_n 0, 1) := by decide +kernel
theorem dX9_highest_33 : decode cX9_highest 33 = .ok (.getfield 36, 3) := by decide +kernel
theorem dX9_highest_36 : decode cX9_highest 36 = .ok (.getfield 157, 3) := by decide +kernel
theorem dX9_highest_39 : decode cX9_highest 39 = .ok (.istore_n 3, 1) := by decide +kernel
theorem dX9_highest_40 : decode cX9_highest 40 = .ok (.aload_n 0, 1) := by decide +kernel
theorem dX9_highest_41 : decode cX9_highest 41 = .ok (.getfield 26, 3) := by decide +kernel
theorem dX9_highest_44 : decode cX9_highest 44 = .ok (.iload_n 3, 1) := by decide +kernel
theorem dX9_highest_45 : decode cX9_highest 45 = .ok (.invokevirtual 227, 3) := by decide +kernel
theorem dX9_highest_48 : decode cX9_highest 48 = .ok (.istore 4, 2) := by decide +kernel
theorem dX9_highest_50 : decode cX9_highest 50 = .ok (.aload_n 0, 1) := by decide +kernel
theorem dX9_highest_51 : decode cX9_highest 51 = .ok (.getfield 36, 3) := by decide +kernel
theorem dX9_highest_54 : decode cX9_highest 54 = .ok (.getfield 157, 3) := by decide +kernel
theorem dX9_highest_57 : decode cX9_highest 57 = .ok (.iconst 1, 1) := by decide +kernel
theorem dX9_highest_58 : decode cX9_highest 58 = .ok (.iadd, 1) := by decide +kernel
theorem dX9_highest_59 : decode cX9_highest 59 = .ok (.istore 5, 2) := by decide +kernel
theorem dX9_highest_61 : decode cX9_highest 61 = .ok (.iload 5, 2) := by decide +kernel
theorem dX9_highest_63 : decode cX9_highest 63 = .ok (.aload_n 0, 1) := by decide +kernel
theorem dX9_highest_64 : decode cX9_highest 64 = .ok (.getfield 36, 3) := by decide +kernel
theorem dX9_highest_67 : decode cX9_highest 67 = .ok (.getfield 157, 3) := by decide +kernel
theorem dX9_highest_70 : decode cX9_highest 70 = .ok (.iload_n 1, 1) := by decide +kernel
theorem dX9_highest_71 : decode cX9_highest 71 = .ok (.iadd, 1) := by decide +kernel
theorem dX9_highest_72 : decode cX9_highest 72 = .ok (.if_icmp .ge 34, 3) := by decide +kernel
theorem dX9_highest_75 : decode cX9_highest 75 = .ok (.aload_n 0, 1) := by decide +kernel
theorem dX9_highest_76 : decode cX9_highest 76 = .ok (.getfield 26, 3) := by decide +kernel
theorem dX9_highest_79 : decode cX9_highest 79 = .ok (.iload 5, 2) := by decide +kernel
theorem dX9_highest_81 : decode cX9_highest 81 = .ok (.invokevirtual 227, 3) := by decide +kernel
theorem dX9_highest_84 : decode cX9_highest 84 = .ok (.istore 6, 2) := by decide +kernel
theorem dX9_highest_86 : decode cX9_highest 86 = .ok (.iload 6, 2) := by decide +kernel
theorem dX9_highest_88 : decode cX9_highest 88 = .ok (.iload 4, 2) := by decide +kernel
theorem dX9_highest_90 : decode cX9_highest 90 = .ok (.if_icmp .le 10, 3) := by decide +kernel
theorem dX9_highest_93 : decode cX9_highest 93 = .ok (.iload 5, 2) := by decide +kernel
theorem dX9_highest_95 : decode cX9_highest 95 = .ok (.istore_n 3, 1) := by decide +kernel
theorem dX9_highest_96 : decode cX9_highest 96 = .ok (.iload 6, 2) := by decide +kernel
theorem dX9_highest_98 : decode cX9_highest 98 = .ok (.istore 4, 2) := by decide +kernel
theorem dX9_highest_100 : decode cX9_highest 100 = .ok (.iinc 5 1, 3) := by decide +kernel
theorem dX9_highest_103 : decode cX9_highest 103 = .ok (.goto (-42), 3) := by decide +kernel
theorem dX9_highest_106 : decode cX9_highest 106 = .ok (.iload_n 2, 1) := by decide +kernel
theorem dX9_highest_107 : decode cX9_highest 107 = .ok (.ifCond .ne 7, 3) := by decide +kernel
theorem dX9_highest_110 : decode cX9_highest 110 = .ok (.iload_n 3, 1) := by decide +kernel
theorem dX9_highest_111 : decode cX9_highest 111 = .ok (.goto 5, 3) := by decide +kernel
theorem dX9_highest_114 : decode cX9_highest 114 = .ok (.iload 4, 2) := by decide +kernel
theorem dX9_highest_116 : decode cX9_highest 116 = .ok (.ireturn, 1) := by decide +kernel
theorem dX9_order_0 : decode cX9_order 0 = .ok (.aload_n 0, 1) := by decide +kernel
theorem dX9_order_1 : decode cX9_order 1 = .ok (.getfield 149, 3) := by decide +kernel
theorem dX9_order_4 : decode cX9_order 4 = .ok (.ifCond .ne 6, 3) := by decide +kernel
theorem dX9_order_7 : decode cX9_order 7 = .ok (.ldc 156, 2) := by decide +kernel
theorem dX9_order_9 : decode cX9_order 9 = .ok (.ireturn, 1) := by decide +kernel
theorem dX9_order_10 : decode cX9_order 10 = .ok (.iload_n 1, 1) := by decide +kernel
theorem dX9_order_11 : decode cX9_order 11 = .ok (.iconst 1, 1) := by decide +kernel
theorem dX9_order_12 : decode cX9_order 12 = .ok (.bipush 60, 2) := by decide +kernel
theorem dX9_order_14 : decode cX9_order 14 = .ok (.invokestatic 75, 3) := by decide +kernel
theorem dX9_order_17 : decode cX9_order 17 = .ok (.ifCond .eq 20, 3) := by decide +kernel
theorem dX9_order_20 : decode cX9_order 20 = .ok (.iload_n 2, 1) := by decide +kernel
theorem dX9_order_21 : decode cX9_order 21 = .ok (.iconst (-1), 1) := by decide +kernel
theorem dX9_order_22 : decode cX9_order 22 = .ok (.aload_n 0, 1) := by decide +kernel
theorem dX9_order_23 : decode cX9_order 23 = .ok (.getfield 26, 3) := by decide +kernel
theorem dX9_order_26 : decode cX9_order 26 = .ok (.getfield 250, 3) := by decide +kernel
theorem dX9_order_29 : decode cX9_order 29 = .ok (.iconst 1, 1) := by decide +kernel
theorem dX9_order_30 : decode cX9_order 30 = .ok (.isub, 1) := by decide +kernel
theorem dX9_order_31 : decode cX9_order 31 = .ok (.invokestatic 75, 3) := by decide +kernel
theorem dX9_order_34 : decode cX9_order 34 = .ok (.ifCond .ne 6, 3) := by decide +kernel
theorem dX9_order_37 : decode cX9_order 37 = .ok (.ldc 79, 2) := by decide +kernel
theorem dX9_order_39 : decode cX9_order 39 = .ok (.ireturn, 1) := by decide +kernel
theorem dX9_order_40 : decode cX9_order 40 = .ok (.aload_n 0, 1) := by decide +kernel
theorem dX9_order_41 : decode cX9_order 41 = .ok (.getfield 53, 3) := by decide +kernel
theorem dX9_order_44 : decode cX9_order 44 = .ok (.aload_n 0, 1) := by decide +kernel
theorem dX9_order_45 : decode cX9_order 45 = .ok (.getfield 26, 3) := by decide +kernel
theorem dX9_order_48 : decode cX9_order 48 = .ok (.aload_n 0, 1) := by decide +kernel
theorem dX9_order_49 : decode cX9_order 49 = .ok (.getfield 36, 3) := by decide +kernel
theorem dX9_order_52 : decode cX9_order 52 = .ok (.iload_n 1, 1) := by decide +kernel
theorem dX9_order_53 : decode cX9_order 53 = .ok (.invokevirtual 253, 3) := by decide +kernel
theorem dX9_order_56 : decode cX9_order 56 = .ok (.aload_n 0, 1) := by decide +kernel
theorem dX9_order_57 : decode cX9_order 57 = .ok (.getfield 53, 3) := by decide +kernel
theorem dX9_order_60 : decode cX9_order 60 = .ok (.aload_n 0, 1) := by decide +kernel
theorem dX9_order_61 : decode cX9_order 61 = .ok (.getfield 26, 3) := by decide +kernel
theorem dX9_order_64 : decode cX9_order 64 = .ok (.aload_n 0, 1) := by decide +kernel
theorem dX9_order_65 : decode cX9_order 65 = .ok (.getfield 36, 3) := by decide +kernel
theorem dX9_order_68 : decode cX9_order 68 = .ok (.invokevirtual 257, 3) := by decide +kernel
theorem dX9_order_71 : decode cX9_order 71 = .ok (.iload_n 2, 1) := by decide +kernel
theorem dX9_order_72 : decode cX9_order 72 = .ok (.ifCond .lt 15, 3) := by decide +kernel
theorem dX9_order_75 : decode cX9_order 75 = .ok (.aload_n 0, 1) := by decide +kernel
theorem dX9_order_76 : decode cX9_order 76 = .ok (.getfield 53, 3) := by decide +kernel
theorem dX9_order_79 : decode cX9_order 79 = .ok (.getfield 261, 3) := by decide +kernel
theorem dX9_order_82 : decode cX9_order 82 = .ok (.iload_n 2, 1) := by decide +kernel
theorem dX9_order_83 : decode cX9_order 83 = .ok (.iaload, 1) := by decide +kernel
theorem dX9_order_84 : decode cX9_order 84 = .ok (.goto 23, 3) := by decide +kernel
theorem dX9_order_87 : decode cX9_order 87 = .ok (.aload_n 0, 1) := by decide +kernel
theorem dX9_order_88 : decode cX9_order 88 = .ok (.getfield 53, 3) := by decide +kernel
theorem dX9_order_91 : decode cX9_order 91 = .ok (.getfield 264, 3) := by decide +kernel
theorem dX9_order_94 : decode cX9_order 94 = .ok (.aload_n 0, 1) := by decide +kernel
theorem dX9_order_95 : decode cX9_order 95 = .ok (.getfield 36, 3) := by decide +kernel
theorem dX9_order_98 : decode cX9_order 98 = .ok (.aload_n 0, 1) := by decide +kernel
theorem dX9_order_99 : decode cX9_order 99 = .ok (.getfield 26, 3) := by decide +kernel
theorem dX9_order_102 : decode cX9_order 102 = .ok (.iconst 1, 1) := by decide +kernel
theorem dX9_order_103 : decode cX9_order 103 = .ok (.invokevirtual 237, 3) := by decide +kernel
theorem dX9_order_106 : decode cX9_order 106 = .ok (.iadd, 1) := by decide +kernel
theorem dX9_order_107 : decode cX9_order 107 = .ok (.ireturn, 1) := by decide +kernel
theorem dX9_laws_0 : decode cX9_laws 0 = .ok (.aload_n 0, 1) := by decide +kernel
theorem dX9_laws_1 : decode cX9_laws 1 = .ok (.getfield 149, 3) := by decide +kernel
theorem dX9_laws_4 : decode cX9_laws 4 = .ok (.ifCond .ne 6, 3) := by decide +kernel
theorem dX9_laws_7 : decode cX9_laws 7 = .ok (.ldc 156, 2) := by decide +kernel
theorem dX9_laws_9 : decode cX9_laws 9 = .ok (.ireturn, 1) := by decide +kernel
theorem dX9_laws_10 : decode cX9_laws 10 = .ok (.iload_n 1, 1) := by decide +kernel
theorem dX9_laws_11 : decode cX9_laws 11 = .ok (.iconst 1, 1) := by decide +kernel
theorem dX9_laws_12 : decode cX9_laws 12 = .ok (.sipush 200, 3) := by decide +kernel
theorem dX9_laws_15 : decode cX9_laws 15 = .ok (.invokestatic 75, 3) := by decide +kernel
theorem dX9_laws_18 : decode cX9_laws 18 = .ok (.ifCond .eq 12, 3) := by decide +kernel
theorem dX9_laws_21 : decode cX9_laws 21 = .ok (.iload_n 2, 1) := by decide +kernel
theorem dX9_laws_22 : decode cX9_laws 22 = .ok (.iconst 0, 1) := by decide +kernel
theorem dX9_laws_23 : decode cX9_laws 23 = .ok (.iconst 1, 1) := by decide +kernel
theorem dX9_laws_24 : decode cX9_laws 24 = .ok (.invokestatic 75, 3) := by decide +kernel
theorem dX9_laws_27 : decode cX9_laws 27 = .ok (.ifCond .ne 6, 3) := by decide +kernel
theorem dX9_laws_30 : decode cX9_laws 30 = .ok (.ldc 79, 2) := by decide +kernel
theorem dX9_laws_32 : decode cX9_laws 32 = .ok (.ireturn, 1) := by decide +kernel
theorem dX9_laws_33 : decode cX9_laws 33 = .ok (.iconst 2, 1) := by decide +kernel
theorem dX9_laws_34 : decode cX9_laws 34 = .ok (.istore_n 3, 1) := by decide +kernel
theorem dX9_laws_35 : decode cX9_laws 35 = .ok (.iconst (-1), 1) := by decide +kernel
theorem dX9_laws_36 : decode cX9_laws 36 = .ok (.istore 4, 2) := by decide +kernel
theorem dX9_laws_38 : decode cX9_laws 38 = .ok (.iconst 2, 1) := by decide +kernel
theorem dX9_laws_39 : decode cX9_laws 39 = .ok (.istore 5, 2) := by decide +kernel
theorem dX9_laws_41 : decode cX9_laws 41 = .ok (.iload 5, 2) := by decide +kernel
theorem dX9_laws_43 : decode cX9_laws 43 = .ok (.bipush 12, 2) := by decide +kernel
theorem dX9_laws_45 : decode cX9_laws 45 = .ok (.if_icmp .gt 69, 3) := by decide +kernel
theorem dX9_laws_48 : decode cX9_laws 48 = .ok (.aload_n 0, 1) := by decide +kernel
theorem dX9_laws_49 : decode cX9_laws 49 = .ok (.getfield 40, 3) := by decide +kernel
theorem dX9_laws_52 : decode cX9_laws 52 = .ok (.aload_n 0, 1) := by decide +kernel
theorem dX9_laws_53 : decode cX9_laws 53 = .ok (.getfield 36, 3) := by decide +kernel
theorem dX9_laws_56 : decode cX9_laws 56 = .ok (.invokevirtual 143, 3) := by decide +kernel
theorem dX9_laws_59 : decode cX9_laws 59 = .ok (.aload_n 0, 1) := by decide +kernel
theorem dX9_laws_60 : decode cX9_laws 60 = .ok (.getfield 40, 3) := by decide +kernel
theorem dX9_laws_63 : decode cX9_laws 63 = .ok (.iload 5, 2) := by decide +kernel
theorem dX9_laws_65 : decode cX9_laws 65 = .ok (.putfield 174, 3) := by decide +kernel
theorem dX9_laws_68 : decode cX9_laws 68 = .ok (.aload_n 0, 1) := by decide +kernel
theorem dX9_laws_69 : decode cX9_laws 69 = .ok (.getfield 40, 3) := by decide +kernel
theorem dX9_laws_72 : decode cX9_laws 72 = .ok (.aload_n 0, 1) := by decide +kernel
theorem dX9_laws_73 : decode cX9_laws 73 = .ok (.getfield 26, 3) := by decide +kernel
theorem dX9_laws_76 : decode cX9_laws 76 = .ok (.iload_n 1, 1) := by decide +kernel
theorem dX9_laws_77 : decode cX9_laws 77 = .ok (.invokevirtual 267, 3) := by decide +kernel
theorem dX9_laws_80 : decode cX9_laws 80 = .ok (.aload_n 0, 1) := by decide +kernel
theorem dX9_laws_81 : decode cX9_laws 81 = .ok (.getfield 40, 3) := by decide +kernel
theorem dX9_laws_84 : decode cX9_laws 84 = .ok (.aload_n 0, 1) := by decide +kernel
theorem dX9_laws_85 : decode cX9_laws 85 = .ok (.getfield 26, 3) := by decide +kernel
theorem dX9_laws_88 : decode cX9_laws 88 = .ok (.iconst 1, 1) := by decide +kernel
theorem dX9_laws_89 : decode cX9_laws 89 = .ok (.invokevirtual 237, 3) := by decide +kernel
theorem dX9_laws_92 : decode cX9_laws 92 = .ok (.istore 6, 2) := by decide +kernel
theorem dX9_laws_94 : decode cX9_laws 94 = .ok (.iload 6, 2) := by decide +kernel
theorem dX9_laws_96 : decode cX9_laws 96 = .ok (.iload 4, 2) := by decide +kernel
theorem dX9_laws_98 : decode cX9_laws 98 = .ok (.if_icmp .le 10, 3) := by decide +kernel
theorem dX9_laws_101 : decode cX9_laws 101 = .ok (.iload 5, 2) := by decide +kernel
theorem dX9_laws_103 : decode cX9_laws 103 = .ok (.istore_n 3, 1) := by decide +kernel
theorem dX9_laws_104 : decode cX9_laws 104 = .ok (.iload 6, 2) := by decide +kernel
theorem dX9_laws_106 : decode cX9_laws 106 = .ok (.istore 4, 2) := by decide +kernel
theorem dX9_laws_108 : decode cX9_laws 108 = .ok (.iinc 5 1, 3) := by decide +kernel
theorem dX9_laws_111 : decode cX9_laws 111 = .ok (.goto (-70), 3) := by decide +kernel
theorem dX9_laws_114 : decode cX9_laws 114 = .ok (.iload_n 2, 1) := by decide +kernel
theorem dX9_laws_115 : decode cX9_laws 115 = .ok (.ifCond .ne 7, 3) := by decide +kernel
theorem dX9_laws_118 : decode cX9_laws 118 = .ok (.iload_n 3, 1) := by decide +kernel
theorem dX9_laws_119 : decode cX9_laws 119 = .ok (.goto 5, 3) := by decide +kernel
theorem dX9_laws_122 : decode cX9_laws 122 = .ok (.iload 4, 2) := by decide +kernel
theorem dX9_laws_124 : decode cX9_laws 124 = .ok (.ireturn, 1) := by decide +kernel
theorem dX9_bribe_0 : decode cX9_bribe 0 = .ok (.aload_n 0, 1) := by decide +kernel
theorem dX9_bribe_1 : decode cX9_bribe 1 = .ok (.iload_n 1, 1) := by decide +kernel
theorem dX9_bribe_2 : decode cX9_bribe 2 = .ok (.invokevirtual 177, 3) := by decide +kernel
theorem dX9_bribe_5 : decode cX9_bribe 5 = .ok (.ifCond .eq 12, 3) := by decide +kernel
theorem dX9_bribe_8 : decode cX9_bribe 8 = .ok (.iload_n 2, 1) := by decide +kernel
theorem dX9_bribe_9 : decode cX9_bribe 9 = .ok (.iconst 0, 1) := by decide +kernel
theorem dX9_bribe_10 : decode cX9_bribe 10 = .ok (.iconst 2, 1) := by decide +kernel
theorem dX9_bribe_11 : decode cX9_bribe 11 = .ok (.invokestatic 75, 3) := by decide +kernel
theorem dX9_bribe_14 : decode cX9_bribe 14 = .ok (.ifCond .ne 6, 3) := by decide +kernel
theorem dX9_bribe_17 : decode cX9_bribe 17 = .ok (.ldc 79, 2) := by decide +kernel
theorem dX9_bribe_19 : decode cX9_bribe 19 = .ok (.ireturn, 1) := by decide +kernel
theorem dX9_bribe_20 : decode cX9_bribe 20 = .ok (.aload_n 0, 1) := by decide +kernel
theorem dX9_bribe_21 : decode cX9_bribe 21 = .ok (.getfield 36, 3) := by decide +kernel
theorem dX9_bribe_24 : decode cX9_bribe 24 = .ok (.iload_n 1, 1) := by decide +kernel
theorem dX9_bribe_25 : decode cX9_bribe 25 = .ok (.invokevirtual 187, 3) := by decide +kernel
theorem dX9_bribe_28 : decode cX9_bribe 28 = .ok (.ifCond .ne 6, 3) := by decide +kernel
theorem dX9_bribe_31 : decode cX9_bribe 31 = .ok (.ldc 156, 2) := by decide +kernel
theorem dX9_bribe_33 : decode cX9_bribe 33 = .ok (.ireturn, 1) := by decide +kernel
theorem dX9_bribe_34 : decode cX9_bribe 34 = .ok (.ldc 249, 2) := by decide +kernel
theorem dX9_bribe_36 : decode cX9_bribe 36 = .ok (.istore_n 3, 1) := by decide +kernel
theorem dX9_bribe_37 : decode cX9_bribe 37 = .ok (.ldc 249, 2) := by decide +kernel
theorem dX9_bribe_39 : decode cX9_bribe 39 = .ok (.istore 4, 2) := by decide +kernel
theorem dX9_bribe_41 : decode cX9_bribe 41 = .ok (.ldc 249, 2) := by decide +kernel
theorem dX9_bribe_43 : decode cX9_bribe 43 = .ok (.istore 5, 2) := by decide +kernel
theorem dX9_bribe_45 : decode cX9_bribe 45 = .ok (.bipush (-4), 2) := by decide +kernel
theorem dX9_bribe_47 : decode cX9_bribe 47 = .ok (.istore 6, 2) := by decide +kernel
theorem dX9_bribe_49 : decode cX9_bribe 49 = .ok (.iload 6, 2) := by decide +kernel
theorem dX9_bribe_51 : decode cX9_bribe 51 = .ok (.iconst 4, 1) := by decide +kernel
theorem dX9_bribe_52 : decode cX9_bribe 52 = .ok (.if_icmp .gt 94, 3) := by decide +kernel
theorem dX9_bribe_55 : decode cX9_bribe 55 = .ok (.aload_n 0, 1) := by decide +kernel
theorem dX9_bribe_56 : decode cX9_bribe 56 = .ok (.getfield 40, 3) := by decide +kernel
theorem dX9_bribe_59 : decode cX9_bribe 59 = .ok (.aload_n 0, 1) := by decide +kernel
theorem dX9_bribe_60 : decode cX9_bribe 60 = .ok (.getfield 36, 3) := by decide +kernel
theorem dX9_bribe_63 : decode cX9_bribe 63 = .ok (.invokevirtual 143, 3) := by decide +kernel
theorem dX9_bribe_66 : decode cX9_bribe 66 = .ok (.aload_n 0, 1) := by decide +kernel
theorem dX9_bribe_67 : decode cX9_bribe 67 = .ok (.getfield 40, 3) := by decide +kernel
theorem dX9_bribe_70 : decode cX9_bribe 70 = .ok (.aload_n 0, 1) := by decide +kernel
theorem dX9_bribe_71 : decode cX9_bribe 71 = .ok (.getfield 36, 3) := by decide +kernel
theorem dX9_bribe_74 : decode cX9_bribe 74 = .ok (.getfield 190, 3) := by decide +kernel
theorem dX9_bribe_77 : decode cX9_bribe 77 = .ok (.iload_n 1, 1) := by decide +kernel
theorem dX9_bribe_78 : decode cX9_bribe 78 = .ok (.iaload, 1) := by decide +kernel
theorem dX9_bribe_79 : decode cX9_bribe 79 = .ok (.iload 6, 2) := by decide +kernel
theorem dX9_bribe_81 : decode cX9_bribe 81 = .ok (.invokevirtual 170, 3) := by decide +kernel
theorem dX9_bribe_84 : decode cX9_bribe 84 = .ok (.pop, 1) := by decide +kernel
theorem dX9_bribe_85 : decode cX9_bribe 85 = .ok (.aload_n 0, 1) := by decide +kernel
theorem dX9_bribe_86 : decode cX9_bribe 86 = .ok (.getfield 40, 3) := by decide +kernel
theorem dX9_bribe_89 : decode cX9_bribe 89 = .ok (.aload_n 0, 1) := by decide +kernel
theorem dX9_bribe_90 : decode cX9_bribe 90 = .ok (.getfield 26, 3) := by decide +kernel
theorem dX9_bribe_93 : decode cX9_bribe 93 = .ok (.sipush 200, 3) := by decide +kernel
theorem dX9_bribe_96 : decode cX9_bribe 96 = .ok (.invokevirtual 267, 3) := by decide +kernel
theorem dX9_bribe_99 : decode cX9_bribe 99 = .ok (.aload_n 0, 1) := by decide +kernel
theorem dX9_bribe_100 : decode cX9_bribe 100 = .ok (.getfield 40, 3) := by decide +kernel
theorem dX9_bribe_103 : decode cX9_bribe 103 = .ok (.iload_n 1, 1) := by decide +kernel
theorem dX9_bribe_104 : decode cX9_bribe 104 = .ok (.iload 4, 2) := by decide +kernel
theorem dX9_bribe_106 : decode cX9_bribe 106 = .ok (.invokevirtual 271, 3) := by decide +kernel
theorem dX9_bribe_109 : decode cX9_bribe 109 = .ok (.ifCond .eq 31, 3) := by decide +kernel
theorem dX9_bribe_112 : decode cX9_bribe 112 = .ok (.iload 6, 2) := by decide +kernel
theorem dX9_bribe_114 : decode cX9_bribe 114 = .ok (.istore_n 3, 1) := by decide +kernel
theorem dX9_bribe_115 : decode cX9_bribe 115 = .ok (.aload_n 0, 1) := by decide +kernel
theorem dX9_bribe_116 : decode cX9_bribe 116 = .ok (.getfield 40, 3) := by decide +kernel
theorem dX9_bribe_119 : decode cX9_bribe 119 = .ok (.getfield 205, 3) := by decide +kernel
theorem dX9_bribe_122 : decode cX9_bribe 122 = .ok (.iload_n 1, 1) := by decide +kernel
theorem dX9_bribe_123 : decode cX9_bribe 123 = .ok (.iaload, 1) := by decide +kernel
theorem dX9_bribe_124 : decode cX9_bribe 124 = .ok (.istore 4, 2) := by decide +kernel
theorem dX9_bribe_126 : decode cX9_bribe 126 = .ok (.aload_n 0, 1) := by decide +kernel
theorem dX9_bribe_127 : decode cX9_bribe 127 = .ok (.getfield 40, 3) := by decide +kernel
theorem dX9_bribe_130 : decode cX9_bribe 130 = .ok (.aload_n 0, 1) := by decide +kernel
theorem dX9_bribe_131 : decode cX9_bribe 131 = .ok (.getfield 26, 3) := by decide +kernel
theorem dX9_bribe_134 : decode cX9_bribe 134 = .ok (.iconst 2, 1) := by decide +kernel
theorem dX9_bribe_135 : decode cX9_bribe 135 = .ok (.invokevirtual 237, 3) := by decide +kernel
theorem dX9_bribe_138 : decode cX9_bribe 138 = .ok (.istore 5, 2) := by decide +kernel
theorem dX9_bribe_140 : decode cX9_bribe 140 = .ok (.iinc 6 1, 3) := by decide +kernel
theorem dX9_bribe_143 : decode cX9_bribe 143 = .ok (.goto (-94), 3) := by decide +kernel
theorem dX9_bribe_146 : decode cX9_bribe 146 = .ok (.iload_n 2, 1) := by decide +kernel
theorem dX9_bribe_147 : decode cX9_bribe 147 = .ok (.ifCond .ne 7, 3) := by decide +kernel
theorem dX9_bribe_150 : decode cX9_bribe 150 = .ok (.iload_n 3, 1) := by decide +kernel
theorem dX9_bribe_151 : decode cX9_bribe 151 = .ok (.goto 15, 3) := by decide +kernel
theorem dX9_bribe_154 : decode cX9_bribe 154 = .ok (.iload_n 2, 1) := by decide +kernel
theorem dX9_bribe_155 : decode cX9_bribe 155 = .ok (.iconst 1, 1) := by decide +kernel
theorem dX9_bribe_156 : decode cX9_bribe 156 = .ok (.if_icmp .ne 8, 3) := by decide +kernel
theorem dX9_bribe_159 : decode cX9_bribe 159 = .ok (.iload 4, 2) := by decide +kernel
theorem dX9_bribe_161 : decode cX9_bribe 161 = .ok (.goto 5, 3) := by decide +kernel
theorem dX9_bribe_164 : decode cX9_bribe 164 = .ok (.iload 5, 2) := by decide +kernel
theorem dX9_bribe_166 : decode cX9_bribe 166 = .ok (.ireturn, 1) := by decide +kernel
theorem dX9_heed_0 : decode cX9_heed 0 = .ok (.aload_n 0, 1) := by decide +kernel
theorem dX9_heed_1 : decode cX9_heed 1 = .ok (.iload_n 1, 1) := by decide +kernel
theorem dX9_heed_2 : decode cX9_heed 2 = .ok (.invokevirtual 177, 3) := by decide +kernel
theorem dX9_heed_5 : decode cX9_heed 5 = .ok (.ifCond .ne 6, 3) := by decide +kernel
theorem dX9_heed_8 : decode cX9_heed 8 = .ok (.ldc 79, 2) := by decide +kernel
theorem dX9_heed_10 : decode cX9_heed 10 = .ok (.ireturn, 1) := by decide +kernel
theorem dX9_heed_11 : decode cX9_heed 11 = .ok (.aload_n 0, 1) := by decide +kernel
theorem dX9_heed_12 : decode cX9_heed 12 = .ok (.getfield 36, 3) := by decide +kernel
theorem dX9_heed_15 : decode cX9_heed 15 = .ok (.iload_n 1, 1) := by decide +kernel
theorem dX9_heed_16 : decode cX9_heed 16 = .ok (.invokevirtual 187, 3) := by decide +kernel
theorem dX9_heed_19 : decode cX9_heed 19 = .ok (.ifCond .ne 6, 3) := by decide +kernel
theorem dX9_heed_22 : decode cX9_heed 22 = .ok (.ldc 156, 2) := by decide +kernel
theorem dX9_heed_24 : decode cX9_heed 24 = .ok (.ireturn, 1) := by decide +kernel
theorem dX9_heed_25 : decode cX9_heed 25 = .ok (.ldc 249, 2) := by decide +kernel
theorem dX9_heed_27 : decode cX9_heed 27 = .ok (.istore_n 2, 1) := by decide +kernel
theorem dX9_heed_28 : decode cX9_heed 28 = .ok (.ldc 249, 2) := by decide +kernel
theorem dX9_heed_30 : decode cX9_heed 30 = .ok (.istore_n 3, 1) := by decide +kernel
theorem dX9_heed_31 : decode cX9_heed 31 = .ok (.iconst 0, 1) := by decide +kernel
theorem dX9_heed_32 : decode cX9_heed 32 = .ok (.istore 4, 2) := by decide +kernel
theorem dX9_heed_34 : decode cX9_heed 34 = .ok (.iload 4, 2) := by decide +kernel
theorem dX9_heed_36 : decode cX9_heed 36 = .ok (.aload_n 0, 1) := by decide +kernel
theorem dX9_heed_37 : decode cX9_heed 37 = .ok (.getfield 26, 3) := by decide +kernel
theorem dX9_heed_40 : decode cX9_heed 40 = .ok (.getfield 274, 3) := by decide +kernel
theorem dX9_heed_43 : decode cX9_heed 43 = .ok (.if_icmp .ge 70, 3) := by decide +kernel
theorem dX9_heed_46 : decode cX9_heed 46 = .ok (.aload_n 0, 1) := by decide +kernel
theorem dX9_heed_47 : decode cX9_heed 47 = .ok (.getfield 40, 3) := by decide +kernel
theorem dX9_heed_50 : decode cX9_heed 50 = .ok (.aload_n 0, 1) := by decide +kernel
theorem dX9_heed_51 : decode cX9_heed 51 = .ok (.getfield 36, 3) := by decide +kernel
theorem dX9_heed_54 : decode cX9_heed 54 = .ok (.invokevirtual 143, 3) := by decide +kernel
theorem dX9_heed_57 : decode cX9_heed 57 = .ok (.aload_n 0, 1) := by decide +kernel
theorem dX9_heed_58 : decode cX9_heed 58 = .ok (.getfield 40, 3) := by decide +kernel
theorem dX9_heed_61 : decode cX9_heed 61 = .ok (.getfield 190, 3) := by decide +kernel
theorem dX9_heed_64 : decode cX9_heed 64 = .ok (.iload_n 1, 1) := by decide +kernel
theorem dX9_heed_65 : decode cX9_heed 65 = .ok (.iload 4, 2) := by decide +kernel
theorem dX9_heed_67 : decode cX9_heed 67 = .ok (.iastore, 1) := by decide +kernel
theorem dX9_heed_68 : decode cX9_heed 68 = .ok (.aload_n 0, 1) := by decide +kernel
theorem dX9_heed_69 : decode cX9_heed 69 = .ok (.getfield 40, 3) := by decide +kernel
theorem dX9_heed_72 : decode cX9_heed 72 = .ok (.aload_n 0, 1) := by decide +kernel
theorem dX9_heed_73 : decode cX9_heed 73 = .ok (.getfield 26, 3) := by decide +kernel
theorem dX9_heed_76 : decode cX9_heed 76 = .ok (.sipush 200, 3) := by decide +kernel
theorem dX9_heed_79 : decode cX9_heed 79 = .ok (.invokevirtual 267, 3) := by decide +kernel
theorem dX9_heed_82 : decode cX9_heed 82 = .ok (.aload_n 0, 1) := by decide +kernel
theorem dX9_heed_83 : decode cX9_heed 83 = .ok (.getfield 40, 3) := by decide +kernel
theorem dX9_heed_86 : decode cX9_heed 86 = .ok (.iload_n 1, 1) := by decide +kernel
theorem dX9_heed_87 : decode cX9_heed 87 = .ok (.iload_n 3, 1) := by decide +kernel
theorem dX9_heed_88 : decode cX9_heed 88 = .ok (.invokevirtual 271, 3) := by decide +kernel
theorem dX9_heed_91 : decode cX9_heed 91 = .ok (.ifCond .eq 16, 3) := by decide +kernel
theorem dX9_heed_94 : decode cX9_heed 94 = .ok (.iload 4, 2) := by decide +kernel
theorem dX9_heed_96 : decode cX9_heed 96 = .ok (.istore_n 2, 1) := by decide +kernel
theorem dX9_heed_97 : decode cX9_heed 97 = .ok (.aload_n 0, 1) := by decide +kernel
theorem dX9_heed_98 : decode cX9_heed 98 = .ok (.getfield 40, 3) := by decide +kernel
theorem dX9_heed_101 : decode cX9_heed 101 = .ok (.getfield 205, 3) := by decide +kernel
theorem dX9_heed_104 : decode cX9_heed 104 = .ok (.iload_n 1, 1) := by decide +kernel
theorem dX9_heed_105 : decode cX9_heed 105 = .ok (.iaload, 1) := by decide +kernel
theorem dX9_heed_106 : decode cX9_heed 106 = .ok (.istore_n 3, 1) := by decide +kernel
theorem dX9_heed_107 : decode cX9_heed 107 = .ok (.iinc 4 1, 3) := by decide +kernel
theorem dX9_heed_110 : decode cX9_heed 110 = .ok (.goto (-76), 3) := by decide +kernel
theorem dX9_heed_113 : decode cX9_heed 113 = .ok (.iload_n 2, 1) := by decide +kernel
theorem dX9_heed_114 : decode cX9_heed 114 = .ok (.ireturn, 1) := by decide +kernel
theorem dX9_agreed_0 : decode cX9_agreed 0 = .ok (.aload_n 0, 1) := by decide +kernel
theorem dX9_agreed_1 : decode cX9_agreed 1 = .ok (.getfield 149, 3) := by decide +kernel
theorem dX9_agreed_4 : decode cX9_agreed 4 = .ok (.ifCond .ne 6, 3) := by decide +kernel
theorem dX9_agreed_7 : decode cX9_agreed 7 = .ok (.ldc 156, 2) := by decide +kernel
theorem dX9_agreed_9 : decode cX9_agreed 9 = .ok (.ireturn, 1) := by decide +kernel
theorem dX9_agreed_10 : decode cX9_agreed 10 = .ok (.iload_n 1, 1) := by decide +kernel
theorem dX9_agreed_11 : decode cX9_agreed 11 = .ok (.iconst 1, 1) := by decide +kernel
theorem dX9_agreed_12 : decode cX9_agreed 12 = .ok (.bipush 100, 2) := by decide +kernel
theorem dX9_agreed_14 : decode cX9_agreed 14 = .ok (.invokestatic 75, 3) := by decide +kernel
theorem dX9_agreed_17 : decode cX9_agreed 17 = .ok (.ifCond .eq 12, 3) := by decide +kernel
theorem dX9_agreed_20 : decode cX9_agreed 20 = .ok (.iload_n 2, 1) := by decide +kernel
theorem dX9_agreed_21 : decode cX9_agreed 21 = .ok (.iconst 0, 1) := by decide +kernel
theorem dX9_agreed_22 : decode cX9_agreed 22 = .ok (.iconst 1, 1) := by decide +kernel
theorem dX9_agreed_23 : decode cX9_agreed 23 = .ok (.invokestatic 75, 3) := by decide +kernel
theorem dX9_agreed_26 : decode cX9_agreed 26 = .ok (.ifCond .ne 6, 3) := by decide +kernel
theorem dX9_agreed_29 : decode cX9_agreed 29 = .ok (.ldc 79, 2) := by decide +kernel
theorem dX9_agreed_31 : decode cX9_agreed 31 = .ok (.ireturn, 1) := by decide +kernel
theorem dX9_agreed_32 : decode cX9_agreed 32 = .ok (.iconst 0, 1) := by decide +kernel
theorem dX9_agreed_33 : decode cX9_agreed 33 = .ok (.istore_n 3, 1) := by decide +kernel
theorem dX9_agreed_34 : decode cX9_agreed 34 = .ok (.ldc 249, 2) := by decide +kernel
theorem dX9_agreed_36 : decode cX9_agreed 36 = .ok (.istore 4, 2) := by decide +kernel
theorem dX9_agreed_38 : decode cX9_agreed 38 = .ok (.aload_n 0, 1) := by decide +kernel
theorem dX9_agreed_39 : decode cX9_agreed 39 = .ok (.getfield 40, 3) := by decide +kernel
theorem dX9_agreed_42 : decode cX9_agreed 42 = .ok (.aload_n 0, 1) := by decide +kernel
theorem dX9_agreed_43 : decode cX9_agreed 43 = .ok (.getfield 36, 3) := by decide +kernel
theorem dX9_agreed_46 : decode cX9_agreed 46 = .ok (.invokevirtual 143, 3) := by decide +kernel
theorem dX9_agreed_49 : decode cX9_agreed 49 = .ok (.aload_n 0, 1) := by decide +kernel
theorem dX9_agreed_50 : decode cX9_agreed 50 = .ok (.getfield 36, 3) := by decide +kernel
theorem dX9_agreed_53 : decode cX9_agreed 53 = .ok (.getfield 157, 3) := by decide +kernel
theorem dX9_agreed_56 : decode cX9_agreed 56 = .ok (.istore 5, 2) := by decide +kernel
theorem dX9_agreed_58 : decode cX9_agreed 58 = .ok (.iload 5, 2) := by decide +kernel
theorem dX9_agreed_60 : decode cX9_agreed 60 = .ok (.aload_n 0, 1) := by decide +kernel
theorem dX9_agreed_61 : decode cX9_agreed 61 = .ok (.getfield 36, 3) := by decide +kernel
theorem dX9_agreed_64 : decode cX9_agreed 64 = .ok (.getfield 157, 3) := by decide +kernel
theorem dX9_agreed_67 : decode cX9_agreed 67 = .ok (.iload_n 1, 1) := by decide +kernel
theorem dX9_agreed_68 : decode cX9_agreed 68 = .ok (.iadd, 1) := by decide +kernel
theorem dX9_agreed_69 : decode cX9_agreed 69 = .ok (.if_icmp .ge 40, 3) := by decide +kernel
theorem dX9_agreed_72 : decode cX9_agreed 72 = .ok (.aload_n 0, 1) := by decide +kernel
theorem dX9_agreed_73 : decode cX9_agreed 73 = .ok (.getfield 40, 3) := by decide +kernel
theorem dX9_agreed_76 : decode cX9_agreed 76 = .ok (.aload_n 0, 1) := by decide +kernel
theorem dX9_agreed_77 : decode cX9_agreed 77 = .ok (.getfield 26, 3) := by decide +kernel
theorem dX9_agreed_80 : decode cX9_agreed 80 = .ok (.invokevirtual 163, 3) := by decide +kernel
theorem dX9_agreed_83 : decode cX9_agreed 83 = .ok (.iconst 2, 1) := by decide +kernel
theorem dX9_agreed_84 : decode cX9_agreed 84 = .ok (.if_icmp .lt 19, 3) := by decide +kernel
theorem dX9_agreed_87 : decode cX9_agreed 87 = .ok (.iload_n 3, 1) := by decide +kernel
theorem dX9_agreed_88 : decode cX9_agreed 88 = .ok (.ifCond .ne 8, 3) := by decide +kernel
theorem dX9_agreed_91 : decode cX9_agreed 91 = .ok (.iload 5, 2) := by decide +kernel
theorem dX9_agreed_93 : decode cX9_agreed 93 = .ok (.goto 5, 3) := by decide +kernel
theorem dX9_agreed_96 : decode cX9_agreed 96 = .ok (.iload 4, 2) := by decide +kernel
theorem dX9_agreed_98 : decode cX9_agreed 98 = .ok (.istore 4, 2) := by decide +kernel
theorem dX9_agreed_100 : decode cX9_agreed 100 = .ok (.iinc 3 1, 3) := by decide +kernel
theorem dX9_agreed_103 : decode cX9_agreed 103 = .ok (.iinc 5 1, 3) := by decide +kernel
theorem dX9_agreed_106 : decode cX9_agreed 106 = .ok (.goto (-48), 3) := by decide +kernel
theorem dX9_agreed_109 : decode cX9_agreed 109 = .ok (.iload_n 2, 1) := by decide +kernel
theorem dX9_agreed_110 : decode cX9_agreed 110 = .ok (.ifCond .ne 7, 3) := by decide +kernel
theorem dX9_agreed_113 : decode cX9_agreed 113 = .ok (.iload_n 3, 1) := by decide +kernel
theorem dX9_agreed_114 : decode cX9_agreed 114 = .ok (.goto 5, 3) := by decide +kernel
theorem dX9_agreed_117 : decode cX9_agreed 117 = .ok (.iload 4, 2) := by decide +kernel
theorem dX9_agreed_119 : decode cX9_agreed 119 = .ok (.ireturn, 1) := by decide +kernel
theorem dX9_log_0 : decode cX9_log 0 = .ok (.aload_n 0, 1) := by decide +kernel
theorem dX9_log_1 : decode cX9_log 1 = .ok (.getfield 149, 3) := by decide +kernel
theorem dX9_log_4 : decode cX9_log 4 = .ok (.ifCond .ne 6, 3) := by decide +kernel
theorem dX9_log_7 : decode cX9_log 7 = .ok (.ldc 156, 2) := by decide +kernel
theorem dX9_log_9 : decode cX9_log 9 = .ok (.ireturn, 1) := by decide +kernel
theorem dX9_log_10 : decode cX9_log 10 = .ok (.aload_n 0, 1) := by decide +kernel
theorem dX9_log_11 : decode cX9_log 11 = .ok (.iload_n 1, 1) := by decide +kernel
theorem dX9_log_12 : decode cX9_log 12 = .ok (.invokevirtual 71, 3) := by decide +kernel
theorem dX9_log_15 : decode cX9_log 15 = .ok (.ifCond .eq 23, 3) := by decide +kernel
theorem dX9_log_18 : decode cX9_log 18 = .ok (.iload_n 3, 1) := by decide +kernel
theorem dX9_log_19 : decode cX9_log 19 = .ok (.iconst 1, 1) := by decide +kernel
theorem dX9_log_20 : decode cX9_log 20 = .ok (.bipush 20, 2) := by decide +kernel
theorem dX9_log_22 : decode cX9_log 22 = .ok (.invokestatic 75, 3) := by decide +kernel
theorem dX9_log_25 : decode cX9_log 25 = .ok (.ifCond .eq 13, 3) := by decide +kernel
theorem dX9_log_28 : decode cX9_log 28 = .ok (.iload 4, 2) := by decide +kernel
theorem dX9_log_30 : decode cX9_log 30 = .ok (.iconst 0, 1) := by decide +kernel
theorem dX9_log_31 : decode cX9_log 31 = .ok (.iconst 1, 1) := by decide +kernel
theorem dX9_log_32 : decode cX9_log 32 = .ok (.invokestatic 75, 3) := by decide +kernel
theorem dX9_log_35 : decode cX9_log 35 = .ok (.ifCond .ne 6, 3) := by decide +kernel
theorem dX9_log_38 : decode cX9_log 38 = .ok (.ldc 79, 2) := by decide +kernel
theorem dX9_log_40 : decode cX9_log 40 = .ok (.ireturn, 1) := by decide +kernel
theorem dX9_log_41 : decode cX9_log 41 = .ok (.aload_n 0, 1) := by decide +kernel
theorem dX9_log_42 : decode cX9_log 42 = .ok (.getfield 10, 3) := by decide +kernel
theorem dX9_log_45 : decode cX9_log 45 = .ok (.iload_n 1, 1) := by decide +kernel
theorem dX9_log_46 : decode cX9_log 46 = .ok (.invokevirtual 91, 3) := by decide +kernel
theorem dX9_log_49 : decode cX9_log 49 = .ok (.ifCond .eq 9, 3) := by decide +kernel
theorem dX9_log_52 : decode cX9_log 52 = .ok (.aload_n 0, 1) := by decide +kernel
theorem dX9_log_53 : decode cX9_log 53 = .ok (.iconst 1, 1) := by decide +kernel
theorem dX9_log_54 : decode cX9_log 54 = .ok (.invokevirtual 80, 3) := by decide +kernel
theorem dX9_log_57 : decode cX9_log 57 = .ok (.ireturn, 1) := by decide +kernel
theorem dX9_log_58 : decode cX9_log 58 = .ok (.aload_n 0, 1) := by decide +kernel
theorem dX9_log_59 : decode cX9_log 59 = .ok (.getfield 10, 3) := by decide +kernel
theorem dX9_log_62 : decode cX9_log 62 = .ok (.iload_n 1, 1) := by decide +kernel
theorem dX9_log_63 : decode cX9_log 63 = .ok (.iload_n 2, 1) := by decide +kernel
theorem dX9_log_64 : decode cX9_log 64 = .ok (.iload_n 3, 1) := by decide +kernel
theorem dX9_log_65 : decode cX9_log 65 = .ok (.invokevirtual 94, 3) := by decide +kernel
theorem dX9_log_68 : decode cX9_log 68 = .ok (.ifCond .ne 9, 3) := by decide +kernel
theorem dX9_log_71 : decode cX9_log 71 = .ok (.aload_n 0, 1) := by decide +kernel
theorem dX9_log_72 : decode cX9_log 72 = .ok (.iconst 2, 1) := by decide +kernel
theorem dX9_log_73 : decode cX9_log 73 = .ok (.invokevirtual 80, 3) := by decide +kernel
theorem dX9_log_76 : decode cX9_log 76 = .ok (.ireturn, 1) := by decide +kernel
theorem dX9_log_77 : decode cX9_log 77 = .ok (.aload_n 0, 1) := by decide +kernel
theorem dX9_log_78 : decode cX9_log 78 = .ok (.getfield 10, 3) := by decide +kernel
theorem dX9_log_81 : decode cX9_log 81 = .ok (.iload_n 1, 1) := by decide +kernel
theorem dX9_log_82 : decode cX9_log 82 = .ok (.iload_n 2, 1) := by decide +kernel
theorem dX9_log_83 : decode cX9_log 83 = .ok (.iload_n 3, 1) := by decide +kernel
theorem dX9_log_84 : decode cX9_log 84 = .ok (.sipush 399, 3) := by decide +kernel
theorem dX9_log_87 : decode cX9_log 87 = .ok (.invokevirtual 277, 3) := by decide +kernel
theorem dX9_log_90 : decode cX9_log 90 = .ok (.ifCond .ne 6, 3) := by decide +kernel
theorem dX9_log_93 : decode cX9_log 93 = .ok (.ldc 79, 2) := by decide +kernel
theorem dX9_log_95 : decode cX9_log 95 = .ok (.ireturn, 1) := by decide +kernel
theorem dX9_log_96 : decode cX9_log 96 = .ok (.iconst 0, 1) := by decide +kernel
theorem dX9_log_97 : decode cX9_log 97 = .ok (.istore 5, 2) := by decide +kernel
theorem dX9_log_99 : decode cX9_log 99 = .ok (.ldc 249, 2) := by decide +kernel
theorem dX9_log_101 : decode cX9_log 101 = .ok (.istore 6, 2) := by decide +kernel
theorem dX9_log_103 : decode cX9_log 103 = .ok (.iconst 0, 1) := by decide +kernel
theorem dX9_log_104 : decode cX9_log 104 = .ok (.istore 7, 2) := by decide +kernel
theorem dX9_log_106 : decode cX9_log 106 = .ok (.iload 7, 2) := by decide +kernel
theorem dX9_log_108 : decode cX9_log 108 = .ok (.bipush 72, 2) := by decide +kernel
theorem dX9_log_110 : decode cX9_log 110 = .ok (.if_icmp .ge 38, 3) := by decide +kernel
theorem dX9_log_113 : decode cX9_log 113 = .ok (.aload_n 0, 1) := by decide +kernel
theorem dX9_log_114 : decode cX9_log 114 = .ok (.iload 7, 2) := by decide +kernel
theorem dX9_log_116 : decode cX9_log 116 = .ok (.iload_n 1, 1) := by decide +kernel
theorem dX9_log_117 : decode cX9_log 117 = .ok (.iload_n 2, 1) := by decide +kernel
theorem dX9_log_118 : decode cX9_log 118 = .ok (.iload_n 3, 1) := by decide +kernel
theorem dX9_log_119 : decode cX9_log 119 = .ok (.invokevirtual 281, 3) := by decide +kernel
theorem dX9_log_122 : decode cX9_log 122 = .ok (.ifCond .eq 20, 3) := by decide +kernel
theorem dX9_log_125 : decode cX9_log 125 = .ok (.iload 5, 2) := by decide +kernel
theorem dX9_log_127 : decode cX9_log 127 = .ok (.ifCond .ne 8, 3) := by decide +kernel
theorem dX9_log_130 : decode cX9_log 130 = .ok (.iload 7, 2) := by decide +kernel
theorem dX9_log_132 : decode cX9_log 132 = .ok (.goto 5, 3) := by decide +kernel
theorem dX9_log_135 : decode cX9_log 135 = .ok (.iload 6, 2) := by decide +kernel
theorem dX9_log_137 : decode cX9_log 137 = .ok (.istore 6, 2) := by decide +kernel
theorem dX9_log_139 : decode cX9_log 139 = .ok (.iinc 5 1, 3) := by decide +kernel
theorem dX9_log_142 : decode cX9_log 142 = .ok (.iinc 7 1, 3) := by decide +kernel
theorem dX9_log_145 : decode cX9_log 145 = .ok (.goto (-39), 3) := by decide +kernel
theorem dX9_log_148 : decode cX9_log 148 = .ok (.aload_n 0, 1) := by decide +kernel
theorem dX9_log_149 : decode cX9_log 149 = .ok (.iload 4, 2) := by decide +kernel
theorem dX9_log_151 : decode cX9_log 151 = .ok (.ifCond .ne 8, 3) := by decide +kernel
theorem dX9_log_154 : decode cX9_log 154 = .ok (.iload 5, 2) := by decide +kernel
theorem dX9_log_156 : decode cX9_log 156 = .ok (.goto 5, 3) := by decide +kernel
theorem dX9_log_159 : decode cX9_log 159 = .ok (.iload 6, 2) := by decide +kernel
theorem dX9_log_161 : decode cX9_log 161 = .ok (.invokevirtual 88, 3) := by decide +kernel
theorem dX9_log_164 : decode cX9_log 164 = .ok (.ireturn, 1) := by decide +kernel
theorem dX9_wreck_0 : decode cX9_wreck 0 = .ok (.aload_n 0, 1) := by decide +kernel
theorem dX9_wreck_1 : decode cX9_wreck 1 = .ok (.getfield 149, 3) := by decide +kernel
theorem dX9_wreck_4 : decode cX9_wreck 4 = .ok (.ifCond .ne 6, 3) := by decide +kernel
theorem dX9_wreck_7 : decode cX9_wreck 7 = .ok (.ldc 156, 2) := by decide +kernel
theorem dX9_wreck_9 : decode cX9_wreck 9 = .ok (.ireturn, 1) := by decide +kernel
theorem dX9_wreck_10 : decode cX9_wreck 10 = .ok (.iload_n 1, 1) := by decide +kernel
theorem dX9_wreck_11 : decode cX9_wreck 11 = .ok (.iconst 0, 1) := by decide +kernel
theorem dX9_wreck_12 : decode cX9_wreck 12 = .ok (.bipush 99, 2) := by decide +kernel
theorem dX9_wreck_14 : decode cX9_wreck 14 = .ok (.invokestatic 75, 3) := by decide +kernel
theorem dX9_wreck_17 : decode cX9_wreck 17 = .ok (.ifCond .eq 33, 3) := by decide +kernel
theorem dX9_wreck_20 : decode cX9_wreck 20 = .ok (.iload_n 2, 1) := by decide +kernel
theorem dX9_wreck_21 : decode cX9_wreck 21 = .ok (.iconst 1, 1) := by decide +kernel
theorem dX9_wreck_22 : decode cX9_wreck 22 = .ok (.bipush 99, 2) := by decide +kernel
theorem dX9_wreck_24 : decode cX9_wreck 24 = .ok (.invokestatic 75, 3) := by decide +kernel
theorem dX9_wreck_27 : decode cX9_wreck 27 = .ok (.ifCond .eq 23, 3) := by decide +kernel
theorem dX9_wreck_30 : decode cX9_wreck 30 = .ok (.iload_n 3, 1) := by decide +kernel
theorem dX9_wreck_31 : decode cX9_wreck 31 = .ok (.iconst 1, 1) := by decide +kernel
theorem dX9_wreck_32 : decode cX9_wreck 32 = .ok (.bipush 100, 2) := by decide +kernel
theorem dX9_wreck_34 : decode cX9_wreck 34 = .ok (.invokestatic 75, 3) := by decide +kernel
theorem dX9_wreck_37 : decode cX9_wreck 37 = .ok (.ifCond .eq 13, 3) := by decide +kernel
theorem dX9_wreck_40 : decode cX9_wreck 40 = .ok (.iload 4, 2) := by decide +kernel
theorem dX9_wreck_42 : decode cX9_wreck 42 = .ok (.iconst 0, 1) := by decide +kernel
theorem dX9_wreck_43 : decode cX9_wreck 43 = .ok (.iconst 1, 1) := by decide +kernel
theorem dX9_wreck_44 : decode cX9_wreck 44 = .ok (.invokestatic 75, 3) := by decide +kernel
theorem dX9_wreck_47 : decode cX9_wreck 47 = .ok (.ifCond .ne 6, 3) := by decide +kernel
theorem dX9_wreck_50 : decode cX9_wreck 50 = .ok (.ldc 79, 2) := by decide +kernel
theorem dX9_wreck_52 : decode cX9_wreck 52 = .ok (.ireturn, 1) := by decide +kernel
theorem dX9_wreck_53 : decode cX9_wreck 53 = .ok (.iconst 0, 1) := by decide +kernel
theorem dX9_wreck_54 : decode cX9_wreck 54 = .ok (.istore 5, 2) := by decide +kernel
theorem dX9_wreck_56 : decode cX9_wreck 56 = .ok (.ldc 249, 2) := by decide +kernel
theorem dX9_wreck_58 : decode cX9_wreck 58 = .ok (.istore 6, 2) := by decide +kernel
theorem dX9_wreck_60 : decode cX9_wreck 60 = .ok (.aload_n 0, 1) := by decide +kernel
theorem dX9_wreck_61 : decode cX9_wreck 61 = .ok (.getfield 40, 3) := by decide +kernel
theorem dX9_wreck_64 : decode cX9_wreck 64 = .ok (.aload_n 0, 1) := by decide +kernel
theorem dX9_wreck_65 : decode cX9_wreck 65 = .ok (.getfield 36, 3) := by decide +kernel
theorem dX9_wreck_68 : decode cX9_wreck 68 = .ok (.invokevirtual 143, 3) := by decide +kernel
theorem dX9_wreck_71 : decode cX9_wreck 71 = .ok (.aload_n 0, 1) := by decide +kernel
theorem dX9_wreck_72 : decode cX9_wreck 72 = .ok (.getfield 36, 3) := by decide +kernel
theorem dX9_wreck_75 : decode cX9_wreck 75 = .ok (.getfield 157, 3) := by decide +kernel
theorem dX9_wreck_78 : decode cX9_wreck 78 = .ok (.istore 7, 2) := by decide +kernel
theorem dX9_wreck_80 : decode cX9_wreck 80 = .ok (.iload 7, 2) := by decide +kernel
theorem dX9_wreck_82 : decode cX9_wreck 82 = .ok (.aload_n 0, 1) := by decide +kernel
theorem dX9_wreck_83 : decode cX9_wreck 83 = .ok (.getfield 36, 3) := by decide +kernel
theorem dX9_wreck_86 : decode cX9_wreck 86 = .ok (.getfield 157, 3) := by decide +kernel
theorem dX9_wreck_89 : decode cX9_wreck 89 = .ok (.iload_n 3, 1) := by decide +kernel
theorem dX9_wreck_90 : decode cX9_wreck 90 = .ok (.iadd, 1) := by decide +kernel
theorem dX9_wreck_91 : decode cX9_wreck 91 = .ok (.if_icmp .ge 56, 3) := by decide +kernel
theorem dX9_wreck_94 : decode cX9_wreck 94 = .ok (.aload_n 0, 1) := by decide +kernel
theorem dX9_wreck_95 : decode cX9_wreck 95 = .ok (.getfield 40, 3) := by decide +kernel
theorem dX9_wreck_98 : decode cX9_wreck 98 = .ok (.aload_n 0, 1) := by decide +kernel
theorem dX9_wreck_99 : decode cX9_wreck 99 = .ok (.getfield 26, 3) := by decide +kernel
theorem dX9_wreck_102 : decode cX9_wreck 102 = .ok (.invokevirtual 163, 3) := by decide +kernel
theorem dX9_wreck_105 : decode cX9_wreck 105 = .ok (.iconst 1, 1) := by decide +kernel
theorem dX9_wreck_106 : decode cX9_wreck 106 = .ok (.if_icmp .lt 35, 3) := by decide +kernel
theorem dX9_wreck_109 : decode cX9_wreck 109 = .ok (.aload_n 0, 1) := by decide +kernel
theorem dX9_wreck_110 : decode cX9_wreck 110 = .ok (.getfield 26, 3) := by decide +kernel
theorem dX9_wreck_113 : decode cX9_wreck 113 = .ok (.iload 7, 2) := by decide +kernel
theorem dX9_wreck_115 : decode cX9_wreck 115 = .ok (.invokevirtual 227, 3) := by decide +kernel
theorem dX9_wreck_118 : decode cX9_wreck 118 = .ok (.iload_n 1, 1) := by decide +kernel
theorem dX9_wreck_119 : decode cX9_wreck 119 = .ok (.iload_n 2, 1) := by decide +kernel
theorem dX9_wreck_120 : decode cX9_wreck 120 = .ok (.isub, 1) := by decide +kernel
theorem dX9_wreck_121 : decode cX9_wreck 121 = .ok (.if_icmp .ne 20, 3) := by decide +kernel
theorem dX9_wreck_124 : decode cX9_wreck 124 = .ok (.iload 5, 2) := by decide +kernel
theorem dX9_wreck_126 : decode cX9_wreck 126 = .ok (.ifCond .ne 8, 3) := by decide +kernel
theorem dX9_wreck_129 : decode cX9_wreck 129 = .ok (.iload 7, 2) := by decide +kernel
theorem dX9_wreck_131 : decode cX9_wreck 131 = .ok (.goto 5, 3) := by decide +kernel
theorem dX9_wreck_134 : decode cX9_wreck 134 = .ok (.iload 6, 2) := by decide +kernel
theorem dX9_wreck_136 : decode cX9_wreck 136 = .ok (.istore 6, 2) := by decide +kernel
theorem dX9_wreck_138 : decode cX9_wreck 138 = .ok (.iinc 5 1, 3) := by decide +kernel
theorem dX9_wreck_141 : decode cX9_wreck 141 = .ok (.iinc 7 1, 3) := by decide +kernel
theorem dX9_wreck_144 : decode cX9_wreck 144 = .ok (.goto (-64), 3) := by decide +kernel
theorem dX9_wreck_147 : decode cX9_wreck 147 = .ok (.iload 4, 2) := by decide +kernel
theorem dX9_wreck_149 : decode cX9_wreck 149 = .ok (.ifCond .ne 8, 3) := by decide +kernel
theorem dX9_wreck_152 : decode cX9_wreck 152 = .ok (.iload 5, 2) := by decide +kernel
theorem dX9_wreck_154 : decode cX9_wreck 154 = .ok (.goto 5, 3) := by decide +kernel
theorem dX9_wreck_157 : decode cX9_wreck 157 = .ok (.iload 6, 2) := by decide +kernel
theorem dX9_wreck_159 : decode cX9_wreck 159 = .ok (.ireturn, 1) := by decide +kernel
theorem dX9_season_0 : decode cX9_season 0 = .ok (.aload_n 0, 1) := by decide +kernel
theorem dX9_season_1 : decode cX9_season 1 = .ok (.getfield 149, 3) := by decide +kernel
theorem dX9_season_4 : decode cX9_season 4 = .ok (.ifCond .ne 6, 3) := by decide +kernel
theorem dX9_season_7 : decode cX9_season 7 = .ok (.ldc 156, 2) := by decide +kernel
theorem dX9_season_9 : decode cX9_season 9 = .ok (.ireturn, 1) := by decide +kernel
theorem dX9_season_10 : decode cX9_season 10 = .ok (.iload_n 1, 1) := by decide +kernel
theorem dX9_season_11 : decode cX9_season 11 = .ok (.iconst 0, 1) := by decide +kernel
theorem dX9_season_12 : decode cX9_season 12 = .ok (.bipush 100, 2) := by decide +kernel
theorem dX9_season_14 : decode cX9_season 14 = .ok (.invokestatic 75, 3) := by decide +kernel
theorem dX9_season_17 : decode cX9_season 17 = .ok (.ifCond .eq 23, 3) := by decide +kernel
theorem dX9_season_20 : decode cX9_season 20 = .ok (.iload_n 2, 1) := by decide +kernel
theorem dX9_season_21 : decode cX9_season 21 = .ok (.iconst 1, 1) := by decide +kernel
theorem dX9_season_22 : decode cX9_season 22 = .ok (.ldc_w 284, 3) := by decide +kernel
theorem dX9_season_25 : decode cX9_season 25 = .ok (.invokestatic 75, 3) := by decide +kernel
theorem dX9_season_28 : decode cX9_season 28 = .ok (.ifCond .eq 12, 3) := by decide +kernel
theorem dX9_season_31 : decode cX9_season 31 = .ok (.iload_n 3, 1) := by decide +kernel
theorem dX9_season_32 : decode cX9_season 32 = .ok (.iconst 0, 1) := by decide +kernel
theorem dX9_season_33 : decode cX9_season 33 = .ok (.iconst 1, 1) := by decide +kernel
theorem dX9_season_34 : decode cX9_season 34 = .ok (.invokestatic 75, 3) := by decide +kernel
theorem dX9_season_37 : decode cX9_season 37 = .ok (.ifCond .ne 6, 3) := by decide +kernel
theorem dX9_season_40 : decode cX9_season 40 = .ok (.ldc 79, 2) := by decide +kernel
theorem dX9_season_42 : decode cX9_season 42 = .ok (.ireturn, 1) := by decide +kernel
theorem dX9_season_43 : decode cX9_season 43 = .ok (.aload_n 0, 1) := by decide +kernel
theorem dX9_season_44 : decode cX9_season 44 = .ok (.getfield 40, 3) := by decide +kernel
theorem dX9_season_47 : decode cX9_season 47 = .ok (.aload_n 0, 1) := by decide +kernel
theorem dX9_season_48 : decode cX9_season 48 = .ok (.getfield 36, 3) := by decide +kernel
theorem dX9_season_51 : decode cX9_season 51 = .ok (.invokevirtual 143, 3) := by decide +kernel
theorem dX9_season_54 : decode cX9_season 54 = .ok (.iload_n 2, 1) := by decide +kernel
theorem dX9_season_55 : decode cX9_season 55 = .ok (.i2l, 1) := by decide +kernel
theorem dX9_season_56 : decode cX9_season 56 = .ok (.lstore 4, 2) := by decide +kernel
theorem dX9_season_58 : decode cX9_season 58 = .ok (.iconst 0, 1) := by decide +kernel
theorem dX9_season_59 : decode cX9_season 59 = .ok (.istore 6, 2) := by decide +kernel
theorem dX9_season_61 : decode cX9_season 61 = .ok (.iload 6, 2) := by decide +kernel
theorem dX9_season_63 : decode cX9_season 63 = .ok (.iload_n 1, 1) := by decide +kernel
theorem dX9_season_64 : decode cX9_season 64 = .ok (.if_icmp .ge 81, 3) := by decide +kernel
theorem dX9_season_67 : decode cX9_season 67 = .ok (.lload 4, 2) := by decide +kernel
theorem dX9_season_69 : decode cX9_season 69 = .ok (.ldc2_w 285, 3) := by decide +kernel
theorem dX9_season_72 : decode cX9_season 72 = .ok (.lmul, 1) := by decide +kernel
theorem dX9_season_73 : decode cX9_season 73 = .ok (.ldc2_w 287, 3) := by decide +kernel
theorem dX9_season_76 : decode cX9_season 76 = .ok (.lrem, 1) := by decide +kernel
theorem dX9_season_77 : decode cX9_season 77 = .ok (.lstore 4, 2) := by decide +kernel
theorem dX9_season_79 : decode cX9_season 79 = .ok (.iconst 1, 1) := by decide +kernel
theorem dX9_season_80 : decode cX9_season 80 = .ok (.lload 4, 2) := by decide +kernel
theorem dX9_season_82 : decode cX9_season 82 = .ok (.ldc2_w 289, 3) := by decide +kernel
theorem dX9_season_85 : decode cX9_season 85 = .ok (.lrem, 1) := by decide +kernel
theorem dX9_season_86 : decode cX9_season 86 = .ok (.l2i, 1) := by decide +kernel
theorem dX9_season_87 : decode cX9_season 87 = .ok (.iadd, 1) := by decide +kernel
theorem dX9_season_88 : decode cX9_season 88 = .ok (.istore 7, 2) := by decide +kernel
theorem dX9_season_90 : decode cX9_season 90 = .ok (.lload 4, 2) := by decide +kernel
theorem dX9_season_92 : decode cX9_season 92 = .ok (.ldc2_w 289, 3) := by decide +kernel
theorem dX9_season_95 : decode cX9_season 95 = .ok (.ldiv, 1) := by decide +kernel
theorem dX9_season_96 : decode cX9_season 96 = .ok (.ldc2_w 291, 3) := by decide +kernel
theorem dX9_season_99 : decode cX9_season 99 = .ok (.lrem, 1) := by decide +kernel
theorem dX9_season_100 : decode cX9_season 100 = .ok (.l2i, 1) := by decide +kernel
theorem dX9_season_101 : decode cX9_season 101 = .ok (.istore 8, 2) := by decide +kernel
theorem dX9_season_103 : decode cX9_season 103 = .ok (.aload_n 0, 1) := by decide +kernel
theorem dX9_season_104 : decode cX9_season 104 = .ok (.getfield 40, 3) := by decide +kernel
theorem dX9_season_107 : decode cX9_season 107 = .ok (.aload_n 0, 1) := by decide +kernel
theorem dX9_season_108 : decode cX9_season 108 = .ok (.getfield 26, 3) := by decide +kernel
theorem dX9_season_111 : decode cX9_season 111 = .ok (.iload 7, 2) := by decide +kernel
theorem dX9_season_113 : decode cX9_season 113 = .ok (.aload_n 0, 1) := by decide +kernel
theorem dX9_season_114 : decode cX9_season 114 = .ok (.getfield 26, 3) := by decide +kernel
theorem dX9_season_117 : decode cX9_season 117 = .ok (.aload_n 0, 1) := by decide +kernel
theorem dX9_season_118 : decode cX9_season 118 = .ok (.getfield 40, 3) := by decide +kernel
theorem dX9_season_121 : decode cX9_season 121 = .ok (.getfield 157, 3) := by decide +kernel
theorem dX9_season_124 : decode cX9_season 124 = .ok (.invokevirtual 293, 3) := by decide +kernel
theorem dX9_season_127 : decode cX9_season 127 = .ok (.iload 7, 2) := by decide +kernel
theorem dX9_season_129 : decode cX9_season 129 = .ok (.iload 8, 2) := by decide +kernel
theorem dX9_season_131 : decode cX9_season 131 = .ok (.invokestatic 296, 3) := by decide +kernel
theorem dX9_season_134 : decode cX9_season 134 = .ok (.iadd, 1) := by decide +kernel
theorem dX9_season_135 : decode cX9_season 135 = .ok (.invokevirtual 299, 3) := by decide +kernel
theorem dX9_season_138 : decode cX9_season 138 = .ok (.pop, 1) := by decide +kernel
theorem dX9_season_139 : decode cX9_season 139 = .ok (.iinc 6 1, 3) := by decide +kernel
theorem dX9_season_142 : decode cX9_season 142 = .ok (.goto (-81), 3) := by decide +kernel
theorem dX9_season_145 : decode cX9_season 145 = .ok (.aload_n 0, 1) := by decide +kernel
theorem dX9_season_146 : decode cX9_season 146 = .ok (.getfield 40, 3) := by decide +kernel
theorem dX9_season_149 : decode cX9_season 149 = .ok (.aload_n 0, 1) := by decide +kernel
theorem dX9_season_150 : decode cX9_season 150 = .ok (.getfield 26, 3) := by decide +kernel
theorem dX9_season_153 : decode cX9_season 153 = .ok (.iload_n 3, 1) := by decide +kernel
theorem dX9_season_154 : decode cX9_season 154 = .ok (.ifCond .ne 7, 3) := by decide +kernel
theorem dX9_season_157 : decode cX9_season 157 = .ok (.iconst 1, 1) := by decide +kernel
theorem dX9_season_158 : decode cX9_season 158 = .ok (.goto 4, 3) := by decide +kernel
theorem dX9_season_161 : decode cX9_season 161 = .ok (.iconst 2, 1) := by decide +kernel
theorem dX9_season_162 : decode cX9_season 162 = .ok (.invokevirtual 237, 3) := by decide +kernel
theorem dX9_season_165 : decode cX9_season 165 = .ok (.ireturn, 1) := by decide +kernel
theorem dX9_image_0 : decode cX9_image 0 = .ok (.iload_n 1, 1) := by decide +kernel
theorem dX9_image_1 : decode cX9_image 1 = .ok (.iconst 0, 1) := by decide +kernel
theorem dX9_image_2 : decode cX9_image 2 = .ok (.iconst 1, 1) := by decide +kernel
theorem dX9_image_3 : decode cX9_image 3 = .ok (.invokestatic 75, 3) := by decide +kernel
theorem dX9_image_6 : decode cX9_image 6 = .ok (.ifCond .ne 6, 3) := by decide +kernel
theorem dX9_image_9 : decode cX9_image 9 = .ok (.ldc 79, 2) := by decide +kernel
theorem dX9_image_11 : decode cX9_image 11 = .ok (.ireturn, 1) := by decide +kernel
theorem dX9_image_12 : decode cX9_image 12 = .ok (.aload_n 0, 1) := by decide +kernel
theorem dX9_image_13 : decode cX9_image 13 = .ok (.getfield 149, 3) := by decide +kernel
theorem dX9_image_16 : decode cX9_image 16 = .ok (.ifCond .ne 6, 3) := by decide +kernel
theorem dX9_image_19 : decode cX9_image 19 = .ok (.ldc 156, 2) := by decide +kernel
theorem dX9_image_21 : decode cX9_image 21 = .ok (.ireturn, 1) := by decide +kernel
theorem dX9_image_22 : decode cX9_image 22 = .ok (.aload_n 0, 1) := by decide +kernel
theorem dX9_image_23 : decode cX9_image 23 = .ok (.getfield 66, 3) := by decide +kernel
theorem dX9_image_26 : decode cX9_image 26 = .ok (.iload_n 1, 1) := by decide +kernel
theorem dX9_image_27 : decode cX9_image 27 = .ok (.aaload, 1) := by decide +kernel
theorem dX9_image_28 : decode cX9_image 28 = .ok (.aload_n 0, 1) := by decide +kernel
theorem dX9_image_29 : decode cX9_image 29 = .ok (.getfield 26, 3) := by decide +kernel
theorem dX9_image_32 : decode cX9_image 32 = .ok (.aload_n 0, 1) := by decide +kernel
theorem dX9_image_33 : decode cX9_image 33 = .ok (.getfield 36, 3) := by decide +kernel
theorem dX9_image_36 : decode cX9_image 36 = .ok (.invokevirtual 303, 3) := by decide +kernel
theorem dX9_image_39 : decode cX9_image 39 = .ok (.iconst 1, 1) := by decide +kernel
theorem dX9_image_40 : decode cX9_image 40 = .ok (.ireturn, 1) := by decide +kernel
theorem dX9_restore_0 : decode cX9_restore 0 = .ok (.iload_n 1, 1) := by decide +kernel
theorem dX9_restore_1 : decode cX9_restore 1 = .ok (.iconst 0, 1) := by decide +kernel
theorem dX9_restore_2 : decode cX9_restore 2 = .ok (.iconst 1, 1) := by decide +kernel
theorem dX9_restore_3 : decode cX9_restore 3 = .ok (.invokestatic 75, 3) := by decide +kernel
theorem dX9_restore_6 : decode cX9_restore 6 = .ok (.ifCond .ne 6, 3) := by decide +kernel
theorem dX9_restore_9 : decode cX9_restore 9 = .ok (.ldc 79, 2) := by decide +kernel
theorem dX9_restore_11 : decode cX9_restore 11 = .ok (.ireturn, 1) := by decide +kernel
theorem dX9_restore_12 : decode cX9_restore 12 = .ok (.aload_n 0, 1) := by decide +kernel
theorem dX9_restore_13 : decode cX9_restore 13 = .ok (.getfield 66, 3) := by decide +kernel
theorem dX9_restore_16 : decode cX9_restore 16 = .ok (.iload_n 1, 1) := by decide +kernel
theorem dX9_restore_17 : decode cX9_restore 17 = .ok (.aaload, 1) := by decide +kernel
theorem dX9_restore_18 : decode cX9_restore 18 = .ok (.getfield 305, 3) := by decide +kernel
theorem dX9_restore_21 : decode cX9_restore 21 = .ok (.ifCond .ne 6, 3) := by decide +kernel
theorem dX9_restore_24 : decode cX9_restore 24 = .ok (.ldc 156, 2) := by decide +kernel
theorem dX9_restore_26 : decode cX9_restore 26 = .ok (.ireturn, 1) := by decide +kernel
theorem dX9_restore_27 : decode cX9_restore 27 = .ok (.aload_n 0, 1) := by decide +kernel
theorem dX9_restore_28 : decode cX9_restore 28 = .ok (.getfield 26, 3) := by decide +kernel
theorem dX9_restore_31 : decode cX9_restore 31 = .ok (.aload_n 0, 1) := by decide +kernel
theorem dX9_restore_32 : decode cX9_restore 32 = .ok (.getfield 66, 3) := by decide +kernel
theorem dX9_restore_35 : decode cX9_restore 35 = .ok (.iload_n 1, 1) := by decide +kernel
theorem dX9_restore_36 : decode cX9_restore 36 = .ok (.aaload, 1) := by decide +kernel
theorem dX9_restore_37 : decode cX9_restore 37 = .ok (.getfield 308, 3) := by decide +kernel
theorem dX9_restore_40 : decode cX9_restore 40 = .ok (.invokevirtual 139, 3) := by decide +kernel
theorem dX9_restore_43 : decode cX9_restore 43 = .ok (.aload_n 0, 1) := by decide +kernel
theorem dX9_restore_44 : decode cX9_restore 44 = .ok (.getfield 36, 3) := by decide +kernel
theorem dX9_restore_47 : decode cX9_restore 47 = .ok (.aload_n 0, 1) := by decide +kernel
theorem dX9_restore_48 : decode cX9_restore 48 = .ok (.getfield 66, 3) := by decide +kernel
theorem dX9_restore_51 : decode cX9_restore 51 = .ok (.iload_n 1, 1) := by decide +kernel
theorem dX9_restore_52 : decode cX9_restore 52 = .ok (.aaload, 1) := by decide +kernel
theorem dX9_restore_53 : decode cX9_restore 53 = .ok (.getfield 309, 3) := by decide +kernel
theorem dX9_restore_56 : decode cX9_restore 56 = .ok (.invokevirtual 143, 3) := by decide +kernel
theorem dX9_restore_59 : decode cX9_restore 59 = .ok (.aload_n 0, 1) := by decide +kernel
theorem dX9_restore_60 : decode cX9_restore 60 = .ok (.getfield 46, 3) := by decide +kernel
theorem dX9_restore_63 : decode cX9_restore 63 = .ok (.invokevirtual 146, 3) := by decide +kernel
theorem dX9_restore_66 : decode cX9_restore 66 = .ok (.iconst 1, 1) := by decide +kernel
theorem dX9_restore_67 : decode cX9_restore 67 = .ok (.ireturn, 1) := by decide +kernel
theorem dX9_kind_0 : decode cX9_kind 0 = .ok (.aload_n 0, 1) := by decide +kernel
theorem dX9_kind_1 : decode cX9_kind 1 = .ok (.iload_n 1, 1) := by decide +kernel
theorem dX9_kind_2 : decode cX9_kind 2 = .ok (.invokevirtual 312, 3) := by decide +kernel
theorem dX9_kind_5 : decode cX9_kind 5 = .ok (.ifCond .eq 15, 3) := by decide +kernel
theorem dX9_kind_8 : decode cX9_kind 8 = .ok (.aload_n 0, 1) := by decide +kernel
theorem dX9_kind_9 : decode cX9_kind 9 = .ok (.getfield 26, 3) := by decide +kernel
theorem dX9_kind_12 : decode cX9_kind 12 = .ok (.getfield 230, 3) := by decide +kernel
theorem dX9_kind_15 : decode cX9_kind 15 = .ok (.iload_n 1, 1) := by decide +kernel
theorem dX9_kind_16 : decode cX9_kind 16 = .ok (.iaload, 1) := by decide +kernel
theorem dX9_kind_17 : decode cX9_kind 17 = .ok (.goto 5, 3) := by decide +kernel
theorem dX9_kind_20 : decode cX9_kind 20 = .ok (.ldc 79, 2) := by decide +kernel
theorem dX9_kind_22 : decode cX9_kind 22 = .ok (.ireturn, 1) := by decide +kernel
theorem dX9_as_0 : decode cX9_as 0 = .ok (.aload_n 0, 1) := by decide +kernel
theorem dX9_as_1 : decode cX9_as 1 = .ok (.iload_n 1, 1) := by decide +kernel
theorem dX9_as_2 : decode cX9_as 2 = .ok (.invokevirtual 312, 3) := by decide +kernel
theorem dX9_as_5 : decode cX9_as 5 = .ok (.ifCond .eq 12, 3) := by decide +kernel
theorem dX9_as_8 : decode cX9_as 8 = .ok (.iload_n 2, 1) := by decide +kernel
theorem dX9_as_9 : decode cX9_as 9 = .ok (.iconst 0, 1) := by decide +kernel
theorem dX9_as_10 : decode cX9_as 10 = .ok (.iconst 5, 1) := by decide +kernel
theorem dX9_as_11 : decode cX9_as 11 = .ok (.invokestatic 75, 3) := by decide +kernel
theorem dX9_as_14 : decode cX9_as 14 = .ok (.ifCond .ne 6, 3) := by decide +kernel
theorem dX9_as_17 : decode cX9_as 17 = .ok (.ldc 79, 2) := by decide +kernel
theorem dX9_as_19 : decode cX9_as 19 = .ok (.ireturn, 1) := by decide +kernel
theorem dX9_as_20 : decode cX9_as 20 = .ok (.aload_n 0, 1) := by decide +kernel
theorem dX9_as_21 : decode cX9_as 21 = .ok (.getfield 26, 3) := by decide +kernel
theorem dX9_as_24 : decode cX9_as 24 = .ok (.getfield 230, 3) := by decide +kernel
theorem dX9_as_27 : decode cX9_as 27 = .ok (.iload_n 1, 1) := by decide +kernel
theorem dX9_as_28 : decode cX9_as 28 = .ok (.iaload, 1) := by decide +kernel
theorem dX9_as_29 : decode cX9_as 29 = .ok (.iload_n 2, 1) := by decide +kernel
theorem dX9_as_30 : decode cX9_as 30 = .ok (.invokestatic 317, 3) := by decide +kernel
theorem dX9_as_33 : decode cX9_as 33 = .ok (.ifCond .ne 9, 3) := by decide +kernel
theorem dX9_as_36 : decode cX9_as 36 = .ok (.aload_n 0, 1) := by decide +kernel
theorem dX9_as_37 : decode cX9_as 37 = .ok (.iconst 3, 1) := by decide +kernel
theorem dX9_as_38 : decode cX9_as 38 = .ok (.invokevirtual 80, 3) := by decide +kernel
theorem dX9_as_41 : decode cX9_as 41 = .ok (.ireturn, 1) := by decide +kernel
theorem dX9_as_42 : decode cX9_as 42 = .ok (.aload_n 0, 1) := by decide +kernel
theorem dX9_as_43 : decode cX9_as 43 = .ok (.iload_n 1, 1) := by decide +kernel
theorem dX9_as_44 : decode cX9_as 44 = .ok (.invokevirtual 88, 3) := by decide +kernel
theorem dX9_as_47 : decode cX9_as 47 = .ok (.ireturn, 1) := by decide +kernel
theorem dX9_ask_0 : decode cX9_ask 0 = .ok (.aload_n 0, 1) := by decide +kernel
theorem dX9_ask_1 : decode cX9_ask 1 = .ok (.iload_n 1, 1) := by decide +kernel
theorem dX9_ask_2 : decode cX9_ask 2 = .ok (.invokevirtual 312, 3) := by decide +kernel
theorem dX9_ask_5 : decode cX9_ask 5 = .ok (.ifCond .eq 12, 3) := by decide +kernel
theorem dX9_ask_8 : decode cX9_ask 8 = .ok (.iload_n 2, 1) := by decide +kernel
theorem dX9_ask_9 : decode cX9_ask 9 = .ok (.iconst 0, 1) := by decide +kernel
theorem dX9_ask_10 : decode cX9_ask 10 = .ok (.iconst 1, 1) := by decide +kernel
theorem dX9_ask_11 : decode cX9_ask 11 = .ok (.invokestatic 75, 3) := by decide +kernel
theorem dX9_ask_14 : decode cX9_ask 14 = .ok (.ifCond .ne 6, 3) := by decide +kernel
theorem dX9_ask_17 : decode cX9_ask 17 = .ok (.ldc 79, 2) := by decide +kernel
theorem dX9_ask_19 : decode cX9_ask 19 = .ok (.ireturn, 1) := by decide +kernel
theorem dX9_ask_20 : decode cX9_ask 20 = .ok (.aload_n 0, 1) := by decide +kernel
theorem dX9_ask_21 : decode cX9_ask 21 = .ok (.getfield 60, 3) := by decide +kernel
theorem dX9_ask_24 : decode cX9_ask 24 = .ok (.aload_n 0, 1) := by decide +kernel
theorem dX9_ask_25 : decode cX9_ask 25 = .ok (.getfield 26, 3) := by decide +kernel
theorem dX9_ask_28 : decode cX9_ask 28 = .ok (.iload_n 1, 1) := by decide +kernel
theorem dX9_ask_29 : decode cX9_ask 29 = .ok (.iload_n 2, 1) := by decide +kernel
theorem dX9_ask_30 : decode cX9_ask 30 = .ok (.invokevirtual 320, 3) := by decide +kernel
theorem dX9_ask_33 : decode cX9_ask 33 = .ok (.ireturn, 1) := by decide +kernel
theorem dX9_trace_0 : decode cX9_trace 0 = .ok (.iload_n 1, 1) := by decide +kernel
theorem dX9_trace_1 : decode cX9_trace 1 = .ok (.iconst 0, 1) := by decide +kernel
theorem dX9_trace_2 : decode cX9_trace 2 = .ok (.aload_n 0, 1) := by decide +kernel
theorem dX9_trace_3 : decode cX9_trace 3 = .ok (.getfield 60, 3) := by decide +kernel
theorem dX9_trace_6 : decode cX9_trace 6 = .ok (.getfield 323, 3) := by decide +kernel
theorem dX9_trace_9 : decode cX9_trace 9 = .ok (.iconst 1, 1) := by decide +kernel
theorem dX9_trace_10 : decode cX9_trace 10 = .ok (.isub, 1) := by decide +kernel
theorem dX9_trace_11 : decode cX9_trace 11 = .ok (.invokestatic 75, 3) := by decide +kernel
theorem dX9_trace_14 : decode cX9_trace 14 = .ok (.ifCond .eq 15, 3) := by decide +kernel
theorem dX9_trace_17 : decode cX9_trace 17 = .ok (.aload_n 0, 1) := by decide +kernel
theorem dX9_trace_18 : decode cX9_trace 18 = .ok (.getfield 60, 3) := by decide +kernel
theorem dX9_trace_21 : decode cX9_trace 21 = .ok (.getfield 326, 3) := by decide +kernel
theorem dX9_trace_24 : decode cX9_trace 24 = .ok (.iload_n 1, 1) := by decide +kernel
theorem dX9_trace_25 : decode cX9_trace 25 = .ok (.iaload, 1) := by decide +kernel
theorem dX9_trace_26 : decode cX9_trace 26 = .ok (.goto 5, 3) := by decide +kernel
theorem dX9_trace_29 : decode cX9_trace 29 = .ok (.ldc 249, 2) := by decide +kernel
theorem dX9_trace_31 : decode cX9_trace 31 = .ok (.ireturn, 1) := by decide +kernel
theorem dX9_count_0 : decode cX9_count 0 = .ok (.iload_n 1, 1) := by decide +kernel
theorem dX9_count_1 : decode cX9_count 1 = .ok (.tableswitch 139 0 8 #[51, 59, 67, 75, 83, 91, 110, 123, 131], 51) := by decide +kernel
theorem dX9_count_52 : decode cX9_count 52 = .ok (.aload_n 0, 1) := by decide +kernel
theorem dX9_count_53 : decode cX9_count 53 = .ok (.getfield 10, 3) := by decide +kernel
theorem dX9_count_56 : decode cX9_count 56 = .ok (.invokevirtual 329, 3) := by decide +kernel
theorem dX9_count_59 : decode cX9_count 59 = .ok (.ireturn, 1) := by decide +kernel
theorem dX9_count_60 : decode cX9_count 60 = .ok (.aload_n 0, 1) := by decide +kernel
theorem dX9_count_61 : decode cX9_count 61 = .ok (.getfield 26, 3) := by decide +kernel
theorem dX9_count_64 : decode cX9_count 64 = .ok (.getfield 153, 3) := by decide +kernel
theorem dX9_count_67 : decode cX9_count 67 = .ok (.ireturn, 1) := by decide +kernel
theorem dX9_count_68 : decode cX9_count 68 = .ok (.aload_n 0, 1) := by decide +kernel
theorem dX9_count_69 : decode cX9_count 69 = .ok (.getfield 26, 3) := by decide +kernel
theorem dX9_count_72 : decode cX9_count 72 = .ok (.getfield 274, 3) := by decide +kernel
theorem dX9_count_75 : decode cX9_count 75 = .ok (.ireturn, 1) := by decide +kernel
theorem dX9_count_76 : decode cX9_count 76 = .ok (.aload_n 0, 1) := by decide +kernel
theorem dX9_count_77 : decode cX9_count 77 = .ok (.getfield 26, 3) := by decide +kernel
theorem dX9_count_80 : decode cX9_count 80 = .ok (.getfield 250, 3) := by decide +kernel
theorem dX9_count_83 : decode cX9_count 83 = .ok (.ireturn, 1) := by decide +kernel
theorem dX9_count_84 : decode cX9_count 84 = .ok (.aload_n 0, 1) := by decide +kernel
theorem dX9_count_85 : decode cX9_count 85 = .ok (.getfield 36, 3) := by decide +kernel
theorem dX9_count_88 : decode cX9_count 88 = .ok (.getfield 157, 3) := by decide +kernel
theorem dX9_count_91 : decode cX9_count 91 = .ok (.ireturn, 1) := by decide +kernel
theorem dX9_count_92 : decode cX9_count 92 = .ok (.aload_n 0, 1) := by decide +kernel
theorem dX9_count_93 : decode cX9_count 93 = .ok (.getfield 149, 3) := by decide +kernel
theorem dX9_count_96 : decode cX9_count 96 = .ok (.ifCond .eq 13, 3) := by decide +kernel
theorem dX9_count_99 : decode cX9_count 99 = .ok (.aload_n 0, 1) := by decide +kernel
theorem dX9_count_100 : decode cX9_count 100 = .ok (.getfield 36, 3) := by decide +kernel
theorem dX9_count_103 : decode cX9_count 103 = .ok (.getfield 174, 3) := by decide +kernel
theorem dX9_count_106 : decode cX9_count 106 = .ok (.goto 4, 3) := by decide +kernel
theorem dX9_count_109 : decode cX9_count 109 = .ok (.iconst 0, 1) := by decide +kernel
theorem dX9_count_110 : decode cX9_count 110 = .ok (.ireturn, 1) := by decide +kernel
theorem dX9_count_111 : decode cX9_count 111 = .ok (.aload_n 0, 1) := by decide +kernel
theorem dX9_count_112 : decode cX9_count 112 = .ok (.getfield 36, 3) := by decide +kernel
theorem dX9_count_115 : decode cX9_count 115 = .ok (.aload_n 0, 1) := by decide +kernel
theorem dX9_count_116 : decode cX9_count 116 = .ok (.getfield 26, 3) := by decide +kernel
theorem dX9_count_119 : decode cX9_count 119 = .ok (.iconst 0, 1) := by decide +kernel
theorem dX9_count_120 : decode cX9_count 120 = .ok (.invokevirtual 237, 3) := by decide +kernel
theorem dX9_count_123 : decode cX9_count 123 = .ok (.ireturn, 1) := by decide +kernel
theorem dX9_count_124 : decode cX9_count 124 = .ok (.aload_n 0, 1) := by decide +kernel
theorem dX9_count_125 : decode cX9_count 125 = .ok (.getfield 46, 3) := by decide +kernel
theorem dX9_count_128 : decode cX9_count 128 = .ok (.getfield 193, 3) := by decide +kernel
theorem dX9_count_131 : decode cX9_count 131 = .ok (.ireturn, 1) := by decide +kernel
theorem dX9_count_132 : decode cX9_count 132 = .ok (.aload_n 0, 1) := by decide +kernel
theorem dX9_count_133 : decode cX9_count 133 = .ok (.getfield 19, 3) := by decide +kernel
theorem dX9_count_136 : decode cX9_count 136 = .ok (.getfield 332, 3) := by decide +kernel
theorem dX9_count_139 : decode cX9_count 139 = .ok (.ireturn, 1) := by decide +kernel
theorem dX9_count_140 : decode cX9_count 140 = .ok (.ldc 79, 2) := by decide +kernel
theorem dX9_count_142 : decode cX9_count 142 = .ok (.ireturn, 1) := by decide +kernel
theorem dX9_status_0 : decode cX9_status 0 = .ok (.aload_n 0, 1) := by decide +kernel
theorem dX9_status_1 : decode cX9_status 1 = .ok (.getfield 335, 3) := by decide +kernel
theorem dX9_status_4 : decode cX9_status 4 = .ok (.ireturn, 1) := by decide +kernel
theorem dX9_found_0 : decode cX9_found 0 = .ok (.aload_n 0, 1) := by decide +kernel
theorem dX9_found_1 : decode cX9_found 1 = .ok (.iload_n 1, 1) := by decide +kernel
theorem dX9_found_2 : decode cX9_found 2 = .ok (.putfield 335, 3) := by decide +kernel
theorem dX9_found_5 : decode cX9_found 5 = .ok (.ldc_w 338, 3) := by decide +kernel
theorem dX9_found_8 : decode cX9_found 8 = .ok (.iload_n 1, 1) := by decide +kernel
theorem dX9_found_9 : decode cX9_found 9 = .ok (.isub, 1) := by decide +kernel
theorem dX9_found_10 : decode cX9_found 10 = .ok (.ireturn, 1) := by decide +kernel
theorem dX9_fine_0 : decode cX9_fine 0 = .ok (.aload_n 0, 1) := by decide +kernel
theorem dX9_fine_1 : decode cX9_fine 1 = .ok (.iconst 0, 1) := by decide +kernel
theorem dX9_fine_2 : decode cX9_fine 2 = .ok (.putfield 335, 3) := by decide +kernel
theorem dX9_fine_5 : decode cX9_fine 5 = .ok (.iload_n 1, 1) := by decide +kernel
theorem dX9_fine_6 : decode cX9_fine 6 = .ok (.ireturn, 1) := by decide +kernel
theorem dX9_foretell_0 : decode cX9_foretell 0 = .ok (.aload_n 0, 1) := by decide +kernel
theorem dX9_foretell_1 : decode cX9_foretell 1 = .ok (.getfield 40, 3) := by decide +kernel
theorem dX9_foretell_4 : decode cX9_foretell 4 = .ok (.aload_n 0, 1) := by decide +kernel
theorem dX9_foretell_5 : decode cX9_foretell 5 = .ok (.getfield 36, 3) := by decide +kernel
theorem dX9_foretell_8 : decode cX9_foretell 8 = .ok (.invokevirtual 143, 3) := by decide +kernel
theorem dX9_foretell_11 : decode cX9_foretell 11 = .ok (.aload_n 0, 1) := by decide +kernel
theorem dX9_foretell_12 : decode cX9_foretell 12 = .ok (.getfield 40, 3) := by decide +kernel
theorem dX9_foretell_15 : decode cX9_foretell 15 = .ok (.aload_n 0, 1) := by decide +kernel
theorem dX9_foretell_16 : decode cX9_foretell 16 = .ok (.getfield 26, 3) := by decide +kernel
theorem dX9_foretell_19 : decode cX9_foretell 19 = .ok (.iload_n 1, 1) := by decide +kernel
theorem dX9_foretell_20 : decode cX9_foretell 20 = .ok (.invokevirtual 267, 3) := by decide +kernel
theorem dX9_foretell_23 : decode cX9_foretell 23 = .ok (.return_, 1) := by decide +kernel
theorem dX9_fitsLog_0 : decode cX9_fitsLog 0 = .ok (.iload_n 1, 1) := by decide +kernel
theorem dX9_fitsLog_1 : decode cX9_fitsLog 1 = .ok (.bipush 8, 2) := by decide +kernel
theorem dX9_fitsLog_3 : decode cX9_fitsLog 3 = .ok (.idiv, 1) := by decide +kernel
theorem dX9_fitsLog_4 : decode cX9_fitsLog 4 = .ok (.istore 5, 2) := by decide +kernel
theorem dX9_fitsLog_6 : decode cX9_fitsLog 6 = .ok (.iload_n 1, 1) := by decide +kernel
theorem dX9_fitsLog_7 : decode cX9_fitsLog 7 = .ok (.bipush 8, 2) := by decide +kernel
theorem dX9_fitsLog_9 : decode cX9_fitsLog 9 = .ok (.irem, 1) := by decide +kernel
theorem dX9_fitsLog_10 : decode cX9_fitsLog 10 = .ok (.istore 6, 2) := by decide +kernel
theorem dX9_fitsLog_12 : decode cX9_fitsLog 12 = .ok (.iload_n 3, 1) := by decide +kernel
theorem dX9_fitsLog_13 : decode cX9_fitsLog 13 = .ok (.istore 7, 2) := by decide +kernel
theorem dX9_fitsLog_15 : decode cX9_fitsLog 15 = .ok (.aload_n 0, 1) := by decide +kernel
theorem dX9_fitsLog_16 : decode cX9_fitsLog 16 = .ok (.getfield 10, 3) := by decide +kernel
theorem dX9_fitsLog_19 : decode cX9_fitsLog 19 = .ok (.iload_n 2, 1) := by decide +kernel
theorem dX9_fitsLog_20 : decode cX9_fitsLog 20 = .ok (.iload_n 3, 1) := by decide +kernel
theorem dX9_fitsLog_21 : decode cX9_fitsLog 21 = .ok (.iload 4, 2) := by decide +kernel
theorem dX9_fitsLog_23 : decode cX9_fitsLog 23 = .ok (.iadd, 1) := by decide +kernel
theorem dX9_fitsLog_24 : decode cX9_fitsLog 24 = .ok (.iconst 1, 1) := by decide +kernel
theorem dX9_fitsLog_25 : decode cX9_fitsLog 25 = .ok (.isub, 1) := by decide +kernel
theorem dX9_fitsLog_26 : decode cX9_fitsLog 26 = .ok (.invokevirtual 339, 3) := by decide +kernel
theorem dX9_fitsLog_29 : decode cX9_fitsLog 29 = .ok (.istore 8, 2) := by decide +kernel
theorem dX9_fitsLog_31 : decode cX9_fitsLog 31 = .ok (.iconst 0, 1) := by decide +kernel
theorem dX9_fitsLog_32 : decode cX9_fitsLog 32 = .ok (.istore 9, 2) := by decide +kernel
theorem dX9_fitsLog_34 : decode cX9_fitsLog 34 = .ok (.iload 9, 2) := by decide +kernel
theorem dX9_fitsLog_36 : decode cX9_fitsLog 36 = .ok (.iload 8, 2) := by decide +kernel
theorem dX9_fitsLog_38 : decode cX9_fitsLog 38 = .ok (.if_icmp .gt 90, 3) := by decide +kernel
theorem dX9_fitsLog_41 : decode cX9_fitsLog 41 = .ok (.iload 6, 2) := by decide +kernel
theorem dX9_fitsLog_43 : decode cX9_fitsLog 43 = .ok (.aload_n 0, 1) := by decide +kernel
theorem dX9_fitsLog_44 : decode cX9_fitsLog 44 = .ok (.getfield 26, 3) := by decide +kernel
theorem dX9_fitsLog_47 : decode cX9_fitsLog 47 = .ok (.iload 9, 2) := by decide +kernel
theorem dX9_fitsLog_49 : decode cX9_fitsLog 49 = .ok (.invokevirtual 240, 3) := by decide +kernel
theorem dX9_fitsLog_52 : decode cX9_fitsLog 52 = .ok (.invokestatic 342, 3) := by decide +kernel
theorem dX9_fitsLog_55 : decode cX9_fitsLog 55 = .ok (.istore 10, 2) := by decide +kernel
theorem dX9_fitsLog_57 : decode cX9_fitsLog 57 = .ok (.aload_n 0, 1) := by decide +kernel
theorem dX9_fitsLog_58 : decode cX9_fitsLog 58 = .ok (.getfield 10, 3) := by decide +kernel
theorem dX9_fitsLog_61 : decode cX9_fitsLog 61 = .ok (.iload_n 2, 1) := by decide +kernel
theorem dX9_fitsLog_62 : decode cX9_fitsLog 62 = .ok (.iload 7, 2) := by decide +kernel
theorem dX9_fitsLog_64 : decode cX9_fitsLog 64 = .ok (.invokevirtual 339, 3) := by decide +kernel
theorem dX9_fitsLog_67 : decode cX9_fitsLog 67 = .ok (.iload 9, 2) := by decide +kernel
theorem dX9_fitsLog_69 : decode cX9_fitsLog 69 = .ok (.if_icmp .ne 7, 3) := by decide +kernel
theorem dX9_fitsLog_72 : decode cX9_fitsLog 72 = .ok (.iconst 1, 1) := by decide +kernel
theorem dX9_fitsLog_73 : decode cX9_fitsLog 73 = .ok (.goto 4, 3) := by decide +kernel
theorem dX9_fitsLog_76 : decode cX9_fitsLog 76 = .ok (.iconst 0, 1) := by decide +kernel
theorem dX9_fitsLog_77 : decode cX9_fitsLog 77 = .ok (.istore 11, 2) := by decide +kernel
theorem dX9_fitsLog_79 : decode cX9_fitsLog 79 = .ok (.iload 5, 2) := by decide +kernel
theorem dX9_fitsLog_81 : decode cX9_fitsLog 81 = .ok (.iload 10, 2) := by decide +kernel
theorem dX9_fitsLog_83 : decode cX9_fitsLog 83 = .ok (.aload_n 0, 1) := by decide +kernel
theorem dX9_fitsLog_84 : decode cX9_fitsLog 84 = .ok (.getfield 36, 3) := by decide +kernel
theorem dX9_fitsLog_87 : decode cX9_fitsLog 87 = .ok (.getfield 174, 3) := by decide +kernel
theorem dX9_fitsLog_90 : decode cX9_fitsLog 90 = .ok (.invokestatic 246, 3) := by decide +kernel
theorem dX9_fitsLog_93 : decode cX9_fitsLog 93 = .ok (.iload 11, 2) := by decide +kernel
theorem dX9_fitsLog_95 : decode cX9_fitsLog 95 = .ok (.if_icmp .eq 5, 3) := by decide +kernel
theorem dX9_fitsLog_98 : decode cX9_fitsLog 98 = .ok (.iconst 0, 1) := by decide +kernel
theorem dX9_fitsLog_99 : decode cX9_fitsLog 99 = .ok (.ireturn, 1) := by decide +kernel
theorem dX9_fitsLog_100 : decode cX9_fitsLog 100 = .ok (.iload 7, 2) := by decide +kernel
theorem dX9_fitsLog_102 : decode cX9_fitsLog 102 = .ok (.iload 11, 2) := by decide +kernel
theorem dX9_fitsLog_104 : decode cX9_fitsLog 104 = .ok (.ifCond .eq 7, 3) := by decide +kernel
theorem dX9_fitsLog_107 : decode cX9_fitsLog 107 = .ok (.iconst 1, 1) := by decide +kernel
theorem dX9_fitsLog_108 : decode cX9_fitsLog 108 = .ok (.goto 4, 3) := by decide +kernel
theorem dX9_fitsLog_111 : decode cX9_fitsLog 111 = .ok (.iconst 0, 1) := by decide +kernel
theorem dX9_fitsLog_112 : decode cX9_fitsLog 112 = .ok (.iadd, 1) := by decide +kernel
theorem dX9_fitsLog_113 : decode cX9_fitsLog 113 = .ok (.istore 7, 2) := by decide +kernel
theorem dX9_fitsLog_115 : decode cX9_fitsLog 115 = .ok (.iload 5, 2) := by decide +kernel
theorem dX9_fitsLog_117 : decode cX9_fitsLog 117 = .ok (.iload 10, 2) := by decide +kernel
theorem dX9_fitsLog_119 : decode cX9_fitsLog 119 = .ok (.iadd, 1) := by decide +kernel
theorem dX9_fitsLog_120 : decode cX9_fitsLog 120 = .ok (.istore 5, 2) := by decide +kernel
theorem dX9_fitsLog_122 : decode cX9_fitsLog 122 = .ok (.iinc 9 1, 3) := by decide +kernel
theorem dX9_fitsLog_125 : decode cX9_fitsLog 125 = .ok (.goto (-91), 3) := by decide +kernel
theorem dX9_fitsLog_128 : decode cX9_fitsLog 128 = .ok (.iconst 1, 1) := by decide +kernel
theorem dX9_fitsLog_129 : decode cX9_fitsLog 129 = .ok (.ireturn, 1) := by decide +kernel
theorem dX9_isRow_0 : decode cX9_isRow 0 = .ok (.iload_n 1, 1) := by decide +kernel
theorem dX9_isRow_1 : decode cX9_isRow 1 = .ok (.iconst 0, 1) := by decide +kernel
theorem dX9_isRow_2 : decode cX9_isRow 2 = .ok (.bipush 7, 2) := by decide +kernel
theorem dX9_isRow_4 : decode cX9_isRow 4 = .ok (.invokestatic 75, 3) := by decide +kernel
theorem dX9_isRow_7 : decode cX9_isRow 7 = .ok (.ireturn, 1) := by decide +kernel
theorem dX9_isSwell_0 : decode cX9_isSwell 0 = .ok (.iload_n 1, 1) := by decide +kernel
theorem dX9_isSwell_1 : decode cX9_isSwell 1 = .ok (.iconst 0, 1) := by decide +kernel
theorem dX9_isSwell_2 : decode cX9_isSwell 2 = .ok (.aload_n 0, 1) := by decide +kernel
theorem dX9_isSwell_3 : decode cX9_isSwell 3 = .ok (.getfield 26, 3) := by decide +kernel
theorem dX9_isSwell_6 : decode cX9_isSwell 6 = .ok (.getfield 153, 3) := by decide +kernel
theorem dX9_isSwell_9 : decode cX9_isSwell 9 = .ok (.iconst 1, 1) := by decide +kernel
theorem dX9_isSwell_10 : decode cX9_isSwell 10 = .ok (.isub, 1) := by decide +kernel
theorem dX9_isSwell_11 : decode cX9_isSwell 11 = .ok (.invokestatic 75, 3) := by decide +kernel
theorem dX9_isSwell_14 : decode cX9_isSwell 14 = .ok (.ireturn, 1) := by decide +kernel
theorem dX9_isTower_0 : decode cX9_isTower 0 = .ok (.iload_n 1, 1) := by decide +kernel
theorem dX9_isTower_1 : decode cX9_isTower 1 = .ok (.iconst 0, 1) := by decide +kernel
theorem dX9_isTower_2 : decode cX9_isTower 2 = .ok (.aload_n 0, 1) := by decide +kernel
theorem dX9_isTower_3 : decode cX9_isTower 3 = .ok (.getfield 26, 3) := by decide +kernel
theorem dX9_isTower_6 : decode cX9_isTower 6 = .ok (.getfield 274, 3) := by decide +kernel
theorem dX9_isTower_9 : decode cX9_isTower 9 = .ok (.iconst 1, 1) := by decide +kernel
theorem dX9_isTower_10 : decode cX9_isTower 10 = .ok (.isub, 1) := by decide +kernel
theorem dX9_isTower_11 : decode cX9_isTower 11 = .ok (.invokestatic 75, 3) := by decide +kernel
theorem dX9_isTower_14 : decode cX9_isTower 14 = .ok (.ireturn, 1) := by decide +kernel
theorem dX9_isShip_0 : decode cX9_isShip 0 = .ok (.iload_n 1, 1) := by decide +kernel
theorem dX9_isShip_1 : decode cX9_isShip 1 = .ok (.iconst 0, 1) := by decide +kernel
theorem dX9_isShip_2 : decode cX9_isShip 2 = .ok (.aload_n 0, 1) := by decide +kernel
theorem dX9_isShip_3 : decode cX9_isShip 3 = .ok (.getfield 26, 3) := by decide +kernel
theorem dX9_isShip_6 : decode cX9_isShip 6 = .ok (.getfield 250, 3) := by decide +kernel
theorem dX9_isShip_9 : decode cX9_isShip 9 = .ok (.iconst 1, 1) := by decide +kernel
theorem dX9_isShip_10 : decode cX9_isShip 10 = .ok (.isub, 1) := by decide +kernel
theorem dX9_isShip_11 : decode cX9_isShip 11 = .ok (.invokestatic 75, 3) := by decide +kernel
theorem dX9_isShip_14 : decode cX9_isShip 14 = .ok (.ireturn, 1) := by decide +kernel
theorem dX9_within_0 : decode cX9_within 0 = .ok (.iload_n 0, 1) := by decide +kernel
theorem dX9_within_1 : decode cX9_within 1 = .ok (.iload_n 1, 1) := by decide +kernel
theorem dX9_within_2 : decode cX9_within 2 = .ok (.if_icmp .lt 12, 3) := by decide +kernel
theorem dX9_within_5 : decode cX9_within 5 = .ok (.iload_n 0, 1) := by decide +kernel
theorem dX9_within_6 : decode cX9_within 6 = .ok (.iload_n 2, 1) := by decide +kernel
theorem dX9_within_7 : decode cX9_within 7 = .ok (.if_icmp .gt 7, 3) := by decide +kernel
theorem dX9_within_10 : decode cX9_within 10 = .ok (.iconst 1, 1) := by decide +kernel
theorem dX9_within_11 : decode cX9_within 11 = .ok (.goto 4, 3) := by decide +kernel
theorem dX9_within_14 : decode cX9_within 14 = .ok (.iconst 0, 1) := by decide +kernel
theorem dX9_within_15 : decode cX9_within 15 = .ok (.ireturn, 1) := by decide +kernel
theorem dX9_calls_0 : decode cX9_calls 0 = .ok (.iload_n 2, 1) := by decide +kernel
theorem dX9_calls_1 : decode cX9_calls 1 = .ok (.ifCond .le 18, 3) := by decide +kernel
theorem dX9_calls_4 : decode cX9_calls 4 = .ok (.iload_n 0, 1) := by decide +kernel
theorem dX9_calls_5 : decode cX9_calls 5 = .ok (.iload_n 1, 1) := by decide +kernel
theorem dX9_calls_6 : decode cX9_calls 6 = .ok (.iadd, 1) := by decide +kernel
theorem dX9_calls_7 : decode cX9_calls 7 = .ok (.iload_n 2, 1) := by decide +kernel
theorem dX9_calls_8 : decode cX9_calls 8 = .ok (.idiv, 1) := by decide +kernel
theorem dX9_calls_9 : decode cX9_calls 9 = .ok (.iload_n 0, 1) := by decide +kernel
theorem dX9_calls_10 : decode cX9_calls 10 = .ok (.iload_n 2, 1) := by decide +kernel
theorem dX9_calls_11 : decode cX9_calls 11 = .ok (.idiv, 1) := by decide +kernel
theorem dX9_calls_12 : decode cX9_calls 12 = .ok (.if_icmp .le 7, 3) := by decide +kernel
theorem dX9_calls_15 : decode cX9_calls 15 = .ok (.iconst 1, 1) := by decide +kernel
theorem dX9_calls_16 : decode cX9_calls 16 = .ok (.goto 4, 3) := by decide +kernel
theorem dX9_calls_19 : decode cX9_calls 19 = .ok (.iconst 0, 1) := by decide +kernel
theorem dX9_calls_20 : decode cX9_calls 20 = .ok (.ireturn, 1) := by decide +kernel
end
section
theorem dX10_in_0 : decode cX10_in 0 = .ok (.lload_n 0, 1) := by decide +kernel
theorem dX10_in_1 : decode cX10_in 1 = .ok (.lload_n 2, 1) := by decide +kernel
theorem dX10_in_2 : decode cX10_in 2 = .ok (.lcmp, 1) := by decide +kernel
theorem dX10_in_3 : decode cX10_in 3 = .ok (.ifCond .lt 14, 3) := by decide +kernel
theorem dX10_in_6 : decode cX10_in 6 = .ok (.lload_n 0, 1) := by decide +kernel
theorem dX10_in_7 : decode cX10_in 7 = .ok (.lload 4, 2) := by decide +kernel
theorem dX10_in_9 : decode cX10_in 9 = .ok (.lcmp, 1) := by decide +kernel
theorem dX10_in_10 : decode cX10_in 10 = .ok (.ifCond .gt 7, 3) := by decide +kernel
theorem dX10_in_13 : decode cX10_in 13 = .ok (.iconst 1, 1) := by decide +kernel
theorem dX10_in_14 : decode cX10_in 14 = .ok (.goto 4, 3) := by decide +kernel
theorem dX10_in_17 : decode cX10_in 17 = .ok (.iconst 0, 1) := by decide +kernel
theorem dX10_in_18 : decode cX10_in 18 = .ok (.ireturn, 1) := by decide +kernel
theorem dX10_most_0 : decode cX10_most 0 = .ok (.iload_n 0, 1) := by decide +kernel
theorem dX10_most_1 : decode cX10_most 1 = .ok (.iload_n 1, 1) := by decide +kernel
theorem dX10_most_2 : decode cX10_most 2 = .ok (.if_icmp .le 7, 3) := by decide +kernel
theorem dX10_most_5 : decode cX10_most 5 = .ok (.iload_n 0, 1) := by decide +kernel
theorem dX10_most_6 : decode cX10_most 6 = .ok (.goto 4, 3) := by decide +kernel
theorem dX10_most_9 : decode cX10_most 9 = .ok (.iload_n 1, 1) := by decide +kernel
theorem dX10_most_10 : decode cX10_most 10 = .ok (.ireturn, 1) := by decide +kernel
theorem dX10_init_0 : decode cX10_init 0 = .ok (.aload_n 0, 1) := by decide +kernel
theorem dX10_init_1 : decode cX10_init 1 = .ok (.invokespecial 1, 3) := by decide +kernel
theorem dX10_init_4 : decode cX10_init 4 = .ok (.aload_n 0, 1) := by decide +kernel
theorem dX10_init_5 : decode cX10_init 5 = .ok (.bipush 8, 2) := by decide +kernel
theorem dX10_init_7 : decode cX10_init 7 = .ok (.newarray .int, 2) := by decide +kernel
theorem dX10_init_9 : decode cX10_init 9 = .ok (.putfield 7, 3) := by decide +kernel
theorem dX10_init_12 : decode cX10_init 12 = .ok (.aload_n 0, 1) := by decide +kernel
theorem dX10_init_13 : decode cX10_init 13 = .ok (.bipush 8, 2) := by decide +kernel
theorem dX10_init_15 : decode cX10_init 15 = .ok (.newarray .int, 2) := by decide +kernel
theorem dX10_init_17 : decode cX10_init 17 = .ok (.putfield 13, 3) := by decide +kernel
theorem dX10_init_20 : decode cX10_init 20 = .ok (.aload_n 0, 1) := by decide +kernel
theorem dX10_init_21 : decode cX10_init 21 = .ok (.sipush 320, 3) := by decide +kernel
theorem dX10_init_24 : decode cX10_init 24 = .ok (.newarray .int, 2) := by decide +kernel
theorem dX10_init_26 : decode cX10_init 26 = .ok (.putfield 16, 3) := by decide +kernel
theorem dX10_init_29 : decode cX10_init 29 = .ok (.aload_n 0, 1) := by decide +kernel
theorem dX10_init_30 : decode cX10_init 30 = .ok (.bipush 40, 2) := by decide +kernel
theorem dX10_init_32 : decode cX10_init 32 = .ok (.newarray .int, 2) := by decide +kernel
theorem dX10_init_34 : decode cX10_init 34 = .ok (.putfield 19, 3) := by decide +kernel
theorem dX10_init_37 : decode cX10_init 37 = .ok (.aload_n 0, 1) := by decide +kernel
theorem dX10_init_38 : decode cX10_init 38 = .ok (.sipush 160, 3) := by decide +kernel
theorem dX10_init_41 : decode cX10_init 41 = .ok (.newarray .int, 2) := by decide +kernel
theorem dX10_init_43 : decode cX10_init 43 = .ok (.putfield 22, 3) := by decide +kernel
theorem dX10_init_46 : decode cX10_init 46 = .ok (.aload_n 0, 1) := by decide +kernel
theorem dX10_init_47 : decode cX10_init 47 = .ok (.bipush 55, 2) := by decide +kernel
theorem dX10_init_49 : decode cX10_init 49 = .ok (.newarray .int, 2) := by decide +kernel
theorem dX10_init_51 : decode cX10_init 51 = .ok (.putfield 25, 3) := by decide +kernel
theorem dX10_init_54 : decode cX10_init 54 = .ok (.aload_n 0, 1) := by decide +kernel
theorem dX10_init_55 : decode cX10_init 55 = .ok (.bipush 29, 2) := by decide +kernel
theorem dX10_init_57 : decode cX10_init 57 = .ok (.newarray .int, 2) := by decide +kernel
theorem dX10_init_59 : decode cX10_init 59 = .ok (.putfield 28, 3) := by decide +kernel
theorem dX10_init_62 : decode cX10_init 62 = .ok (.aload_n 0, 1) := by decide +kernel
theorem dX10_init_63 : decode cX10_init 63 = .ok (.bipush 55, 2) := by decide +kernel
theorem dX10_init_65 : decode cX10_init 65 = .ok (.newarray .int, 2) := by decide +kernel
theorem dX10_init_67 : decode cX10_init 67 = .ok (.putfield 31, 3) := by decide +kernel
theorem dX10_init_70 : decode cX10_init 70 = .ok (.aload_n 0, 1) := by decide +kernel
theorem dX10_init_71 : decode cX10_init 71 = .ok (.sipush 168, 3) := by decide +kernel
theorem dX10_init_74 : decode cX10_init 74 = .ok (.newarray .int, 2) := by decide +kernel
theorem dX10_init_76 : decode cX10_init 76 = .ok (.putfield 34, 3) := by decide +kernel
theorem dX10_init_79 : decode cX10_init 79 = .ok (.aload_n 0, 1) := by decide +kernel
theorem dX10_init_80 : decode cX10_init 80 = .ok (.iconst 2, 1) := by decide +kernel
theorem dX10_init_81 : decode cX10_init 81 = .ok (.newarray .boolean, 2) := by decide +kernel
theorem dX10_init_83 : decode cX10_init 83 = .ok (.putfield 37, 3) := by decide +kernel
theorem dX10_init_86 : decode cX10_init 86 = .ok (.aload_n 0, 1) := by decide +kernel
theorem dX10_init_87 : decode cX10_init 87 = .ok (.sipush 696, 3) := by decide +kernel
theorem dX10_init_90 : decode cX10_init 90 = .ok (.newarray .int, 2) := by decide +kernel
theorem dX10_init_92 : decode cX10_init 92 = .ok (.putfield 41, 3) := by decide +kernel
theorem dX10_init_95 : decode cX10_init 95 = .ok (.aload_n 0, 1) := by decide +kernel
theorem dX10_init_96 : decode cX10_init 96 = .ok (.iconst 3, 1) := by decide +kernel
theorem dX10_init_97 : decode cX10_init 97 = .ok (.newarray .int, 2) := by decide +kernel
theorem dX10_init_99 : decode cX10_init 99 = .ok (.putfield 44, 3) := by decide +kernel
theorem dX10_init_102 : decode cX10_init 102 = .ok (.aload_n 0, 1) := by decide +kernel
theorem dX10_init_103 : decode cX10_init 103 = .ok (.bipush 6, 2) := by decide +kernel
theorem dX10_init_105 : decode cX10_init 105 = .ok (.newarray .int, 2) := by decide +kernel
theorem dX10_init_107 : decode cX10_init 107 = .ok (.putfield 47, 3) := by decide +kernel
theorem dX10_init_110 : decode cX10_init 110 = .ok (.aload_n 0, 1) := by decide +kernel
theorem dX10_init_111 : decode cX10_init 111 = .ok (.bipush 29, 2) := by decide +kernel
theorem dX10_init_113 : decode cX10_init 113 = .ok (.newarray .int, 2) := by decide +kernel
theorem dX10_init_115 : decode cX10_init 115 = .ok (.putfield 50, 3) := by decide +kernel
theorem dX10_init_118 : decode cX10_init 118 = .ok (.aload_n 0, 1) := by decide +kernel
theorem dX10_init_119 : decode cX10_init 119 = .ok (.bipush 6, 2) := by decide +kernel
theorem dX10_init_121 : decode cX10_init 121 = .ok (.newarray .int, 2) := by decide +kernel
theorem dX10_init_123 : decode cX10_init 123 = .ok (.putfield 53, 3) := by decide +kernel
theorem dX10_init_126 : decode cX10_init 126 = .ok (.aload_n 0, 1) := by decide +kernel
theorem dX10_init_127 : decode cX10_init 127 = .ok (.bipush 6, 2) := by decide +kernel
theorem dX10_init_129 : decode cX10_init 129 = .ok (.newarray .int, 2) := by decide +kernel
theorem dX10_init_131 : decode cX10_init 131 = .ok (.putfield 56, 3) := by decide +kernel
theorem dX10_init_134 : decode cX10_init 134 = .ok (.aload_n 0, 1) := by decide +kernel
theorem dX10_init_135 : decode cX10_init 135 = .ok (.bipush 16, 2) := by decide +kernel
theorem dX10_init_137 : decode cX10_init 137 = .ok (.newarray .int, 2) := by decide +kernel
theorem dX10_init_139 : decode cX10_init 139 = .ok (.putfield 59, 3) := by decide +kernel
theorem dX10_init_142 : decode cX10_init 142 = .ok (.iconst 0, 1) := by decide +kernel
theorem dX10_init_143 : decode cX10_init 143 = .ok (.istore_n 1, 1) := by decide +kernel
theorem dX10_init_144 : decode cX10_init 144 = .ok (.iload_n 1, 1) := by decide +kernel
theorem dX10_init_145 : decode cX10_init 145 = .ok (.bipush 8, 2) := by decide +kernel
theorem dX10_init_147 : decode cX10_init 147 = .ok (.if_icmp .ge 16, 3) := by decide +kernel
theorem dX10_init_150 : decode cX10_init 150 = .ok (.aload_n 0, 1) := by decide +kernel
theorem dX10_init_151 : decode cX10_init 151 = .ok (.getfield 7, 3) := by decide +kernel
theorem dX10_init_154 : decode cX10_init 154 = .ok (.iload_n 1, 1) := by decide +kernel
theorem dX10_init_155 : decode cX10_init 155 = .ok (.iconst (-1), 1) := by decide +kernel
theorem dX10_init_156 : decode cX10_init 156 = .ok (.iastore, 1) := by decide +kernel
theorem dX10_init_157 : decode cX10_init 157 = .ok (.iinc 1 1, 3) := by decide +kernel
theorem dX10_init_160 : decode cX10_init 160 = .ok (.goto (-16), 3) := by decide +kernel
theorem dX10_init_163 : decode cX10_init 163 = .ok (.return_, 1) := by decide +kernel
theorem dX10_isRow_0 : decode cX10_isRow 0 = .ok (.iload_n 0, 1) := by decide +kernel
theorem dX10_isRow_1 : decode cX10_isRow 1 = .ok (.i2l, 1) := by decide +kernel
theorem dX10_isRow_2 : decode cX10_isRow 2 = .ok (.lconst 0, 1) := by decide +kernel
theorem dX10_isRow_3 : decode cX10_isRow 3 = .ok (.ldc2_w 62, 3) := by decide +kernel
theorem dX10_isRow_6 : decode cX10_isRow 6 = .ok (.invokestatic 64, 3) := by decide +kernel
theorem dX10_isRow_9 : decode cX10_isRow 9 = .ok (.ireturn, 1) := by decide +kernel
theorem dX10_finds_0 : decode cX10_finds 0 = .ok (.aload_n 0, 1) := by decide +kernel
theorem dX10_finds_1 : decode cX10_finds 1 = .ok (.iload_n 1, 1) := by decide +kernel
theorem dX10_finds_2 : decode cX10_finds 2 = .ok (.putfield 68, 3) := by decide +kernel
theorem dX10_finds_5 : decode cX10_finds 5 = .ok (.ldc 72, 2) := by decide +kernel
theorem dX10_finds_7 : decode cX10_finds 7 = .ok (.iload_n 1, 1) := by decide +kernel
theorem dX10_finds_8 : decode cX10_finds 8 = .ok (.isub, 1) := by decide +kernel
theorem dX10_finds_9 : decode cX10_finds 9 = .ok (.ireturn, 1) := by decide +kernel
theorem dX10_well_0 : decode cX10_well 0 = .ok (.aload_n 0, 1) := by decide +kernel
theorem dX10_well_1 : decode cX10_well 1 = .ok (.iconst 0, 1) := by decide +kernel
theorem dX10_well_2 : decode cX10_well 2 = .ok (.putfield 68, 3) := by decide +kernel
theorem dX10_well_5 : decode cX10_well 5 = .ok (.iload_n 1, 1) := by decide +kernel
theorem dX10_well_6 : decode cX10_well 6 = .ok (.ireturn, 1) := by decide +kernel
theorem dX10_row_0 : decode cX10_row 0 = .ok (.iload_n 1, 1) := by decide +kernel
theorem dX10_row_1 : decode cX10_row 1 = .ok (.invokestatic 73, 3) := by decide +kernel
theorem dX10_row_4 : decode cX10_row 4 = .ok (.ifCond .eq 21, 3) := by decide +kernel
theorem dX10_row_7 : decode cX10_row 7 = .ok (.iload_n 2, 1) := by decide +kernel
theorem dX10_row_8 : decode cX10_row 8 = .ok (.i2l, 1) := by decide +kernel
theorem dX10_row_9 : decode cX10_row 9 = .ok (.lconst 0, 1) := by decide +kernel
theorem dX10_row_10 : decode cX10_row 10 = .ok (.ldc2_w 77, 3) := by decide +kernel
theorem dX10_row_13 : decode cX10_row 13 = .ok (.invokestatic 64, 3) := by decide +kernel
theorem dX10_row_16 : decode cX10_row 16 = .ok (.ifCond .eq 9, 3) := by decide +kernel
theorem dX10_row_19 : decode cX10_row 19 = .ok (.iload_n 3, 1) := by decide +kernel
theorem dX10_row_20 : decode cX10_row 20 = .ok (.bipush 40, 2) := by decide +kernel
theorem dX10_row_22 : decode cX10_row 22 = .ok (.if_icmp .le 6, 3) := by decide +kernel
theorem dX10_row_25 : decode cX10_row 25 = .ok (.ldc 79, 2) := by decide +kernel
theorem dX10_row_27 : decode cX10_row 27 = .ok (.ireturn, 1) := by decide +kernel
theorem dX10_row_28 : decode cX10_row 28 = .ok (.iload_n 3, 1) := by decide +kernel
theorem dX10_row_29 : decode cX10_row 29 = .ok (.ifCond .ge 9, 3) := by decide +kernel
theorem dX10_row_32 : decode cX10_row 32 = .ok (.aload_n 0, 1) := by decide +kernel
theorem dX10_row_33 : decode cX10_row 33 = .ok (.iconst 4, 1) := by decide +kernel
theorem dX10_row_34 : decode cX10_row 34 = .ok (.invokevirtual 80, 3) := by decide +kernel
theorem dX10_row_37 : decode cX10_row 37 = .ok (.ireturn, 1) := by decide +kernel
theorem dX10_row_38 : decode cX10_row 38 = .ok (.aload_n 0, 1) := by decide +kernel
theorem dX10_row_39 : decode cX10_row 39 = .ok (.getfield 7, 3) := by decide +kernel
theorem dX10_row_42 : decode cX10_row 42 = .ok (.iload_n 1, 1) := by decide +kernel
theorem dX10_row_43 : decode cX10_row 43 = .ok (.iload_n 2, 1) := by decide +kernel
theorem dX10_row_44 : decode cX10_row 44 = .ok (.iastore, 1) := by decide +kernel
theorem dX10_row_45 : decode cX10_row 45 = .ok (.aload_n 0, 1) := by decide +kernel
theorem dX10_row_46 : decode cX10_row 46 = .ok (.getfield 13, 3) := by decide +kernel
theorem dX10_row_49 : decode cX10_row 49 = .ok (.iload_n 1, 1) := by decide +kernel
theorem dX10_row_50 : decode cX10_row 50 = .ok (.iload_n 3, 1) := by decide +kernel
theorem dX10_row_51 : decode cX10_row 51 = .ok (.iastore, 1) := by decide +kernel
theorem dX10_row_52 : decode cX10_row 52 = .ok (.iconst 0, 1) := by decide +kernel
theorem dX10_row_53 : decode cX10_row 53 = .ok (.istore 4, 2) := by decide +kernel
theorem dX10_row_55 : decode cX10_row 55 = .ok (.iload 4, 2) := by decide +kernel
theorem dX10_row_57 : decode cX10_row 57 = .ok (.bipush 40, 2) := by decide +kernel
theorem dX10_row_59 : decode cX10_row 59 = .ok (.if_icmp .ge 22, 3) := by decide +kernel
theorem dX10_row_62 : decode cX10_row 62 = .ok (.aload_n 0, 1) := by decide +kernel
theorem dX10_row_63 : decode cX10_row 63 = .ok (.getfield 16, 3) := by decide +kernel
theorem dX10_row_66 : decode cX10_row 66 = .ok (.bipush 40, 2) := by decide +kernel
theorem dX10_row_68 : decode cX10_row 68 = .ok (.iload_n 1, 1) := by decide +kernel
theorem dX10_row_69 : decode cX10_row 69 = .ok (.imul, 1) := by decide +kernel
theorem dX10_row_70 : decode cX10_row 70 = .ok (.iload 4, 2) := by decide +kernel
theorem dX10_row_72 : decode cX10_row 72 = .ok (.iadd, 1) := by decide +kernel
theorem dX10_row_73 : decode cX10_row 73 = .ok (.iconst 0, 1) := by decide +kernel
theorem dX10_row_74 : decode cX10_row 74 = .ok (.iastore, 1) := by decide +kernel
theorem dX10_row_75 : decode cX10_row 75 = .ok (.iinc 4 1, 3) := by decide +kernel
theorem dX10_row_78 : decode cX10_row 78 = .ok (.goto (-23), 3) := by decide +kernel
theorem dX10_row_81 : decode cX10_row 81 = .ok (.aload_n 0, 1) := by decide +kernel
theorem dX10_row_82 : decode cX10_row 82 = .ok (.iload_n 3, 1) := by decide +kernel
theorem dX10_row_83 : decode cX10_row 83 = .ok (.invokevirtual 84, 3) := by decide +kernel
theorem dX10_row_86 : decode cX10_row 86 = .ok (.ireturn, 1) := by decide +kernel
theorem dX10_set_0 : decode cX10_set 0 = .ok (.iload_n 1, 1) := by decide +kernel
theorem dX10_set_1 : decode cX10_set 1 = .ok (.invokestatic 73, 3) := by decide +kernel
theorem dX10_set_4 : decode cX10_set 4 = .ok (.ifCond .ne 6, 3) := by decide +kernel
theorem dX10_set_7 : decode cX10_set 7 = .ok (.ldc 79, 2) := by decide +kernel
theorem dX10_set_9 : decode cX10_set 9 = .ok (.ireturn, 1) := by decide +kernel
theorem dX10_set_10 : decode cX10_set 10 = .ok (.aload_n 0, 1) := by decide +kernel
theorem dX10_set_11 : decode cX10_set 11 = .ok (.getfield 7, 3) := by decide +kernel
theorem dX10_set_14 : decode cX10_set 14 = .ok (.iload_n 1, 1) := by decide +kernel
theorem dX10_set_15 : decode cX10_set 15 = .ok (.iaload, 1) := by decide +kernel
theorem dX10_set_16 : decode cX10_set 16 = .ok (.ifCond .ge 9, 3) := by decide +kernel
theorem dX10_set_19 : decode cX10_set 19 = .ok (.aload_n 0, 1) := by decide +kernel
theorem dX10_set_20 : decode cX10_set 20 = .ok (.iconst 1, 1) := by decide +kernel
theorem dX10_set_21 : decode cX10_set 21 = .ok (.invokevirtual 80, 3) := by decide +kernel
theorem dX10_set_24 : decode cX10_set 24 = .ok (.ireturn, 1) := by decide +kernel
theorem dX10_set_25 : decode cX10_set 25 = .ok (.iload_n 2, 1) := by decide +kernel
theorem dX10_set_26 : decode cX10_set 26 = .ok (.i2l, 1) := by decide +kernel
theorem dX10_set_27 : decode cX10_set 27 = .ok (.lconst 0, 1) := by decide +kernel
theorem dX10_set_28 : decode cX10_set 28 = .ok (.aload_n 0, 1) := by decide +kernel
theorem dX10_set_29 : decode cX10_set 29 = .ok (.getfield 13, 3) := by decide +kernel
theorem dX10_set_32 : decode cX10_set 32 = .ok (.iload_n 1, 1) := by decide +kernel
theorem dX10_set_33 : decode cX10_set 33 = .ok (.iaload, 1) := by decide +kernel
theorem dX10_set_34 : decode cX10_set 34 = .ok (.iconst 1, 1) := by decide +kernel
theorem dX10_set_35 : decode cX10_set 35 = .ok (.isub, 1) := by decide +kernel
theorem dX10_set_36 : decode cX10_set 36 = .ok (.i2l, 1) := by decide +kernel
theorem dX10_set_37 : decode cX10_set 37 = .ok (.invokestatic 64, 3) := by decide +kernel
theorem dX10_set_40 : decode cX10_set 40 = .ok (.ifCond .ne 9, 3) := by decide +kernel
theorem dX10_set_43 : decode cX10_set 43 = .ok (.aload_n 0, 1) := by decide +kernel
theorem dX10_set_44 : decode cX10_set 44 = .ok (.iconst 2, 1) := by decide +kernel
theorem dX10_set_45 : decode cX10_set 45 = .ok (.invokevirtual 80, 3) := by decide +kernel
theorem dX10_set_48 : decode cX10_set 48 = .ok (.ireturn, 1) := by decide +kernel
theorem dX10_set_49 : decode cX10_set 49 = .ok (.aload_n 0, 1) := by decide +kernel
theorem dX10_set_50 : decode cX10_set 50 = .ok (.getfield 7, 3) := by decide +kernel
theorem dX10_set_53 : decode cX10_set 53 = .ok (.iload_n 1, 1) := by decide +kernel
theorem dX10_set_54 : decode cX10_set 54 = .ok (.iaload, 1) := by decide +kernel
theorem dX10_set_55 : decode cX10_set 55 = .ok (.ifCond .ne 8, 3) := by decide +kernel
theorem dX10_set_58 : decode cX10_set 58 = .ok (.iload_n 3, 1) := by decide +kernel
theorem dX10_set_59 : decode cX10_set 59 = .ok (.i2b, 1) := by decide +kernel
theorem dX10_set_60 : decode cX10_set 60 = .ok (.goto 19, 3) := by decide +kernel
theorem dX10_set_63 : decode cX10_set 63 = .ok (.aload_n 0, 1) := by decide +kernel
theorem dX10_set_64 : decode cX10_set 64 = .ok (.getfield 7, 3) := by decide +kernel
theorem dX10_set_67 : decode cX10_set 67 = .ok (.iload_n 1, 1) := by decide +kernel
theorem dX10_set_68 : decode cX10_set 68 = .ok (.iaload, 1) := by decide +kernel
theorem dX10_set_69 : decode cX10_set 69 = .ok (.iconst 1, 1) := by decide +kernel
theorem dX10_set_70 : decode cX10_set 70 = .ok (.if_icmp .ne 8, 3) := by decide +kernel
theorem dX10_set_73 : decode cX10_set 73 = .ok (.iload_n 3, 1) := by decide +kernel
theorem dX10_set_74 : decode cX10_set 74 = .ok (.i2s, 1) := by decide +kernel
theorem dX10_set_75 : decode cX10_set 75 = .ok (.goto 4, 3) := by decide +kernel
theorem dX10_set_78 : decode cX10_set 78 = .ok (.iload_n 3, 1) := by decide +kernel
theorem dX10_set_79 : decode cX10_set 79 = .ok (.istore 4, 2) := by decide +kernel
theorem dX10_set_81 : decode cX10_set 81 = .ok (.aload_n 0, 1) := by decide +kernel
theorem dX10_set_82 : decode cX10_set 82 = .ok (.getfield 16, 3) := by decide +kernel
theorem dX10_set_85 : decode cX10_set 85 = .ok (.bipush 40, 2) := by decide +kernel
theorem dX10_set_87 : decode cX10_set 87 = .ok (.iload_n 1, 1) := by decide +kernel
theorem dX10_set_88 : decode cX10_set 88 = .ok (.imul, 1) := by decide +kernel
theorem dX10_set_89 : decode cX10_set 89 = .ok (.iload_n 2, 1) := by decide +kernel
theorem dX10_set_90 : decode cX10_set 90 = .ok (.iadd, 1) := by decide +kernel
theorem dX10_set_91 : decode cX10_set 91 = .ok (.iload 4, 2) := by decide +kernel
theorem dX10_set_93 : decode cX10_set 93 = .ok (.iastore, 1) := by decide +kernel
theorem dX10_set_94 : decode cX10_set 94 = .ok (.aload_n 0, 1) := by decide +kernel
theorem dX10_set_95 : decode cX10_set 95 = .ok (.iload 4, 2) := by decide +kernel
theorem dX10_set_97 : decode cX10_set 97 = .ok (.invokevirtual 84, 3) := by decide +kernel
theorem dX10_set_100 : decode cX10_set 100 = .ok (.ireturn, 1) := by decide +kernel
theorem dX10_copy_0 : decode cX10_copy 0 = .ok (.iload_n 1, 1) := by decide +kernel
theorem dX10_copy_1 : decode cX10_copy 1 = .ok (.invokestatic 73, 3) := by decide +kernel
theorem dX10_copy_4 : decode cX10_copy 4 = .ok (.ifCond .eq 10, 3) := by decide +kernel
theorem dX10_copy_7 : decode cX10_copy 7 = .ok (.iload_n 3, 1) := by decide +kernel
theorem dX10_copy_8 : decode cX10_copy 8 = .ok (.invokestatic 73, 3) := by decide +kernel
theorem dX10_copy_11 : decode cX10_copy 11 = .ok (.ifCond .ne 6, 3) := by decide +kernel
theorem dX10_copy_14 : decode cX10_copy 14 = .ok (.ldc 79, 2) := by decide +kernel
theorem dX10_copy_16 : decode cX10_copy 16 = .ok (.ireturn, 1) := by decide +kernel
theorem dX10_copy_17 : decode cX10_copy 17 = .ok (.aload_n 0, 1) := by decide +kernel
theorem dX10_copy_18 : decode cX10_copy 18 = .ok (.getfield 7, 3) := by decide +kernel
theorem dX10_copy_21 : decode cX10_copy 21 = .ok (.iload_n 1, 1) := by decide +kernel
theorem dX10_copy_22 : decode cX10_copy 22 = .ok (.iaload, 1) := by decide +kernel
theorem dX10_copy_23 : decode cX10_copy 23 = .ok (.ifCond .lt 12, 3) := by decide +kernel
theorem dX10_copy_26 : decode cX10_copy 26 = .ok (.aload_n 0, 1) := by decide +kernel
theorem dX10_copy_27 : decode cX10_copy 27 = .ok (.getfield 7, 3) := by decide +kernel
theorem dX10_copy_30 : decode cX10_copy 30 = .ok (.iload_n 3, 1) := by decide +kernel
theorem dX10_copy_31 : decode cX10_copy 31 = .ok (.iaload, 1) := by decide +kernel
theorem dX10_copy_32 : decode cX10_copy 32 = .ok (.ifCond .ge 9, 3) := by decide +kernel
theorem dX10_copy_35 : decode cX10_copy 35 = .ok (.aload_n 0, 1) := by decide +kernel
theorem dX10_copy_36 : decode cX10_copy 36 = .ok (.iconst 1, 1) := by decide +kernel
theorem dX10_copy_37 : decode cX10_copy 37 = .ok (.invokevirtual 80, 3) := by decide +kernel
theorem dX10_copy_40 : decode cX10_copy 40 = .ok (.ireturn, 1) := by decide +kernel
theorem dX10_copy_41 : decode cX10_copy 41 = .ok (.aload_n 0, 1) := by decide +kernel
theorem dX10_copy_42 : decode cX10_copy 42 = .ok (.getfield 7, 3) := by decide +kernel
theorem dX10_copy_45 : decode cX10_copy 45 = .ok (.iload_n 1, 1) := by decide +kernel
theorem dX10_copy_46 : decode cX10_copy 46 = .ok (.iaload, 1) := by decide +kernel
theorem dX10_copy_47 : decode cX10_copy 47 = .ok (.aload_n 0, 1) := by decide +kernel
theorem dX10_copy_48 : decode cX10_copy 48 = .ok (.getfield 7, 3) := by decide +kernel
theorem dX10_copy_51 : decode cX10_copy 51 = .ok (.iload_n 3, 1) := by decide +kernel
theorem dX10_copy_52 : decode cX10_copy 52 = .ok (.iaload, 1) := by decide +kernel
theorem dX10_copy_53 : decode cX10_copy 53 = .ok (.if_icmp .eq 9, 3) := by decide +kernel
theorem dX10_copy_56 : decode cX10_copy 56 = .ok (.aload_n 0, 1) := by decide +kernel
theorem dX10_copy_57 : decode cX10_copy 57 = .ok (.iconst 5, 1) := by decide +kernel
theorem dX10_copy_58 : decode cX10_copy 58 = .ok (.invokevirtual 80, 3) := by decide +kernel
theorem dX10_copy_61 : decode cX10_copy 61 = .ok (.ireturn, 1) := by decide +kernel
theorem dX10_copy_62 : decode cX10_copy 62 = .ok (.iload_n 2, 1) := by decide +kernel
theorem dX10_copy_63 : decode cX10_copy 63 = .ok (.ifCond .lt 48, 3) := by decide +kernel
theorem dX10_copy_66 : decode cX10_copy 66 = .ok (.iload 4, 2) := by decide +kernel
theorem dX10_copy_68 : decode cX10_copy 68 = .ok (.ifCond .lt 43, 3) := by decide +kernel
theorem dX10_copy_71 : decode cX10_copy 71 = .ok (.iload 5, 2) := by decide +kernel
theorem dX10_copy_73 : decode cX10_copy 73 = .ok (.ifCond .lt 38, 3) := by decide +kernel
theorem dX10_copy_76 : decode cX10_copy 76 = .ok (.iload_n 2, 1) := by decide +kernel
theorem dX10_copy_77 : decode cX10_copy 77 = .ok (.i2l, 1) := by decide +kernel
theorem dX10_copy_78 : decode cX10_copy 78 = .ok (.iload 5, 2) := by decide +kernel
theorem dX10_copy_80 : decode cX10_copy 80 = .ok (.i2l, 1) := by decide +kernel
theorem dX10_copy_81 : decode cX10_copy 81 = .ok (.ladd, 1) := by decide +kernel
theorem dX10_copy_82 : decode cX10_copy 82 = .ok (.aload_n 0, 1) := by decide +kernel
theorem dX10_copy_83 : decode cX10_copy 83 = .ok (.getfield 13, 3) := by decide +kernel
theorem dX10_copy_86 : decode cX10_copy 86 = .ok (.iload_n 1, 1) := by decide +kernel
theorem dX10_copy_87 : decode cX10_copy 87 = .ok (.iaload, 1) := by decide +kernel
theorem dX10_copy_88 : decode cX10_copy 88 = .ok (.i2l, 1) := by decide +kernel
theorem dX10_copy_89 : decode cX10_copy 89 = .ok (.lcmp, 1) := by decide +kernel
theorem dX10_copy_90 : decode cX10_copy 90 = .ok (.ifCond .gt 21, 3) := by decide +kernel
theorem dX10_copy_93 : decode cX10_copy 93 = .ok (.iload 4, 2) := by decide +kernel
theorem dX10_copy_95 : decode cX10_copy 95 = .ok (.i2l, 1) := by decide +kernel
theorem dX10_copy_96 : decode cX10_copy 96 = .ok (.iload 5, 2) := by decide +kernel
theorem dX10_copy_98 : decode cX10_copy 98 = .ok (.i2l, 1) := by decide +kernel
theorem dX10_copy_99 : decode cX10_copy 99 = .ok (.ladd, 1) := by decide +kernel
theorem dX10_copy_100 : decode cX10_copy 100 = .ok (.aload_n 0, 1) := by decide +kernel
theorem dX10_copy_101 : decode cX10_copy 101 = .ok (.getfield 13, 3) := by decide +kernel
theorem dX10_copy_104 : decode cX10_copy 104 = .ok (.iload_n 3, 1) := by decide +kernel
theorem dX10_copy_105 : decode cX10_copy 105 = .ok (.iaload, 1) := by decide +kernel
theorem dX10_copy_106 : decode cX10_copy 106 = .ok (.i2l, 1) := by decide +kernel
theorem dX10_copy_107 : decode cX10_copy 107 = .ok (.lcmp, 1) := by decide +kernel
theorem dX10_copy_108 : decode cX10_copy 108 = .ok (.ifCond .le 9, 3) := by decide +kernel
theorem dX10_copy_111 : decode cX10_copy 111 = .ok (.aload_n 0, 1) := by decide +kernel
theorem dX10_copy_112 : decode cX10_copy 112 = .ok (.iconst 2, 1) := by decide +kernel
theorem dX10_copy_113 : decode cX10_copy 113 = .ok (.invokevirtual 80, 3) := by decide +kernel
theorem dX10_copy_116 : decode cX10_copy 116 = .ok (.ireturn, 1) := by decide +kernel
theorem dX10_copy_117 : decode cX10_copy 117 = .ok (.iconst 0, 1) := by decide +kernel
theorem dX10_copy_118 : decode cX10_copy 118 = .ok (.istore 6, 2) := by decide +kernel
theorem dX10_copy_120 : decode cX10_copy 120 = .ok (.iload 6, 2) := by decide +kernel
theorem dX10_copy_122 : decode cX10_copy 122 = .ok (.iload 5, 2) := by decide +kernel
theorem dX10_copy_124 : decode cX10_copy 124 = .ok (.if_icmp .ge 30, 3) := by decide +kernel
theorem dX10_copy_127 : decode cX10_copy 127 = .ok (.aload_n 0, 1) := by decide +kernel
theorem dX10_copy_128 : decode cX10_copy 128 = .ok (.getfield 19, 3) := by decide +kernel
theorem dX10_copy_131 : decode cX10_copy 131 = .ok (.iload 6, 2) := by decide +kernel
theorem dX10_copy_133 : decode cX10_copy 133 = .ok (.aload_n 0, 1) := by decide +kernel
theorem dX10_copy_134 : decode cX10_copy 134 = .ok (.getfield 16, 3) := by decide +kernel
theorem dX10_copy_137 : decode cX10_copy 137 = .ok (.bipush 40, 2) := by decide +kernel
theorem dX10_copy_139 : decode cX10_copy 139 = .ok (.iload_n 1, 1) := by decide +kernel
theorem dX10_copy_140 : decode cX10_copy 140 = .ok (.imul, 1) := by decide +kernel
theorem dX10_copy_141 : decode cX10_copy 141 = .ok (.iload_n 2, 1) := by decide +kernel
theorem dX10_copy_142 : decode cX10_copy 142 = .ok (.iadd, 1) := by decide +kernel
theorem dX10_copy_143 : decode cX10_copy 143 = .ok (.iload 6, 2) := by decide +kernel
theorem dX10_copy_145 : decode cX10_copy 145 = .ok (.iadd, 1) := by decide +kernel
theorem dX10_copy_146 : decode cX10_copy 146 = .ok (.iaload, 1) := by decide +kernel
theorem dX10_copy_147 : decode cX10_copy 147 = .ok (.iastore, 1) := by decide +kernel
theorem dX10_copy_148 : decode cX10_copy 148 = .ok (.iinc 6 1, 3) := by decide +kernel
theorem dX10_copy_151 : decode cX10_copy 151 = .ok (.goto (-31), 3) := by decide +kernel
theorem dX10_copy_154 : decode cX10_copy 154 = .ok (.iconst 0, 1) := by decide +kernel
theorem dX10_copy_155 : decode cX10_copy 155 = .ok (.istore 6, 2) := by decide +kernel
theorem dX10_copy_157 : decode cX10_copy 157 = .ok (.iload 6, 2) := by decide +kernel
theorem dX10_copy_159 : decode cX10_copy 159 = .ok (.iload 5, 2) := by decide +kernel
theorem dX10_copy_161 : decode cX10_copy 161 = .ok (.if_icmp .ge 31, 3) := by decide +kernel
theorem dX10_copy_164 : decode cX10_copy 164 = .ok (.aload_n 0, 1) := by decide +kernel
theorem dX10_copy_165 : decode cX10_copy 165 = .ok (.getfield 16, 3) := by decide +kernel
theorem dX10_copy_168 : decode cX10_copy 168 = .ok (.bipush 40, 2) := by decide +kernel
theorem dX10_copy_170 : decode cX10_copy 170 = .ok (.iload_n 3, 1) := by decide +kernel
theorem dX10_copy_171 : decode cX10_copy 171 = .ok (.imul, 1) := by decide +kernel
theorem dX10_copy_172 : decode cX10_copy 172 = .ok (.iload 4, 2) := by decide +kernel
theorem dX10_copy_174 : decode cX10_copy 174 = .ok (.iadd, 1) := by decide +kernel
theorem dX10_copy_175 : decode cX10_copy 175 = .ok (.iload 6, 2) := by decide +kernel
theorem dX10_copy_177 : decode cX10_copy 177 = .ok (.iadd, 1) := by decide +kernel
theorem dX10_copy_178 : decode cX10_copy 178 = .ok (.aload_n 0, 1) := by decide +kernel
theorem dX10_copy_179 : decode cX10_copy 179 = .ok (.getfield 19, 3) := by decide +kernel
theorem dX10_copy_182 : decode cX10_copy 182 = .ok (.iload 6, 2) := by decide +kernel
theorem dX10_copy_184 : decode cX10_copy 184 = .ok (.iaload, 1) := by decide +kernel
theorem dX10_copy_185 : decode cX10_copy 185 = .ok (.iastore, 1) := by decide +kernel
theorem dX10_copy_186 : decode cX10_copy 186 = .ok (.iinc 6 1, 3) := by decide +kernel
theorem dX10_copy_189 : decode cX10_copy 189 = .ok (.goto (-32), 3) := by decide +kernel
theorem dX10_copy_192 : decode cX10_copy 192 = .ok (.aload_n 0, 1) := by decide +kernel
theorem dX10_copy_193 : decode cX10_copy 193 = .ok (.iload 5, 2) := by decide +kernel
theorem dX10_copy_195 : decode cX10_copy 195 = .ok (.invokevirtual 84, 3) := by decide +kernel
theorem dX10_copy_198 : decode cX10_copy 198 = .ok (.ireturn, 1) := by decide +kernel
theorem dX10_drop_0 : decode cX10_drop 0 = .ok (.iload_n 1, 1) := by decide +kernel
theorem dX10_drop_1 : decode cX10_drop 1 = .ok (.invokestatic 73, 3) := by decide +kernel
theorem dX10_drop_4 : decode cX10_drop 4 = .ok (.ifCond .ne 6, 3) := by decide +kernel
theorem dX10_drop_7 : decode cX10_drop 7 = .ok (.ldc 79, 2) := by decide +kernel
theorem dX10_drop_9 : decode cX10_drop 9 = .ok (.ireturn, 1) := by decide +kernel
theorem dX10_drop_10 : decode cX10_drop 10 = .ok (.aload_n 0, 1) := by decide +kernel
theorem dX10_drop_11 : decode cX10_drop 11 = .ok (.getfield 7, 3) := by decide +kernel
theorem dX10_drop_14 : decode cX10_drop 14 = .ok (.iload_n 1, 1) := by decide +kernel
theorem dX10_drop_15 : decode cX10_drop 15 = .ok (.iaload, 1) := by decide +kernel
theorem dX10_drop_16 : decode cX10_drop 16 = .ok (.ifCond .ge 9, 3) := by decide +kernel
theorem dX10_drop_19 : decode cX10_drop 19 = .ok (.aload_n 0, 1) := by decide +kernel
theorem dX10_drop_20 : decode cX10_drop 20 = .ok (.iconst 1, 1) := by decide +kernel
theorem dX10_drop_21 : decode cX10_drop 21 = .ok (.invokevirtual 80, 3) := by decide +kernel
theorem dX10_drop_24 : decode cX10_drop 24 = .ok (.ireturn, 1) := by decide +kernel
theorem dX10_drop_25 : decode cX10_drop 25 = .ok (.aload_n 0, 1) := by decide +kernel
theorem dX10_drop_26 : decode cX10_drop 26 = .ok (.getfield 7, 3) := by decide +kernel
theorem dX10_drop_29 : decode cX10_drop 29 = .ok (.iload_n 1, 1) := by decide +kernel
theorem dX10_drop_30 : decode cX10_drop 30 = .ok (.iconst (-1), 1) := by decide +kernel
theorem dX10_drop_31 : decode cX10_drop 31 = .ok (.iastore, 1) := by decide +kernel
theorem dX10_drop_32 : decode cX10_drop 32 = .ok (.aload_n 0, 1) := by decide +kernel
theorem dX10_drop_33 : decode cX10_drop 33 = .ok (.aload_n 0, 1) := by decide +kernel
theorem dX10_drop_34 : decode cX10_drop 34 = .ok (.getfield 13, 3) := by decide +kernel
theorem dX10_drop_37 : decode cX10_drop 37 = .ok (.iload_n 1, 1) := by decide +kernel
theorem dX10_drop_38 : decode cX10_drop 38 = .ok (.iaload, 1) := by decide +kernel
theorem dX10_drop_39 : decode cX10_drop 39 = .ok (.invokevirtual 84, 3) := by decide +kernel
theorem dX10_drop_42 : decode cX10_drop 42 = .ok (.ireturn, 1) := by decide +kernel
theorem dX10_feed_0 : decode cX10_feed 0 = .ok (.iload_n 1, 1) := by decide +kernel
theorem dX10_feed_1 : decode cX10_feed 1 = .ok (.i2l, 1) := by decide +kernel
theorem dX10_feed_2 : decode cX10_feed 2 = .ok (.lconst 0, 1) := by decide +kernel
theorem dX10_feed_3 : decode cX10_feed 3 = .ok (.ldc2_w 87, 3) := by decide +kernel
theorem dX10_feed_6 : decode cX10_feed 6 = .ok (.invokestatic 64, 3) := by decide +kernel
theorem dX10_feed_9 : decode cX10_feed 9 = .ok (.ifCond .ne 6, 3) := by decide +kernel
theorem dX10_feed_12 : decode cX10_feed 12 = .ok (.ldc 79, 2) := by decide +kernel
theorem dX10_feed_14 : decode cX10_feed 14 = .ok (.ireturn, 1) := by decide +kernel
theorem dX10_feed_15 : decode cX10_feed 15 = .ok (.aload_n 0, 1) := by decide +kernel
theorem dX10_feed_16 : decode cX10_feed 16 = .ok (.getfield 89, 3) := by decide +kernel
theorem dX10_feed_19 : decode cX10_feed 19 = .ok (.sipush 160, 3) := by decide +kernel
theorem dX10_feed_22 : decode cX10_feed 22 = .ok (.if_icmp .ne 6, 3) := by decide +kernel
theorem dX10_feed_25 : decode cX10_feed 25 = .ok (.ldc 92, 2) := by decide +kernel
theorem dX10_feed_27 : decode cX10_feed 27 = .ok (.ireturn, 1) := by decide +kernel
theorem dX10_feed_28 : decode cX10_feed 28 = .ok (.aload_n 0, 1) := by decide +kernel
theorem dX10_feed_29 : decode cX10_feed 29 = .ok (.getfield 22, 3) := by decide +kernel
theorem dX10_feed_32 : decode cX10_feed 32 = .ok (.aload_n 0, 1) := by decide +kernel
theorem dX10_feed_33 : decode cX10_feed 33 = .ok (.getfield 89, 3) := by decide +kernel
theorem dX10_feed_36 : decode cX10_feed 36 = .ok (.iload_n 1, 1) := by decide +kernel
theorem dX10_feed_37 : decode cX10_feed 37 = .ok (.iastore, 1) := by decide +kernel
theorem dX10_feed_38 : decode cX10_feed 38 = .ok (.aload_n 0, 1) := by decide +kernel
theorem dX10_feed_39 : decode cX10_feed 39 = .ok (.dup, 1) := by decide +kernel
theorem dX10_feed_40 : decode cX10_feed 40 = .ok (.getfield 89, 3) := by decide +kernel
theorem dX10_feed_43 : decode cX10_feed 43 = .ok (.iconst 1, 1) := by decide +kernel
theorem dX10_feed_44 : decode cX10_feed 44 = .ok (.iadd, 1) := by decide +kernel
theorem dX10_feed_45 : decode cX10_feed 45 = .ok (.putfield 89, 3) := by decide +kernel
theorem dX10_feed_48 : decode cX10_feed 48 = .ok (.aload_n 0, 1) := by decide +kernel
theorem dX10_feed_49 : decode cX10_feed 49 = .ok (.getfield 89, 3) := by decide +kernel
theorem dX10_feed_52 : decode cX10_feed 52 = .ok (.ireturn, 1) := by decide +kernel
theorem dX10_isFigure_0 : decode cX10_isFigure 0 = .ok (.aload_n 0, 1) := by decide +kernel
theorem dX10_isFigure_1 : decode cX10_isFigure 1 = .ok (.getfield 93, 3) := by decide +kernel
theorem dX10_isFigure_4 : decode cX10_isFigure 4 = .ok (.aload_n 0, 1) := by decide +kernel
theorem dX10_isFigure_5 : decode cX10_isFigure 5 = .ok (.getfield 89, 3) := by decide +kernel
theorem dX10_isFigure_8 : decode cX10_isFigure 8 = .ok (.if_icmp .ge 29, 3) := by decide +kernel
theorem dX10_isFigure_11 : decode cX10_isFigure 11 = .ok (.aload_n 0, 1) := by decide +kernel
theorem dX10_isFigure_12 : decode cX10_isFigure 12 = .ok (.getfield 22, 3) := by decide +kernel
theorem dX10_isFigure_15 : decode cX10_isFigure 15 = .ok (.aload_n 0, 1) := by decide +kernel
theorem dX10_isFigure_16 : decode cX10_isFigure 16 = .ok (.getfield 93, 3) := by decide +kernel
theorem dX10_isFigure_19 : decode cX10_isFigure 19 = .ok (.iaload, 1) := by decide +kernel
theorem dX10_isFigure_20 : decode cX10_isFigure 20 = .ok (.i2l, 1) := by decide +kernel
theorem dX10_isFigure_21 : decode cX10_isFigure 21 = .ok (.ldc2_w 96, 3) := by decide +kernel
theorem dX10_isFigure_24 : decode cX10_isFigure 24 = .ok (.ldc2_w 98, 3) := by decide +kernel
theorem dX10_isFigure_27 : decode cX10_isFigure 27 = .ok (.invokestatic 64, 3) := by decide +kernel
theorem dX10_isFigure_30 : decode cX10_isFigure 30 = .ok (.ifCond .eq 7, 3) := by decide +kernel
theorem dX10_isFigure_33 : decode cX10_isFigure 33 = .ok (.iconst 1, 1) := by decide +kernel
theorem dX10_isFigure_34 : decode cX10_isFigure 34 = .ok (.goto 4, 3) := by decide +kernel
theorem dX10_isFigure_37 : decode cX10_isFigure 37 = .ok (.iconst 0, 1) := by decide +kernel
theorem dX10_isFigure_38 : decode cX10_isFigure 38 = .ok (.ireturn, 1) := by decide +kernel
theorem dX10_scans_0 : decode cX10_scans 0 = .ok (.aload_n 0, 1) := by decide +kernel
theorem dX10_scans_1 : decode cX10_scans 1 = .ok (.aload_n 0, 1) := by decide +kernel
theorem dX10_scans_2 : decode cX10_scans 2 = .ok (.getfield 93, 3) := by decide +kernel
theorem dX10_scans_5 : decode cX10_scans 5 = .ok (.putfield 100, 3) := by decide +kernel
theorem dX10_scans_8 : decode cX10_scans 8 = .ok (.aload_n 0, 1) := by decide +kernel
theorem dX10_scans_9 : decode cX10_scans 9 = .ok (.getfield 93, 3) := by decide +kernel
theorem dX10_scans_12 : decode cX10_scans 12 = .ok (.aload_n 0, 1) := by decide +kernel
theorem dX10_scans_13 : decode cX10_scans 13 = .ok (.getfield 89, 3) := by decide +kernel
theorem dX10_scans_16 : decode cX10_scans 16 = .ok (.if_icmp .ne 9, 3) := by decide +kernel
theorem dX10_scans_19 : decode cX10_scans 19 = .ok (.aload_n 0, 1) := by decide +kernel
theorem dX10_scans_20 : decode cX10_scans 20 = .ok (.iconst 0, 1) := by decide +kernel
theorem dX10_scans_21 : decode cX10_scans 21 = .ok (.putfield 103, 3) := by decide +kernel
theorem dX10_scans_24 : decode cX10_scans 24 = .ok (.return_, 1) := by decide +kernel
theorem dX10_scans_25 : decode cX10_scans 25 = .ok (.aload_n 0, 1) := by decide +kernel
theorem dX10_scans_26 : decode cX10_scans 26 = .ok (.aload_n 0, 1) := by decide +kernel
theorem dX10_scans_27 : decode cX10_scans 27 = .ok (.getfield 22, 3) := by decide +kernel
theorem dX10_scans_30 : decode cX10_scans 30 = .ok (.aload_n 0, 1) := by decide +kernel
theorem dX10_scans_31 : decode cX10_scans 31 = .ok (.getfield 93, 3) := by decide +kernel
theorem dX10_scans_34 : decode cX10_scans 34 = .ok (.iaload, 1) := by decide +kernel
theorem dX10_scans_35 : decode cX10_scans 35 = .ok (.putfield 106, 3) := by decide +kernel
theorem dX10_scans_38 : decode cX10_scans 38 = .ok (.aload_n 0, 1) := by decide +kernel
theorem dX10_scans_39 : decode cX10_scans 39 = .ok (.invokevirtual 109, 3) := by decide +kernel
theorem dX10_scans_42 : decode cX10_scans 42 = .ok (.ifCond .eq 95, 3) := by decide +kernel
theorem dX10_scans_45 : decode cX10_scans 45 = .ok (.aload_n 0, 1) := by decide +kernel
theorem dX10_scans_46 : decode cX10_scans 46 = .ok (.iconst 0, 1) := by decide +kernel
theorem dX10_scans_47 : decode cX10_scans 47 = .ok (.putfield 106, 3) := by decide +kernel
theorem dX10_scans_50 : decode cX10_scans 50 = .ok (.aload_n 0, 1) := by decide +kernel
theorem dX10_scans_51 : decode cX10_scans 51 = .ok (.invokevirtual 109, 3) := by decide +kernel
theorem dX10_scans_54 : decode cX10_scans 54 = .ok (.ifCond .eq 60, 3) := by decide +kernel
theorem dX10_scans_57 : decode cX10_scans 57 = .ok (.aload_n 0, 1) := by decide +kernel
theorem dX10_scans_58 : decode cX10_scans 58 = .ok (.aload_n 0, 1) := by decide +kernel
theorem dX10_scans_59 : decode cX10_scans 59 = .ok (.getfield 93, 3) := by decide +kernel
theorem dX10_scans_62 : decode cX10_scans 62 = .ok (.aload_n 0, 1) := by decide +kernel
theorem dX10_scans_63 : decode cX10_scans 63 = .ok (.getfield 100, 3) := by decide +kernel
theorem dX10_scans_66 : decode cX10_scans 66 = .ok (.isub, 1) := by decide +kernel
theorem dX10_scans_67 : decode cX10_scans 67 = .ok (.iconst 2, 1) := by decide +kernel
theorem dX10_scans_68 : decode cX10_scans 68 = .ok (.if_icmp .ge 26, 3) := by decide +kernel
theorem dX10_scans_71 : decode cX10_scans 71 = .ok (.bipush 10, 2) := by decide +kernel
theorem dX10_scans_73 : decode cX10_scans 73 = .ok (.aload_n 0, 1) := by decide +kernel
theorem dX10_scans_74 : decode cX10_scans 74 = .ok (.getfield 106, 3) := by decide +kernel
theorem dX10_scans_77 : decode cX10_scans 77 = .ok (.imul, 1) := by decide +kernel
theorem dX10_scans_78 : decode cX10_scans 78 = .ok (.aload_n 0, 1) := by decide +kernel
theorem dX10_scans_79 : decode cX10_scans 79 = .ok (.getfield 22, 3) := by decide +kernel
theorem dX10_scans_82 : decode cX10_scans 82 = .ok (.aload_n 0, 1) := by decide +kernel
theorem dX10_scans_83 : decode cX10_scans 83 = .ok (.getfield 93, 3) := by decide +kernel
theorem dX10_scans_86 : decode cX10_scans 86 = .ok (.iaload, 1) := by decide +kernel
theorem dX10_scans_87 : decode cX10_scans 87 = .ok (.iadd, 1) := by decide +kernel
theorem dX10_scans_88 : decode cX10_scans 88 = .ok (.bipush 48, 2) := by decide +kernel
theorem dX10_scans_90 : decode cX10_scans 90 = .ok (.isub, 1) := by decide +kernel
theorem dX10_scans_91 : decode cX10_scans 91 = .ok (.goto 7, 3) := by decide +kernel
theorem dX10_scans_94 : decode cX10_scans 94 = .ok (.aload_n 0, 1) := by decide +kernel
theorem dX10_scans_95 : decode cX10_scans 95 = .ok (.getfield 106, 3) := by decide +kernel
theorem dX10_scans_98 : decode cX10_scans 98 = .ok (.putfield 106, 3) := by decide +kernel
theorem dX10_scans_101 : decode cX10_scans 101 = .ok (.aload_n 0, 1) := by decide +kernel
theorem dX10_scans_102 : decode cX10_scans 102 = .ok (.dup, 1) := by decide +kernel
theorem dX10_scans_103 : decode cX10_scans 103 = .ok (.getfield 93, 3) := by decide +kernel
theorem dX10_scans_106 : decode cX10_scans 106 = .ok (.iconst 1, 1) := by decide +kernel
theorem dX10_scans_107 : decode cX10_scans 107 = .ok (.iadd, 1) := by decide +kernel
theorem dX10_scans_108 : decode cX10_scans 108 = .ok (.putfield 93, 3) := by decide +kernel
theorem dX10_scans_111 : decode cX10_scans 111 = .ok (.goto (-61), 3) := by decide +kernel
theorem dX10_scans_114 : decode cX10_scans 114 = .ok (.aload_n 0, 1) := by decide +kernel
theorem dX10_scans_115 : decode cX10_scans 115 = .ok (.aload_n 0, 1) := by decide +kernel
theorem dX10_scans_116 : decode cX10_scans 116 = .ok (.getfield 93, 3) := by decide +kernel
theorem dX10_scans_119 : decode cX10_scans 119 = .ok (.aload_n 0, 1) := by decide +kernel
theorem dX10_scans_120 : decode cX10_scans 120 = .ok (.getfield 100, 3) := by decide +kernel
theorem dX10_scans_123 : decode cX10_scans 123 = .ok (.isub, 1) := by decide +kernel
theorem dX10_scans_124 : decode cX10_scans 124 = .ok (.iconst 2, 1) := by decide +kernel
theorem dX10_scans_125 : decode cX10_scans 125 = .ok (.if_icmp .le 7, 3) := by decide +kernel
theorem dX10_scans_128 : decode cX10_scans 128 = .ok (.iconst 1, 1) := by decide +kernel
theorem dX10_scans_129 : decode cX10_scans 129 = .ok (.goto 4, 3) := by decide +kernel
theorem dX10_scans_132 : decode cX10_scans 132 = .ok (.iconst 2, 1) := by decide +kernel
theorem dX10_scans_133 : decode cX10_scans 133 = .ok (.putfield 103, 3) := by decide +kernel
theorem dX10_scans_136 : decode cX10_scans 136 = .ok (.return_, 1) := by decide +kernel
theorem dX10_scans_137 : decode cX10_scans 137 = .ok (.aload_n 0, 1) := by decide +kernel
theorem dX10_scans_138 : decode cX10_scans 138 = .ok (.aload_n 0, 1) := by decide +kernel
theorem dX10_scans_139 : decode cX10_scans 139 = .ok (.getfield 106, 3) := by decide +kernel
theorem dX10_scans_142 : decode cX10_scans 142 = .ok (.i2l, 1) := by decide +kernel
theorem dX10_scans_143 : decode cX10_scans 143 = .ok (.ldc2_w 113, 3) := by decide +kernel
theorem dX10_scans_146 : decode cX10_scans 146 = .ok (.ldc2_w 115, 3) := by decide +kernel
theorem dX10_scans_149 : decode cX10_scans 149 = .ok (.invokestatic 64, 3) := by decide +kernel
theorem dX10_scans_152 : decode cX10_scans 152 = .ok (.ifCond .eq 7, 3) := by decide +kernel
theorem dX10_scans_155 : decode cX10_scans 155 = .ok (.iconst 3, 1) := by decide +kernel
theorem dX10_scans_156 : decode cX10_scans 156 = .ok (.goto 30, 3) := by decide +kernel
theorem dX10_scans_159 : decode cX10_scans 159 = .ok (.aload_n 0, 1) := by decide +kernel
theorem dX10_scans_160 : decode cX10_scans 160 = .ok (.getfield 106, 3) := by decide +kernel
theorem dX10_scans_163 : decode cX10_scans 163 = .ok (.bipush 44, 2) := by decide +kernel
theorem dX10_scans_165 : decode cX10_scans 165 = .ok (.if_icmp .ne 7, 3) := by decide +kernel
theorem dX10_scans_168 : decode cX10_scans 168 = .ok (.iconst 4, 1) := by decide +kernel
theorem dX10_scans_169 : decode cX10_scans 169 = .ok (.goto 17, 3) := by decide +kernel
theorem dX10_scans_172 : decode cX10_scans 172 = .ok (.aload_n 0, 1) := by decide +kernel
theorem dX10_scans_173 : decode cX10_scans 173 = .ok (.getfield 106, 3) := by decide +kernel
theorem dX10_scans_176 : decode cX10_scans 176 = .ok (.bipush 59, 2) := by decide +kernel
theorem dX10_scans_178 : decode cX10_scans 178 = .ok (.if_icmp .ne 7, 3) := by decide +kernel
theorem dX10_scans_181 : decode cX10_scans 181 = .ok (.iconst 5, 1) := by decide +kernel
theorem dX10_scans_182 : decode cX10_scans 182 = .ok (.goto 4, 3) := by decide +kernel
theorem dX10_scans_185 : decode cX10_scans 185 = .ok (.iconst 1, 1) := by decide +kernel
theorem dX10_scans_186 : decode cX10_scans 186 = .ok (.putfield 103, 3) := by decide +kernel
theorem dX10_scans_189 : decode cX10_scans 189 = .ok (.aload_n 0, 1) := by decide +kernel
theorem dX10_scans_190 : decode cX10_scans 190 = .ok (.dup, 1) := by decide +kernel
theorem dX10_scans_191 : decode cX10_scans 191 = .ok (.getfield 93, 3) := by decide +kernel
theorem dX10_scans_194 : decode cX10_scans 194 = .ok (.iconst 1, 1) := by decide +kernel
theorem dX10_scans_195 : decode cX10_scans 195 = .ok (.iadd, 1) := by decide +kernel
theorem dX10_scans_196 : decode cX10_scans 196 = .ok (.putfield 93, 3) := by decide +kernel
theorem dX10_scans_199 : decode cX10_scans 199 = .ok (.return_, 1) := by decide +kernel
theorem dX10_faults_0 : decode cX10_faults 0 = .ok (.aload_n 0, 1) := by decide +kernel
theorem dX10_faults_1 : decode cX10_faults 1 = .ok (.iload_n 1, 1) := by decide +kernel
theorem dX10_faults_2 : decode cX10_faults 2 = .ok (.putfield 117, 3) := by decide +kernel
theorem dX10_faults_5 : decode cX10_faults 5 = .ok (.iconst 0, 1) := by decide +kernel
theorem dX10_faults_6 : decode cX10_faults 6 = .ok (.ireturn, 1) := by decide +kernel
theorem dX10_takes_0 : decode cX10_takes 0 = .ok (.aload_n 0, 1) := by decide +kernel
theorem dX10_takes_1 : decode cX10_takes 1 = .ok (.getfield 103, 3) := by decide +kernel
theorem dX10_takes_4 : decode cX10_takes 4 = .ok (.iconst 2, 1) := by decide +kernel
theorem dX10_takes_5 : decode cX10_takes 5 = .ok (.if_icmp .eq 9, 3) := by decide +kernel
theorem dX10_takes_8 : decode cX10_takes 8 = .ok (.aload_n 0, 1) := by decide +kernel
theorem dX10_takes_9 : decode cX10_takes 9 = .ok (.iconst 1, 1) := by decide +kernel
theorem dX10_takes_10 : decode cX10_takes 10 = .ok (.invokevirtual 120, 3) := by decide +kernel
theorem dX10_takes_13 : decode cX10_takes 13 = .ok (.ireturn, 1) := by decide +kernel
theorem dX10_takes_14 : decode cX10_takes 14 = .ok (.aload_n 0, 1) := by decide +kernel
theorem dX10_takes_15 : decode cX10_takes 15 = .ok (.getfield 106, 3) := by decide +kernel
theorem dX10_takes_18 : decode cX10_takes 18 = .ok (.i2l, 1) := by decide +kernel
theorem dX10_takes_19 : decode cX10_takes 19 = .ok (.iload_n 1, 1) := by decide +kernel
theorem dX10_takes_20 : decode cX10_takes 20 = .ok (.i2l, 1) := by decide +kernel
theorem dX10_takes_21 : decode cX10_takes 21 = .ok (.iload_n 2, 1) := by decide +kernel
theorem dX10_takes_22 : decode cX10_takes 22 = .ok (.i2l, 1) := by decide +kernel
theorem dX10_takes_23 : decode cX10_takes 23 = .ok (.invokestatic 64, 3) := by decide +kernel
theorem dX10_takes_26 : decode cX10_takes 26 = .ok (.ifCond .ne 9, 3) := by decide +kernel
theorem dX10_takes_29 : decode cX10_takes 29 = .ok (.aload_n 0, 1) := by decide +kernel
theorem dX10_takes_30 : decode cX10_takes 30 = .ok (.iconst 2, 1) := by decide +kernel
theorem dX10_takes_31 : decode cX10_takes 31 = .ok (.invokevirtual 120, 3) := by decide +kernel
theorem dX10_takes_34 : decode cX10_takes 34 = .ok (.ireturn, 1) := by decide +kernel
theorem dX10_takes_35 : decode cX10_takes 35 = .ok (.aload_n 0, 1) := by decide +kernel
theorem dX10_takes_36 : decode cX10_takes 36 = .ok (.aload_n 0, 1) := by decide +kernel
theorem dX10_takes_37 : decode cX10_takes 37 = .ok (.getfield 106, 3) := by decide +kernel
theorem dX10_takes_40 : decode cX10_takes 40 = .ok (.putfield 123, 3) := by decide +kernel
theorem dX10_takes_43 : decode cX10_takes 43 = .ok (.aload_n 0, 1) := by decide +kernel
theorem dX10_takes_44 : decode cX10_takes 44 = .ok (.invokevirtual 126, 3) := by decide +kernel
theorem dX10_takes_47 : decode cX10_takes 47 = .ok (.iconst 1, 1) := by decide +kernel
theorem dX10_takes_48 : decode cX10_takes 48 = .ok (.ireturn, 1) := by decide +kernel
theorem dX10_signs_0 : decode cX10_signs 0 = .ok (.aload_n 0, 1) := by decide +kernel
theorem dX10_signs_1 : decode cX10_signs 1 = .ok (.getfield 103, 3) := by decide +kernel
theorem dX10_signs_4 : decode cX10_signs 4 = .ok (.iload_n 1, 1) := by decide +kernel
theorem dX10_signs_5 : decode cX10_signs 5 = .ok (.if_icmp .eq 9, 3) := by decide +kernel
theorem dX10_signs_8 : decode cX10_signs 8 = .ok (.aload_n 0, 1) := by decide +kernel
theorem dX10_signs_9 : decode cX10_signs 9 = .ok (.iconst 1, 1) := by decide +kernel
theorem dX10_signs_10 : decode cX10_signs 10 = .ok (.invokevirtual 120, 3) := by decide +kernel
theorem dX10_signs_13 : decode cX10_signs 13 = .ok (.ireturn, 1) := by decide +kernel
theorem dX10_signs_14 : decode cX10_signs 14 = .ok (.aload_n 0, 1) := by decide +kernel
theorem dX10_signs_15 : decode cX10_signs 15 = .ok (.invokevirtual 126, 3) := by decide +kernel
theorem dX10_signs_18 : decode cX10_signs 18 = .ok (.iconst 1, 1) := by decide +kernel
theorem dX10_signs_19 : decode cX10_signs 19 = .ok (.ireturn, 1) := by decide +kernel
theorem dX10_two_0 : decode cX10_two 0 = .ok (.aload_n 0, 1) := by decide +kernel
theorem dX10_two_1 : decode cX10_two 1 = .ok (.iconst 0, 1) := by decide +kernel
theorem dX10_two_2 : decode cX10_two 2 = .ok (.iload_n 1, 1) := by decide +kernel
theorem dX10_two_3 : decode cX10_two 3 = .ok (.invokevirtual 129, 3) := by decide +kernel
theorem dX10_two_6 : decode cX10_two 6 = .ok (.ifCond .ne 5, 3) := by decide +kernel
theorem dX10_two_9 : decode cX10_two 9 = .ok (.iconst 0, 1) := by decide +kernel
theorem dX10_two_10 : decode cX10_two 10 = .ok (.ireturn, 1) := by decide +kernel
theorem dX10_two_11 : decode cX10_two 11 = .ok (.aload_n 0, 1) := by decide +kernel
theorem dX10_two_12 : decode cX10_two 12 = .ok (.getfield 31, 3) := by decide +kernel
theorem dX10_two_15 : decode cX10_two 15 = .ok (.iload_n 2, 1) := by decide +kernel
theorem dX10_two_16 : decode cX10_two 16 = .ok (.aload_n 0, 1) := by decide +kernel
theorem dX10_two_17 : decode cX10_two 17 = .ok (.getfield 123, 3) := by decide +kernel
theorem dX10_two_20 : decode cX10_two 20 = .ok (.iastore, 1) := by decide +kernel
theorem dX10_two_21 : decode cX10_two 21 = .ok (.aload_n 0, 1) := by decide +kernel
theorem dX10_two_22 : decode cX10_two 22 = .ok (.iconst 4, 1) := by decide +kernel
theorem dX10_two_23 : decode cX10_two 23 = .ok (.invokevirtual 133, 3) := by decide +kernel
theorem dX10_two_26 : decode cX10_two 26 = .ok (.ifCond .eq 12, 3) := by decide +kernel
theorem dX10_two_29 : decode cX10_two 29 = .ok (.aload_n 0, 1) := by decide +kernel
theorem dX10_two_30 : decode cX10_two 30 = .ok (.iconst 0, 1) := by decide +kernel
theorem dX10_two_31 : decode cX10_two 31 = .ok (.iload_n 3, 1) := by decide +kernel
theorem dX10_two_32 : decode cX10_two 32 = .ok (.invokevirtual 129, 3) := by decide +kernel
theorem dX10_two_35 : decode cX10_two 35 = .ok (.ifCond .ne 5, 3) := by decide +kernel
theorem dX10_two_38 : decode cX10_two 38 = .ok (.iconst 0, 1) := by decide +kernel
theorem dX10_two_39 : decode cX10_two 39 = .ok (.ireturn, 1) := by decide +kernel
theorem dX10_two_40 : decode cX10_two 40 = .ok (.aload_n 0, 1) := by decide +kernel
theorem dX10_two_41 : decode cX10_two 41 = .ok (.aload_n 0, 1) := by decide +kernel
theorem dX10_two_42 : decode cX10_two 42 = .ok (.getfield 123, 3) := by decide +kernel
theorem dX10_two_45 : decode cX10_two 45 = .ok (.putfield 136, 3) := by decide +kernel
theorem dX10_two_48 : decode cX10_two 48 = .ok (.aload_n 0, 1) := by decide +kernel
theorem dX10_two_49 : decode cX10_two 49 = .ok (.iconst 5, 1) := by decide +kernel
theorem dX10_two_50 : decode cX10_two 50 = .ok (.invokevirtual 133, 3) := by decide +kernel
theorem dX10_two_53 : decode cX10_two 53 = .ok (.ireturn, 1) := by decide +kernel
theorem dX10_sortOf_0 : decode cX10_sortOf 0 = .ok (.iload_n 0, 1) := by decide +kernel
theorem dX10_sortOf_1 : decode cX10_sortOf 1 = .ok (.bipush 112, 2) := by decide +kernel
theorem dX10_sortOf_3 : decode cX10_sortOf 3 = .ok (.if_icmp .ne 7, 3) := by decide +kernel
theorem dX10_sortOf_6 : decode cX10_sortOf 6 = .ok (.iconst 1, 1) := by decide +kernel
theorem dX10_sortOf_7 : decode cX10_sortOf 7 = .ok (.goto 44, 3) := by decide +kernel
theorem dX10_sortOf_10 : decode cX10_sortOf 10 = .ok (.iload_n 0, 1) := by decide +kernel
theorem dX10_sortOf_11 : decode cX10_sortOf 11 = .ok (.bipush 115, 2) := by decide +kernel
theorem dX10_sortOf_13 : decode cX10_sortOf 13 = .ok (.if_icmp .ne 7, 3) := by decide +kernel
theorem dX10_sortOf_16 : decode cX10_sortOf 16 = .ok (.iconst 2, 1) := by decide +kernel
theorem dX10_sortOf_17 : decode cX10_sortOf 17 = .ok (.goto 34, 3) := by decide +kernel
theorem dX10_sortOf_20 : decode cX10_sortOf 20 = .ok (.iload_n 0, 1) := by decide +kernel
theorem dX10_sortOf_21 : decode cX10_sortOf 21 = .ok (.bipush 100, 2) := by decide +kernel
theorem dX10_sortOf_23 : decode cX10_sortOf 23 = .ok (.if_icmp .ne 7, 3) := by decide +kernel
theorem dX10_sortOf_26 : decode cX10_sortOf 26 = .ok (.iconst 3, 1) := by decide +kernel
theorem dX10_sortOf_27 : decode cX10_sortOf 27 = .ok (.goto 24, 3) := by decide +kernel
theorem dX10_sortOf_30 : decode cX10_sortOf 30 = .ok (.iload_n 0, 1) := by decide +kernel
theorem dX10_sortOf_31 : decode cX10_sortOf 31 = .ok (.bipush 108, 2) := by decide +kernel
theorem dX10_sortOf_33 : decode cX10_sortOf 33 = .ok (.if_icmp .ne 7, 3) := by decide +kernel
theorem dX10_sortOf_36 : decode cX10_sortOf 36 = .ok (.iconst 4, 1) := by decide +kernel
theorem dX10_sortOf_37 : decode cX10_sortOf 37 = .ok (.goto 14, 3) := by decide +kernel
theorem dX10_sortOf_40 : decode cX10_sortOf 40 = .ok (.iload_n 0, 1) := by decide +kernel
theorem dX10_sortOf_41 : decode cX10_sortOf 41 = .ok (.bipush 109, 2) := by decide +kernel
theorem dX10_sortOf_43 : decode cX10_sortOf 43 = .ok (.if_icmp .ne 7, 3) := by decide +kernel
theorem dX10_sortOf_46 : decode cX10_sortOf 46 = .ok (.iconst 5, 1) := by decide +kernel
theorem dX10_sortOf_47 : decode cX10_sortOf 47 = .ok (.goto 4, 3) := by decide +kernel
theorem dX10_sortOf_50 : decode cX10_sortOf 50 = .ok (.iconst 0, 1) := by decide +kernel
theorem dX10_sortOf_51 : decode cX10_sortOf 51 = .ok (.ireturn, 1) := by decide +kernel
theorem dX10_isLetter_0 : decode cX10_isLetter 0 = .ok (.aload_n 0, 1) := by decide +kernel
theorem dX10_isLetter_1 : decode cX10_isLetter 1 = .ok (.getfield 103, 3) := by decide +kernel
theorem dX10_isLetter_4 : decode cX10_isLetter 4 = .ok (.iconst 3, 1) := by decide +kernel
theorem dX10_isLetter_5 : decode cX10_isLetter 5 = .ok (.if_icmp .ne 15, 3) := by decide +kernel
theorem dX10_isLetter_8 : decode cX10_isLetter 8 = .ok (.aload_n 0, 1) := by decide +kernel
theorem dX10_isLetter_9 : decode cX10_isLetter 9 = .ok (.getfield 106, 3) := by decide +kernel
theorem dX10_isLetter_12 : decode cX10_isLetter 12 = .ok (.iload_n 1, 1) := by decide +kernel
theorem dX10_isLetter_13 : decode cX10_isLetter 13 = .ok (.if_icmp .ne 7, 3) := by decide +kernel
theorem dX10_isLetter_16 : decode cX10_isLetter 16 = .ok (.iconst 1, 1) := by decide +kernel
theorem dX10_isLetter_17 : decode cX10_isLetter 17 = .ok (.goto 4, 3) := by decide +kernel
theorem dX10_isLetter_20 : decode cX10_isLetter 20 = .ok (.iconst 0, 1) := by decide +kernel
theorem dX10_isLetter_21 : decode cX10_isLetter 21 = .ok (.ireturn, 1) := by decide +kernel
theorem dX10_swell_0 : decode cX10_swell 0 = .ok (.aload_n 0, 1) := by decide +kernel
theorem dX10_swell_1 : decode cX10_swell 1 = .ok (.getfield 31, 3) := by decide +kernel
theorem dX10_swell_4 : decode cX10_swell 4 = .ok (.iconst 3, 1) := by decide +kernel
theorem dX10_swell_5 : decode cX10_swell 5 = .ok (.iaload, 1) := by decide +kernel
theorem dX10_swell_6 : decode cX10_swell 6 = .ok (.bipush 20, 2) := by decide +kernel
theorem dX10_swell_8 : decode cX10_swell 8 = .ok (.if_icmp .ne 9, 3) := by decide +kernel
theorem dX10_swell_11 : decode cX10_swell 11 = .ok (.aload_n 0, 1) := by decide +kernel
theorem dX10_swell_12 : decode cX10_swell 12 = .ok (.iconst 3, 1) := by decide +kernel
theorem dX10_swell_13 : decode cX10_swell 13 = .ok (.invokevirtual 120, 3) := by decide +kernel
theorem dX10_swell_16 : decode cX10_swell 16 = .ok (.ireturn, 1) := by decide +kernel
theorem dX10_swell_17 : decode cX10_swell 17 = .ok (.aload_n 0, 1) := by decide +kernel
theorem dX10_swell_18 : decode cX10_swell 18 = .ok (.getfield 31, 3) := by decide +kernel
theorem dX10_swell_21 : decode cX10_swell 21 = .ok (.bipush 6, 2) := by decide +kernel
theorem dX10_swell_23 : decode cX10_swell 23 = .ok (.aload_n 0, 1) := by decide +kernel
theorem dX10_swell_24 : decode cX10_swell 24 = .ok (.getfield 31, 3) := by decide +kernel
theorem dX10_swell_27 : decode cX10_swell 27 = .ok (.iconst 3, 1) := by decide +kernel
theorem dX10_swell_28 : decode cX10_swell 28 = .ok (.iaload, 1) := by decide +kernel
theorem dX10_swell_29 : decode cX10_swell 29 = .ok (.iadd, 1) := by decide +kernel
theorem dX10_swell_30 : decode cX10_swell 30 = .ok (.aload_n 0, 1) := by decide +kernel
theorem dX10_swell_31 : decode cX10_swell 31 = .ok (.getfield 106, 3) := by decide +kernel
theorem dX10_swell_34 : decode cX10_swell 34 = .ok (.invokestatic 139, 3) := by decide +kernel
theorem dX10_swell_37 : decode cX10_swell 37 = .ok (.iastore, 1) := by decide +kernel
theorem dX10_swell_38 : decode cX10_swell 38 = .ok (.aload_n 0, 1) := by decide +kernel
theorem dX10_swell_39 : decode cX10_swell 39 = .ok (.invokevirtual 126, 3) := by decide +kernel
theorem dX10_swell_42 : decode cX10_swell 42 = .ok (.aload_n 0, 1) := by decide +kernel
theorem dX10_swell_43 : decode cX10_swell 43 = .ok (.iconst 0, 1) := by decide +kernel
theorem dX10_swell_44 : decode cX10_swell 44 = .ok (.bipush 30, 2) := by decide +kernel
theorem dX10_swell_46 : decode cX10_swell 46 = .ok (.invokevirtual 129, 3) := by decide +kernel
theorem dX10_swell_49 : decode cX10_swell 49 = .ok (.ifCond .ne 5, 3) := by decide +kernel
theorem dX10_swell_52 : decode cX10_swell 52 = .ok (.iconst 0, 1) := by decide +kernel
theorem dX10_swell_53 : decode cX10_swell 53 = .ok (.ireturn, 1) := by decide +kernel
theorem dX10_swell_54 : decode cX10_swell 54 = .ok (.aload_n 0, 1) := by decide +kernel
theorem dX10_swell_55 : decode cX10_swell 55 = .ok (.getfield 31, 3) := by decide +kernel
theorem dX10_swell_58 : decode cX10_swell 58 = .ok (.bipush 26, 2) := by decide +kernel
theorem dX10_swell_60 : decode cX10_swell 60 = .ok (.aload_n 0, 1) := by decide +kernel
theorem dX10_swell_61 : decode cX10_swell 61 = .ok (.getfield 31, 3) := by decide +kernel
theorem dX10_swell_64 : decode cX10_swell 64 = .ok (.iconst 3, 1) := by decide +kernel
theorem dX10_swell_65 : decode cX10_swell 65 = .ok (.iaload, 1) := by decide +kernel
theorem dX10_swell_66 : decode cX10_swell 66 = .ok (.iadd, 1) := by decide +kernel
theorem dX10_swell_67 : decode cX10_swell 67 = .ok (.aload_n 0, 1) := by decide +kernel
theorem dX10_swell_68 : decode cX10_swell 68 = .ok (.getfield 123, 3) := by decide +kernel
theorem dX10_swell_71 : decode cX10_swell 71 = .ok (.iastore, 1) := by decide +kernel
theorem dX10_swell_72 : decode cX10_swell 72 = .ok (.aload_n 0, 1) := by decide +kernel
theorem dX10_swell_73 : decode cX10_swell 73 = .ok (.getfield 31, 3) := by decide +kernel
theorem dX10_swell_76 : decode cX10_swell 76 = .ok (.iconst 3, 1) := by decide +kernel
theorem dX10_swell_77 : decode cX10_swell 77 = .ok (.dup2, 1) := by decide +kernel
theorem dX10_swell_78 : decode cX10_swell 78 = .ok (.iaload, 1) := by decide +kernel
theorem dX10_swell_79 : decode cX10_swell 79 = .ok (.iconst 1, 1) := by decide +kernel
theorem dX10_swell_80 : decode cX10_swell 80 = .ok (.iadd, 1) := by decide +kernel
theorem dX10_swell_81 : decode cX10_swell 81 = .ok (.iastore, 1) := by decide +kernel
theorem dX10_swell_82 : decode cX10_swell 82 = .ok (.aload_n 0, 1) := by decide +kernel
theorem dX10_swell_83 : decode cX10_swell 83 = .ok (.iconst 5, 1) := by decide +kernel
theorem dX10_swell_84 : decode cX10_swell 84 = .ok (.invokevirtual 133, 3) := by decide +kernel
theorem dX10_swell_87 : decode cX10_swell 87 = .ok (.ireturn, 1) := by decide +kernel
theorem dX10_turret_0 : decode cX10_turret 0 = .ok (.aload_n 0, 1) := by decide +kernel
theorem dX10_turret_1 : decode cX10_turret 1 = .ok (.getfield 31, 3) := by decide +kernel
theorem dX10_turret_4 : decode cX10_turret 4 = .ok (.iconst 4, 1) := by decide +kernel
theorem dX10_turret_5 : decode cX10_turret 5 = .ok (.iaload, 1) := by decide +kernel
theorem dX10_turret_6 : decode cX10_turret 6 = .ok (.iconst 3, 1) := by decide +kernel
theorem dX10_turret_7 : decode cX10_turret 7 = .ok (.if_icmp .ne 9, 3) := by decide +kernel
theorem dX10_turret_10 : decode cX10_turret 10 = .ok (.aload_n 0, 1) := by decide +kernel
theorem dX10_turret_11 : decode cX10_turret 11 = .ok (.iconst 3, 1) := by decide +kernel
theorem dX10_turret_12 : decode cX10_turret 12 = .ok (.invokevirtual 120, 3) := by decide +kernel
theorem dX10_turret_15 : decode cX10_turret 15 = .ok (.ireturn, 1) := by decide +kernel
theorem dX10_turret_16 : decode cX10_turret 16 = .ok (.aload_n 0, 1) := by decide +kernel
theorem dX10_turret_17 : decode cX10_turret 17 = .ok (.invokevirtual 126, 3) := by decide +kernel
theorem dX10_turret_20 : decode cX10_turret 20 = .ok (.aload_n 0, 1) := by decide +kernel
theorem dX10_turret_21 : decode cX10_turret 21 = .ok (.bipush 7, 2) := by decide +kernel
theorem dX10_turret_23 : decode cX10_turret 23 = .ok (.bipush 46, 2) := by decide +kernel
theorem dX10_turret_25 : decode cX10_turret 25 = .ok (.aload_n 0, 1) := by decide +kernel
theorem dX10_turret_26 : decode cX10_turret 26 = .ok (.getfield 31, 3) := by decide +kernel
theorem dX10_turret_29 : decode cX10_turret 29 = .ok (.iconst 4, 1) := by decide +kernel
theorem dX10_turret_30 : decode cX10_turret 30 = .ok (.iaload, 1) := by decide +kernel
theorem dX10_turret_31 : decode cX10_turret 31 = .ok (.iadd, 1) := by decide +kernel
theorem dX10_turret_32 : decode cX10_turret 32 = .ok (.bipush 8, 2) := by decide +kernel
theorem dX10_turret_34 : decode cX10_turret 34 = .ok (.invokevirtual 142, 3) := by decide +kernel
theorem dX10_turret_37 : decode cX10_turret 37 = .ok (.ifCond .ne 5, 3) := by decide +kernel
theorem dX10_turret_40 : decode cX10_turret 40 = .ok (.iconst 0, 1) := by decide +kernel
theorem dX10_turret_41 : decode cX10_turret 41 = .ok (.ireturn, 1) := by decide +kernel
theorem dX10_turret_42 : decode cX10_turret 42 = .ok (.aload_n 0, 1) := by decide +kernel
theorem dX10_turret_43 : decode cX10_turret 43 = .ok (.getfield 44, 3) := by decide +kernel
theorem dX10_turret_46 : decode cX10_turret 46 = .ok (.aload_n 0, 1) := by decide +kernel
theorem dX10_turret_47 : decode cX10_turret 47 = .ok (.getfield 31, 3) := by decide +kernel
theorem dX10_turret_50 : decode cX10_turret 50 = .ok (.iconst 4, 1) := by decide +kernel
theorem dX10_turret_51 : decode cX10_turret 51 = .ok (.iaload, 1) := by decide +kernel
theorem dX10_turret_52 : decode cX10_turret 52 = .ok (.aload_n 0, 1) := by decide +kernel
theorem dX10_turret_53 : decode cX10_turret 53 = .ok (.getfield 136, 3) := by decide +kernel
theorem dX10_turret_56 : decode cX10_turret 56 = .ok (.iastore, 1) := by decide +kernel
theorem dX10_turret_57 : decode cX10_turret 57 = .ok (.aload_n 0, 1) := by decide +kernel
theorem dX10_turret_58 : decode cX10_turret 58 = .ok (.getfield 31, 3) := by decide +kernel
theorem dX10_turret_61 : decode cX10_turret 61 = .ok (.iconst 4, 1) := by decide +kernel
theorem dX10_turret_62 : decode cX10_turret 62 = .ok (.dup2, 1) := by decide +kernel
theorem dX10_turret_63 : decode cX10_turret 63 = .ok (.iaload, 1) := by decide +kernel
theorem dX10_turret_64 : decode cX10_turret 64 = .ok (.iconst 1, 1) := by decide +kernel
theorem dX10_turret_65 : decode cX10_turret 65 = .ok (.iadd, 1) := by decide +kernel
theorem dX10_turret_66 : decode cX10_turret 66 = .ok (.iastore, 1) := by decide +kernel
theorem dX10_turret_67 : decode cX10_turret 67 = .ok (.iconst 1, 1) := by decide +kernel
theorem dX10_turret_68 : decode cX10_turret 68 = .ok (.ireturn, 1) := by decide +kernel
theorem dX10_vessel_0 : decode cX10_vessel 0 = .ok (.aload_n 0, 1) := by decide +kernel
theorem dX10_vessel_1 : decode cX10_vessel 1 = .ok (.getfield 31, 3) := by decide +kernel
theorem dX10_vessel_4 : decode cX10_vessel 4 = .ok (.iconst 5, 1) := by decide +kernel
theorem dX10_vessel_5 : decode cX10_vessel 5 = .ok (.iaload, 1) := by decide +kernel
theorem dX10_vessel_6 : decode cX10_vessel 6 = .ok (.bipush 6, 2) := by decide +kernel
theorem dX10_vessel_8 : decode cX10_vessel 8 = .ok (.if_icmp .ne 9, 3) := by decide +kernel
theorem dX10_vessel_11 : decode cX10_vessel 11 = .ok (.aload_n 0, 1) := by decide +kernel
theorem dX10_vessel_12 : decode cX10_vessel 12 = .ok (.iconst 3, 1) := by decide +kernel
theorem dX10_vessel_13 : decode cX10_vessel 13 = .ok (.invokevirtual 120, 3) := by decide +kernel
theorem dX10_vessel_16 : decode cX10_vessel 16 = .ok (.ireturn, 1) := by decide +kernel
theorem dX10_vessel_17 : decode cX10_vessel 17 = .ok (.aload_n 0, 1) := by decide +kernel
theorem dX10_vessel_18 : decode cX10_vessel 18 = .ok (.invokevirtual 126, 3) := by decide +kernel
theorem dX10_vessel_21 : decode cX10_vessel 21 = .ok (.aload_n 0, 1) := by decide +kernel
theorem dX10_vessel_22 : decode cX10_vessel 22 = .ok (.bipush 99, 2) := by decide +kernel
theorem dX10_vessel_24 : decode cX10_vessel 24 = .ok (.bipush 49, 2) := by decide +kernel
theorem dX10_vessel_26 : decode cX10_vessel 26 = .ok (.aload_n 0, 1) := by decide +kernel
theorem dX10_vessel_27 : decode cX10_vessel 27 = .ok (.getfield 31, 3) := by decide +kernel
theorem dX10_vessel_30 : decode cX10_vessel 30 = .ok (.iconst 5, 1) := by decide +kernel
theorem dX10_vessel_31 : decode cX10_vessel 31 = .ok (.iaload, 1) := by decide +kernel
theorem dX10_vessel_32 : decode cX10_vessel 32 = .ok (.iadd, 1) := by decide +kernel
theorem dX10_vessel_33 : decode cX10_vessel 33 = .ok (.aload_n 0, 1) := by decide +kernel
theorem dX10_vessel_34 : decode cX10_vessel 34 = .ok (.getfield 31, 3) := by decide +kernel
theorem dX10_vessel_37 : decode cX10_vessel 37 = .ok (.iconst 4, 1) := by decide +kernel
theorem dX10_vessel_38 : decode cX10_vessel 38 = .ok (.iaload, 1) := by decide +kernel
theorem dX10_vessel_39 : decode cX10_vessel 39 = .ok (.iconst 1, 1) := by decide +kernel
theorem dX10_vessel_40 : decode cX10_vessel 40 = .ok (.isub, 1) := by decide +kernel
theorem dX10_vessel_41 : decode cX10_vessel 41 = .ok (.invokevirtual 142, 3) := by decide +kernel
theorem dX10_vessel_44 : decode cX10_vessel 44 = .ok (.ifCond .ne 5, 3) := by decide +kernel
theorem dX10_vessel_47 : decode cX10_vessel 47 = .ok (.iconst 0, 1) := by decide +kernel
theorem dX10_vessel_48 : decode cX10_vessel 48 = .ok (.ireturn, 1) := by decide +kernel
theorem dX10_vessel_49 : decode cX10_vessel 49 = .ok (.aload_n 0, 1) := by decide +kernel
theorem dX10_vessel_50 : decode cX10_vessel 50 = .ok (.getfield 47, 3) := by decide +kernel
theorem dX10_vessel_53 : decode cX10_vessel 53 = .ok (.aload_n 0, 1) := by decide +kernel
theorem dX10_vessel_54 : decode cX10_vessel 54 = .ok (.getfield 31, 3) := by decide +kernel
theorem dX10_vessel_57 : decode cX10_vessel 57 = .ok (.iconst 5, 1) := by decide +kernel
theorem dX10_vessel_58 : decode cX10_vessel 58 = .ok (.iaload, 1) := by decide +kernel
theorem dX10_vessel_59 : decode cX10_vessel 59 = .ok (.aload_n 0, 1) := by decide +kernel
theorem dX10_vessel_60 : decode cX10_vessel 60 = .ok (.getfield 136, 3) := by decide +kernel
theorem dX10_vessel_63 : decode cX10_vessel 63 = .ok (.iastore, 1) := by decide +kernel
theorem dX10_vessel_64 : decode cX10_vessel 64 = .ok (.aload_n 0, 1) := by decide +kernel
theorem dX10_vessel_65 : decode cX10_vessel 65 = .ok (.getfield 31, 3) := by decide +kernel
theorem dX10_vessel_68 : decode cX10_vessel 68 = .ok (.iconst 5, 1) := by decide +kernel
theorem dX10_vessel_69 : decode cX10_vessel 69 = .ok (.dup2, 1) := by decide +kernel
theorem dX10_vessel_70 : decode cX10_vessel 70 = .ok (.iaload, 1) := by decide +kernel
theorem dX10_vessel_71 : decode cX10_vessel 71 = .ok (.iconst 1, 1) := by decide +kernel
theorem dX10_vessel_72 : decode cX10_vessel 72 = .ok (.iadd, 1) := by decide +kernel
theorem dX10_vessel_73 : decode cX10_vessel 73 = .ok (.iastore, 1) := by decide +kernel
theorem dX10_vessel_74 : decode cX10_vessel 74 = .ok (.iconst 1, 1) := by decide +kernel
theorem dX10_vessel_75 : decode cX10_vessel 75 = .ok (.ireturn, 1) := by decide +kernel
theorem dX10_reads_0 : decode cX10_reads 0 = .ok (.aload_n 0, 1) := by decide +kernel
theorem dX10_reads_1 : decode cX10_reads 1 = .ok (.iconst 0, 1) := by decide +kernel
theorem dX10_reads_2 : decode cX10_reads 2 = .ok (.putfield 93, 3) := by decide +kernel
theorem dX10_reads_5 : decode cX10_reads 5 = .ok (.iconst 0, 1) := by decide +kernel
theorem dX10_reads_6 : decode cX10_reads 6 = .ok (.istore_n 1, 1) := by decide +kernel
theorem dX10_reads_7 : decode cX10_reads 7 = .ok (.iload_n 1, 1) := by decide +kernel
theorem dX10_reads_8 : decode cX10_reads 8 = .ok (.bipush 55, 2) := by decide +kernel
theorem dX10_reads_10 : decode cX10_reads 10 = .ok (.if_icmp .ge 16, 3) := by decide +kernel
theorem dX10_reads_13 : decode cX10_reads 13 = .ok (.aload_n 0, 1) := by decide +kernel
theorem dX10_reads_14 : decode cX10_reads 14 = .ok (.getfield 31, 3) := by decide +kernel
theorem dX10_reads_17 : decode cX10_reads 17 = .ok (.iload_n 1, 1) := by decide +kernel
theorem dX10_reads_18 : decode cX10_reads 18 = .ok (.iconst 0, 1) := by decide +kernel
theorem dX10_reads_19 : decode cX10_reads 19 = .ok (.iastore, 1) := by decide +kernel
theorem dX10_reads_20 : decode cX10_reads 20 = .ok (.iinc 1 1, 3) := by decide +kernel
theorem dX10_reads_23 : decode cX10_reads 23 = .ok (.goto (-16), 3) := by decide +kernel
theorem dX10_reads_26 : decode cX10_reads 26 = .ok (.aload_n 0, 1) := by decide +kernel
theorem dX10_reads_27 : decode cX10_reads 27 = .ok (.invokevirtual 126, 3) := by decide +kernel
theorem dX10_reads_30 : decode cX10_reads 30 = .ok (.aload_n 0, 1) := by decide +kernel
theorem dX10_reads_31 : decode cX10_reads 31 = .ok (.bipush 98, 2) := by decide +kernel
theorem dX10_reads_33 : decode cX10_reads 33 = .ok (.invokevirtual 146, 3) := by decide +kernel
theorem dX10_reads_36 : decode cX10_reads 36 = .ok (.ifCond .ne 9, 3) := by decide +kernel
theorem dX10_reads_39 : decode cX10_reads 39 = .ok (.aload_n 0, 1) := by decide +kernel
theorem dX10_reads_40 : decode cX10_reads 40 = .ok (.iconst 1, 1) := by decide +kernel
theorem dX10_reads_41 : decode cX10_reads 41 = .ok (.invokevirtual 120, 3) := by decide +kernel
theorem dX10_reads_44 : decode cX10_reads 44 = .ok (.ireturn, 1) := by decide +kernel
theorem dX10_reads_45 : decode cX10_reads 45 = .ok (.aload_n 0, 1) := by decide +kernel
theorem dX10_reads_46 : decode cX10_reads 46 = .ok (.invokevirtual 126, 3) := by decide +kernel
theorem dX10_reads_49 : decode cX10_reads 49 = .ok (.aload_n 0, 1) := by decide +kernel
theorem dX10_reads_50 : decode cX10_reads 50 = .ok (.bipush 60, 2) := by decide +kernel
theorem dX10_reads_52 : decode cX10_reads 52 = .ok (.iconst 1, 1) := by decide +kernel
theorem dX10_reads_53 : decode cX10_reads 53 = .ok (.bipush 9, 2) := by decide +kernel
theorem dX10_reads_55 : decode cX10_reads 55 = .ok (.invokevirtual 142, 3) := by decide +kernel
theorem dX10_reads_58 : decode cX10_reads 58 = .ok (.ifCond .ne 5, 3) := by decide +kernel
theorem dX10_reads_61 : decode cX10_reads 61 = .ok (.iconst 0, 1) := by decide +kernel
theorem dX10_reads_62 : decode cX10_reads 62 = .ok (.ireturn, 1) := by decide +kernel
theorem dX10_reads_63 : decode cX10_reads 63 = .ok (.aload_n 0, 1) := by decide +kernel
theorem dX10_reads_64 : decode cX10_reads 64 = .ok (.getfield 31, 3) := by decide +kernel
theorem dX10_reads_67 : decode cX10_reads 67 = .ok (.iconst 2, 1) := by decide +kernel
theorem dX10_reads_68 : decode cX10_reads 68 = .ok (.aload_n 0, 1) := by decide +kernel
theorem dX10_reads_69 : decode cX10_reads 69 = .ok (.getfield 136, 3) := by decide +kernel
theorem dX10_reads_72 : decode cX10_reads 72 = .ok (.iastore, 1) := by decide +kernel
theorem dX10_reads_73 : decode cX10_reads 73 = .ok (.aload_n 0, 1) := by decide +kernel
theorem dX10_reads_74 : decode cX10_reads 74 = .ok (.getfield 103, 3) := by decide +kernel
theorem dX10_reads_77 : decode cX10_reads 77 = .ok (.iconst 3, 1) := by decide +kernel
theorem dX10_reads_78 : decode cX10_reads 78 = .ok (.if_icmp .ne 22, 3) := by decide +kernel
theorem dX10_reads_81 : decode cX10_reads 81 = .ok (.aload_n 0, 1) := by decide +kernel
theorem dX10_reads_82 : decode cX10_reads 82 = .ok (.getfield 106, 3) := by decide +kernel
theorem dX10_reads_85 : decode cX10_reads 85 = .ok (.invokestatic 139, 3) := by decide +kernel
theorem dX10_reads_88 : decode cX10_reads 88 = .ok (.ifCond .le 12, 3) := by decide +kernel
theorem dX10_reads_91 : decode cX10_reads 91 = .ok (.aload_n 0, 1) := by decide +kernel
theorem dX10_reads_92 : decode cX10_reads 92 = .ok (.invokevirtual 149, 3) := by decide +kernel
theorem dX10_reads_95 : decode cX10_reads 95 = .ok (.ifCond .ne (-22), 3) := by decide +kernel
theorem dX10_reads_98 : decode cX10_reads 98 = .ok (.iconst 0, 1) := by decide +kernel
theorem dX10_reads_99 : decode cX10_reads 99 = .ok (.ireturn, 1) := by decide +kernel
theorem dX10_reads_100 : decode cX10_reads 100 = .ok (.aload_n 0, 1) := by decide +kernel
theorem dX10_reads_101 : decode cX10_reads 101 = .ok (.getfield 31, 3) := by decide +kernel
theorem dX10_reads_104 : decode cX10_reads 104 = .ok (.iconst 3, 1) := by decide +kernel
theorem dX10_reads_105 : decode cX10_reads 105 = .ok (.iaload, 1) := by decide +kernel
theorem dX10_reads_106 : decode cX10_reads 106 = .ok (.ifCond .ne 9, 3) := by decide +kernel
theorem dX10_reads_109 : decode cX10_reads 109 = .ok (.aload_n 0, 1) := by decide +kernel
theorem dX10_reads_110 : decode cX10_reads 110 = .ok (.iconst 1, 1) := by decide +kernel
theorem dX10_reads_111 : decode cX10_reads 111 = .ok (.invokevirtual 120, 3) := by decide +kernel
theorem dX10_reads_114 : decode cX10_reads 114 = .ok (.ireturn, 1) := by decide +kernel
theorem dX10_reads_115 : decode cX10_reads 115 = .ok (.aload_n 0, 1) := by decide +kernel
theorem dX10_reads_116 : decode cX10_reads 116 = .ok (.bipush 116, 2) := by decide +kernel
theorem dX10_reads_118 : decode cX10_reads 118 = .ok (.invokevirtual 146, 3) := by decide +kernel
theorem dX10_reads_121 : decode cX10_reads 121 = .ok (.ifCond .eq 12, 3) := by decide +kernel
theorem dX10_reads_124 : decode cX10_reads 124 = .ok (.aload_n 0, 1) := by decide +kernel
theorem dX10_reads_125 : decode cX10_reads 125 = .ok (.invokevirtual 152, 3) := by decide +kernel
theorem dX10_reads_128 : decode cX10_reads 128 = .ok (.ifCond .ne (-13), 3) := by decide +kernel
theorem dX10_reads_131 : decode cX10_reads 131 = .ok (.iconst 0, 1) := by decide +kernel
theorem dX10_reads_132 : decode cX10_reads 132 = .ok (.ireturn, 1) := by decide +kernel
theorem dX10_reads_133 : decode cX10_reads 133 = .ok (.aload_n 0, 1) := by decide +kernel
theorem dX10_reads_134 : decode cX10_reads 134 = .ok (.getfield 31, 3) := by decide +kernel
theorem dX10_reads_137 : decode cX10_reads 137 = .ok (.iconst 4, 1) := by decide +kernel
theorem dX10_reads_138 : decode cX10_reads 138 = .ok (.iaload, 1) := by decide +kernel
theorem dX10_reads_139 : decode cX10_reads 139 = .ok (.ifCond .ne 9, 3) := by decide +kernel
theorem dX10_reads_142 : decode cX10_reads 142 = .ok (.aload_n 0, 1) := by decide +kernel
theorem dX10_reads_143 : decode cX10_reads 143 = .ok (.iconst 1, 1) := by decide +kernel
theorem dX10_reads_144 : decode cX10_reads 144 = .ok (.invokevirtual 120, 3) := by decide +kernel
theorem dX10_reads_147 : decode cX10_reads 147 = .ok (.ireturn, 1) := by decide +kernel
theorem dX10_reads_148 : decode cX10_reads 148 = .ok (.aload_n 0, 1) := by decide +kernel
theorem dX10_reads_149 : decode cX10_reads 149 = .ok (.bipush 104, 2) := by decide +kernel
theorem dX10_reads_151 : decode cX10_reads 151 = .ok (.invokevirtual 146, 3) := by decide +kernel
theorem dX10_reads_154 : decode cX10_reads 154 = .ok (.ifCond .eq 12, 3) := by decide +kernel
theorem dX10_reads_157 : decode cX10_reads 157 = .ok (.aload_n 0, 1) := by decide +kernel
theorem dX10_reads_158 : decode cX10_reads 158 = .ok (.invokevirtual 155, 3) := by decide +kernel
theorem dX10_reads_161 : decode cX10_reads 161 = .ok (.ifCond .ne (-13), 3) := by decide +kernel
theorem dX10_reads_164 : decode cX10_reads 164 = .ok (.iconst 0, 1) := by decide +kernel
theorem dX10_reads_165 : decode cX10_reads 165 = .ok (.ireturn, 1) := by decide +kernel
theorem dX10_reads_166 : decode cX10_reads 166 = .ok (.aload_n 0, 1) := by decide +kernel
theorem dX10_reads_167 : decode cX10_reads 167 = .ok (.getfield 31, 3) := by decide +kernel
theorem dX10_reads_170 : decode cX10_reads 170 = .ok (.iconst 0, 1) := by decide +kernel
theorem dX10_reads_171 : decode cX10_reads 171 = .ok (.iconst 1, 1) := by decide +kernel
theorem dX10_reads_172 : decode cX10_reads 172 = .ok (.iastore, 1) := by decide +kernel
theorem dX10_reads_173 : decode cX10_reads 173 = .ok (.aload_n 0, 1) := by decide +kernel
theorem dX10_reads_174 : decode cX10_reads 174 = .ok (.getfield 103, 3) := by decide +kernel
theorem dX10_reads_177 : decode cX10_reads 177 = .ok (.ifCond .eq 11, 3) := by decide +kernel
theorem dX10_reads_180 : decode cX10_reads 180 = .ok (.aload_n 0, 1) := by decide +kernel
theorem dX10_reads_181 : decode cX10_reads 181 = .ok (.iconst 1, 1) := by decide +kernel
theorem dX10_reads_182 : decode cX10_reads 182 = .ok (.invokevirtual 120, 3) := by decide +kernel
theorem dX10_reads_185 : decode cX10_reads 185 = .ok (.ifCond .eq 7, 3) := by decide +kernel
theorem dX10_reads_188 : decode cX10_reads 188 = .ok (.iconst 1, 1) := by decide +kernel
theorem dX10_reads_189 : decode cX10_reads 189 = .ok (.goto 4, 3) := by decide +kernel
theorem dX10_reads_192 : decode cX10_reads 192 = .ok (.iconst 0, 1) := by decide +kernel
theorem dX10_reads_193 : decode cX10_reads 193 = .ok (.ireturn, 1) := by decide +kernel
theorem dX10_sea_0 : decode cX10_sea 0 = .ok (.aload_n 0, 1) := by decide +kernel
theorem dX10_sea_1 : decode cX10_sea 1 = .ok (.invokevirtual 158, 3) := by decide +kernel
theorem dX10_sea_4 : decode cX10_sea 4 = .ok (.istore_n 1, 1) := by decide +kernel
theorem dX10_sea_5 : decode cX10_sea 5 = .ok (.aload_n 0, 1) := by decide +kernel
theorem dX10_sea_6 : decode cX10_sea 6 = .ok (.iconst 0, 1) := by decide +kernel
theorem dX10_sea_7 : decode cX10_sea 7 = .ok (.putfield 89, 3) := by decide +kernel
theorem dX10_sea_10 : decode cX10_sea 10 = .ok (.iload_n 1, 1) := by decide +kernel
theorem dX10_sea_11 : decode cX10_sea 11 = .ok (.ifCond .ne 19, 3) := by decide +kernel
theorem dX10_sea_14 : decode cX10_sea 14 = .ok (.aload_n 0, 1) := by decide +kernel
theorem dX10_sea_15 : decode cX10_sea 15 = .ok (.aload_n 0, 1) := by decide +kernel
theorem dX10_sea_16 : decode cX10_sea 16 = .ok (.getfield 117, 3) := by decide +kernel
theorem dX10_sea_19 : decode cX10_sea 19 = .ok (.putfield 161, 3) := by decide +kernel
theorem dX10_sea_22 : decode cX10_sea 22 = .ok (.ldc 164, 2) := by decide +kernel
theorem dX10_sea_24 : decode cX10_sea 24 = .ok (.aload_n 0, 1) := by decide +kernel
theorem dX10_sea_25 : decode cX10_sea 25 = .ok (.getfield 100, 3) := by decide +kernel
theorem dX10_sea_28 : decode cX10_sea 28 = .ok (.isub, 1) := by decide +kernel
theorem dX10_sea_29 : decode cX10_sea 29 = .ok (.ireturn, 1) := by decide +kernel
theorem dX10_sea_30 : decode cX10_sea 30 = .ok (.iconst 0, 1) := by decide +kernel
theorem dX10_sea_31 : decode cX10_sea 31 = .ok (.istore_n 2, 1) := by decide +kernel
theorem dX10_sea_32 : decode cX10_sea 32 = .ok (.iload_n 2, 1) := by decide +kernel
theorem dX10_sea_33 : decode cX10_sea 33 = .ok (.bipush 55, 2) := by decide +kernel
theorem dX10_sea_35 : decode cX10_sea 35 = .ok (.if_icmp .ge 21, 3) := by decide +kernel
theorem dX10_sea_38 : decode cX10_sea 38 = .ok (.aload_n 0, 1) := by decide +kernel
theorem dX10_sea_39 : decode cX10_sea 39 = .ok (.getfield 25, 3) := by decide +kernel
theorem dX10_sea_42 : decode cX10_sea 42 = .ok (.iload_n 2, 1) := by decide +kernel
theorem dX10_sea_43 : decode cX10_sea 43 = .ok (.aload_n 0, 1) := by decide +kernel
theorem dX10_sea_44 : decode cX10_sea 44 = .ok (.getfield 31, 3) := by decide +kernel
theorem dX10_sea_47 : decode cX10_sea 47 = .ok (.iload_n 2, 1) := by decide +kernel
theorem dX10_sea_48 : decode cX10_sea 48 = .ok (.iaload, 1) := by decide +kernel
theorem dX10_sea_49 : decode cX10_sea 49 = .ok (.iastore, 1) := by decide +kernel
theorem dX10_sea_50 : decode cX10_sea 50 = .ok (.iinc 2 1, 3) := by decide +kernel
theorem dX10_sea_53 : decode cX10_sea 53 = .ok (.goto (-21), 3) := by decide +kernel
theorem dX10_sea_56 : decode cX10_sea 56 = .ok (.iconst 0, 1) := by decide +kernel
theorem dX10_sea_57 : decode cX10_sea 57 = .ok (.istore_n 2, 1) := by decide +kernel
theorem dX10_sea_58 : decode cX10_sea 58 = .ok (.iload_n 2, 1) := by decide +kernel
theorem dX10_sea_59 : decode cX10_sea 59 = .ok (.bipush 29, 2) := by decide +kernel
theorem dX10_sea_61 : decode cX10_sea 61 = .ok (.if_icmp .ge 16, 3) := by decide +kernel
theorem dX10_sea_64 : decode cX10_sea 64 = .ok (.aload_n 0, 1) := by decide +kernel
theorem dX10_sea_65 : decode cX10_sea 65 = .ok (.getfield 28, 3) := by decide +kernel
theorem dX10_sea_68 : decode cX10_sea 68 = .ok (.iload_n 2, 1) := by decide +kernel
theorem dX10_sea_69 : decode cX10_sea 69 = .ok (.iconst 0, 1) := by decide +kernel
theorem dX10_sea_70 : decode cX10_sea 70 = .ok (.iastore, 1) := by decide +kernel
theorem dX10_sea_71 : decode cX10_sea 71 = .ok (.iinc 2 1, 3) := by decide +kernel
theorem dX10_sea_74 : decode cX10_sea 74 = .ok (.goto (-16), 3) := by decide +kernel
theorem dX10_sea_77 : decode cX10_sea 77 = .ok (.aload_n 0, 1) := by decide +kernel
theorem dX10_sea_78 : decode cX10_sea 78 = .ok (.getfield 28, 3) := by decide +kernel
theorem dX10_sea_81 : decode cX10_sea 81 = .ok (.iconst 1, 1) := by decide +kernel
theorem dX10_sea_82 : decode cX10_sea 82 = .ok (.bipush 9, 2) := by decide +kernel
theorem dX10_sea_84 : decode cX10_sea 84 = .ok (.iastore, 1) := by decide +kernel
theorem dX10_sea_85 : decode cX10_sea 85 = .ok (.iconst 0, 1) := by decide +kernel
theorem dX10_sea_86 : decode cX10_sea 86 = .ok (.istore_n 2, 1) := by decide +kernel
theorem dX10_sea_87 : decode cX10_sea 87 = .ok (.iload_n 2, 1) := by decide +kernel
theorem dX10_sea_88 : decode cX10_sea 88 = .ok (.iconst 3, 1) := by decide +kernel
theorem dX10_sea_89 : decode cX10_sea 89 = .ok (.if_icmp .ge 37, 3) := by decide +kernel
theorem dX10_sea_92 : decode cX10_sea 92 = .ok (.aload_n 0, 1) := by decide +kernel
theorem dX10_sea_93 : decode cX10_sea 93 = .ok (.getfield 28, 3) := by decide +kernel
theorem dX10_sea_96 : decode cX10_sea 96 = .ok (.iconst 2, 1) := by decide +kernel
theorem dX10_sea_97 : decode cX10_sea 97 = .ok (.iload_n 2, 1) := by decide +kernel
theorem dX10_sea_98 : decode cX10_sea 98 = .ok (.iadd, 1) := by decide +kernel
theorem dX10_sea_99 : decode cX10_sea 99 = .ok (.iload_n 2, 1) := by decide +kernel
theorem dX10_sea_100 : decode cX10_sea 100 = .ok (.aload_n 0, 1) := by decide +kernel
theorem dX10_sea_101 : decode cX10_sea 101 = .ok (.getfield 25, 3) := by decide +kernel
theorem dX10_sea_104 : decode cX10_sea 104 = .ok (.iconst 4, 1) := by decide +kernel
theorem dX10_sea_105 : decode cX10_sea 105 = .ok (.iaload, 1) := by decide +kernel
theorem dX10_sea_106 : decode cX10_sea 106 = .ok (.if_icmp .ge 12, 3) := by decide +kernel
theorem dX10_sea_109 : decode cX10_sea 109 = .ok (.aload_n 0, 1) := by decide +kernel
theorem dX10_sea_110 : decode cX10_sea 110 = .ok (.getfield 44, 3) := by decide +kernel
theorem dX10_sea_113 : decode cX10_sea 113 = .ok (.iload_n 2, 1) := by decide +kernel
theorem dX10_sea_114 : decode cX10_sea 114 = .ok (.iaload, 1) := by decide +kernel
theorem dX10_sea_115 : decode cX10_sea 115 = .ok (.goto 4, 3) := by decide +kernel
theorem dX10_sea_118 : decode cX10_sea 118 = .ok (.iconst 0, 1) := by decide +kernel
theorem dX10_sea_119 : decode cX10_sea 119 = .ok (.iastore, 1) := by decide +kernel
theorem dX10_sea_120 : decode cX10_sea 120 = .ok (.iinc 2 1, 3) := by decide +kernel
theorem dX10_sea_123 : decode cX10_sea 123 = .ok (.goto (-36), 3) := by decide +kernel
theorem dX10_sea_126 : decode cX10_sea 126 = .ok (.iconst 0, 1) := by decide +kernel
theorem dX10_sea_127 : decode cX10_sea 127 = .ok (.istore_n 2, 1) := by decide +kernel
theorem dX10_sea_128 : decode cX10_sea 128 = .ok (.iload_n 2, 1) := by decide +kernel
theorem dX10_sea_129 : decode cX10_sea 129 = .ok (.aload_n 0, 1) := by decide +kernel
theorem dX10_sea_130 : decode cX10_sea 130 = .ok (.getfield 25, 3) := by decide +kernel
theorem dX10_sea_133 : decode cX10_sea 133 = .ok (.iconst 5, 1) := by decide +kernel
theorem dX10_sea_134 : decode cX10_sea 134 = .ok (.iaload, 1) := by decide +kernel
theorem dX10_sea_135 : decode cX10_sea 135 = .ok (.if_icmp .ge 44, 3) := by decide +kernel
theorem dX10_sea_138 : decode cX10_sea 138 = .ok (.aload_n 0, 1) := by decide +kernel
theorem dX10_sea_139 : decode cX10_sea 139 = .ok (.getfield 28, 3) := by decide +kernel
theorem dX10_sea_142 : decode cX10_sea 142 = .ok (.iconst 5, 1) := by decide +kernel
theorem dX10_sea_143 : decode cX10_sea 143 = .ok (.iload_n 2, 1) := by decide +kernel
theorem dX10_sea_144 : decode cX10_sea 144 = .ok (.iadd, 1) := by decide +kernel
theorem dX10_sea_145 : decode cX10_sea 145 = .ok (.iload_n 2, 1) := by decide +kernel
theorem dX10_sea_146 : decode cX10_sea 146 = .ok (.iastore, 1) := by decide +kernel
theorem dX10_sea_147 : decode cX10_sea 147 = .ok (.aload_n 0, 1) := by decide +kernel
theorem dX10_sea_148 : decode cX10_sea 148 = .ok (.getfield 28, 3) := by decide +kernel
theorem dX10_sea_151 : decode cX10_sea 151 = .ok (.bipush 11, 2) := by decide +kernel
theorem dX10_sea_153 : decode cX10_sea 153 = .ok (.iload_n 2, 1) := by decide +kernel
theorem dX10_sea_154 : decode cX10_sea 154 = .ok (.iadd, 1) := by decide +kernel
theorem dX10_sea_155 : decode cX10_sea 155 = .ok (.aload_n 0, 1) := by decide +kernel
theorem dX10_sea_156 : decode cX10_sea 156 = .ok (.getfield 47, 3) := by decide +kernel
theorem dX10_sea_159 : decode cX10_sea 159 = .ok (.iload_n 2, 1) := by decide +kernel
theorem dX10_sea_160 : decode cX10_sea 160 = .ok (.iaload, 1) := by decide +kernel
theorem dX10_sea_161 : decode cX10_sea 161 = .ok (.iastore, 1) := by decide +kernel
theorem dX10_sea_162 : decode cX10_sea 162 = .ok (.aload_n 0, 1) := by decide +kernel
theorem dX10_sea_163 : decode cX10_sea 163 = .ok (.getfield 28, 3) := by decide +kernel
theorem dX10_sea_166 : decode cX10_sea 166 = .ok (.bipush 23, 2) := by decide +kernel
theorem dX10_sea_168 : decode cX10_sea 168 = .ok (.iload_n 2, 1) := by decide +kernel
theorem dX10_sea_169 : decode cX10_sea 169 = .ok (.iadd, 1) := by decide +kernel
theorem dX10_sea_170 : decode cX10_sea 170 = .ok (.ldc 165, 2) := by decide +kernel
theorem dX10_sea_172 : decode cX10_sea 172 = .ok (.iastore, 1) := by decide +kernel
theorem dX10_sea_173 : decode cX10_sea 173 = .ok (.iinc 2 1, 3) := by decide +kernel
theorem dX10_sea_176 : decode cX10_sea 176 = .ok (.goto (-48), 3) := by decide +kernel
theorem dX10_sea_179 : decode cX10_sea 179 = .ok (.aload_n 0, 1) := by decide +kernel
theorem dX10_sea_180 : decode cX10_sea 180 = .ok (.iconst 0, 1) := by decide +kernel
theorem dX10_sea_181 : decode cX10_sea 181 = .ok (.putfield 166, 3) := by decide +kernel
theorem dX10_sea_184 : decode cX10_sea 184 = .ok (.aload_n 0, 1) := by decide +kernel
theorem dX10_sea_185 : decode cX10_sea 185 = .ok (.getfield 25, 3) := by decide +kernel
theorem dX10_sea_188 : decode cX10_sea 188 = .ok (.iconst 3, 1) := by decide +kernel
theorem dX10_sea_189 : decode cX10_sea 189 = .ok (.iaload, 1) := by decide +kernel
theorem dX10_sea_190 : decode cX10_sea 190 = .ok (.ireturn, 1) := by decide +kernel
theorem dX10_fault_0 : decode cX10_fault 0 = .ok (.aload_n 0, 1) := by decide +kernel
theorem dX10_fault_1 : decode cX10_fault 1 = .ok (.getfield 161, 3) := by decide +kernel
theorem dX10_fault_4 : decode cX10_fault 4 = .ok (.ireturn, 1) := by decide +kernel
theorem dX10_isSea_0 : decode cX10_isSea 0 = .ok (.aload_n 0, 1) := by decide +kernel
theorem dX10_isSea_1 : decode cX10_isSea 1 = .ok (.getfield 25, 3) := by decide +kernel
theorem dX10_isSea_4 : decode cX10_isSea 4 = .ok (.iconst 0, 1) := by decide +kernel
theorem dX10_isSea_5 : decode cX10_isSea 5 = .ok (.iaload, 1) := by decide +kernel
theorem dX10_isSea_6 : decode cX10_isSea 6 = .ok (.iconst 1, 1) := by decide +kernel
theorem dX10_isSea_7 : decode cX10_isSea 7 = .ok (.if_icmp .ne 7, 3) := by decide +kernel
theorem dX10_isSea_10 : decode cX10_isSea 10 = .ok (.iconst 1, 1) := by decide +kernel
theorem dX10_isSea_11 : decode cX10_isSea 11 = .ok (.goto 4, 3) := by decide +kernel
theorem dX10_isSea_14 : decode cX10_isSea 14 = .ok (.iconst 0, 1) := by decide +kernel
theorem dX10_isSea_15 : decode cX10_isSea 15 = .ok (.ireturn, 1) := by decide +kernel
theorem dX10_isShip_0 : decode cX10_isShip 0 = .ok (.iload_n 1, 1) := by decide +kernel
theorem dX10_isShip_1 : decode cX10_isShip 1 = .ok (.i2l, 1) := by decide +kernel
theorem dX10_isShip_2 : decode cX10_isShip 2 = .ok (.lconst 0, 1) := by decide +kernel
theorem dX10_isShip_3 : decode cX10_isShip 3 = .ok (.aload_n 0, 1) := by decide +kernel
theorem dX10_isShip_4 : decode cX10_isShip 4 = .ok (.getfield 25, 3) := by decide +kernel
theorem dX10_isShip_7 : decode cX10_isShip 7 = .ok (.iconst 5, 1) := by decide +kernel
theorem dX10_isShip_8 : decode cX10_isShip 8 = .ok (.iaload, 1) := by decide +kernel
theorem dX10_isShip_9 : decode cX10_isShip 9 = .ok (.iconst 1, 1) := by decide +kernel
theorem dX10_isShip_10 : decode cX10_isShip 10 = .ok (.isub, 1) := by decide +kernel
theorem dX10_isShip_11 : decode cX10_isShip 11 = .ok (.i2l, 1) := by decide +kernel
theorem dX10_isShip_12 : decode cX10_isShip 12 = .ok (.invokestatic 64, 3) := by decide +kernel
theorem dX10_isShip_15 : decode cX10_isShip 15 = .ok (.ireturn, 1) := by decide +kernel
theorem dX10_isTower_0 : decode cX10_isTower 0 = .ok (.iload_n 1, 1) := by decide +kernel
theorem dX10_isTower_1 : decode cX10_isTower 1 = .ok (.i2l, 1) := by decide +kernel
theorem dX10_isTower_2 : decode cX10_isTower 2 = .ok (.lconst 0, 1) := by decide +kernel
theorem dX10_isTower_3 : decode cX10_isTower 3 = .ok (.aload_n 0, 1) := by decide +kernel
theorem dX10_isTower_4 : decode cX10_isTower 4 = .ok (.getfield 25, 3) := by decide +kernel
theorem dX10_isTower_7 : decode cX10_isTower 7 = .ok (.iconst 4, 1) := by decide +kernel
theorem dX10_isTower_8 : decode cX10_isTower 8 = .ok (.iaload, 1) := by decide +kernel
theorem dX10_isTower_9 : decode cX10_isTower 9 = .ok (.iconst 1, 1) := by decide +kernel
theorem dX10_isTower_10 : decode cX10_isTower 10 = .ok (.isub, 1) := by decide +kernel
theorem dX10_isTower_11 : decode cX10_isTower 11 = .ok (.i2l, 1) := by decide +kernel
theorem dX10_isTower_12 : decode cX10_isTower 12 = .ok (.invokestatic 64, 3) := by decide +kernel
theorem dX10_isTower_15 : decode cX10_isTower 15 = .ok (.ireturn, 1) := by decide +kernel
theorem dX10_lift_0 : decode cX10_lift 0 = .ok (.iload_n 0, 1) := by decide +kernel
theorem dX10_lift_1 : decode cX10_lift 1 = .ok (.iconst 1, 1) := by decide +kernel
theorem dX10_lift_2 : decode cX10_lift 2 = .ok (.if_icmp .ne 7, 3) := by decide +kernel
theorem dX10_lift_5 : decode cX10_lift 5 = .ok (.iload_n 1, 1) := by decide +kernel
theorem dX10_lift_6 : decode cX10_lift 6 = .ok (.goto 41, 3) := by decide +kernel
theorem dX10_lift_9 : decode cX10_lift 9 = .ok (.iload_n 0, 1) := by decide +kernel
theorem dX10_lift_10 : decode cX10_lift 10 = .ok (.iconst 2, 1) := by decide +kernel
theorem dX10_lift_11 : decode cX10_lift 11 = .ok (.if_icmp .ne 9, 3) := by decide +kernel
theorem dX10_lift_14 : decode cX10_lift 14 = .ok (.iload_n 1, 1) := by decide +kernel
theorem dX10_lift_15 : decode cX10_lift 15 = .ok (.iconst 2, 1) := by decide +kernel
theorem dX10_lift_16 : decode cX10_lift 16 = .ok (.idiv, 1) := by decide +kernel
theorem dX10_lift_17 : decode cX10_lift 17 = .ok (.goto 30, 3) := by decide +kernel
theorem dX10_lift_20 : decode cX10_lift 20 = .ok (.iload_n 0, 1) := by decide +kernel
theorem dX10_lift_21 : decode cX10_lift 21 = .ok (.iconst 3, 1) := by decide +kernel
theorem dX10_lift_22 : decode cX10_lift 22 = .ok (.if_icmp .ne 9, 3) := by decide +kernel
theorem dX10_lift_25 : decode cX10_lift 25 = .ok (.iconst 2, 1) := by decide +kernel
theorem dX10_lift_26 : decode cX10_lift 26 = .ok (.iload_n 1, 1) := by decide +kernel
theorem dX10_lift_27 : decode cX10_lift 27 = .ok (.imul, 1) := by decide +kernel
theorem dX10_lift_28 : decode cX10_lift 28 = .ok (.goto 19, 3) := by decide +kernel
theorem dX10_lift_31 : decode cX10_lift 31 = .ok (.iload_n 0, 1) := by decide +kernel
theorem dX10_lift_32 : decode cX10_lift 32 = .ok (.iconst 4, 1) := by decide +kernel
theorem dX10_lift_33 : decode cX10_lift 33 = .ok (.if_icmp .ne 7, 3) := by decide +kernel
theorem dX10_lift_36 : decode cX10_lift 36 = .ok (.iconst 0, 1) := by decide +kernel
theorem dX10_lift_37 : decode cX10_lift 37 = .ok (.goto 10, 3) := by decide +kernel
theorem dX10_lift_40 : decode cX10_lift 40 = .ok (.iconst 0, 1) := by decide +kernel
theorem dX10_lift_41 : decode cX10_lift 41 = .ok (.iload_n 1, 1) := by decide +kernel
theorem dX10_lift_42 : decode cX10_lift 42 = .ok (.iconst 5, 1) := by decide +kernel
theorem dX10_lift_43 : decode cX10_lift 43 = .ok (.isub, 1) := by decide +kernel
theorem dX10_lift_44 : decode cX10_lift 44 = .ok (.invokestatic 169, 3) := by decide +kernel
theorem dX10_lift_47 : decode cX10_lift 47 = .ok (.ireturn, 1) := by decide +kernel
theorem dX10_water_0 : decode cX10_water 0 = .ok (.iconst 0, 1) := by decide +kernel
theorem dX10_water_1 : decode cX10_water 1 = .ok (.aload_n 0, 1) := by decide +kernel
theorem dX10_water_2 : decode cX10_water 2 = .ok (.getfield 25, 3) := by decide +kernel
theorem dX10_water_5 : decode cX10_water 5 = .ok (.iconst 1, 1) := by decide +kernel
theorem dX10_water_6 : decode cX10_water 6 = .ok (.iaload, 1) := by decide +kernel
theorem dX10_water_7 : decode cX10_water 7 = .ok (.aload_n 0, 1) := by decide +kernel
theorem dX10_water_8 : decode cX10_water 8 = .ok (.getfield 25, 3) := by decide +kernel
theorem dX10_water_11 : decode cX10_water 11 = .ok (.iconst 2, 1) := by decide +kernel
theorem dX10_water_12 : decode cX10_water 12 = .ok (.iaload, 1) := by decide +kernel
theorem dX10_water_13 : decode cX10_water 13 = .ok (.iload_n 1, 1) := by decide +kernel
theorem dX10_water_14 : decode cX10_water 14 = .ok (.imul, 1) := by decide +kernel
theorem dX10_water_15 : decode cX10_water 15 = .ok (.bipush 10, 2) := by decide +kernel
theorem dX10_water_17 : decode cX10_water 17 = .ok (.idiv, 1) := by decide +kernel
theorem dX10_water_18 : decode cX10_water 18 = .ok (.isub, 1) := by decide +kernel
theorem dX10_water_19 : decode cX10_water 19 = .ok (.invokestatic 169, 3) := by decide +kernel
theorem dX10_water_22 : decode cX10_water 22 = .ok (.iload_n 2, 1) := by decide +kernel
theorem dX10_water_23 : decode cX10_water 23 = .ok (.iload_n 3, 1) := by decide +kernel
theorem dX10_water_24 : decode cX10_water 24 = .ok (.invokestatic 173, 3) := by decide +kernel
theorem dX10_water_27 : decode cX10_water 27 = .ok (.iadd, 1) := by decide +kernel
theorem dX10_water_28 : decode cX10_water 28 = .ok (.ireturn, 1) := by decide +kernel
theorem dX10_sortIn_0 : decode cX10_sortIn 0 = .ok (.aload_n 0, 1) := by decide +kernel
theorem dX10_sortIn_1 : decode cX10_sortIn 1 = .ok (.getfield 25, 3) := by decide +kernel
theorem dX10_sortIn_4 : decode cX10_sortIn 4 = .ok (.bipush 6, 2) := by decide +kernel
theorem dX10_sortIn_6 : decode cX10_sortIn 6 = .ok (.iload_n 1, 1) := by decide +kernel
theorem dX10_sortIn_7 : decode cX10_sortIn 7 = .ok (.aload_n 0, 1) := by decide +kernel
theorem dX10_sortIn_8 : decode cX10_sortIn 8 = .ok (.getfield 25, 3) := by decide +kernel
theorem dX10_sortIn_11 : decode cX10_sortIn 11 = .ok (.iconst 3, 1) := by decide +kernel
theorem dX10_sortIn_12 : decode cX10_sortIn 12 = .ok (.iaload, 1) := by decide +kernel
theorem dX10_sortIn_13 : decode cX10_sortIn 13 = .ok (.irem, 1) := by decide +kernel
theorem dX10_sortIn_14 : decode cX10_sortIn 14 = .ok (.iadd, 1) := by decide +kernel
theorem dX10_sortIn_15 : decode cX10_sortIn 15 = .ok (.iaload, 1) := by decide +kernel
theorem dX10_sortIn_16 : decode cX10_sortIn 16 = .ok (.ireturn, 1) := by decide +kernel
theorem dX10_heightIn_0 : decode cX10_heightIn 0 = .ok (.aload_n 0, 1) := by decide +kernel
theorem dX10_heightIn_1 : decode cX10_heightIn 1 = .ok (.getfield 25, 3) := by decide +kernel
theorem dX10_heightIn_4 : decode cX10_heightIn 4 = .ok (.bipush 26, 2) := by decide +kernel
theorem dX10_heightIn_6 : decode cX10_heightIn 6 = .ok (.iload_n 1, 1) := by decide +kernel
theorem dX10_heightIn_7 : decode cX10_heightIn 7 = .ok (.aload_n 0, 1) := by decide +kernel
theorem dX10_heightIn_8 : decode cX10_heightIn 8 = .ok (.getfield 25, 3) := by decide +kernel
theorem dX10_heightIn_11 : decode cX10_heightIn 11 = .ok (.iconst 3, 1) := by decide +kernel
theorem dX10_heightIn_12 : decode cX10_heightIn 12 = .ok (.iaload, 1) := by decide +kernel
theorem dX10_heightIn_13 : decode cX10_heightIn 13 = .ok (.irem, 1) := by decide +kernel
theorem dX10_heightIn_14 : decode cX10_heightIn 14 = .ok (.iadd, 1) := by decide +kernel
theorem dX10_heightIn_15 : decode cX10_heightIn 15 = .ok (.iaload, 1) := by decide +kernel
theorem dX10_heightIn_16 : decode cX10_heightIn 16 = .ok (.ireturn, 1) := by decide +kernel
theorem dX10_waterIn_0 : decode cX10_waterIn 0 = .ok (.aload_n 0, 1) := by decide +kernel
theorem dX10_waterIn_1 : decode cX10_waterIn 1 = .ok (.iload_n 1, 1) := by decide +kernel
theorem dX10_waterIn_2 : decode cX10_waterIn 2 = .ok (.aload_n 0, 1) := by decide +kernel
theorem dX10_waterIn_3 : decode cX10_waterIn 3 = .ok (.iload_n 1, 1) := by decide +kernel
theorem dX10_waterIn_4 : decode cX10_waterIn 4 = .ok (.invokevirtual 176, 3) := by decide +kernel
theorem dX10_waterIn_7 : decode cX10_waterIn 7 = .ok (.aload_n 0, 1) := by decide +kernel
theorem dX10_waterIn_8 : decode cX10_waterIn 8 = .ok (.iload_n 1, 1) := by decide +kernel
theorem dX10_waterIn_9 : decode cX10_waterIn 9 = .ok (.invokevirtual 179, 3) := by decide +kernel
theorem dX10_waterIn_12 : decode cX10_waterIn 12 = .ok (.invokevirtual 182, 3) := by decide +kernel
theorem dX10_waterIn_15 : decode cX10_waterIn 15 = .ok (.ireturn, 1) := by decide +kernel
theorem dX10_counted_0 : decode cX10_counted 0 = .ok (.iload_n 1, 1) := by decide +kernel
theorem dX10_counted_1 : decode cX10_counted 1 = .ok (.iconst 2, 1) := by decide +kernel
theorem dX10_counted_2 : decode cX10_counted 2 = .ok (.if_icmp .ne 11, 3) := by decide +kernel
theorem dX10_counted_5 : decode cX10_counted 5 = .ok (.iconst 1, 1) := by decide +kernel
theorem dX10_counted_6 : decode cX10_counted 6 = .ok (.iload_n 0, 1) := by decide +kernel
theorem dX10_counted_7 : decode cX10_counted 7 = .ok (.iconst 1, 1) := by decide +kernel
theorem dX10_counted_8 : decode cX10_counted 8 = .ok (.iand, 1) := by decide +kernel
theorem dX10_counted_9 : decode cX10_counted 9 = .ok (.iadd, 1) := by decide +kernel
theorem dX10_counted_10 : decode cX10_counted 10 = .ok (.goto 30, 3) := by decide +kernel
theorem dX10_counted_13 : decode cX10_counted 13 = .ok (.iload_n 1, 1) := by decide +kernel
theorem dX10_counted_14 : decode cX10_counted 14 = .ok (.iconst 4, 1) := by decide +kernel
theorem dX10_counted_15 : decode cX10_counted 15 = .ok (.if_icmp .ne 11, 3) := by decide +kernel
theorem dX10_counted_18 : decode cX10_counted 18 = .ok (.iload_n 0, 1) := by decide +kernel
theorem dX10_counted_19 : decode cX10_counted 19 = .ok (.iconst 1, 1) := by decide +kernel
theorem dX10_counted_20 : decode cX10_counted 20 = .ok (.ishr, 1) := by decide +kernel
theorem dX10_counted_21 : decode cX10_counted 21 = .ok (.iconst 1, 1) := by decide +kernel
theorem dX10_counted_22 : decode cX10_counted 22 = .ok (.iand, 1) := by decide +kernel
theorem dX10_counted_23 : decode cX10_counted 23 = .ok (.goto 17, 3) := by decide +kernel
theorem dX10_counted_26 : decode cX10_counted 26 = .ok (.iload_n 1, 1) := by decide +kernel
theorem dX10_counted_27 : decode cX10_counted 27 = .ok (.iconst 5, 1) := by decide +kernel
theorem dX10_counted_28 : decode cX10_counted 28 = .ok (.if_icmp .ne 11, 3) := by decide +kernel
theorem dX10_counted_31 : decode cX10_counted 31 = .ok (.iload_n 0, 1) := by decide +kernel
theorem dX10_counted_32 : decode cX10_counted 32 = .ok (.iconst 2, 1) := by decide +kernel
theorem dX10_counted_33 : decode cX10_counted 33 = .ok (.ishr, 1) := by decide +kernel
theorem dX10_counted_34 : decode cX10_counted 34 = .ok (.iconst 1, 1) := by decide +kernel
theorem dX10_counted_35 : decode cX10_counted 35 = .ok (.iand, 1) := by decide +kernel
theorem dX10_counted_36 : decode cX10_counted 36 = .ok (.goto 4, 3) := by decide +kernel
theorem dX10_counted_39 : decode cX10_counted 39 = .ok (.iconst 1, 1) := by decide +kernel
theorem dX10_counted_40 : decode cX10_counted 40 = .ok (.ireturn, 1) := by decide +kernel
theorem dX10_isCalled_0 : decode cX10_isCalled 0 = .ok (.iload_n 0, 1) := by decide +kernel
theorem dX10_isCalled_1 : decode cX10_isCalled 1 = .ok (.iload_n 1, 1) := by decide +kernel
theorem dX10_isCalled_2 : decode cX10_isCalled 2 = .ok (.iadd, 1) := by decide +kernel
theorem dX10_isCalled_3 : decode cX10_isCalled 3 = .ok (.iload_n 2, 1) := by decide +kernel
theorem dX10_isCalled_4 : decode cX10_isCalled 4 = .ok (.idiv, 1) := by decide +kernel
theorem dX10_isCalled_5 : decode cX10_isCalled 5 = .ok (.iload_n 0, 1) := by decide +kernel
theorem dX10_isCalled_6 : decode cX10_isCalled 6 = .ok (.iload_n 2, 1) := by decide +kernel
theorem dX10_isCalled_7 : decode cX10_isCalled 7 = .ok (.idiv, 1) := by decide +kernel
theorem dX10_isCalled_8 : decode cX10_isCalled 8 = .ok (.if_icmp .le 7, 3) := by decide +kernel
theorem dX10_isCalled_11 : decode cX10_isCalled 11 = .ok (.iconst 1, 1) := by decide +kernel
theorem dX10_isCalled_12 : decode cX10_isCalled 12 = .ok (.goto 4, 3) := by decide +kernel
theorem dX10_isCalled_15 : decode cX10_isCalled 15 = .ok (.iconst 0, 1) := by decide +kernel
theorem dX10_isCalled_16 : decode cX10_isCalled 16 = .ok (.ireturn, 1) := by decide +kernel
theorem dX10_asNow_0 : decode cX10_asNow 0 = .ok (.iconst 0, 1) := by decide +kernel
theorem dX10_asNow_1 : decode cX10_asNow 1 = .ok (.istore_n 1, 1) := by decide +kernel
theorem dX10_asNow_2 : decode cX10_asNow 2 = .ok (.iload_n 1, 1) := by decide +kernel
theorem dX10_asNow_3 : decode cX10_asNow 3 = .ok (.bipush 29, 2) := by decide +kernel
theorem dX10_asNow_5 : decode cX10_asNow 5 = .ok (.if_icmp .ge 21, 3) := by decide +kernel
theorem dX10_asNow_8 : decode cX10_asNow 8 = .ok (.aload_n 0, 1) := by decide +kernel
theorem dX10_asNow_9 : decode cX10_asNow 9 = .ok (.getfield 50, 3) := by decide +kernel
theorem dX10_asNow_12 : decode cX10_asNow 12 = .ok (.iload_n 1, 1) := by decide +kernel
theorem dX10_asNow_13 : decode cX10_asNow 13 = .ok (.aload_n 0, 1) := by decide +kernel
theorem dX10_asNow_14 : decode cX10_asNow 14 = .ok (.getfield 28, 3) := by decide +kernel
theorem dX10_asNow_17 : decode cX10_asNow 17 = .ok (.iload_n 1, 1) := by decide +kernel
theorem dX10_asNow_18 : decode cX10_asNow 18 = .ok (.iaload, 1) := by decide +kernel
theorem dX10_asNow_19 : decode cX10_asNow 19 = .ok (.iastore, 1) := by decide +kernel
theorem dX10_asNow_20 : decode cX10_asNow 20 = .ok (.iinc 1 1, 3) := by decide +kernel
theorem dX10_asNow_23 : decode cX10_asNow 23 = .ok (.goto (-21), 3) := by decide +kernel
theorem dX10_asNow_26 : decode cX10_asNow 26 = .ok (.return_, 1) := by decide +kernel
theorem dX10_comes_0 : decode cX10_comes 0 = .ok (.aload_n 0, 1) := by decide +kernel
theorem dX10_comes_1 : decode cX10_comes 1 = .ok (.aload_n 0, 1) := by decide +kernel
theorem dX10_comes_2 : decode cX10_comes 2 = .ok (.getfield 50, 3) := by decide +kernel
theorem dX10_comes_5 : decode cX10_comes 5 = .ok (.iconst 0, 1) := by decide +kernel
theorem dX10_comes_6 : decode cX10_comes 6 = .ok (.iaload, 1) := by decide +kernel
theorem dX10_comes_7 : decode cX10_comes 7 = .ok (.iload_n 1, 1) := by decide +kernel
theorem dX10_comes_8 : decode cX10_comes 8 = .ok (.iload_n 2, 1) := by decide +kernel
theorem dX10_comes_9 : decode cX10_comes 9 = .ok (.invokevirtual 182, 3) := by decide +kernel
theorem dX10_comes_12 : decode cX10_comes 12 = .ok (.istore_n 3, 1) := by decide +kernel
theorem dX10_comes_13 : decode cX10_comes 13 = .ok (.iconst 0, 1) := by decide +kernel
theorem dX10_comes_14 : decode cX10_comes 14 = .ok (.istore 4, 2) := by decide +kernel
theorem dX10_comes_16 : decode cX10_comes 16 = .ok (.iload 4, 2) := by decide +kernel
theorem dX10_comes_18 : decode cX10_comes 18 = .ok (.aload_n 0, 1) := by decide +kernel
theorem dX10_comes_19 : decode cX10_comes 19 = .ok (.getfield 25, 3) := by decide +kernel
theorem dX10_comes_22 : decode cX10_comes 22 = .ok (.iconst 4, 1) := by decide +kernel
theorem dX10_comes_23 : decode cX10_comes 23 = .ok (.iaload, 1) := by decide +kernel
theorem dX10_comes_24 : decode cX10_comes 24 = .ok (.if_icmp .ge 188, 3) := by decide +kernel
theorem dX10_comes_27 : decode cX10_comes 27 = .ok (.aload_n 0, 1) := by decide +kernel
theorem dX10_comes_28 : decode cX10_comes 28 = .ok (.getfield 25, 3) := by decide +kernel
theorem dX10_comes_31 : decode cX10_comes 31 = .ok (.bipush 46, 2) := by decide +kernel
theorem dX10_comes_33 : decode cX10_comes 33 = .ok (.iload 4, 2) := by decide +kernel
theorem dX10_comes_35 : decode cX10_comes 35 = .ok (.iadd, 1) := by decide +kernel
theorem dX10_comes_36 : decode cX10_comes 36 = .ok (.iaload, 1) := by decide +kernel
theorem dX10_comes_37 : decode cX10_comes 37 = .ok (.iload_n 1, 1) := by decide +kernel
theorem dX10_comes_38 : decode cX10_comes 38 = .ok (.invokestatic 186, 3) := by decide +kernel
theorem dX10_comes_41 : decode cX10_comes 41 = .ok (.istore 5, 2) := by decide +kernel
theorem dX10_comes_43 : decode cX10_comes 43 = .ok (.aload_n 0, 1) := by decide +kernel
theorem dX10_comes_44 : decode cX10_comes 44 = .ok (.getfield 50, 3) := by decide +kernel
theorem dX10_comes_47 : decode cX10_comes 47 = .ok (.iconst 2, 1) := by decide +kernel
theorem dX10_comes_48 : decode cX10_comes 48 = .ok (.iload 4, 2) := by decide +kernel
theorem dX10_comes_50 : decode cX10_comes 50 = .ok (.iadd, 1) := by decide +kernel
theorem dX10_comes_51 : decode cX10_comes 51 = .ok (.iaload, 1) := by decide +kernel
theorem dX10_comes_52 : decode cX10_comes 52 = .ok (.iload 5, 2) := by decide +kernel
theorem dX10_comes_54 : decode cX10_comes 54 = .ok (.aload_n 0, 1) := by decide +kernel
theorem dX10_comes_55 : decode cX10_comes 55 = .ok (.getfield 50, 3) := by decide +kernel
theorem dX10_comes_58 : decode cX10_comes 58 = .ok (.iconst 1, 1) := by decide +kernel
theorem dX10_comes_59 : decode cX10_comes 59 = .ok (.iaload, 1) := by decide +kernel
theorem dX10_comes_60 : decode cX10_comes 60 = .ok (.invokestatic 189, 3) := by decide +kernel
theorem dX10_comes_63 : decode cX10_comes 63 = .ok (.istore 6, 2) := by decide +kernel
theorem dX10_comes_65 : decode cX10_comes 65 = .ok (.aload_n 0, 1) := by decide +kernel
theorem dX10_comes_66 : decode cX10_comes 66 = .ok (.getfield 50, 3) := by decide +kernel
theorem dX10_comes_69 : decode cX10_comes 69 = .ok (.iconst 2, 1) := by decide +kernel
theorem dX10_comes_70 : decode cX10_comes 70 = .ok (.iload 4, 2) := by decide +kernel
theorem dX10_comes_72 : decode cX10_comes 72 = .ok (.iadd, 1) := by decide +kernel
theorem dX10_comes_73 : decode cX10_comes 73 = .ok (.dup2, 1) := by decide +kernel
theorem dX10_comes_74 : decode cX10_comes 74 = .ok (.iaload, 1) := by decide +kernel
theorem dX10_comes_75 : decode cX10_comes 75 = .ok (.iload 5, 2) := by decide +kernel
theorem dX10_comes_77 : decode cX10_comes 77 = .ok (.iadd, 1) := by decide +kernel
theorem dX10_comes_78 : decode cX10_comes 78 = .ok (.iastore, 1) := by decide +kernel
theorem dX10_comes_79 : decode cX10_comes 79 = .ok (.iconst (-1), 1) := by decide +kernel
theorem dX10_comes_80 : decode cX10_comes 80 = .ok (.istore 7, 2) := by decide +kernel
theorem dX10_comes_82 : decode cX10_comes 82 = .ok (.aload_n 0, 1) := by decide +kernel
theorem dX10_comes_83 : decode cX10_comes 83 = .ok (.getfield 25, 3) := by decide +kernel
theorem dX10_comes_86 : decode cX10_comes 86 = .ok (.iconst 5, 1) := by decide +kernel
theorem dX10_comes_87 : decode cX10_comes 87 = .ok (.iaload, 1) := by decide +kernel
theorem dX10_comes_88 : decode cX10_comes 88 = .ok (.iconst 1, 1) := by decide +kernel
theorem dX10_comes_89 : decode cX10_comes 89 = .ok (.isub, 1) := by decide +kernel
theorem dX10_comes_90 : decode cX10_comes 90 = .ok (.istore 8, 2) := by decide +kernel
theorem dX10_comes_92 : decode cX10_comes 92 = .ok (.iload 8, 2) := by decide +kernel
theorem dX10_comes_94 : decode cX10_comes 94 = .ok (.ifCond .lt 57, 3) := by decide +kernel
theorem dX10_comes_97 : decode cX10_comes 97 = .ok (.aload_n 0, 1) := by decide +kernel
theorem dX10_comes_98 : decode cX10_comes 98 = .ok (.getfield 50, 3) := by decide +kernel
theorem dX10_comes_101 : decode cX10_comes 101 = .ok (.iconst 5, 1) := by decide +kernel
theorem dX10_comes_102 : decode cX10_comes 102 = .ok (.iload 8, 2) := by decide +kernel
theorem dX10_comes_104 : decode cX10_comes 104 = .ok (.iadd, 1) := by decide +kernel
theorem dX10_comes_105 : decode cX10_comes 105 = .ok (.iaload, 1) := by decide +kernel
theorem dX10_comes_106 : decode cX10_comes 106 = .ok (.istore 9, 2) := by decide +kernel
theorem dX10_comes_108 : decode cX10_comes 108 = .ok (.aload_n 0, 1) := by decide +kernel
theorem dX10_comes_109 : decode cX10_comes 109 = .ok (.getfield 50, 3) := by decide +kernel
theorem dX10_comes_112 : decode cX10_comes 112 = .ok (.bipush 17, 2) := by decide +kernel
theorem dX10_comes_114 : decode cX10_comes 114 = .ok (.iload 9, 2) := by decide +kernel
theorem dX10_comes_116 : decode cX10_comes 116 = .ok (.iadd, 1) := by decide +kernel
theorem dX10_comes_117 : decode cX10_comes 117 = .ok (.iaload, 1) := by decide +kernel
theorem dX10_comes_118 : decode cX10_comes 118 = .ok (.ifCond .ne 23, 3) := by decide +kernel
theorem dX10_comes_121 : decode cX10_comes 121 = .ok (.aload_n 0, 1) := by decide +kernel
theorem dX10_comes_122 : decode cX10_comes 122 = .ok (.getfield 50, 3) := by decide +kernel
theorem dX10_comes_125 : decode cX10_comes 125 = .ok (.bipush 11, 2) := by decide +kernel
theorem dX10_comes_127 : decode cX10_comes 127 = .ok (.iload 9, 2) := by decide +kernel
theorem dX10_comes_129 : decode cX10_comes 129 = .ok (.iadd, 1) := by decide +kernel
theorem dX10_comes_130 : decode cX10_comes 130 = .ok (.iaload, 1) := by decide +kernel
theorem dX10_comes_131 : decode cX10_comes 131 = .ok (.iload 4, 2) := by decide +kernel
theorem dX10_comes_133 : decode cX10_comes 133 = .ok (.if_icmp .ne 8, 3) := by decide +kernel
theorem dX10_comes_136 : decode cX10_comes 136 = .ok (.iload 9, 2) := by decide +kernel
theorem dX10_comes_138 : decode cX10_comes 138 = .ok (.goto 5, 3) := by decide +kernel
theorem dX10_comes_141 : decode cX10_comes 141 = .ok (.iload 7, 2) := by decide +kernel
theorem dX10_comes_143 : decode cX10_comes 143 = .ok (.istore 7, 2) := by decide +kernel
theorem dX10_comes_145 : decode cX10_comes 145 = .ok (.iinc 8 (-1), 3) := by decide +kernel
theorem dX10_comes_148 : decode cX10_comes 148 = .ok (.goto (-56), 3) := by decide +kernel
theorem dX10_comes_151 : decode cX10_comes 151 = .ok (.iload 6, 2) := by decide +kernel
theorem dX10_comes_153 : decode cX10_comes 153 = .ok (.ifCond .eq 53, 3) := by decide +kernel
theorem dX10_comes_156 : decode cX10_comes 156 = .ok (.iload 7, 2) := by decide +kernel
theorem dX10_comes_158 : decode cX10_comes 158 = .ok (.ifCond .lt 48, 3) := by decide +kernel
theorem dX10_comes_161 : decode cX10_comes 161 = .ok (.aload_n 0, 1) := by decide +kernel
theorem dX10_comes_162 : decode cX10_comes 162 = .ok (.getfield 50, 3) := by decide +kernel
theorem dX10_comes_165 : decode cX10_comes 165 = .ok (.bipush 17, 2) := by decide +kernel
theorem dX10_comes_167 : decode cX10_comes 167 = .ok (.iload 7, 2) := by decide +kernel
theorem dX10_comes_169 : decode cX10_comes 169 = .ok (.iadd, 1) := by decide +kernel
theorem dX10_comes_170 : decode cX10_comes 170 = .ok (.iload_n 3, 1) := by decide +kernel
theorem dX10_comes_171 : decode cX10_comes 171 = .ok (.aload_n 0, 1) := by decide +kernel
theorem dX10_comes_172 : decode cX10_comes 172 = .ok (.getfield 25, 3) := by decide +kernel
theorem dX10_comes_175 : decode cX10_comes 175 = .ok (.bipush 49, 2) := by decide +kernel
theorem dX10_comes_177 : decode cX10_comes 177 = .ok (.iload 7, 2) := by decide +kernel
theorem dX10_comes_179 : decode cX10_comes 179 = .ok (.iadd, 1) := by decide +kernel
theorem dX10_comes_180 : decode cX10_comes 180 = .ok (.iaload, 1) := by decide +kernel
theorem dX10_comes_181 : decode cX10_comes 181 = .ok (.if_icmp .lt 7, 3) := by decide +kernel
theorem dX10_comes_184 : decode cX10_comes 184 = .ok (.iconst 1, 1) := by decide +kernel
theorem dX10_comes_185 : decode cX10_comes 185 = .ok (.goto 4, 3) := by decide +kernel
theorem dX10_comes_188 : decode cX10_comes 188 = .ok (.iconst 2, 1) := by decide +kernel
theorem dX10_comes_189 : decode cX10_comes 189 = .ok (.iastore, 1) := by decide +kernel
theorem dX10_comes_190 : decode cX10_comes 190 = .ok (.aload_n 0, 1) := by decide +kernel
theorem dX10_comes_191 : decode cX10_comes 191 = .ok (.getfield 50, 3) := by decide +kernel
theorem dX10_comes_194 : decode cX10_comes 194 = .ok (.bipush 23, 2) := by decide +kernel
theorem dX10_comes_196 : decode cX10_comes 196 = .ok (.iload 7, 2) := by decide +kernel
theorem dX10_comes_198 : decode cX10_comes 198 = .ok (.iadd, 1) := by decide +kernel
theorem dX10_comes_199 : decode cX10_comes 199 = .ok (.aload_n 0, 1) := by decide +kernel
theorem dX10_comes_200 : decode cX10_comes 200 = .ok (.getfield 50, 3) := by decide +kernel
theorem dX10_comes_203 : decode cX10_comes 203 = .ok (.iconst 0, 1) := by decide +kernel
theorem dX10_comes_204 : decode cX10_comes 204 = .ok (.iaload, 1) := by decide +kernel
theorem dX10_comes_205 : decode cX10_comes 205 = .ok (.iastore, 1) := by decide +kernel
theorem dX10_comes_206 : decode cX10_comes 206 = .ok (.iinc 4 1, 3) := by decide +kernel
theorem dX10_comes_209 : decode cX10_comes 209 = .ok (.goto (-193), 3) := by decide +kernel
theorem dX10_comes_212 : decode cX10_comes 212 = .ok (.aload_n 0, 1) := by decide +kernel
theorem dX10_comes_213 : decode cX10_comes 213 = .ok (.getfield 50, 3) := by decide +kernel
theorem dX10_comes_216 : decode cX10_comes 216 = .ok (.iconst 0, 1) := by decide +kernel
theorem dX10_comes_217 : decode cX10_comes 217 = .ok (.dup2, 1) := by decide +kernel
theorem dX10_comes_218 : decode cX10_comes 218 = .ok (.iaload, 1) := by decide +kernel
theorem dX10_comes_219 : decode cX10_comes 219 = .ok (.iconst 1, 1) := by decide +kernel
theorem dX10_comes_220 : decode cX10_comes 220 = .ok (.iadd, 1) := by decide +kernel
theorem dX10_comes_221 : decode cX10_comes 221 = .ok (.iastore, 1) := by decide +kernel
theorem dX10_comes_222 : decode cX10_comes 222 = .ok (.return_, 1) := by decide +kernel
theorem dX10_waves0_0 : decode cX10_waves0 0 = .ok (.iconst 0, 1) := by decide +kernel
theorem dX10_waves0_1 : decode cX10_waves0 1 = .ok (.istore_n 2, 1) := by decide +kernel
theorem dX10_waves0_2 : decode cX10_waves0 2 = .ok (.iload_n 2, 1) := by decide +kernel
theorem dX10_waves0_3 : decode cX10_waves0 3 = .ok (.iload_n 1, 1) := by decide +kernel
theorem dX10_waves0_4 : decode cX10_waves0 4 = .ok (.if_icmp .ge 33, 3) := by decide +kernel
theorem dX10_waves0_7 : decode cX10_waves0 7 = .ok (.aload_n 0, 1) := by decide +kernel
theorem dX10_waves0_8 : decode cX10_waves0 8 = .ok (.aload_n 0, 1) := by decide +kernel
theorem dX10_waves0_9 : decode cX10_waves0 9 = .ok (.aload_n 0, 1) := by decide +kernel
theorem dX10_waves0_10 : decode cX10_waves0 10 = .ok (.getfield 50, 3) := by decide +kernel
theorem dX10_waves0_13 : decode cX10_waves0 13 = .ok (.iconst 0, 1) := by decide +kernel
theorem dX10_waves0_14 : decode cX10_waves0 14 = .ok (.iaload, 1) := by decide +kernel
theorem dX10_waves0_15 : decode cX10_waves0 15 = .ok (.invokevirtual 176, 3) := by decide +kernel
theorem dX10_waves0_18 : decode cX10_waves0 18 = .ok (.aload_n 0, 1) := by decide +kernel
theorem dX10_waves0_19 : decode cX10_waves0 19 = .ok (.aload_n 0, 1) := by decide +kernel
theorem dX10_waves0_20 : decode cX10_waves0 20 = .ok (.getfield 50, 3) := by decide +kernel
theorem dX10_waves0_23 : decode cX10_waves0 23 = .ok (.iconst 0, 1) := by decide +kernel
theorem dX10_waves0_24 : decode cX10_waves0 24 = .ok (.iaload, 1) := by decide +kernel
theorem dX10_waves0_25 : decode cX10_waves0 25 = .ok (.invokevirtual 179, 3) := by decide +kernel
theorem dX10_waves0_28 : decode cX10_waves0 28 = .ok (.invokevirtual 192, 3) := by decide +kernel
theorem dX10_waves0_31 : decode cX10_waves0 31 = .ok (.iinc 2 1, 3) := by decide +kernel
theorem dX10_waves0_34 : decode cX10_waves0 34 = .ok (.goto (-32), 3) := by decide +kernel
theorem dX10_waves0_37 : decode cX10_waves0 37 = .ok (.return_, 1) := by decide +kernel
theorem dX10_many_0 : decode cX10_many 0 = .ok (.iconst 0, 1) := by decide +kernel
theorem dX10_many_1 : decode cX10_many 1 = .ok (.istore_n 2, 1) := by decide +kernel
theorem dX10_many_2 : decode cX10_many 2 = .ok (.iconst 0, 1) := by decide +kernel
theorem dX10_many_3 : decode cX10_many 3 = .ok (.istore_n 3, 1) := by decide +kernel
theorem dX10_many_4 : decode cX10_many 4 = .ok (.iload_n 3, 1) := by decide +kernel
theorem dX10_many_5 : decode cX10_many 5 = .ok (.aload_n 0, 1) := by decide +kernel
theorem dX10_many_6 : decode cX10_many 6 = .ok (.getfield 25, 3) := by decide +kernel
theorem dX10_many_9 : decode cX10_many 9 = .ok (.iconst 5, 1) := by decide +kernel
theorem dX10_many_10 : decode cX10_many 10 = .ok (.iaload, 1) := by decide +kernel
theorem dX10_many_11 : decode cX10_many 11 = .ok (.if_icmp .ge 30, 3) := by decide +kernel
theorem dX10_many_14 : decode cX10_many 14 = .ok (.iload_n 2, 1) := by decide +kernel
theorem dX10_many_15 : decode cX10_many 15 = .ok (.aload_n 0, 1) := by decide +kernel
theorem dX10_many_16 : decode cX10_many 16 = .ok (.getfield 50, 3) := by decide +kernel
theorem dX10_many_19 : decode cX10_many 19 = .ok (.bipush 17, 2) := by decide +kernel
theorem dX10_many_21 : decode cX10_many 21 = .ok (.iload_n 3, 1) := by decide +kernel
theorem dX10_many_22 : decode cX10_many 22 = .ok (.iadd, 1) := by decide +kernel
theorem dX10_many_23 : decode cX10_many 23 = .ok (.iaload, 1) := by decide +kernel
theorem dX10_many_24 : decode cX10_many 24 = .ok (.iload_n 1, 1) := by decide +kernel
theorem dX10_many_25 : decode cX10_many 25 = .ok (.if_icmp .ne 7, 3) := by decide +kernel
theorem dX10_many_28 : decode cX10_many 28 = .ok (.iconst 1, 1) := by decide +kernel
theorem dX10_many_29 : decode cX10_many 29 = .ok (.goto 4, 3) := by decide +kernel
theorem dX10_many_32 : decode cX10_many 32 = .ok (.iconst 0, 1) := by decide +kernel
theorem dX10_many_33 : decode cX10_many 33 = .ok (.iadd, 1) := by decide +kernel
theorem dX10_many_34 : decode cX10_many 34 = .ok (.istore_n 2, 1) := by decide +kernel
theorem dX10_many_35 : decode cX10_many 35 = .ok (.iinc 3 1, 3) := by decide +kernel
theorem dX10_many_38 : decode cX10_many 38 = .ok (.goto (-34), 3) := by decide +kernel
theorem dX10_many_41 : decode cX10_many 41 = .ok (.iload_n 2, 1) := by decide +kernel
theorem dX10_many_42 : decode cX10_many 42 = .ok (.ireturn, 1) := by decide +kernel
theorem dX10_remembers_0 : decode cX10_remembers 0 = .ok (.aload_n 0, 1) := by decide +kernel
theorem dX10_remembers_1 : decode cX10_remembers 1 = .ok (.getfield 166, 3) := by decide +kernel
theorem dX10_remembers_4 : decode cX10_remembers 4 = .ok (.bipush 24, 2) := by decide +kernel
theorem dX10_remembers_6 : decode cX10_remembers 6 = .ok (.if_icmp .ne 43, 3) := by decide +kernel
theorem dX10_remembers_9 : decode cX10_remembers 9 = .ok (.iconst 0, 1) := by decide +kernel
theorem dX10_remembers_10 : decode cX10_remembers 10 = .ok (.istore_n 1, 1) := by decide +kernel
theorem dX10_remembers_11 : decode cX10_remembers 11 = .ok (.iload_n 1, 1) := by decide +kernel
theorem dX10_remembers_12 : decode cX10_remembers 12 = .ok (.sipush 667, 3) := by decide +kernel
theorem dX10_remembers_15 : decode cX10_remembers 15 = .ok (.if_icmp .ge 24, 3) := by decide +kernel
theorem dX10_remembers_18 : decode cX10_remembers 18 = .ok (.aload_n 0, 1) := by decide +kernel
theorem dX10_remembers_19 : decode cX10_remembers 19 = .ok (.getfield 41, 3) := by decide +kernel
theorem dX10_remembers_22 : decode cX10_remembers 22 = .ok (.iload_n 1, 1) := by decide +kernel
theorem dX10_remembers_23 : decode cX10_remembers 23 = .ok (.aload_n 0, 1) := by decide +kernel
theorem dX10_remembers_24 : decode cX10_remembers 24 = .ok (.getfield 41, 3) := by decide +kernel
theorem dX10_remembers_27 : decode cX10_remembers 27 = .ok (.iload_n 1, 1) := by decide +kernel
theorem dX10_remembers_28 : decode cX10_remembers 28 = .ok (.bipush 29, 2) := by decide +kernel
theorem dX10_remembers_30 : decode cX10_remembers 30 = .ok (.iadd, 1) := by decide +kernel
theorem dX10_remembers_31 : decode cX10_remembers 31 = .ok (.iaload, 1) := by decide +kernel
theorem dX10_remembers_32 : decode cX10_remembers 32 = .ok (.iastore, 1) := by decide +kernel
theorem dX10_remembers_33 : decode cX10_remembers 33 = .ok (.iinc 1 1, 3) := by decide +kernel
theorem dX10_remembers_36 : decode cX10_remembers 36 = .ok (.goto (-25), 3) := by decide +kernel
theorem dX10_remembers_39 : decode cX10_remembers 39 = .ok (.aload_n 0, 1) := by decide +kernel
theorem dX10_remembers_40 : decode cX10_remembers 40 = .ok (.dup, 1) := by decide +kernel
theorem dX10_remembers_41 : decode cX10_remembers 41 = .ok (.getfield 166, 3) := by decide +kernel
theorem dX10_remembers_44 : decode cX10_remembers 44 = .ok (.iconst 1, 1) := by decide +kernel
theorem dX10_remembers_45 : decode cX10_remembers 45 = .ok (.isub, 1) := by decide +kernel
theorem dX10_remembers_46 : decode cX10_remembers 46 = .ok (.putfield 166, 3) := by decide +kernel
theorem dX10_remembers_49 : decode cX10_remembers 49 = .ok (.iconst 0, 1) := by decide +kernel
theorem dX10_remembers_50 : decode cX10_remembers 50 = .ok (.istore_n 1, 1) := by decide +kernel
theorem dX10_remembers_51 : decode cX10_remembers 51 = .ok (.iload_n 1, 1) := by decide +kernel
theorem dX10_remembers_52 : decode cX10_remembers 52 = .ok (.bipush 29, 2) := by decide +kernel
theorem dX10_remembers_54 : decode cX10_remembers 54 = .ok (.if_icmp .ge 29, 3) := by decide +kernel
theorem dX10_remembers_57 : decode cX10_remembers 57 = .ok (.aload_n 0, 1) := by decide +kernel
theorem dX10_remembers_58 : decode cX10_remembers 58 = .ok (.getfield 41, 3) := by decide +kernel
theorem dX10_remembers_61 : decode cX10_remembers 61 = .ok (.bipush 29, 2) := by decide +kernel
theorem dX10_remembers_63 : decode cX10_remembers 63 = .ok (.aload_n 0, 1) := by decide +kernel
theorem dX10_remembers_64 : decode cX10_remembers 64 = .ok (.getfield 166, 3) := by decide +kernel
theorem dX10_remembers_67 : decode cX10_remembers 67 = .ok (.imul, 1) := by decide +kernel
theorem dX10_remembers_68 : decode cX10_remembers 68 = .ok (.iload_n 1, 1) := by decide +kernel
theorem dX10_remembers_69 : decode cX10_remembers 69 = .ok (.iadd, 1) := by decide +kernel
theorem dX10_remembers_70 : decode cX10_remembers 70 = .ok (.aload_n 0, 1) := by decide +kernel
theorem dX10_remembers_71 : decode cX10_remembers 71 = .ok (.getfield 28, 3) := by decide +kernel
theorem dX10_remembers_74 : decode cX10_remembers 74 = .ok (.iload_n 1, 1) := by decide +kernel
theorem dX10_remembers_75 : decode cX10_remembers 75 = .ok (.iaload, 1) := by decide +kernel
theorem dX10_remembers_76 : decode cX10_remembers 76 = .ok (.iastore, 1) := by decide +kernel
theorem dX10_remembers_77 : decode cX10_remembers 77 = .ok (.iinc 1 1, 3) := by decide +kernel
theorem dX10_remembers_80 : decode cX10_remembers 80 = .ok (.goto (-29), 3) := by decide +kernel
theorem dX10_remembers_83 : decode cX10_remembers 83 = .ok (.aload_n 0, 1) := by decide +kernel
theorem dX10_remembers_84 : decode cX10_remembers 84 = .ok (.dup, 1) := by decide +kernel
theorem dX10_remembers_85 : decode cX10_remembers 85 = .ok (.getfield 166, 3) := by decide +kernel
theorem dX10_remembers_88 : decode cX10_remembers 88 = .ok (.iconst 1, 1) := by decide +kernel
theorem dX10_remembers_89 : decode cX10_remembers 89 = .ok (.iadd, 1) := by decide +kernel
theorem dX10_remembers_90 : decode cX10_remembers 90 = .ok (.putfield 166, 3) := by decide +kernel
theorem dX10_remembers_93 : decode cX10_remembers 93 = .ok (.return_, 1) := by decide +kernel
theorem dX10_waves_0 : decode cX10_waves 0 = .ok (.aload_n 0, 1) := by decide +kernel
theorem dX10_waves_1 : decode cX10_waves 1 = .ok (.invokevirtual 196, 3) := by decide +kernel
theorem dX10_waves_4 : decode cX10_waves 4 = .ok (.ifCond .ne 6, 3) := by decide +kernel
theorem dX10_waves_7 : decode cX10_waves 7 = .ok (.ldc 199, 2) := by decide +kernel
theorem dX10_waves_9 : decode cX10_waves 9 = .ok (.ireturn, 1) := by decide +kernel
theorem dX10_waves_10 : decode cX10_waves 10 = .ok (.iload_n 1, 1) := by decide +kernel
theorem dX10_waves_11 : decode cX10_waves 11 = .ok (.i2l, 1) := by decide +kernel
theorem dX10_waves_12 : decode cX10_waves 12 = .ok (.lconst 1, 1) := by decide +kernel
theorem dX10_waves_13 : decode cX10_waves 13 = .ok (.ldc2_w 200, 3) := by decide +kernel
theorem dX10_waves_16 : decode cX10_waves 16 = .ok (.invokestatic 64, 3) := by decide +kernel
theorem dX10_waves_19 : decode cX10_waves 19 = .ok (.ifCond .ne 6, 3) := by decide +kernel
theorem dX10_waves_22 : decode cX10_waves 22 = .ok (.ldc 79, 2) := by decide +kernel
theorem dX10_waves_24 : decode cX10_waves 24 = .ok (.ireturn, 1) := by decide +kernel
theorem dX10_waves_25 : decode cX10_waves 25 = .ok (.aload_n 0, 1) := by decide +kernel
theorem dX10_waves_26 : decode cX10_waves 26 = .ok (.getfield 28, 3) := by decide +kernel
theorem dX10_waves_29 : decode cX10_waves 29 = .ok (.iconst 0, 1) := by decide +kernel
theorem dX10_waves_30 : decode cX10_waves 30 = .ok (.iaload, 1) := by decide +kernel
theorem dX10_waves_31 : decode cX10_waves 31 = .ok (.iload_n 1, 1) := by decide +kernel
theorem dX10_waves_32 : decode cX10_waves 32 = .ok (.iadd, 1) := by decide +kernel
theorem dX10_waves_33 : decode cX10_waves 33 = .ok (.sipush 999, 3) := by decide +kernel
theorem dX10_waves_36 : decode cX10_waves 36 = .ok (.if_icmp .le 6, 3) := by decide +kernel
theorem dX10_waves_39 : decode cX10_waves 39 = .ok (.ldc 92, 2) := by decide +kernel
theorem dX10_waves_41 : decode cX10_waves 41 = .ok (.ireturn, 1) := by decide +kernel
theorem dX10_waves_42 : decode cX10_waves 42 = .ok (.iconst 0, 1) := by decide +kernel
theorem dX10_waves_43 : decode cX10_waves 43 = .ok (.istore_n 2, 1) := by decide +kernel
theorem dX10_waves_44 : decode cX10_waves 44 = .ok (.iload_n 2, 1) := by decide +kernel
theorem dX10_waves_45 : decode cX10_waves 45 = .ok (.iload_n 1, 1) := by decide +kernel
theorem dX10_waves_46 : decode cX10_waves 46 = .ok (.if_icmp .ge 48, 3) := by decide +kernel
theorem dX10_waves_49 : decode cX10_waves 49 = .ok (.aload_n 0, 1) := by decide +kernel
theorem dX10_waves_50 : decode cX10_waves 50 = .ok (.invokevirtual 202, 3) := by decide +kernel
theorem dX10_waves_53 : decode cX10_waves 53 = .ok (.aload_n 0, 1) := by decide +kernel
theorem dX10_waves_54 : decode cX10_waves 54 = .ok (.invokevirtual 205, 3) := by decide +kernel
theorem dX10_waves_57 : decode cX10_waves 57 = .ok (.aload_n 0, 1) := by decide +kernel
theorem dX10_waves_58 : decode cX10_waves 58 = .ok (.iconst 1, 1) := by decide +kernel
theorem dX10_waves_59 : decode cX10_waves 59 = .ok (.invokevirtual 208, 3) := by decide +kernel
theorem dX10_waves_62 : decode cX10_waves 62 = .ok (.iconst 0, 1) := by decide +kernel
theorem dX10_waves_63 : decode cX10_waves 63 = .ok (.istore_n 3, 1) := by decide +kernel
theorem dX10_waves_64 : decode cX10_waves 64 = .ok (.iload_n 3, 1) := by decide +kernel
theorem dX10_waves_65 : decode cX10_waves 65 = .ok (.bipush 29, 2) := by decide +kernel
theorem dX10_waves_67 : decode cX10_waves 67 = .ok (.if_icmp .ge 21, 3) := by decide +kernel
theorem dX10_waves_70 : decode cX10_waves 70 = .ok (.aload_n 0, 1) := by decide +kernel
theorem dX10_waves_71 : decode cX10_waves 71 = .ok (.getfield 28, 3) := by decide +kernel
theorem dX10_waves_74 : decode cX10_waves 74 = .ok (.iload_n 3, 1) := by decide +kernel
theorem dX10_waves_75 : decode cX10_waves 75 = .ok (.aload_n 0, 1) := by decide +kernel
theorem dX10_waves_76 : decode cX10_waves 76 = .ok (.getfield 50, 3) := by decide +kernel
theorem dX10_waves_79 : decode cX10_waves 79 = .ok (.iload_n 3, 1) := by decide +kernel
theorem dX10_waves_80 : decode cX10_waves 80 = .ok (.iaload, 1) := by decide +kernel
theorem dX10_waves_81 : decode cX10_waves 81 = .ok (.iastore, 1) := by decide +kernel
theorem dX10_waves_82 : decode cX10_waves 82 = .ok (.iinc 3 1, 3) := by decide +kernel
theorem dX10_waves_85 : decode cX10_waves 85 = .ok (.goto (-21), 3) := by decide +kernel
theorem dX10_waves_88 : decode cX10_waves 88 = .ok (.iinc 2 1, 3) := by decide +kernel
theorem dX10_waves_91 : decode cX10_waves 91 = .ok (.goto (-47), 3) := by decide +kernel
theorem dX10_waves_94 : decode cX10_waves 94 = .ok (.aload_n 0, 1) := by decide +kernel
theorem dX10_waves_95 : decode cX10_waves 95 = .ok (.getfield 28, 3) := by decide +kernel
theorem dX10_waves_98 : decode cX10_waves 98 = .ok (.iconst 0, 1) := by decide +kernel
theorem dX10_waves_99 : decode cX10_waves 99 = .ok (.iaload, 1) := by decide +kernel
theorem dX10_waves_100 : decode cX10_waves 100 = .ok (.ireturn, 1) := by decide +kernel
theorem dX10_slip_0 : decode cX10_slip 0 = .ok (.aload_n 0, 1) := by decide +kernel
theorem dX10_slip_1 : decode cX10_slip 1 = .ok (.iload_n 1, 1) := by decide +kernel
theorem dX10_slip_2 : decode cX10_slip 2 = .ok (.invokevirtual 212, 3) := by decide +kernel
theorem dX10_slip_5 : decode cX10_slip 5 = .ok (.ifCond .eq 17, 3) := by decide +kernel
theorem dX10_slip_8 : decode cX10_slip 8 = .ok (.iload_n 2, 1) := by decide +kernel
theorem dX10_slip_9 : decode cX10_slip 9 = .ok (.i2l, 1) := by decide +kernel
theorem dX10_slip_10 : decode cX10_slip 10 = .ok (.ldc2_w 215, 3) := by decide +kernel
theorem dX10_slip_13 : decode cX10_slip 13 = .ok (.ldc2_w 217, 3) := by decide +kernel
theorem dX10_slip_16 : decode cX10_slip 16 = .ok (.invokestatic 64, 3) := by decide +kernel
theorem dX10_slip_19 : decode cX10_slip 19 = .ok (.ifCond .ne 6, 3) := by decide +kernel
theorem dX10_slip_22 : decode cX10_slip 22 = .ok (.ldc 79, 2) := by decide +kernel
theorem dX10_slip_24 : decode cX10_slip 24 = .ok (.ireturn, 1) := by decide +kernel
theorem dX10_slip_25 : decode cX10_slip 25 = .ok (.aload_n 0, 1) := by decide +kernel
theorem dX10_slip_26 : decode cX10_slip 26 = .ok (.invokevirtual 202, 3) := by decide +kernel
theorem dX10_slip_29 : decode cX10_slip 29 = .ok (.aload_n 0, 1) := by decide +kernel
theorem dX10_slip_30 : decode cX10_slip 30 = .ok (.getfield 28, 3) := by decide +kernel
theorem dX10_slip_33 : decode cX10_slip 33 = .ok (.iconst 2, 1) := by decide +kernel
theorem dX10_slip_34 : decode cX10_slip 34 = .ok (.iload_n 1, 1) := by decide +kernel
theorem dX10_slip_35 : decode cX10_slip 35 = .ok (.iadd, 1) := by decide +kernel
theorem dX10_slip_36 : decode cX10_slip 36 = .ok (.iconst 0, 1) := by decide +kernel
theorem dX10_slip_37 : decode cX10_slip 37 = .ok (.aload_n 0, 1) := by decide +kernel
theorem dX10_slip_38 : decode cX10_slip 38 = .ok (.getfield 28, 3) := by decide +kernel
theorem dX10_slip_41 : decode cX10_slip 41 = .ok (.iconst 2, 1) := by decide +kernel
theorem dX10_slip_42 : decode cX10_slip 42 = .ok (.iload_n 1, 1) := by decide +kernel
theorem dX10_slip_43 : decode cX10_slip 43 = .ok (.iadd, 1) := by decide +kernel
theorem dX10_slip_44 : decode cX10_slip 44 = .ok (.iaload, 1) := by decide +kernel
theorem dX10_slip_45 : decode cX10_slip 45 = .ok (.iload_n 2, 1) := by decide +kernel
theorem dX10_slip_46 : decode cX10_slip 46 = .ok (.iadd, 1) := by decide +kernel
theorem dX10_slip_47 : decode cX10_slip 47 = .ok (.invokestatic 169, 3) := by decide +kernel
theorem dX10_slip_50 : decode cX10_slip 50 = .ok (.iastore, 1) := by decide +kernel
theorem dX10_slip_51 : decode cX10_slip 51 = .ok (.aload_n 0, 1) := by decide +kernel
theorem dX10_slip_52 : decode cX10_slip 52 = .ok (.getfield 28, 3) := by decide +kernel
theorem dX10_slip_55 : decode cX10_slip 55 = .ok (.iconst 2, 1) := by decide +kernel
theorem dX10_slip_56 : decode cX10_slip 56 = .ok (.iload_n 1, 1) := by decide +kernel
theorem dX10_slip_57 : decode cX10_slip 57 = .ok (.iadd, 1) := by decide +kernel
theorem dX10_slip_58 : decode cX10_slip 58 = .ok (.iaload, 1) := by decide +kernel
theorem dX10_slip_59 : decode cX10_slip 59 = .ok (.ireturn, 1) := by decide +kernel
theorem dX10_law_0 : decode cX10_law 0 = .ok (.aload_n 0, 1) := by decide +kernel
theorem dX10_law_1 : decode cX10_law 1 = .ok (.invokevirtual 196, 3) := by decide +kernel
theorem dX10_law_4 : decode cX10_law 4 = .ok (.ifCond .ne 6, 3) := by decide +kernel
theorem dX10_law_7 : decode cX10_law 7 = .ok (.ldc 199, 2) := by decide +kernel
theorem dX10_law_9 : decode cX10_law 9 = .ok (.ireturn, 1) := by decide +kernel
theorem dX10_law_10 : decode cX10_law 10 = .ok (.iload_n 1, 1) := by decide +kernel
theorem dX10_law_11 : decode cX10_law 11 = .ok (.i2l, 1) := by decide +kernel
theorem dX10_law_12 : decode cX10_law 12 = .ok (.ldc2_w 77, 3) := by decide +kernel
theorem dX10_law_15 : decode cX10_law 15 = .ok (.ldc2_w 219, 3) := by decide +kernel
theorem dX10_law_18 : decode cX10_law 18 = .ok (.invokestatic 64, 3) := by decide +kernel
theorem dX10_law_21 : decode cX10_law 21 = .ok (.ifCond .ne 6, 3) := by decide +kernel
theorem dX10_law_24 : decode cX10_law 24 = .ok (.ldc 79, 2) := by decide +kernel
theorem dX10_law_26 : decode cX10_law 26 = .ok (.ireturn, 1) := by decide +kernel
theorem dX10_law_27 : decode cX10_law 27 = .ok (.aload_n 0, 1) := by decide +kernel
theorem dX10_law_28 : decode cX10_law 28 = .ok (.invokevirtual 202, 3) := by decide +kernel
theorem dX10_law_31 : decode cX10_law 31 = .ok (.aload_n 0, 1) := by decide +kernel
theorem dX10_law_32 : decode cX10_law 32 = .ok (.getfield 28, 3) := by decide +kernel
theorem dX10_law_35 : decode cX10_law 35 = .ok (.iconst 1, 1) := by decide +kernel
theorem dX10_law_36 : decode cX10_law 36 = .ok (.iaload, 1) := by decide +kernel
theorem dX10_law_37 : decode cX10_law 37 = .ok (.istore_n 2, 1) := by decide +kernel
theorem dX10_law_38 : decode cX10_law 38 = .ok (.aload_n 0, 1) := by decide +kernel
theorem dX10_law_39 : decode cX10_law 39 = .ok (.getfield 28, 3) := by decide +kernel
theorem dX10_law_42 : decode cX10_law 42 = .ok (.iconst 1, 1) := by decide +kernel
theorem dX10_law_43 : decode cX10_law 43 = .ok (.iload_n 1, 1) := by decide +kernel
theorem dX10_law_44 : decode cX10_law 44 = .ok (.iastore, 1) := by decide +kernel
theorem dX10_law_45 : decode cX10_law 45 = .ok (.iload_n 2, 1) := by decide +kernel
theorem dX10_law_46 : decode cX10_law 46 = .ok (.ireturn, 1) := by decide +kernel
theorem dX10_placeOf_0 : decode cX10_placeOf 0 = .ok (.iconst 0, 1) := by decide +kernel
theorem dX10_placeOf_1 : decode cX10_placeOf 1 = .ok (.istore_n 2, 1) := by decide +kernel
theorem dX10_placeOf_2 : decode cX10_placeOf 2 = .ok (.iconst 0, 1) := by decide +kernel
theorem dX10_placeOf_3 : decode cX10_placeOf 3 = .ok (.istore_n 3, 1) := by decide +kernel
theorem dX10_placeOf_4 : decode cX10_placeOf 4 = .ok (.iload_n 3, 1) := by decide +kernel
theorem dX10_placeOf_5 : decode cX10_placeOf 5 = .ok (.aload_n 0, 1) := by decide +kernel
theorem dX10_placeOf_6 : decode cX10_placeOf 6 = .ok (.getfield 25, 3) := by decide +kernel
theorem dX10_placeOf_9 : decode cX10_placeOf 9 = .ok (.iconst 5, 1) := by decide +kernel
theorem dX10_placeOf_10 : decode cX10_placeOf 10 = .ok (.iaload, 1) := by decide +kernel
theorem dX10_placeOf_11 : decode cX10_placeOf 11 = .ok (.if_icmp .ge 27, 3) := by decide +kernel
theorem dX10_placeOf_14 : decode cX10_placeOf 14 = .ok (.aload_n 0, 1) := by decide +kernel
theorem dX10_placeOf_15 : decode cX10_placeOf 15 = .ok (.getfield 28, 3) := by decide +kernel
theorem dX10_placeOf_18 : decode cX10_placeOf 18 = .ok (.iconst 5, 1) := by decide +kernel
theorem dX10_placeOf_19 : decode cX10_placeOf 19 = .ok (.iload_n 3, 1) := by decide +kernel
theorem dX10_placeOf_20 : decode cX10_placeOf 20 = .ok (.iadd, 1) := by decide +kernel
theorem dX10_placeOf_21 : decode cX10_placeOf 21 = .ok (.iaload, 1) := by decide +kernel
theorem dX10_placeOf_22 : decode cX10_placeOf 22 = .ok (.iload_n 1, 1) := by decide +kernel
theorem dX10_placeOf_23 : decode cX10_placeOf 23 = .ok (.if_icmp .ne 7, 3) := by decide +kernel
theorem dX10_placeOf_26 : decode cX10_placeOf 26 = .ok (.iload_n 3, 1) := by decide +kernel
theorem dX10_placeOf_27 : decode cX10_placeOf 27 = .ok (.goto 4, 3) := by decide +kernel
theorem dX10_placeOf_30 : decode cX10_placeOf 30 = .ok (.iload_n 2, 1) := by decide +kernel
theorem dX10_placeOf_31 : decode cX10_placeOf 31 = .ok (.istore_n 2, 1) := by decide +kernel
theorem dX10_placeOf_32 : decode cX10_placeOf 32 = .ok (.iinc 3 1, 3) := by decide +kernel
theorem dX10_placeOf_35 : decode cX10_placeOf 35 = .ok (.goto (-31), 3) := by decide +kernel
theorem dX10_placeOf_38 : decode cX10_placeOf 38 = .ok (.iload_n 2, 1) := by decide +kernel
theorem dX10_placeOf_39 : decode cX10_placeOf 39 = .ok (.ireturn, 1) := by decide +kernel
theorem dX10_change_0 : decode cX10_change 0 = .ok (.aload_n 0, 1) := by decide +kernel
theorem dX10_change_1 : decode cX10_change 1 = .ok (.iload_n 1, 1) := by decide +kernel
theorem dX10_change_2 : decode cX10_change 2 = .ok (.invokevirtual 221, 3) := by decide +kernel
theorem dX10_change_5 : decode cX10_change 5 = .ok (.ifCond .eq 16, 3) := by decide +kernel
theorem dX10_change_8 : decode cX10_change 8 = .ok (.aload_n 0, 1) := by decide +kernel
theorem dX10_change_9 : decode cX10_change 9 = .ok (.iload_n 2, 1) := by decide +kernel
theorem dX10_change_10 : decode cX10_change 10 = .ok (.invokevirtual 221, 3) := by decide +kernel
theorem dX10_change_13 : decode cX10_change 13 = .ok (.ifCond .eq 8, 3) := by decide +kernel
theorem dX10_change_16 : decode cX10_change 16 = .ok (.iload_n 1, 1) := by decide +kernel
theorem dX10_change_17 : decode cX10_change 17 = .ok (.iload_n 2, 1) := by decide +kernel
theorem dX10_change_18 : decode cX10_change 18 = .ok (.if_icmp .ne 6, 3) := by decide +kernel
theorem dX10_change_21 : decode cX10_change 21 = .ok (.ldc 79, 2) := by decide +kernel
theorem dX10_change_23 : decode cX10_change 23 = .ok (.ireturn, 1) := by decide +kernel
theorem dX10_change_24 : decode cX10_change 24 = .ok (.aload_n 0, 1) := by decide +kernel
theorem dX10_change_25 : decode cX10_change 25 = .ok (.invokevirtual 202, 3) := by decide +kernel
theorem dX10_change_28 : decode cX10_change 28 = .ok (.aload_n 0, 1) := by decide +kernel
theorem dX10_change_29 : decode cX10_change 29 = .ok (.iload_n 1, 1) := by decide +kernel
theorem dX10_change_30 : decode cX10_change 30 = .ok (.invokevirtual 224, 3) := by decide +kernel
theorem dX10_change_33 : decode cX10_change 33 = .ok (.istore_n 3, 1) := by decide +kernel
theorem dX10_change_34 : decode cX10_change 34 = .ok (.aload_n 0, 1) := by decide +kernel
theorem dX10_change_35 : decode cX10_change 35 = .ok (.iload_n 2, 1) := by decide +kernel
theorem dX10_change_36 : decode cX10_change 36 = .ok (.invokevirtual 224, 3) := by decide +kernel
theorem dX10_change_39 : decode cX10_change 39 = .ok (.istore 4, 2) := by decide +kernel
theorem dX10_change_41 : decode cX10_change 41 = .ok (.aload_n 0, 1) := by decide +kernel
theorem dX10_change_42 : decode cX10_change 42 = .ok (.getfield 28, 3) := by decide +kernel
theorem dX10_change_45 : decode cX10_change 45 = .ok (.iconst 5, 1) := by decide +kernel
theorem dX10_change_46 : decode cX10_change 46 = .ok (.iload_n 3, 1) := by decide +kernel
theorem dX10_change_47 : decode cX10_change 47 = .ok (.iadd, 1) := by decide +kernel
theorem dX10_change_48 : decode cX10_change 48 = .ok (.iload_n 2, 1) := by decide +kernel
theorem dX10_change_49 : decode cX10_change 49 = .ok (.iastore, 1) := by decide +kernel
theorem dX10_change_50 : decode cX10_change 50 = .ok (.aload_n 0, 1) := by decide +kernel
theorem dX10_change_51 : decode cX10_change 51 = .ok (.getfield 28, 3) := by decide +kernel
theorem dX10_change_54 : decode cX10_change 54 = .ok (.iconst 5, 1) := by decide +kernel
theorem dX10_change_55 : decode cX10_change 55 = .ok (.iload 4, 2) := by decide +kernel
theorem dX10_change_57 : decode cX10_change 57 = .ok (.iadd, 1) := by decide +kernel
theorem dX10_change_58 : decode cX10_change 58 = .ok (.iload_n 1, 1) := by decide +kernel
theorem dX10_change_59 : decode cX10_change 59 = .ok (.iastore, 1) := by decide +kernel
theorem dX10_change_60 : decode cX10_change 60 = .ok (.iload 4, 2) := by decide +kernel
theorem dX10_change_62 : decode cX10_change 62 = .ok (.ireturn, 1) := by decide +kernel
theorem dX10_heeds_0 : decode cX10_heeds 0 = .ok (.aload_n 0, 1) := by decide +kernel
theorem dX10_heeds_1 : decode cX10_heeds 1 = .ok (.iload_n 1, 1) := by decide +kernel
theorem dX10_heeds_2 : decode cX10_heeds 2 = .ok (.invokevirtual 221, 3) := by decide +kernel
theorem dX10_heeds_5 : decode cX10_heeds 5 = .ok (.ifCond .eq 11, 3) := by decide +kernel
theorem dX10_heeds_8 : decode cX10_heeds 8 = .ok (.aload_n 0, 1) := by decide +kernel
theorem dX10_heeds_9 : decode cX10_heeds 9 = .ok (.iload_n 2, 1) := by decide +kernel
theorem dX10_heeds_10 : decode cX10_heeds 10 = .ok (.invokevirtual 212, 3) := by decide +kernel
theorem dX10_heeds_13 : decode cX10_heeds 13 = .ok (.ifCond .ne 6, 3) := by decide +kernel
theorem dX10_heeds_16 : decode cX10_heeds 16 = .ok (.ldc 79, 2) := by decide +kernel
theorem dX10_heeds_18 : decode cX10_heeds 18 = .ok (.ireturn, 1) := by decide +kernel
theorem dX10_heeds_19 : decode cX10_heeds 19 = .ok (.aload_n 0, 1) := by decide +kernel
theorem dX10_heeds_20 : decode cX10_heeds 20 = .ok (.getfield 28, 3) := by decide +kernel
theorem dX10_heeds_23 : decode cX10_heeds 23 = .ok (.bipush 17, 2) := by decide +kernel
theorem dX10_heeds_25 : decode cX10_heeds 25 = .ok (.iload_n 1, 1) := by decide +kernel
theorem dX10_heeds_26 : decode cX10_heeds 26 = .ok (.iadd, 1) := by decide +kernel
theorem dX10_heeds_27 : decode cX10_heeds 27 = .ok (.iaload, 1) := by decide +kernel
theorem dX10_heeds_28 : decode cX10_heeds 28 = .ok (.ifCond .eq 6, 3) := by decide +kernel
theorem dX10_heeds_31 : decode cX10_heeds 31 = .ok (.ldc 199, 2) := by decide +kernel
theorem dX10_heeds_33 : decode cX10_heeds 33 = .ok (.ireturn, 1) := by decide +kernel
theorem dX10_heeds_34 : decode cX10_heeds 34 = .ok (.aload_n 0, 1) := by decide +kernel
theorem dX10_heeds_35 : decode cX10_heeds 35 = .ok (.invokevirtual 202, 3) := by decide +kernel
theorem dX10_heeds_38 : decode cX10_heeds 38 = .ok (.aload_n 0, 1) := by decide +kernel
theorem dX10_heeds_39 : decode cX10_heeds 39 = .ok (.getfield 28, 3) := by decide +kernel
theorem dX10_heeds_42 : decode cX10_heeds 42 = .ok (.bipush 11, 2) := by decide +kernel
theorem dX10_heeds_44 : decode cX10_heeds 44 = .ok (.iload_n 1, 1) := by decide +kernel
theorem dX10_heeds_45 : decode cX10_heeds 45 = .ok (.iadd, 1) := by decide +kernel
theorem dX10_heeds_46 : decode cX10_heeds 46 = .ok (.iaload, 1) := by decide +kernel
theorem dX10_heeds_47 : decode cX10_heeds 47 = .ok (.istore_n 3, 1) := by decide +kernel
theorem dX10_heeds_48 : decode cX10_heeds 48 = .ok (.aload_n 0, 1) := by decide +kernel
theorem dX10_heeds_49 : decode cX10_heeds 49 = .ok (.getfield 28, 3) := by decide +kernel
theorem dX10_heeds_52 : decode cX10_heeds 52 = .ok (.bipush 11, 2) := by decide +kernel
theorem dX10_heeds_54 : decode cX10_heeds 54 = .ok (.iload_n 1, 1) := by decide +kernel
theorem dX10_heeds_55 : decode cX10_heeds 55 = .ok (.iadd, 1) := by decide +kernel
theorem dX10_heeds_56 : decode cX10_heeds 56 = .ok (.iload_n 2, 1) := by decide +kernel
theorem dX10_heeds_57 : decode cX10_heeds 57 = .ok (.iastore, 1) := by decide +kernel
theorem dX10_heeds_58 : decode cX10_heeds 58 = .ok (.iload_n 3, 1) := by decide +kernel
theorem dX10_heeds_59 : decode cX10_heeds 59 = .ok (.ireturn, 1) := by decide +kernel
theorem dX10_undo_0 : decode cX10_undo 0 = .ok (.aload_n 0, 1) := by decide +kernel
theorem dX10_undo_1 : decode cX10_undo 1 = .ok (.getfield 166, 3) := by decide +kernel
theorem dX10_undo_4 : decode cX10_undo 4 = .ok (.ifCond .ne 6, 3) := by decide +kernel
theorem dX10_undo_7 : decode cX10_undo 7 = .ok (.ldc 199, 2) := by decide +kernel
theorem dX10_undo_9 : decode cX10_undo 9 = .ok (.ireturn, 1) := by decide +kernel
theorem dX10_undo_10 : decode cX10_undo 10 = .ok (.aload_n 0, 1) := by decide +kernel
theorem dX10_undo_11 : decode cX10_undo 11 = .ok (.dup, 1) := by decide +kernel
theorem dX10_undo_12 : decode cX10_undo 12 = .ok (.getfield 166, 3) := by decide +kernel
theorem dX10_undo_15 : decode cX10_undo 15 = .ok (.iconst 1, 1) := by decide +kernel
theorem dX10_undo_16 : decode cX10_undo 16 = .ok (.isub, 1) := by decide +kernel
theorem dX10_undo_17 : decode cX10_undo 17 = .ok (.putfield 166, 3) := by decide +kernel
theorem dX10_undo_20 : decode cX10_undo 20 = .ok (.iconst 0, 1) := by decide +kernel
theorem dX10_undo_21 : decode cX10_undo 21 = .ok (.istore_n 1, 1) := by decide +kernel
theorem dX10_undo_22 : decode cX10_undo 22 = .ok (.iload_n 1, 1) := by decide +kernel
theorem dX10_undo_23 : decode cX10_undo 23 = .ok (.bipush 29, 2) := by decide +kernel
theorem dX10_undo_25 : decode cX10_undo 25 = .ok (.if_icmp .ge 29, 3) := by decide +kernel
theorem dX10_undo_28 : decode cX10_undo 28 = .ok (.aload_n 0, 1) := by decide +kernel
theorem dX10_undo_29 : decode cX10_undo 29 = .ok (.getfield 28, 3) := by decide +kernel
theorem dX10_undo_32 : decode cX10_undo 32 = .ok (.iload_n 1, 1) := by decide +kernel
theorem dX10_undo_33 : decode cX10_undo 33 = .ok (.aload_n 0, 1) := by decide +kernel
theorem dX10_undo_34 : decode cX10_undo 34 = .ok (.getfield 41, 3) := by decide +kernel
theorem dX10_undo_37 : decode cX10_undo 37 = .ok (.bipush 29, 2) := by decide +kernel
theorem dX10_undo_39 : decode cX10_undo 39 = .ok (.aload_n 0, 1) := by decide +kernel
theorem dX10_undo_40 : decode cX10_undo 40 = .ok (.getfield 166, 3) := by decide +kernel
theorem dX10_undo_43 : decode cX10_undo 43 = .ok (.imul, 1) := by decide +kernel
theorem dX10_undo_44 : decode cX10_undo 44 = .ok (.iload_n 1, 1) := by decide +kernel
theorem dX10_undo_45 : decode cX10_undo 45 = .ok (.iadd, 1) := by decide +kernel
theorem dX10_undo_46 : decode cX10_undo 46 = .ok (.iaload, 1) := by decide +kernel
theorem dX10_undo_47 : decode cX10_undo 47 = .ok (.iastore, 1) := by decide +kernel
theorem dX10_undo_48 : decode cX10_undo 48 = .ok (.iinc 1 1, 3) := by decide +kernel
theorem dX10_undo_51 : decode cX10_undo 51 = .ok (.goto (-29), 3) := by decide +kernel
theorem dX10_undo_54 : decode cX10_undo 54 = .ok (.aload_n 0, 1) := by decide +kernel
theorem dX10_undo_55 : decode cX10_undo 55 = .ok (.getfield 166, 3) := by decide +kernel
theorem dX10_undo_58 : decode cX10_undo 58 = .ok (.ireturn, 1) := by decide +kernel
theorem dX10_ship_0 : decode cX10_ship 0 = .ok (.aload_n 0, 1) := by decide +kernel
theorem dX10_ship_1 : decode cX10_ship 1 = .ok (.iload_n 1, 1) := by decide +kernel
theorem dX10_ship_2 : decode cX10_ship 2 = .ok (.invokevirtual 221, 3) := by decide +kernel
theorem dX10_ship_5 : decode cX10_ship 5 = .ok (.ifCond .eq 15, 3) := by decide +kernel
theorem dX10_ship_8 : decode cX10_ship 8 = .ok (.iload_n 2, 1) := by decide +kernel
theorem dX10_ship_9 : decode cX10_ship 9 = .ok (.i2l, 1) := by decide +kernel
theorem dX10_ship_10 : decode cX10_ship 10 = .ok (.lconst 0, 1) := by decide +kernel
theorem dX10_ship_11 : decode cX10_ship 11 = .ok (.ldc2_w 227, 3) := by decide +kernel
theorem dX10_ship_14 : decode cX10_ship 14 = .ok (.invokestatic 64, 3) := by decide +kernel
theorem dX10_ship_17 : decode cX10_ship 17 = .ok (.ifCond .ne 6, 3) := by decide +kernel
theorem dX10_ship_20 : decode cX10_ship 20 = .ok (.ldc 79, 2) := by decide +kernel
theorem dX10_ship_22 : decode cX10_ship 22 = .ok (.ireturn, 1) := by decide +kernel
theorem dX10_ship_23 : decode cX10_ship 23 = .ok (.iload_n 2, 1) := by decide +kernel
theorem dX10_ship_24 : decode cX10_ship 24 = .ok (.iconst 3, 1) := by decide +kernel
theorem dX10_ship_25 : decode cX10_ship 25 = .ok (.if_icmp .ne 15, 3) := by decide +kernel
theorem dX10_ship_28 : decode cX10_ship 28 = .ok (.aload_n 0, 1) := by decide +kernel
theorem dX10_ship_29 : decode cX10_ship 29 = .ok (.getfield 28, 3) := by decide +kernel
theorem dX10_ship_32 : decode cX10_ship 32 = .ok (.bipush 17, 2) := by decide +kernel
theorem dX10_ship_34 : decode cX10_ship 34 = .ok (.iload_n 1, 1) := by decide +kernel
theorem dX10_ship_35 : decode cX10_ship 35 = .ok (.iadd, 1) := by decide +kernel
theorem dX10_ship_36 : decode cX10_ship 36 = .ok (.iaload, 1) := by decide +kernel
theorem dX10_ship_37 : decode cX10_ship 37 = .ok (.goto 12, 3) := by decide +kernel
theorem dX10_ship_40 : decode cX10_ship 40 = .ok (.aload_n 0, 1) := by decide +kernel
theorem dX10_ship_41 : decode cX10_ship 41 = .ok (.getfield 28, 3) := by decide +kernel
theorem dX10_ship_44 : decode cX10_ship 44 = .ok (.bipush 23, 2) := by decide +kernel
theorem dX10_ship_46 : decode cX10_ship 46 = .ok (.iload_n 1, 1) := by decide +kernel
theorem dX10_ship_47 : decode cX10_ship 47 = .ok (.iadd, 1) := by decide +kernel
theorem dX10_ship_48 : decode cX10_ship 48 = .ok (.iaload, 1) := by decide +kernel
theorem dX10_ship_49 : decode cX10_ship 49 = .ok (.istore_n 3, 1) := by decide +kernel
theorem dX10_ship_50 : decode cX10_ship 50 = .ok (.iload_n 2, 1) := by decide +kernel
theorem dX10_ship_51 : decode cX10_ship 51 = .ok (.ifCond .ne 15, 3) := by decide +kernel
theorem dX10_ship_54 : decode cX10_ship 54 = .ok (.aload_n 0, 1) := by decide +kernel
theorem dX10_ship_55 : decode cX10_ship 55 = .ok (.getfield 25, 3) := by decide +kernel
theorem dX10_ship_58 : decode cX10_ship 58 = .ok (.bipush 49, 2) := by decide +kernel
theorem dX10_ship_60 : decode cX10_ship 60 = .ok (.iload_n 1, 1) := by decide +kernel
theorem dX10_ship_61 : decode cX10_ship 61 = .ok (.iadd, 1) := by decide +kernel
theorem dX10_ship_62 : decode cX10_ship 62 = .ok (.iaload, 1) := by decide +kernel
theorem dX10_ship_63 : decode cX10_ship 63 = .ok (.goto 34, 3) := by decide +kernel
theorem dX10_ship_66 : decode cX10_ship 66 = .ok (.iload_n 2, 1) := by decide +kernel
theorem dX10_ship_67 : decode cX10_ship 67 = .ok (.iconst 1, 1) := by decide +kernel
theorem dX10_ship_68 : decode cX10_ship 68 = .ok (.if_icmp .ne 15, 3) := by decide +kernel
theorem dX10_ship_71 : decode cX10_ship 71 = .ok (.aload_n 0, 1) := by decide +kernel
theorem dX10_ship_72 : decode cX10_ship 72 = .ok (.getfield 28, 3) := by decide +kernel
theorem dX10_ship_75 : decode cX10_ship 75 = .ok (.bipush 11, 2) := by decide +kernel
theorem dX10_ship_77 : decode cX10_ship 77 = .ok (.iload_n 1, 1) := by decide +kernel
theorem dX10_ship_78 : decode cX10_ship 78 = .ok (.iadd, 1) := by decide +kernel
theorem dX10_ship_79 : decode cX10_ship 79 = .ok (.iaload, 1) := by decide +kernel
theorem dX10_ship_80 : decode cX10_ship 80 = .ok (.goto 17, 3) := by decide +kernel
theorem dX10_ship_83 : decode cX10_ship 83 = .ok (.iload_n 2, 1) := by decide +kernel
theorem dX10_ship_84 : decode cX10_ship 84 = .ok (.iconst 2, 1) := by decide +kernel
theorem dX10_ship_85 : decode cX10_ship 85 = .ok (.if_icmp .ne 11, 3) := by decide +kernel
theorem dX10_ship_88 : decode cX10_ship 88 = .ok (.aload_n 0, 1) := by decide +kernel
theorem dX10_ship_89 : decode cX10_ship 89 = .ok (.iload_n 1, 1) := by decide +kernel
theorem dX10_ship_90 : decode cX10_ship 90 = .ok (.invokevirtual 224, 3) := by decide +kernel
theorem dX10_ship_93 : decode cX10_ship 93 = .ok (.goto 4, 3) := by decide +kernel
theorem dX10_ship_96 : decode cX10_ship 96 = .ok (.iload_n 3, 1) := by decide +kernel
theorem dX10_ship_97 : decode cX10_ship 97 = .ok (.ireturn, 1) := by decide +kernel
theorem dX10_tower_0 : decode cX10_tower 0 = .ok (.aload_n 0, 1) := by decide +kernel
theorem dX10_tower_1 : decode cX10_tower 1 = .ok (.iload_n 1, 1) := by decide +kernel
theorem dX10_tower_2 : decode cX10_tower 2 = .ok (.invokevirtual 212, 3) := by decide +kernel
theorem dX10_tower_5 : decode cX10_tower 5 = .ok (.ifCond .eq 15, 3) := by decide +kernel
theorem dX10_tower_8 : decode cX10_tower 8 = .ok (.iload_n 2, 1) := by decide +kernel
theorem dX10_tower_9 : decode cX10_tower 9 = .ok (.i2l, 1) := by decide +kernel
theorem dX10_tower_10 : decode cX10_tower 10 = .ok (.lconst 0, 1) := by decide +kernel
theorem dX10_tower_11 : decode cX10_tower 11 = .ok (.ldc2_w 77, 3) := by decide +kernel
theorem dX10_tower_14 : decode cX10_tower 14 = .ok (.invokestatic 64, 3) := by decide +kernel
theorem dX10_tower_17 : decode cX10_tower 17 = .ok (.ifCond .ne 6, 3) := by decide +kernel
theorem dX10_tower_20 : decode cX10_tower 20 = .ok (.ldc 79, 2) := by decide +kernel
theorem dX10_tower_22 : decode cX10_tower 22 = .ok (.ireturn, 1) := by decide +kernel
theorem dX10_tower_23 : decode cX10_tower 23 = .ok (.iconst 0, 1) := by decide +kernel
theorem dX10_tower_24 : decode cX10_tower 24 = .ok (.istore_n 3, 1) := by decide +kernel
theorem dX10_tower_25 : decode cX10_tower 25 = .ok (.iconst 0, 1) := by decide +kernel
theorem dX10_tower_26 : decode cX10_tower 26 = .ok (.istore 4, 2) := by decide +kernel
theorem dX10_tower_28 : decode cX10_tower 28 = .ok (.iload 4, 2) := by decide +kernel
theorem dX10_tower_30 : decode cX10_tower 30 = .ok (.aload_n 0, 1) := by decide +kernel
theorem dX10_tower_31 : decode cX10_tower 31 = .ok (.getfield 25, 3) := by decide +kernel
theorem dX10_tower_34 : decode cX10_tower 34 = .ok (.iconst 5, 1) := by decide +kernel
theorem dX10_tower_35 : decode cX10_tower 35 = .ok (.iaload, 1) := by decide +kernel
theorem dX10_tower_36 : decode cX10_tower 36 = .ok (.if_icmp .ge 44, 3) := by decide +kernel
theorem dX10_tower_39 : decode cX10_tower 39 = .ok (.iload_n 3, 1) := by decide +kernel
theorem dX10_tower_40 : decode cX10_tower 40 = .ok (.aload_n 0, 1) := by decide +kernel
theorem dX10_tower_41 : decode cX10_tower 41 = .ok (.getfield 28, 3) := by decide +kernel
theorem dX10_tower_44 : decode cX10_tower 44 = .ok (.bipush 17, 2) := by decide +kernel
theorem dX10_tower_46 : decode cX10_tower 46 = .ok (.iload 4, 2) := by decide +kernel
theorem dX10_tower_48 : decode cX10_tower 48 = .ok (.iadd, 1) := by decide +kernel
theorem dX10_tower_49 : decode cX10_tower 49 = .ok (.iaload, 1) := by decide +kernel
theorem dX10_tower_50 : decode cX10_tower 50 = .ok (.ifCond .ne 21, 3) := by decide +kernel
theorem dX10_tower_53 : decode cX10_tower 53 = .ok (.aload_n 0, 1) := by decide +kernel
theorem dX10_tower_54 : decode cX10_tower 54 = .ok (.getfield 28, 3) := by decide +kernel
theorem dX10_tower_57 : decode cX10_tower 57 = .ok (.bipush 11, 2) := by decide +kernel
theorem dX10_tower_59 : decode cX10_tower 59 = .ok (.iload 4, 2) := by decide +kernel
theorem dX10_tower_61 : decode cX10_tower 61 = .ok (.iadd, 1) := by decide +kernel
theorem dX10_tower_62 : decode cX10_tower 62 = .ok (.iaload, 1) := by decide +kernel
theorem dX10_tower_63 : decode cX10_tower 63 = .ok (.iload_n 1, 1) := by decide +kernel
theorem dX10_tower_64 : decode cX10_tower 64 = .ok (.if_icmp .ne 7, 3) := by decide +kernel
theorem dX10_tower_67 : decode cX10_tower 67 = .ok (.iconst 1, 1) := by decide +kernel
theorem dX10_tower_68 : decode cX10_tower 68 = .ok (.goto 4, 3) := by decide +kernel
theorem dX10_tower_71 : decode cX10_tower 71 = .ok (.iconst 0, 1) := by decide +kernel
theorem dX10_tower_72 : decode cX10_tower 72 = .ok (.iadd, 1) := by decide +kernel
theorem dX10_tower_73 : decode cX10_tower 73 = .ok (.istore_n 3, 1) := by decide +kernel
theorem dX10_tower_74 : decode cX10_tower 74 = .ok (.iinc 4 1, 3) := by decide +kernel
theorem dX10_tower_77 : decode cX10_tower 77 = .ok (.goto (-49), 3) := by decide +kernel
theorem dX10_tower_80 : decode cX10_tower 80 = .ok (.iload_n 2, 1) := by decide +kernel
theorem dX10_tower_81 : decode cX10_tower 81 = .ok (.ifCond .ne 15, 3) := by decide +kernel
theorem dX10_tower_84 : decode cX10_tower 84 = .ok (.aload_n 0, 1) := by decide +kernel
theorem dX10_tower_85 : decode cX10_tower 85 = .ok (.getfield 25, 3) := by decide +kernel
theorem dX10_tower_88 : decode cX10_tower 88 = .ok (.bipush 46, 2) := by decide +kernel
theorem dX10_tower_90 : decode cX10_tower 90 = .ok (.iload_n 1, 1) := by decide +kernel
theorem dX10_tower_91 : decode cX10_tower 91 = .ok (.iadd, 1) := by decide +kernel
theorem dX10_tower_92 : decode cX10_tower 92 = .ok (.iaload, 1) := by decide +kernel
theorem dX10_tower_93 : decode cX10_tower 93 = .ok (.goto 20, 3) := by decide +kernel
theorem dX10_tower_96 : decode cX10_tower 96 = .ok (.iload_n 2, 1) := by decide +kernel
theorem dX10_tower_97 : decode cX10_tower 97 = .ok (.iconst 1, 1) := by decide +kernel
theorem dX10_tower_98 : decode cX10_tower 98 = .ok (.if_icmp .ne 14, 3) := by decide +kernel
theorem dX10_tower_101 : decode cX10_tower 101 = .ok (.aload_n 0, 1) := by decide +kernel
theorem dX10_tower_102 : decode cX10_tower 102 = .ok (.getfield 28, 3) := by decide +kernel
theorem dX10_tower_105 : decode cX10_tower 105 = .ok (.iconst 2, 1) := by decide +kernel
theorem dX10_tower_106 : decode cX10_tower 106 = .ok (.iload_n 1, 1) := by decide +kernel
theorem dX10_tower_107 : decode cX10_tower 107 = .ok (.iadd, 1) := by decide +kernel
theorem dX10_tower_108 : decode cX10_tower 108 = .ok (.iaload, 1) := by decide +kernel
theorem dX10_tower_109 : decode cX10_tower 109 = .ok (.goto 4, 3) := by decide +kernel
theorem dX10_tower_112 : decode cX10_tower 112 = .ok (.iload_n 3, 1) := by decide +kernel
theorem dX10_tower_113 : decode cX10_tower 113 = .ok (.ireturn, 1) := by decide +kernel
theorem dX10_wave_0 : decode cX10_wave 0 = .ok (.aload_n 0, 1) := by decide +kernel
theorem dX10_wave_1 : decode cX10_wave 1 = .ok (.invokevirtual 196, 3) := by decide +kernel
theorem dX10_wave_4 : decode cX10_wave 4 = .ok (.ifCond .ne 6, 3) := by decide +kernel
theorem dX10_wave_7 : decode cX10_wave 7 = .ok (.ldc 199, 2) := by decide +kernel
theorem dX10_wave_9 : decode cX10_wave 9 = .ok (.ireturn, 1) := by decide +kernel
theorem dX10_wave_10 : decode cX10_wave 10 = .ok (.iload_n 1, 1) := by decide +kernel
theorem dX10_wave_11 : decode cX10_wave 11 = .ok (.i2l, 1) := by decide +kernel
theorem dX10_wave_12 : decode cX10_wave 12 = .ok (.lconst 0, 1) := by decide +kernel
theorem dX10_wave_13 : decode cX10_wave 13 = .ok (.ldc2_w 229, 3) := by decide +kernel
theorem dX10_wave_16 : decode cX10_wave 16 = .ok (.invokestatic 64, 3) := by decide +kernel
theorem dX10_wave_19 : decode cX10_wave 19 = .ok (.ifCond .eq 15, 3) := by decide +kernel
theorem dX10_wave_22 : decode cX10_wave 22 = .ok (.iload_n 2, 1) := by decide +kernel
theorem dX10_wave_23 : decode cX10_wave 23 = .ok (.i2l, 1) := by decide +kernel
theorem dX10_wave_24 : decode cX10_wave 24 = .ok (.lconst 0, 1) := by decide +kernel
theorem dX10_wave_25 : decode cX10_wave 25 = .ok (.ldc2_w 231, 3) := by decide +kernel
theorem dX10_wave_28 : decode cX10_wave 28 = .ok (.invokestatic 64, 3) := by decide +kernel
theorem dX10_wave_31 : decode cX10_wave 31 = .ok (.ifCond .ne 6, 3) := by decide +kernel
theorem dX10_wave_34 : decode cX10_wave 34 = .ok (.ldc 79, 2) := by decide +kernel
theorem dX10_wave_36 : decode cX10_wave 36 = .ok (.ireturn, 1) := by decide +kernel
theorem dX10_wave_37 : decode cX10_wave 37 = .ok (.iload_n 2, 1) := by decide +kernel
theorem dX10_wave_38 : decode cX10_wave 38 = .ok (.ifCond .ne 11, 3) := by decide +kernel
theorem dX10_wave_41 : decode cX10_wave 41 = .ok (.aload_n 0, 1) := by decide +kernel
theorem dX10_wave_42 : decode cX10_wave 42 = .ok (.iload_n 1, 1) := by decide +kernel
theorem dX10_wave_43 : decode cX10_wave 43 = .ok (.invokevirtual 179, 3) := by decide +kernel
theorem dX10_wave_46 : decode cX10_wave 46 = .ok (.goto 42, 3) := by decide +kernel
theorem dX10_wave_49 : decode cX10_wave 49 = .ok (.iload_n 2, 1) := by decide +kernel
theorem dX10_wave_50 : decode cX10_wave 50 = .ok (.iconst 1, 1) := by decide +kernel
theorem dX10_wave_51 : decode cX10_wave 51 = .ok (.if_icmp .ne 19, 3) := by decide +kernel
theorem dX10_wave_54 : decode cX10_wave 54 = .ok (.aload_n 0, 1) := by decide +kernel
theorem dX10_wave_55 : decode cX10_wave 55 = .ok (.iload_n 1, 1) := by decide +kernel
theorem dX10_wave_56 : decode cX10_wave 56 = .ok (.invokevirtual 176, 3) := by decide +kernel
theorem dX10_wave_59 : decode cX10_wave 59 = .ok (.aload_n 0, 1) := by decide +kernel
theorem dX10_wave_60 : decode cX10_wave 60 = .ok (.iload_n 1, 1) := by decide +kernel
theorem dX10_wave_61 : decode cX10_wave 61 = .ok (.invokevirtual 179, 3) := by decide +kernel
theorem dX10_wave_64 : decode cX10_wave 64 = .ok (.invokestatic 173, 3) := by decide +kernel
theorem dX10_wave_67 : decode cX10_wave 67 = .ok (.goto 21, 3) := by decide +kernel
theorem dX10_wave_70 : decode cX10_wave 70 = .ok (.iload_n 2, 1) := by decide +kernel
theorem dX10_wave_71 : decode cX10_wave 71 = .ok (.iconst 2, 1) := by decide +kernel
theorem dX10_wave_72 : decode cX10_wave 72 = .ok (.if_icmp .ne 11, 3) := by decide +kernel
theorem dX10_wave_75 : decode cX10_wave 75 = .ok (.aload_n 0, 1) := by decide +kernel
theorem dX10_wave_76 : decode cX10_wave 76 = .ok (.iload_n 1, 1) := by decide +kernel
theorem dX10_wave_77 : decode cX10_wave 77 = .ok (.invokevirtual 233, 3) := by decide +kernel
theorem dX10_wave_80 : decode cX10_wave 80 = .ok (.goto 8, 3) := by decide +kernel
theorem dX10_wave_83 : decode cX10_wave 83 = .ok (.aload_n 0, 1) := by decide +kernel
theorem dX10_wave_84 : decode cX10_wave 84 = .ok (.iload_n 1, 1) := by decide +kernel
theorem dX10_wave_85 : decode cX10_wave 85 = .ok (.invokevirtual 176, 3) := by decide +kernel
theorem dX10_wave_88 : decode cX10_wave 88 = .ok (.ireturn, 1) := by decide +kernel
theorem dX10_ahead_0 : decode cX10_ahead 0 = .ok (.aload_n 0, 1) := by decide +kernel
theorem dX10_ahead_1 : decode cX10_ahead 1 = .ok (.invokevirtual 196, 3) := by decide +kernel
theorem dX10_ahead_4 : decode cX10_ahead 4 = .ok (.ifCond .ne 6, 3) := by decide +kernel
theorem dX10_ahead_7 : decode cX10_ahead 7 = .ok (.ldc 199, 2) := by decide +kernel
theorem dX10_ahead_9 : decode cX10_ahead 9 = .ok (.ireturn, 1) := by decide +kernel
theorem dX10_ahead_10 : decode cX10_ahead 10 = .ok (.iload_n 1, 1) := by decide +kernel
theorem dX10_ahead_11 : decode cX10_ahead 11 = .ok (.i2l, 1) := by decide +kernel
theorem dX10_ahead_12 : decode cX10_ahead 12 = .ok (.lconst 0, 1) := by decide +kernel
theorem dX10_ahead_13 : decode cX10_ahead 13 = .ok (.ldc2_w 236, 3) := by decide +kernel
theorem dX10_ahead_16 : decode cX10_ahead 16 = .ok (.invokestatic 64, 3) := by decide +kernel
theorem dX10_ahead_19 : decode cX10_ahead 19 = .ok (.ifCond .eq 13, 3) := by decide +kernel
theorem dX10_ahead_22 : decode cX10_ahead 22 = .ok (.iload_n 2, 1) := by decide +kernel
theorem dX10_ahead_23 : decode cX10_ahead 23 = .ok (.i2l, 1) := by decide +kernel
theorem dX10_ahead_24 : decode cX10_ahead 24 = .ok (.lconst 0, 1) := by decide +kernel
theorem dX10_ahead_25 : decode cX10_ahead 25 = .ok (.lconst 1, 1) := by decide +kernel
theorem dX10_ahead_26 : decode cX10_ahead 26 = .ok (.invokestatic 64, 3) := by decide +kernel
theorem dX10_ahead_29 : decode cX10_ahead 29 = .ok (.ifCond .ne 6, 3) := by decide +kernel
theorem dX10_ahead_32 : decode cX10_ahead 32 = .ok (.ldc 79, 2) := by decide +kernel
theorem dX10_ahead_34 : decode cX10_ahead 34 = .ok (.ireturn, 1) := by decide +kernel
theorem dX10_ahead_35 : decode cX10_ahead 35 = .ok (.aload_n 0, 1) := by decide +kernel
theorem dX10_ahead_36 : decode cX10_ahead 36 = .ok (.invokevirtual 205, 3) := by decide +kernel
theorem dX10_ahead_39 : decode cX10_ahead 39 = .ok (.aload_n 0, 1) := by decide +kernel
theorem dX10_ahead_40 : decode cX10_ahead 40 = .ok (.iload_n 1, 1) := by decide +kernel
theorem dX10_ahead_41 : decode cX10_ahead 41 = .ok (.invokevirtual 208, 3) := by decide +kernel
theorem dX10_ahead_44 : decode cX10_ahead 44 = .ok (.aload_n 0, 1) := by decide +kernel
theorem dX10_ahead_45 : decode cX10_ahead 45 = .ok (.iload_n 2, 1) := by decide +kernel
theorem dX10_ahead_46 : decode cX10_ahead 46 = .ok (.iconst 1, 1) := by decide +kernel
theorem dX10_ahead_47 : decode cX10_ahead 47 = .ok (.iadd, 1) := by decide +kernel
theorem dX10_ahead_48 : decode cX10_ahead 48 = .ok (.invokevirtual 238, 3) := by decide +kernel
theorem dX10_ahead_51 : decode cX10_ahead 51 = .ok (.ireturn, 1) := by decide +kernel
theorem dX10_shipAhead_0 : decode cX10_shipAhead 0 = .ok (.aload_n 0, 1) := by decide +kernel
theorem dX10_shipAhead_1 : decode cX10_shipAhead 1 = .ok (.iload_n 1, 1) := by decide +kernel
theorem dX10_shipAhead_2 : decode cX10_shipAhead 2 = .ok (.invokevirtual 221, 3) := by decide +kernel
theorem dX10_shipAhead_5 : decode cX10_shipAhead 5 = .ok (.ifCond .eq 25, 3) := by decide +kernel
theorem dX10_shipAhead_8 : decode cX10_shipAhead 8 = .ok (.iload_n 2, 1) := by decide +kernel
theorem dX10_shipAhead_9 : decode cX10_shipAhead 9 = .ok (.i2l, 1) := by decide +kernel
theorem dX10_shipAhead_10 : decode cX10_shipAhead 10 = .ok (.lconst 0, 1) := by decide +kernel
theorem dX10_shipAhead_11 : decode cX10_shipAhead 11 = .ok (.ldc2_w 236, 3) := by decide +kernel
theorem dX10_shipAhead_14 : decode cX10_shipAhead 14 = .ok (.invokestatic 64, 3) := by decide +kernel
theorem dX10_shipAhead_17 : decode cX10_shipAhead 17 = .ok (.ifCond .eq 13, 3) := by decide +kernel
theorem dX10_shipAhead_20 : decode cX10_shipAhead 20 = .ok (.iload_n 3, 1) := by decide +kernel
theorem dX10_shipAhead_21 : decode cX10_shipAhead 21 = .ok (.i2l, 1) := by decide +kernel
theorem dX10_shipAhead_22 : decode cX10_shipAhead 22 = .ok (.lconst 0, 1) := by decide +kernel
theorem dX10_shipAhead_23 : decode cX10_shipAhead 23 = .ok (.lconst 1, 1) := by decide +kernel
theorem dX10_shipAhead_24 : decode cX10_shipAhead 24 = .ok (.invokestatic 64, 3) := by decide +kernel
theorem dX10_shipAhead_27 : decode cX10_shipAhead 27 = .ok (.ifCond .ne 6, 3) := by decide +kernel
theorem dX10_shipAhead_30 : decode cX10_shipAhead 30 = .ok (.ldc 79, 2) := by decide +kernel
theorem dX10_shipAhead_32 : decode cX10_shipAhead 32 = .ok (.ireturn, 1) := by decide +kernel
theorem dX10_shipAhead_33 : decode cX10_shipAhead 33 = .ok (.aload_n 0, 1) := by decide +kernel
theorem dX10_shipAhead_34 : decode cX10_shipAhead 34 = .ok (.invokevirtual 205, 3) := by decide +kernel
theorem dX10_shipAhead_37 : decode cX10_shipAhead 37 = .ok (.aload_n 0, 1) := by decide +kernel
theorem dX10_shipAhead_38 : decode cX10_shipAhead 38 = .ok (.iload_n 2, 1) := by decide +kernel
theorem dX10_shipAhead_39 : decode cX10_shipAhead 39 = .ok (.invokevirtual 208, 3) := by decide +kernel
theorem dX10_shipAhead_42 : decode cX10_shipAhead 42 = .ok (.iload_n 3, 1) := by decide +kernel
theorem dX10_shipAhead_43 : decode cX10_shipAhead 43 = .ok (.ifCond .ne 15, 3) := by decide +kernel
theorem dX10_shipAhead_46 : decode cX10_shipAhead 46 = .ok (.aload_n 0, 1) := by decide +kernel
theorem dX10_shipAhead_47 : decode cX10_shipAhead 47 = .ok (.getfield 50, 3) := by decide +kernel
theorem dX10_shipAhead_50 : decode cX10_shipAhead 50 = .ok (.bipush 17, 2) := by decide +kernel
theorem dX10_shipAhead_52 : decode cX10_shipAhead 52 = .ok (.iload_n 1, 1) := by decide +kernel
theorem dX10_shipAhead_53 : decode cX10_shipAhead 53 = .ok (.iadd, 1) := by decide +kernel
theorem dX10_shipAhead_54 : decode cX10_shipAhead 54 = .ok (.iaload, 1) := by decide +kernel
theorem dX10_shipAhead_55 : decode cX10_shipAhead 55 = .ok (.goto 12, 3) := by decide +kernel
theorem dX10_shipAhead_58 : decode cX10_shipAhead 58 = .ok (.aload_n 0, 1) := by decide +kernel
theorem dX10_shipAhead_59 : decode cX10_shipAhead 59 = .ok (.getfield 50, 3) := by decide +kernel
theorem dX10_shipAhead_62 : decode cX10_shipAhead 62 = .ok (.bipush 23, 2) := by decide +kernel
theorem dX10_shipAhead_64 : decode cX10_shipAhead 64 = .ok (.iload_n 1, 1) := by decide +kernel
theorem dX10_shipAhead_65 : decode cX10_shipAhead 65 = .ok (.iadd, 1) := by decide +kernel
theorem dX10_shipAhead_66 : decode cX10_shipAhead 66 = .ok (.iaload, 1) := by decide +kernel
theorem dX10_shipAhead_67 : decode cX10_shipAhead 67 = .ok (.ireturn, 1) := by decide +kernel
theorem dX10_towerAhead_0 : decode cX10_towerAhead 0 = .ok (.aload_n 0, 1) := by decide +kernel
theorem dX10_towerAhead_1 : decode cX10_towerAhead 1 = .ok (.iload_n 1, 1) := by decide +kernel
theorem dX10_towerAhead_2 : decode cX10_towerAhead 2 = .ok (.invokevirtual 212, 3) := by decide +kernel
theorem dX10_towerAhead_5 : decode cX10_towerAhead 5 = .ok (.ifCond .eq 15, 3) := by decide +kernel
theorem dX10_towerAhead_8 : decode cX10_towerAhead 8 = .ok (.iload_n 2, 1) := by decide +kernel
theorem dX10_towerAhead_9 : decode cX10_towerAhead 9 = .ok (.i2l, 1) := by decide +kernel
theorem dX10_towerAhead_10 : decode cX10_towerAhead 10 = .ok (.lconst 0, 1) := by decide +kernel
theorem dX10_towerAhead_11 : decode cX10_towerAhead 11 = .ok (.ldc2_w 236, 3) := by decide +kernel
theorem dX10_towerAhead_14 : decode cX10_towerAhead 14 = .ok (.invokestatic 64, 3) := by decide +kernel
theorem dX10_towerAhead_17 : decode cX10_towerAhead 17 = .ok (.ifCond .ne 6, 3) := by decide +kernel
theorem dX10_towerAhead_20 : decode cX10_towerAhead 20 = .ok (.ldc 79, 2) := by decide +kernel
theorem dX10_towerAhead_22 : decode cX10_towerAhead 22 = .ok (.ireturn, 1) := by decide +kernel
theorem dX10_towerAhead_23 : decode cX10_towerAhead 23 = .ok (.aload_n 0, 1) := by decide +kernel
theorem dX10_towerAhead_24 : decode cX10_towerAhead 24 = .ok (.invokevirtual 205, 3) := by decide +kernel
theorem dX10_towerAhead_27 : decode cX10_towerAhead 27 = .ok (.aload_n 0, 1) := by decide +kernel
theorem dX10_towerAhead_28 : decode cX10_towerAhead 28 = .ok (.iload_n 2, 1) := by decide +kernel
theorem dX10_towerAhead_29 : decode cX10_towerAhead 29 = .ok (.invokevirtual 208, 3) := by decide +kernel
theorem dX10_towerAhead_32 : decode cX10_towerAhead 32 = .ok (.aload_n 0, 1) := by decide +kernel
theorem dX10_towerAhead_33 : decode cX10_towerAhead 33 = .ok (.getfield 50, 3) := by decide +kernel
theorem dX10_towerAhead_36 : decode cX10_towerAhead 36 = .ok (.iconst 2, 1) := by decide +kernel
theorem dX10_towerAhead_37 : decode cX10_towerAhead 37 = .ok (.iload_n 1, 1) := by decide +kernel
theorem dX10_towerAhead_38 : decode cX10_towerAhead 38 = .ok (.iadd, 1) := by decide +kernel
theorem dX10_towerAhead_39 : decode cX10_towerAhead 39 = .ok (.iaload, 1) := by decide +kernel
theorem dX10_towerAhead_40 : decode cX10_towerAhead 40 = .ok (.ireturn, 1) := by decide +kernel
theorem dX10_called_0 : decode cX10_called 0 = .ok (.aload_n 0, 1) := by decide +kernel
theorem dX10_called_1 : decode cX10_called 1 = .ok (.iload_n 1, 1) := by decide +kernel
theorem dX10_called_2 : decode cX10_called 2 = .ok (.invokevirtual 212, 3) := by decide +kernel
theorem dX10_called_5 : decode cX10_called 5 = .ok (.ifCond .eq 7, 3) := by decide +kernel
theorem dX10_called_8 : decode cX10_called 8 = .ok (.iload_n 2, 1) := by decide +kernel
theorem dX10_called_9 : decode cX10_called 9 = .ok (.ifCond .ge 6, 3) := by decide +kernel
theorem dX10_called_12 : decode cX10_called 12 = .ok (.ldc 79, 2) := by decide +kernel
theorem dX10_called_14 : decode cX10_called 14 = .ok (.ireturn, 1) := by decide +kernel
theorem dX10_called_15 : decode cX10_called 15 = .ok (.aload_n 0, 1) := by decide +kernel
theorem dX10_called_16 : decode cX10_called 16 = .ok (.getfield 28, 3) := by decide +kernel
theorem dX10_called_19 : decode cX10_called 19 = .ok (.iconst 2, 1) := by decide +kernel
theorem dX10_called_20 : decode cX10_called 20 = .ok (.iload_n 1, 1) := by decide +kernel
theorem dX10_called_21 : decode cX10_called 21 = .ok (.iadd, 1) := by decide +kernel
theorem dX10_called_22 : decode cX10_called 22 = .ok (.iaload, 1) := by decide +kernel
theorem dX10_called_23 : decode cX10_called 23 = .ok (.istore_n 3, 1) := by decide +kernel
theorem dX10_called_24 : decode cX10_called 24 = .ok (.iconst 0, 1) := by decide +kernel
theorem dX10_called_25 : decode cX10_called 25 = .ok (.istore 4, 2) := by decide +kernel
theorem dX10_called_27 : decode cX10_called 27 = .ok (.aload_n 0, 1) := by decide +kernel
theorem dX10_called_28 : decode cX10_called 28 = .ok (.getfield 28, 3) := by decide +kernel
theorem dX10_called_31 : decode cX10_called 31 = .ok (.iconst 0, 1) := by decide +kernel
theorem dX10_called_32 : decode cX10_called 32 = .ok (.iaload, 1) := by decide +kernel
theorem dX10_called_33 : decode cX10_called 33 = .ok (.istore 5, 2) := by decide +kernel
theorem dX10_called_35 : decode cX10_called 35 = .ok (.iload 5, 2) := by decide +kernel
theorem dX10_called_37 : decode cX10_called 37 = .ok (.aload_n 0, 1) := by decide +kernel
theorem dX10_called_38 : decode cX10_called 38 = .ok (.getfield 28, 3) := by decide +kernel
theorem dX10_called_41 : decode cX10_called 41 = .ok (.iconst 0, 1) := by decide +kernel
theorem dX10_called_42 : decode cX10_called 42 = .ok (.iaload, 1) := by decide +kernel
theorem dX10_called_43 : decode cX10_called 43 = .ok (.sipush 200, 3) := by decide +kernel
theorem dX10_called_46 : decode cX10_called 46 = .ok (.iadd, 1) := by decide +kernel
theorem dX10_called_47 : decode cX10_called 47 = .ok (.if_icmp .ge 61, 3) := by decide +kernel
theorem dX10_called_50 : decode cX10_called 50 = .ok (.aload_n 0, 1) := by decide +kernel
theorem dX10_called_51 : decode cX10_called 51 = .ok (.getfield 25, 3) := by decide +kernel
theorem dX10_called_54 : decode cX10_called 54 = .ok (.bipush 46, 2) := by decide +kernel
theorem dX10_called_56 : decode cX10_called 56 = .ok (.iload_n 1, 1) := by decide +kernel
theorem dX10_called_57 : decode cX10_called 57 = .ok (.iadd, 1) := by decide +kernel
theorem dX10_called_58 : decode cX10_called 58 = .ok (.iaload, 1) := by decide +kernel
theorem dX10_called_59 : decode cX10_called 59 = .ok (.aload_n 0, 1) := by decide +kernel
theorem dX10_called_60 : decode cX10_called 60 = .ok (.iload 5, 2) := by decide +kernel
theorem dX10_called_62 : decode cX10_called 62 = .ok (.invokevirtual 176, 3) := by decide +kernel
theorem dX10_called_65 : decode cX10_called 65 = .ok (.invokestatic 186, 3) := by decide +kernel
theorem dX10_called_68 : decode cX10_called 68 = .ok (.istore 6, 2) := by decide +kernel
theorem dX10_called_70 : decode cX10_called 70 = .ok (.iload_n 3, 1) := by decide +kernel
theorem dX10_called_71 : decode cX10_called 71 = .ok (.iload 6, 2) := by decide +kernel
theorem dX10_called_73 : decode cX10_called 73 = .ok (.aload_n 0, 1) := by decide +kernel
theorem dX10_called_74 : decode cX10_called 74 = .ok (.getfield 28, 3) := by decide +kernel
theorem dX10_called_77 : decode cX10_called 77 = .ok (.iconst 1, 1) := by decide +kernel
theorem dX10_called_78 : decode cX10_called 78 = .ok (.iaload, 1) := by decide +kernel
theorem dX10_called_79 : decode cX10_called 79 = .ok (.invokestatic 189, 3) := by decide +kernel
theorem dX10_called_82 : decode cX10_called 82 = .ok (.ifCond .eq 15, 3) := by decide +kernel
theorem dX10_called_85 : decode cX10_called 85 = .ok (.iload 4, 2) := by decide +kernel
theorem dX10_called_87 : decode cX10_called 87 = .ok (.iload_n 2, 1) := by decide +kernel
theorem dX10_called_88 : decode cX10_called 88 = .ok (.if_icmp .ne 6, 3) := by decide +kernel
theorem dX10_called_91 : decode cX10_called 91 = .ok (.iload 5, 2) := by decide +kernel
theorem dX10_called_93 : decode cX10_called 93 = .ok (.ireturn, 1) := by decide +kernel
theorem dX10_called_94 : decode cX10_called 94 = .ok (.iinc 4 1, 3) := by decide +kernel
theorem dX10_called_97 : decode cX10_called 97 = .ok (.iload_n 3, 1) := by decide +kernel
theorem dX10_called_98 : decode cX10_called 98 = .ok (.iload 6, 2) := by decide +kernel
theorem dX10_called_100 : decode cX10_called 100 = .ok (.iadd, 1) := by decide +kernel
theorem dX10_called_101 : decode cX10_called 101 = .ok (.istore_n 3, 1) := by decide +kernel
theorem dX10_called_102 : decode cX10_called 102 = .ok (.iinc 5 1, 3) := by decide +kernel
theorem dX10_called_105 : decode cX10_called 105 = .ok (.goto (-70), 3) := by decide +kernel
theorem dX10_called_108 : decode cX10_called 108 = .ok (.ldc 165, 2) := by decide +kernel
theorem dX10_called_110 : decode cX10_called 110 = .ok (.ireturn, 1) := by decide +kernel
theorem dX10_fit_0 : decode cX10_fit 0 = .ok (.aload_n 0, 1) := by decide +kernel
theorem dX10_fit_1 : decode cX10_fit 1 = .ok (.iload_n 1, 1) := by decide +kernel
theorem dX10_fit_2 : decode cX10_fit 2 = .ok (.invokevirtual 221, 3) := by decide +kernel
theorem dX10_fit_5 : decode cX10_fit 5 = .ok (.ifCond .eq 7, 3) := by decide +kernel
theorem dX10_fit_8 : decode cX10_fit 8 = .ok (.iload_n 2, 1) := by decide +kernel
theorem dX10_fit_9 : decode cX10_fit 9 = .ok (.ifCond .ge 6, 3) := by decide +kernel
theorem dX10_fit_12 : decode cX10_fit 12 = .ok (.ldc 79, 2) := by decide +kernel
theorem dX10_fit_14 : decode cX10_fit 14 = .ok (.ireturn, 1) := by decide +kernel
theorem dX10_fit_15 : decode cX10_fit 15 = .ok (.iconst 0, 1) := by decide +kernel
theorem dX10_fit_16 : decode cX10_fit 16 = .ok (.istore_n 3, 1) := by decide +kernel
theorem dX10_fit_17 : decode cX10_fit 17 = .ok (.aload_n 0, 1) := by decide +kernel
theorem dX10_fit_18 : decode cX10_fit 18 = .ok (.getfield 28, 3) := by decide +kernel
theorem dX10_fit_21 : decode cX10_fit 21 = .ok (.iconst 0, 1) := by decide +kernel
theorem dX10_fit_22 : decode cX10_fit 22 = .ok (.iaload, 1) := by decide +kernel
theorem dX10_fit_23 : decode cX10_fit 23 = .ok (.istore 4, 2) := by decide +kernel
theorem dX10_fit_25 : decode cX10_fit 25 = .ok (.iload 4, 2) := by decide +kernel
theorem dX10_fit_27 : decode cX10_fit 27 = .ok (.aload_n 0, 1) := by decide +kernel
theorem dX10_fit_28 : decode cX10_fit 28 = .ok (.getfield 28, 3) := by decide +kernel
theorem dX10_fit_31 : decode cX10_fit 31 = .ok (.iconst 0, 1) := by decide +kernel
theorem dX10_fit_32 : decode cX10_fit 32 = .ok (.iaload, 1) := by decide +kernel
theorem dX10_fit_33 : decode cX10_fit 33 = .ok (.bipush 100, 2) := by decide +kernel
theorem dX10_fit_35 : decode cX10_fit 35 = .ok (.iadd, 1) := by decide +kernel
theorem dX10_fit_36 : decode cX10_fit 36 = .ok (.if_icmp .ge 38, 3) := by decide +kernel
theorem dX10_fit_39 : decode cX10_fit 39 = .ok (.aload_n 0, 1) := by decide +kernel
theorem dX10_fit_40 : decode cX10_fit 40 = .ok (.iload 4, 2) := by decide +kernel
theorem dX10_fit_42 : decode cX10_fit 42 = .ok (.invokevirtual 233, 3) := by decide +kernel
theorem dX10_fit_45 : decode cX10_fit 45 = .ok (.aload_n 0, 1) := by decide +kernel
theorem dX10_fit_46 : decode cX10_fit 46 = .ok (.getfield 25, 3) := by decide +kernel
theorem dX10_fit_49 : decode cX10_fit 49 = .ok (.bipush 49, 2) := by decide +kernel
theorem dX10_fit_51 : decode cX10_fit 51 = .ok (.iload_n 1, 1) := by decide +kernel
theorem dX10_fit_52 : decode cX10_fit 52 = .ok (.iadd, 1) := by decide +kernel
theorem dX10_fit_53 : decode cX10_fit 53 = .ok (.iaload, 1) := by decide +kernel
theorem dX10_fit_54 : decode cX10_fit 54 = .ok (.if_icmp .lt 14, 3) := by decide +kernel
theorem dX10_fit_57 : decode cX10_fit 57 = .ok (.iload_n 3, 1) := by decide +kernel
theorem dX10_fit_58 : decode cX10_fit 58 = .ok (.iload_n 2, 1) := by decide +kernel
theorem dX10_fit_59 : decode cX10_fit 59 = .ok (.if_icmp .ne 6, 3) := by decide +kernel
theorem dX10_fit_62 : decode cX10_fit 62 = .ok (.iload 4, 2) := by decide +kernel
theorem dX10_fit_64 : decode cX10_fit 64 = .ok (.ireturn, 1) := by decide +kernel
theorem dX10_fit_65 : decode cX10_fit 65 = .ok (.iinc 3 1, 3) := by decide +kernel
theorem dX10_fit_68 : decode cX10_fit 68 = .ok (.iinc 4 1, 3) := by decide +kernel
theorem dX10_fit_71 : decode cX10_fit 71 = .ok (.goto (-46), 3) := by decide +kernel
theorem dX10_fit_74 : decode cX10_fit 74 = .ok (.ldc 165, 2) := by decide +kernel
theorem dX10_fit_76 : decode cX10_fit 76 = .ok (.ireturn, 1) := by decide +kernel
theorem dX10_highest_0 : decode cX10_highest 0 = .ok (.aload_n 0, 1) := by decide +kernel
theorem dX10_highest_1 : decode cX10_highest 1 = .ok (.invokevirtual 196, 3) := by decide +kernel
theorem dX10_highest_4 : decode cX10_highest 4 = .ok (.ifCond .ne 6, 3) := by decide +kernel
theorem dX10_highest_7 : decode cX10_highest 7 = .ok (.ldc 199, 2) := by decide +kernel
theorem dX10_highest_9 : decode cX10_highest 9 = .ok (.ireturn, 1) := by decide +kernel
theorem dX10_highest_10 : decode cX10_highest 10 = .ok (.iload_n 1, 1) := by decide +kernel
theorem dX10_highest_11 : decode cX10_highest 11 = .ok (.i2l, 1) := by decide +kernel
theorem dX10_highest_12 : decode cX10_highest 12 = .ok (.lconst 1, 1) := by decide +kernel
theorem dX10_highest_13 : decode cX10_highest 13 = .ok (.ldc2_w 241, 3) := by decide +kernel
theorem dX10_highest_16 : decode cX10_highest 16 = .ok (.invokestatic 64, 3) := by decide +kernel
theorem dX10_highest_19 : decode cX10_highest 19 = .ok (.ifCond .eq 13, 3) := by decide +kernel
theorem dX10_highest_22 : decode cX10_highest 22 = .ok (.iload_n 2, 1) := by decide +kernel
theorem dX10_highest_23 : decode cX10_highest 23 = .ok (.i2l, 1) := by decide +kernel
theorem dX10_highest_24 : decode cX10_highest 24 = .ok (.lconst 0, 1) := by decide +kernel
theorem dX10_highest_25 : decode cX10_highest 25 = .ok (.lconst 1, 1) := by decide +kernel
theorem dX10_highest_26 : decode cX10_highest 26 = .ok (.invokestatic 64, 3) := by decide +kernel
theorem dX10_highest_29 : decode cX10_highest 29 = .ok (.ifCond .ne 6, 3) := by decide +kernel
theorem dX10_highest_32 : decode cX10_highest 32 = .ok (.ldc 79, 2) := by decide +kernel
theorem dX10_highest_34 : decode cX10_highest 34 = .ok (.ireturn, 1) := by decide +kernel
theorem dX10_highest_35 : decode cX10_highest 35 = .ok (.aload_n 0, 1) := by decide +kernel
theorem dX10_highest_36 : decode cX10_highest 36 = .ok (.getfield 28, 3) := by decide +kernel
theorem dX10_highest_39 : decode cX10_highest 39 = .ok (.iconst 0, 1) := by decide +kernel
theorem dX10_highest_40 : decode cX10_highest 40 = .ok (.iaload, 1) := by decide +kernel
theorem dX10_highest_41 : decode cX10_highest 41 = .ok (.istore_n 3, 1) := by decide +kernel
theorem dX10_highest_42 : decode cX10_highest 42 = .ok (.aload_n 0, 1) := by decide +kernel
theorem dX10_highest_43 : decode cX10_highest 43 = .ok (.getfield 28, 3) := by decide +kernel
theorem dX10_highest_46 : decode cX10_highest 46 = .ok (.iconst 0, 1) := by decide +kernel
theorem dX10_highest_47 : decode cX10_highest 47 = .ok (.iaload, 1) := by decide +kernel
theorem dX10_highest_48 : decode cX10_highest 48 = .ok (.istore 4, 2) := by decide +kernel
theorem dX10_highest_50 : decode cX10_highest 50 = .ok (.iload 4, 2) := by decide +kernel
theorem dX10_highest_52 : decode cX10_highest 52 = .ok (.aload_n 0, 1) := by decide +kernel
theorem dX10_highest_53 : decode cX10_highest 53 = .ok (.getfield 28, 3) := by decide +kernel
theorem dX10_highest_56 : decode cX10_highest 56 = .ok (.iconst 0, 1) := by decide +kernel
theorem dX10_highest_57 : decode cX10_highest 57 = .ok (.iaload, 1) := by decide +kernel
theorem dX10_highest_58 : decode cX10_highest 58 = .ok (.iload_n 1, 1) := by decide +kernel
theorem dX10_highest_59 : decode cX10_highest 59 = .ok (.iadd, 1) := by decide +kernel
theorem dX10_highest_60 : decode cX10_highest 60 = .ok (.if_icmp .ge 30, 3) := by decide +kernel
theorem dX10_highest_63 : decode cX10_highest 63 = .ok (.aload_n 0, 1) := by decide +kernel
theorem dX10_highest_64 : decode cX10_highest 64 = .ok (.iload 4, 2) := by decide +kernel
theorem dX10_highest_66 : decode cX10_highest 66 = .ok (.invokevirtual 233, 3) := by decide +kernel
theorem dX10_highest_69 : decode cX10_highest 69 = .ok (.aload_n 0, 1) := by decide +kernel
theorem dX10_highest_70 : decode cX10_highest 70 = .ok (.iload_n 3, 1) := by decide +kernel
theorem dX10_highest_71 : decode cX10_highest 71 = .ok (.invokevirtual 233, 3) := by decide +kernel
theorem dX10_highest_74 : decode cX10_highest 74 = .ok (.if_icmp .le 8, 3) := by decide +kernel
theorem dX10_highest_77 : decode cX10_highest 77 = .ok (.iload 4, 2) := by decide +kernel
theorem dX10_highest_79 : decode cX10_highest 79 = .ok (.goto 4, 3) := by decide +kernel
theorem dX10_highest_82 : decode cX10_highest 82 = .ok (.iload_n 3, 1) := by decide +kernel
theorem dX10_highest_83 : decode cX10_highest 83 = .ok (.istore_n 3, 1) := by decide +kernel
theorem dX10_highest_84 : decode cX10_highest 84 = .ok (.iinc 4 1, 3) := by decide +kernel
theorem dX10_highest_87 : decode cX10_highest 87 = .ok (.goto (-37), 3) := by decide +kernel
theorem dX10_highest_90 : decode cX10_highest 90 = .ok (.iload_n 2, 1) := by decide +kernel
theorem dX10_highest_91 : decode cX10_highest 91 = .ok (.ifCond .ne 7, 3) := by decide +kernel
theorem dX10_highest_94 : decode cX10_highest 94 = .ok (.iload_n 3, 1) := by decide +kernel
theorem dX10_highest_95 : decode cX10_highest 95 = .ok (.goto 8, 3) := by decide +kernel
theorem dX10_highest_98 : decode cX10_highest 98 = .ok (.aload_n 0, 1) := by decide +kernel
theorem dX10_highest_99 : decode cX10_highest 99 = .ok (.iload_n 3, 1) := by decide +kernel
theorem dX10_highest_100 : decode cX10_highest 100 = .ok (.invokevirtual 233, 3) := by decide +kernel
theorem dX10_highest_103 : decode cX10_highest 103 = .ok (.ireturn, 1) := by decide +kernel
theorem dX10_lays_0 : decode cX10_lays 0 = .ok (.iload_n 1, 1) := by decide +kernel
theorem dX10_lays_1 : decode cX10_lays 1 = .ok (.istore_n 3, 1) := by decide +kernel
theorem dX10_lays_2 : decode cX10_lays 2 = .ok (.iconst 0, 1) := by decide +kernel
theorem dX10_lays_3 : decode cX10_lays 3 = .ok (.istore 4, 2) := by decide +kernel
theorem dX10_lays_5 : decode cX10_lays 5 = .ok (.iload_n 2, 1) := by decide +kernel
theorem dX10_lays_6 : decode cX10_lays 6 = .ok (.iconst 1, 1) := by decide +kernel
theorem dX10_lays_7 : decode cX10_lays 7 = .ok (.isub, 1) := by decide +kernel
theorem dX10_lays_8 : decode cX10_lays 8 = .ok (.istore 5, 2) := by decide +kernel
theorem dX10_lays_10 : decode cX10_lays 10 = .ok (.iload 5, 2) := by decide +kernel
theorem dX10_lays_12 : decode cX10_lays 12 = .ok (.ifCond .lt 37, 3) := by decide +kernel
theorem dX10_lays_15 : decode cX10_lays 15 = .ok (.aload_n 0, 1) := by decide +kernel
theorem dX10_lays_16 : decode cX10_lays 16 = .ok (.getfield 53, 3) := by decide +kernel
theorem dX10_lays_19 : decode cX10_lays 19 = .ok (.iload 5, 2) := by decide +kernel
theorem dX10_lays_21 : decode cX10_lays 21 = .ok (.iload_n 3, 1) := by decide +kernel
theorem dX10_lays_22 : decode cX10_lays 22 = .ok (.iload_n 2, 1) := by decide +kernel
theorem dX10_lays_23 : decode cX10_lays 23 = .ok (.irem, 1) := by decide +kernel
theorem dX10_lays_24 : decode cX10_lays 24 = .ok (.iastore, 1) := by decide +kernel
theorem dX10_lays_25 : decode cX10_lays 25 = .ok (.iload_n 3, 1) := by decide +kernel
theorem dX10_lays_26 : decode cX10_lays 26 = .ok (.iload_n 2, 1) := by decide +kernel
theorem dX10_lays_27 : decode cX10_lays 27 = .ok (.idiv, 1) := by decide +kernel
theorem dX10_lays_28 : decode cX10_lays 28 = .ok (.istore_n 3, 1) := by decide +kernel
theorem dX10_lays_29 : decode cX10_lays 29 = .ok (.iload 4, 2) := by decide +kernel
theorem dX10_lays_31 : decode cX10_lays 31 = .ok (.iconst 1, 1) := by decide +kernel
theorem dX10_lays_32 : decode cX10_lays 32 = .ok (.aload_n 0, 1) := by decide +kernel
theorem dX10_lays_33 : decode cX10_lays 33 = .ok (.getfield 53, 3) := by decide +kernel
theorem dX10_lays_36 : decode cX10_lays 36 = .ok (.iload 5, 2) := by decide +kernel
theorem dX10_lays_38 : decode cX10_lays 38 = .ok (.iaload, 1) := by decide +kernel
theorem dX10_lays_39 : decode cX10_lays 39 = .ok (.ishl, 1) := by decide +kernel
theorem dX10_lays_40 : decode cX10_lays 40 = .ok (.ior, 1) := by decide +kernel
theorem dX10_lays_41 : decode cX10_lays 41 = .ok (.istore 4, 2) := by decide +kernel
theorem dX10_lays_43 : decode cX10_lays 43 = .ok (.iinc 5 (-1), 3) := by decide +kernel
theorem dX10_lays_46 : decode cX10_lays 46 = .ok (.goto (-36), 3) := by decide +kernel
theorem dX10_lays_49 : decode cX10_lays 49 = .ok (.iload 4, 2) := by decide +kernel
theorem dX10_lays_51 : decode cX10_lays 51 = .ok (.iconst 1, 1) := by decide +kernel
theorem dX10_lays_52 : decode cX10_lays 52 = .ok (.iload_n 2, 1) := by decide +kernel
theorem dX10_lays_53 : decode cX10_lays 53 = .ok (.ishl, 1) := by decide +kernel
theorem dX10_lays_54 : decode cX10_lays 54 = .ok (.iconst 1, 1) := by decide +kernel
theorem dX10_lays_55 : decode cX10_lays 55 = .ok (.isub, 1) := by decide +kernel
theorem dX10_lays_56 : decode cX10_lays 56 = .ok (.if_icmp .ne 7, 3) := by decide +kernel
theorem dX10_lays_59 : decode cX10_lays 59 = .ok (.iconst 1, 1) := by decide +kernel
theorem dX10_lays_60 : decode cX10_lays 60 = .ok (.goto 4, 3) := by decide +kernel
theorem dX10_lays_63 : decode cX10_lays 63 = .ok (.iconst 0, 1) := by decide +kernel
theorem dX10_lays_64 : decode cX10_lays 64 = .ok (.ireturn, 1) := by decide +kernel
theorem dX10_order_0 : decode cX10_order 0 = .ok (.aload_n 0, 1) := by decide +kernel
theorem dX10_order_1 : decode cX10_order 1 = .ok (.invokevirtual 196, 3) := by decide +kernel
theorem dX10_order_4 : decode cX10_order 4 = .ok (.ifCond .ne 6, 3) := by decide +kernel
theorem dX10_order_7 : decode cX10_order 7 = .ok (.ldc 199, 2) := by decide +kernel
theorem dX10_order_9 : decode cX10_order 9 = .ok (.ireturn, 1) := by decide +kernel
theorem dX10_order_10 : decode cX10_order 10 = .ok (.iload_n 1, 1) := by decide +kernel
theorem dX10_order_11 : decode cX10_order 11 = .ok (.i2l, 1) := by decide +kernel
theorem dX10_order_12 : decode cX10_order 12 = .ok (.lconst 1, 1) := by decide +kernel
theorem dX10_order_13 : decode cX10_order 13 = .ok (.ldc2_w 243, 3) := by decide +kernel
theorem dX10_order_16 : decode cX10_order 16 = .ok (.invokestatic 64, 3) := by decide +kernel
theorem dX10_order_19 : decode cX10_order 19 = .ok (.ifCond .eq 23, 3) := by decide +kernel
theorem dX10_order_22 : decode cX10_order 22 = .ok (.iload_n 2, 1) := by decide +kernel
theorem dX10_order_23 : decode cX10_order 23 = .ok (.i2l, 1) := by decide +kernel
theorem dX10_order_24 : decode cX10_order 24 = .ok (.ldc2_w 245, 3) := by decide +kernel
theorem dX10_order_27 : decode cX10_order 27 = .ok (.aload_n 0, 1) := by decide +kernel
theorem dX10_order_28 : decode cX10_order 28 = .ok (.getfield 25, 3) := by decide +kernel
theorem dX10_order_31 : decode cX10_order 31 = .ok (.iconst 5, 1) := by decide +kernel
theorem dX10_order_32 : decode cX10_order 32 = .ok (.iaload, 1) := by decide +kernel
theorem dX10_order_33 : decode cX10_order 33 = .ok (.iconst 1, 1) := by decide +kernel
theorem dX10_order_34 : decode cX10_order 34 = .ok (.isub, 1) := by decide +kernel
theorem dX10_order_35 : decode cX10_order 35 = .ok (.i2l, 1) := by decide +kernel
theorem dX10_order_36 : decode cX10_order 36 = .ok (.invokestatic 64, 3) := by decide +kernel
theorem dX10_order_39 : decode cX10_order 39 = .ok (.ifCond .ne 6, 3) := by decide +kernel
theorem dX10_order_42 : decode cX10_order 42 = .ok (.ldc 79, 2) := by decide +kernel
theorem dX10_order_44 : decode cX10_order 44 = .ok (.ireturn, 1) := by decide +kernel
theorem dX10_order_45 : decode cX10_order 45 = .ok (.aload_n 0, 1) := by decide +kernel
theorem dX10_order_46 : decode cX10_order 46 = .ok (.getfield 25, 3) := by decide +kernel
theorem dX10_order_49 : decode cX10_order 49 = .ok (.iconst 5, 1) := by decide +kernel
theorem dX10_order_50 : decode cX10_order 50 = .ok (.iaload, 1) := by decide +kernel
theorem dX10_order_51 : decode cX10_order 51 = .ok (.istore_n 3, 1) := by decide +kernel
theorem dX10_order_52 : decode cX10_order 52 = .ok (.iconst 1, 1) := by decide +kernel
theorem dX10_order_53 : decode cX10_order 53 = .ok (.istore 4, 2) := by decide +kernel
theorem dX10_order_55 : decode cX10_order 55 = .ok (.iconst 0, 1) := by decide +kernel
theorem dX10_order_56 : decode cX10_order 56 = .ok (.istore 5, 2) := by decide +kernel
theorem dX10_order_58 : decode cX10_order 58 = .ok (.iload 5, 2) := by decide +kernel
theorem dX10_order_60 : decode cX10_order 60 = .ok (.iload_n 3, 1) := by decide +kernel
theorem dX10_order_61 : decode cX10_order 61 = .ok (.if_icmp .ge 15, 3) := by decide +kernel
theorem dX10_order_64 : decode cX10_order 64 = .ok (.iload 4, 2) := by decide +kernel
theorem dX10_order_66 : decode cX10_order 66 = .ok (.iload_n 3, 1) := by decide +kernel
theorem dX10_order_67 : decode cX10_order 67 = .ok (.imul, 1) := by decide +kernel
theorem dX10_order_68 : decode cX10_order 68 = .ok (.istore 4, 2) := by decide +kernel
theorem dX10_order_70 : decode cX10_order 70 = .ok (.iinc 5 1, 3) := by decide +kernel
theorem dX10_order_73 : decode cX10_order 73 = .ok (.goto (-15), 3) := by decide +kernel
theorem dX10_order_76 : decode cX10_order 76 = .ok (.iconst (-1), 1) := by decide +kernel
theorem dX10_order_77 : decode cX10_order 77 = .ok (.istore 5, 2) := by decide +kernel
theorem dX10_order_79 : decode cX10_order 79 = .ok (.iconst 0, 1) := by decide +kernel
theorem dX10_order_80 : decode cX10_order 80 = .ok (.istore 6, 2) := by decide +kernel
theorem dX10_order_82 : decode cX10_order 82 = .ok (.iload 6, 2) := by decide +kernel
theorem dX10_order_84 : decode cX10_order 84 = .ok (.iload 4, 2) := by decide +kernel
theorem dX10_order_86 : decode cX10_order 86 = .ok (.if_icmp .ge 106, 3) := by decide +kernel
theorem dX10_order_89 : decode cX10_order 89 = .ok (.aload_n 0, 1) := by decide +kernel
theorem dX10_order_90 : decode cX10_order 90 = .ok (.iload 6, 2) := by decide +kernel
theorem dX10_order_92 : decode cX10_order 92 = .ok (.iload_n 3, 1) := by decide +kernel
theorem dX10_order_93 : decode cX10_order 93 = .ok (.invokevirtual 247, 3) := by decide +kernel
theorem dX10_order_96 : decode cX10_order 96 = .ok (.ifCond .eq 90, 3) := by decide +kernel
theorem dX10_order_99 : decode cX10_order 99 = .ok (.aload_n 0, 1) := by decide +kernel
theorem dX10_order_100 : decode cX10_order 100 = .ok (.invokevirtual 205, 3) := by decide +kernel
theorem dX10_order_103 : decode cX10_order 103 = .ok (.iconst 0, 1) := by decide +kernel
theorem dX10_order_104 : decode cX10_order 104 = .ok (.istore 7, 2) := by decide +kernel
theorem dX10_order_106 : decode cX10_order 106 = .ok (.iload 7, 2) := by decide +kernel
theorem dX10_order_108 : decode cX10_order 108 = .ok (.iload_n 3, 1) := by decide +kernel
theorem dX10_order_109 : decode cX10_order 109 = .ok (.if_icmp .ge 25, 3) := by decide +kernel
theorem dX10_order_112 : decode cX10_order 112 = .ok (.aload_n 0, 1) := by decide +kernel
theorem dX10_order_113 : decode cX10_order 113 = .ok (.getfield 50, 3) := by decide +kernel
theorem dX10_order_116 : decode cX10_order 116 = .ok (.iconst 5, 1) := by decide +kernel
theorem dX10_order_117 : decode cX10_order 117 = .ok (.iload 7, 2) := by decide +kernel
theorem dX10_order_119 : decode cX10_order 119 = .ok (.iadd, 1) := by decide +kernel
theorem dX10_order_120 : decode cX10_order 120 = .ok (.aload_n 0, 1) := by decide +kernel
theorem dX10_order_121 : decode cX10_order 121 = .ok (.getfield 53, 3) := by decide +kernel
theorem dX10_order_124 : decode cX10_order 124 = .ok (.iload 7, 2) := by decide +kernel
theorem dX10_order_126 : decode cX10_order 126 = .ok (.iaload, 1) := by decide +kernel
theorem dX10_order_127 : decode cX10_order 127 = .ok (.iastore, 1) := by decide +kernel
theorem dX10_order_128 : decode cX10_order 128 = .ok (.iinc 7 1, 3) := by decide +kernel
theorem dX10_order_131 : decode cX10_order 131 = .ok (.goto (-25), 3) := by decide +kernel
theorem dX10_order_134 : decode cX10_order 134 = .ok (.aload_n 0, 1) := by decide +kernel
theorem dX10_order_135 : decode cX10_order 135 = .ok (.iload_n 1, 1) := by decide +kernel
theorem dX10_order_136 : decode cX10_order 136 = .ok (.invokevirtual 208, 3) := by decide +kernel
theorem dX10_order_139 : decode cX10_order 139 = .ok (.aload_n 0, 1) := by decide +kernel
theorem dX10_order_140 : decode cX10_order 140 = .ok (.iconst 1, 1) := by decide +kernel
theorem dX10_order_141 : decode cX10_order 141 = .ok (.invokevirtual 238, 3) := by decide +kernel
theorem dX10_order_144 : decode cX10_order 144 = .ok (.istore 7, 2) := by decide +kernel
theorem dX10_order_146 : decode cX10_order 146 = .ok (.iload 7, 2) := by decide +kernel
theorem dX10_order_148 : decode cX10_order 148 = .ok (.iload 5, 2) := by decide +kernel
theorem dX10_order_150 : decode cX10_order 150 = .ok (.if_icmp .le 36, 3) := by decide +kernel
theorem dX10_order_153 : decode cX10_order 153 = .ok (.iload 7, 2) := by decide +kernel
theorem dX10_order_155 : decode cX10_order 155 = .ok (.istore 5, 2) := by decide +kernel
theorem dX10_order_157 : decode cX10_order 157 = .ok (.iconst 0, 1) := by decide +kernel
theorem dX10_order_158 : decode cX10_order 158 = .ok (.istore 8, 2) := by decide +kernel
theorem dX10_order_160 : decode cX10_order 160 = .ok (.iload 8, 2) := by decide +kernel
theorem dX10_order_162 : decode cX10_order 162 = .ok (.iload_n 3, 1) := by decide +kernel
theorem dX10_order_163 : decode cX10_order 163 = .ok (.if_icmp .ge 23, 3) := by decide +kernel
theorem dX10_order_166 : decode cX10_order 166 = .ok (.aload_n 0, 1) := by decide +kernel
theorem dX10_order_167 : decode cX10_order 167 = .ok (.getfield 56, 3) := by decide +kernel
theorem dX10_order_170 : decode cX10_order 170 = .ok (.iload 8, 2) := by decide +kernel
theorem dX10_order_172 : decode cX10_order 172 = .ok (.aload_n 0, 1) := by decide +kernel
theorem dX10_order_173 : decode cX10_order 173 = .ok (.getfield 53, 3) := by decide +kernel
theorem dX10_order_176 : decode cX10_order 176 = .ok (.iload 8, 2) := by decide +kernel
theorem dX10_order_178 : decode cX10_order 178 = .ok (.iaload, 1) := by decide +kernel
theorem dX10_order_179 : decode cX10_order 179 = .ok (.iastore, 1) := by decide +kernel
theorem dX10_order_180 : decode cX10_order 180 = .ok (.iinc 8 1, 3) := by decide +kernel
theorem dX10_order_183 : decode cX10_order 183 = .ok (.goto (-23), 3) := by decide +kernel
theorem dX10_order_186 : decode cX10_order 186 = .ok (.iinc 6 1, 3) := by decide +kernel
theorem dX10_order_189 : decode cX10_order 189 = .ok (.goto (-107), 3) := by decide +kernel
theorem dX10_order_192 : decode cX10_order 192 = .ok (.iload_n 2, 1) := by decide +kernel
theorem dX10_order_193 : decode cX10_order 193 = .ok (.iconst (-1), 1) := by decide +kernel
theorem dX10_order_194 : decode cX10_order 194 = .ok (.if_icmp .ne 8, 3) := by decide +kernel
theorem dX10_order_197 : decode cX10_order 197 = .ok (.iload 5, 2) := by decide +kernel
theorem dX10_order_199 : decode cX10_order 199 = .ok (.goto 9, 3) := by decide +kernel
theorem dX10_order_202 : decode cX10_order 202 = .ok (.aload_n 0, 1) := by decide +kernel
theorem dX10_order_203 : decode cX10_order 203 = .ok (.getfield 56, 3) := by decide +kernel
theorem dX10_order_206 : decode cX10_order 206 = .ok (.iload_n 2, 1) := by decide +kernel
theorem dX10_order_207 : decode cX10_order 207 = .ok (.iaload, 1) := by decide +kernel
theorem dX10_order_208 : decode cX10_order 208 = .ok (.ireturn, 1) := by decide +kernel
theorem dX10_laws_0 : decode cX10_laws 0 = .ok (.aload_n 0, 1) := by decide +kernel
theorem dX10_laws_1 : decode cX10_laws 1 = .ok (.invokevirtual 196, 3) := by decide +kernel
theorem dX10_laws_4 : decode cX10_laws 4 = .ok (.ifCond .ne 6, 3) := by decide +kernel
theorem dX10_laws_7 : decode cX10_laws 7 = .ok (.ldc 199, 2) := by decide +kernel
theorem dX10_laws_9 : decode cX10_laws 9 = .ok (.ireturn, 1) := by decide +kernel
theorem dX10_laws_10 : decode cX10_laws 10 = .ok (.iload_n 1, 1) := by decide +kernel
theorem dX10_laws_11 : decode cX10_laws 11 = .ok (.i2l, 1) := by decide +kernel
theorem dX10_laws_12 : decode cX10_laws 12 = .ok (.lconst 1, 1) := by decide +kernel
theorem dX10_laws_13 : decode cX10_laws 13 = .ok (.ldc2_w 236, 3) := by decide +kernel
theorem dX10_laws_16 : decode cX10_laws 16 = .ok (.invokestatic 64, 3) := by decide +kernel
theorem dX10_laws_19 : decode cX10_laws 19 = .ok (.ifCond .eq 13, 3) := by decide +kernel
theorem dX10_laws_22 : decode cX10_laws 22 = .ok (.iload_n 2, 1) := by decide +kernel
theorem dX10_laws_23 : decode cX10_laws 23 = .ok (.i2l, 1) := by decide +kernel
theorem dX10_laws_24 : decode cX10_laws 24 = .ok (.lconst 0, 1) := by decide +kernel
theorem dX10_laws_25 : decode cX10_laws 25 = .ok (.lconst 1, 1) := by decide +kernel
theorem dX10_laws_26 : decode cX10_laws 26 = .ok (.invokestatic 64, 3) := by decide +kernel
theorem dX10_laws_29 : decode cX10_laws 29 = .ok (.ifCond .ne 6, 3) := by decide +kernel
theorem dX10_laws_32 : decode cX10_laws 32 = .ok (.ldc 79, 2) := by decide +kernel
theorem dX10_laws_34 : decode cX10_laws 34 = .ok (.ireturn, 1) := by decide +kernel
theorem dX10_laws_35 : decode cX10_laws 35 = .ok (.iconst 0, 1) := by decide +kernel
theorem dX10_laws_36 : decode cX10_laws 36 = .ok (.istore_n 3, 1) := by decide +kernel
theorem dX10_laws_37 : decode cX10_laws 37 = .ok (.iconst (-1), 1) := by decide +kernel
theorem dX10_laws_38 : decode cX10_laws 38 = .ok (.istore 4, 2) := by decide +kernel
theorem dX10_laws_40 : decode cX10_laws 40 = .ok (.iconst 2, 1) := by decide +kernel
theorem dX10_laws_41 : decode cX10_laws 41 = .ok (.istore 5, 2) := by decide +kernel
theorem dX10_laws_43 : decode cX10_laws 43 = .ok (.iload 5, 2) := by decide +kernel
theorem dX10_laws_45 : decode cX10_laws 45 = .ok (.bipush 12, 2) := by decide +kernel
theorem dX10_laws_47 : decode cX10_laws 47 = .ok (.if_icmp .gt 56, 3) := by decide +kernel
theorem dX10_laws_50 : decode cX10_laws 50 = .ok (.aload_n 0, 1) := by decide +kernel
theorem dX10_laws_51 : decode cX10_laws 51 = .ok (.invokevirtual 205, 3) := by decide +kernel
theorem dX10_laws_54 : decode cX10_laws 54 = .ok (.aload_n 0, 1) := by decide +kernel
theorem dX10_laws_55 : decode cX10_laws 55 = .ok (.getfield 50, 3) := by decide +kernel
theorem dX10_laws_58 : decode cX10_laws 58 = .ok (.iconst 1, 1) := by decide +kernel
theorem dX10_laws_59 : decode cX10_laws 59 = .ok (.iload 5, 2) := by decide +kernel
theorem dX10_laws_61 : decode cX10_laws 61 = .ok (.iastore, 1) := by decide +kernel
theorem dX10_laws_62 : decode cX10_laws 62 = .ok (.aload_n 0, 1) := by decide +kernel
theorem dX10_laws_63 : decode cX10_laws 63 = .ok (.iload_n 1, 1) := by decide +kernel
theorem dX10_laws_64 : decode cX10_laws 64 = .ok (.invokevirtual 208, 3) := by decide +kernel
theorem dX10_laws_67 : decode cX10_laws 67 = .ok (.aload_n 0, 1) := by decide +kernel
theorem dX10_laws_68 : decode cX10_laws 68 = .ok (.iconst 1, 1) := by decide +kernel
theorem dX10_laws_69 : decode cX10_laws 69 = .ok (.invokevirtual 238, 3) := by decide +kernel
theorem dX10_laws_72 : decode cX10_laws 72 = .ok (.istore 6, 2) := by decide +kernel
theorem dX10_laws_74 : decode cX10_laws 74 = .ok (.iload 6, 2) := by decide +kernel
theorem dX10_laws_76 : decode cX10_laws 76 = .ok (.iload 4, 2) := by decide +kernel
theorem dX10_laws_78 : decode cX10_laws 78 = .ok (.if_icmp .le 8, 3) := by decide +kernel
theorem dX10_laws_81 : decode cX10_laws 81 = .ok (.iload 5, 2) := by decide +kernel
theorem dX10_laws_83 : decode cX10_laws 83 = .ok (.goto 4, 3) := by decide +kernel
theorem dX10_laws_86 : decode cX10_laws 86 = .ok (.iload_n 3, 1) := by decide +kernel
theorem dX10_laws_87 : decode cX10_laws 87 = .ok (.istore_n 3, 1) := by decide +kernel
theorem dX10_laws_88 : decode cX10_laws 88 = .ok (.iload 4, 2) := by decide +kernel
theorem dX10_laws_90 : decode cX10_laws 90 = .ok (.iload 6, 2) := by decide +kernel
theorem dX10_laws_92 : decode cX10_laws 92 = .ok (.invokestatic 169, 3) := by decide +kernel
theorem dX10_laws_95 : decode cX10_laws 95 = .ok (.istore 4, 2) := by decide +kernel
theorem dX10_laws_97 : decode cX10_laws 97 = .ok (.iinc 5 1, 3) := by decide +kernel
theorem dX10_laws_100 : decode cX10_laws 100 = .ok (.goto (-57), 3) := by decide +kernel
theorem dX10_laws_103 : decode cX10_laws 103 = .ok (.iload_n 2, 1) := by decide +kernel
theorem dX10_laws_104 : decode cX10_laws 104 = .ok (.ifCond .ne 7, 3) := by decide +kernel
theorem dX10_laws_107 : decode cX10_laws 107 = .ok (.iload_n 3, 1) := by decide +kernel
theorem dX10_laws_108 : decode cX10_laws 108 = .ok (.goto 5, 3) := by decide +kernel
theorem dX10_laws_111 : decode cX10_laws 111 = .ok (.iload 4, 2) := by decide +kernel
theorem dX10_laws_113 : decode cX10_laws 113 = .ok (.ireturn, 1) := by decide +kernel
theorem dX10_bribe_0 : decode cX10_bribe 0 = .ok (.aload_n 0, 1) := by decide +kernel
theorem dX10_bribe_1 : decode cX10_bribe 1 = .ok (.iload_n 1, 1) := by decide +kernel
theorem dX10_bribe_2 : decode cX10_bribe 2 = .ok (.invokevirtual 221, 3) := by decide +kernel
theorem dX10_bribe_5 : decode cX10_bribe 5 = .ok (.ifCond .eq 15, 3) := by decide +kernel
theorem dX10_bribe_8 : decode cX10_bribe 8 = .ok (.iload_n 2, 1) := by decide +kernel
theorem dX10_bribe_9 : decode cX10_bribe 9 = .ok (.i2l, 1) := by decide +kernel
theorem dX10_bribe_10 : decode cX10_bribe 10 = .ok (.lconst 0, 1) := by decide +kernel
theorem dX10_bribe_11 : decode cX10_bribe 11 = .ok (.ldc2_w 77, 3) := by decide +kernel
theorem dX10_bribe_14 : decode cX10_bribe 14 = .ok (.invokestatic 64, 3) := by decide +kernel
theorem dX10_bribe_17 : decode cX10_bribe 17 = .ok (.ifCond .ne 6, 3) := by decide +kernel
theorem dX10_bribe_20 : decode cX10_bribe 20 = .ok (.ldc 79, 2) := by decide +kernel
theorem dX10_bribe_22 : decode cX10_bribe 22 = .ok (.ireturn, 1) := by decide +kernel
theorem dX10_bribe_23 : decode cX10_bribe 23 = .ok (.aload_n 0, 1) := by decide +kernel
theorem dX10_bribe_24 : decode cX10_bribe 24 = .ok (.getfield 28, 3) := by decide +kernel
theorem dX10_bribe_27 : decode cX10_bribe 27 = .ok (.bipush 17, 2) := by decide +kernel
theorem dX10_bribe_29 : decode cX10_bribe 29 = .ok (.iload_n 1, 1) := by decide +kernel
theorem dX10_bribe_30 : decode cX10_bribe 30 = .ok (.iadd, 1) := by decide +kernel
theorem dX10_bribe_31 : decode cX10_bribe 31 = .ok (.iaload, 1) := by decide +kernel
theorem dX10_bribe_32 : decode cX10_bribe 32 = .ok (.ifCond .eq 6, 3) := by decide +kernel
theorem dX10_bribe_35 : decode cX10_bribe 35 = .ok (.ldc 199, 2) := by decide +kernel
theorem dX10_bribe_37 : decode cX10_bribe 37 = .ok (.ireturn, 1) := by decide +kernel
theorem dX10_bribe_38 : decode cX10_bribe 38 = .ok (.ldc 165, 2) := by decide +kernel
theorem dX10_bribe_40 : decode cX10_bribe 40 = .ok (.istore_n 3, 1) := by decide +kernel
theorem dX10_bribe_41 : decode cX10_bribe 41 = .ok (.ldc 165, 2) := by decide +kernel
theorem dX10_bribe_43 : decode cX10_bribe 43 = .ok (.istore 4, 2) := by decide +kernel
theorem dX10_bribe_45 : decode cX10_bribe 45 = .ok (.ldc 165, 2) := by decide +kernel
theorem dX10_bribe_47 : decode cX10_bribe 47 = .ok (.istore 5, 2) := by decide +kernel
theorem dX10_bribe_49 : decode cX10_bribe 49 = .ok (.bipush (-4), 2) := by decide +kernel
theorem dX10_bribe_51 : decode cX10_bribe 51 = .ok (.istore 6, 2) := by decide +kernel
theorem dX10_bribe_53 : decode cX10_bribe 53 = .ok (.iload 6, 2) := by decide +kernel
theorem dX10_bribe_55 : decode cX10_bribe 55 = .ok (.iconst 4, 1) := by decide +kernel
theorem dX10_bribe_56 : decode cX10_bribe 56 = .ok (.if_icmp .gt 111, 3) := by decide +kernel
theorem dX10_bribe_59 : decode cX10_bribe 59 = .ok (.aload_n 0, 1) := by decide +kernel
theorem dX10_bribe_60 : decode cX10_bribe 60 = .ok (.invokevirtual 205, 3) := by decide +kernel
theorem dX10_bribe_63 : decode cX10_bribe 63 = .ok (.aload_n 0, 1) := by decide +kernel
theorem dX10_bribe_64 : decode cX10_bribe 64 = .ok (.getfield 50, 3) := by decide +kernel
theorem dX10_bribe_67 : decode cX10_bribe 67 = .ok (.bipush 11, 2) := by decide +kernel
theorem dX10_bribe_69 : decode cX10_bribe 69 = .ok (.iload_n 1, 1) := by decide +kernel
theorem dX10_bribe_70 : decode cX10_bribe 70 = .ok (.iadd, 1) := by decide +kernel
theorem dX10_bribe_71 : decode cX10_bribe 71 = .ok (.iaload, 1) := by decide +kernel
theorem dX10_bribe_72 : decode cX10_bribe 72 = .ok (.istore 7, 2) := by decide +kernel
theorem dX10_bribe_74 : decode cX10_bribe 74 = .ok (.aload_n 0, 1) := by decide +kernel
theorem dX10_bribe_75 : decode cX10_bribe 75 = .ok (.getfield 50, 3) := by decide +kernel
theorem dX10_bribe_78 : decode cX10_bribe 78 = .ok (.iconst 2, 1) := by decide +kernel
theorem dX10_bribe_79 : decode cX10_bribe 79 = .ok (.iload 7, 2) := by decide +kernel
theorem dX10_bribe_81 : decode cX10_bribe 81 = .ok (.iadd, 1) := by decide +kernel
theorem dX10_bribe_82 : decode cX10_bribe 82 = .ok (.iconst 0, 1) := by decide +kernel
theorem dX10_bribe_83 : decode cX10_bribe 83 = .ok (.aload_n 0, 1) := by decide +kernel
theorem dX10_bribe_84 : decode cX10_bribe 84 = .ok (.getfield 50, 3) := by decide +kernel
theorem dX10_bribe_87 : decode cX10_bribe 87 = .ok (.iconst 2, 1) := by decide +kernel
theorem dX10_bribe_88 : decode cX10_bribe 88 = .ok (.iload 7, 2) := by decide +kernel
theorem dX10_bribe_90 : decode cX10_bribe 90 = .ok (.iadd, 1) := by decide +kernel
theorem dX10_bribe_91 : decode cX10_bribe 91 = .ok (.iaload, 1) := by decide +kernel
theorem dX10_bribe_92 : decode cX10_bribe 92 = .ok (.iload 6, 2) := by decide +kernel
theorem dX10_bribe_94 : decode cX10_bribe 94 = .ok (.iadd, 1) := by decide +kernel
theorem dX10_bribe_95 : decode cX10_bribe 95 = .ok (.invokestatic 169, 3) := by decide +kernel
theorem dX10_bribe_98 : decode cX10_bribe 98 = .ok (.iastore, 1) := by decide +kernel
theorem dX10_bribe_99 : decode cX10_bribe 99 = .ok (.aload_n 0, 1) := by decide +kernel
theorem dX10_bribe_100 : decode cX10_bribe 100 = .ok (.sipush 200, 3) := by decide +kernel
theorem dX10_bribe_103 : decode cX10_bribe 103 = .ok (.invokevirtual 208, 3) := by decide +kernel
theorem dX10_bribe_106 : decode cX10_bribe 106 = .ok (.aload_n 0, 1) := by decide +kernel
theorem dX10_bribe_107 : decode cX10_bribe 107 = .ok (.getfield 50, 3) := by decide +kernel
theorem dX10_bribe_110 : decode cX10_bribe 110 = .ok (.bipush 17, 2) := by decide +kernel
theorem dX10_bribe_112 : decode cX10_bribe 112 = .ok (.iload_n 1, 1) := by decide +kernel
theorem dX10_bribe_113 : decode cX10_bribe 113 = .ok (.iadd, 1) := by decide +kernel
theorem dX10_bribe_114 : decode cX10_bribe 114 = .ok (.iaload, 1) := by decide +kernel
theorem dX10_bribe_115 : decode cX10_bribe 115 = .ok (.iconst 1, 1) := by decide +kernel
theorem dX10_bribe_116 : decode cX10_bribe 116 = .ok (.if_icmp .ne 45, 3) := by decide +kernel
theorem dX10_bribe_119 : decode cX10_bribe 119 = .ok (.iload 4, 2) := by decide +kernel
theorem dX10_bribe_121 : decode cX10_bribe 121 = .ok (.ldc 165, 2) := by decide +kernel
theorem dX10_bribe_123 : decode cX10_bribe 123 = .ok (.if_icmp .eq 17, 3) := by decide +kernel
theorem dX10_bribe_126 : decode cX10_bribe 126 = .ok (.aload_n 0, 1) := by decide +kernel
theorem dX10_bribe_127 : decode cX10_bribe 127 = .ok (.getfield 50, 3) := by decide +kernel
theorem dX10_bribe_130 : decode cX10_bribe 130 = .ok (.bipush 23, 2) := by decide +kernel
theorem dX10_bribe_132 : decode cX10_bribe 132 = .ok (.iload_n 1, 1) := by decide +kernel
theorem dX10_bribe_133 : decode cX10_bribe 133 = .ok (.iadd, 1) := by decide +kernel
theorem dX10_bribe_134 : decode cX10_bribe 134 = .ok (.iaload, 1) := by decide +kernel
theorem dX10_bribe_135 : decode cX10_bribe 135 = .ok (.iload 4, 2) := by decide +kernel
theorem dX10_bribe_137 : decode cX10_bribe 137 = .ok (.if_icmp .ge 24, 3) := by decide +kernel
theorem dX10_bribe_140 : decode cX10_bribe 140 = .ok (.iload 6, 2) := by decide +kernel
theorem dX10_bribe_142 : decode cX10_bribe 142 = .ok (.istore_n 3, 1) := by decide +kernel
theorem dX10_bribe_143 : decode cX10_bribe 143 = .ok (.aload_n 0, 1) := by decide +kernel
theorem dX10_bribe_144 : decode cX10_bribe 144 = .ok (.getfield 50, 3) := by decide +kernel
theorem dX10_bribe_147 : decode cX10_bribe 147 = .ok (.bipush 23, 2) := by decide +kernel
theorem dX10_bribe_149 : decode cX10_bribe 149 = .ok (.iload_n 1, 1) := by decide +kernel
theorem dX10_bribe_150 : decode cX10_bribe 150 = .ok (.iadd, 1) := by decide +kernel
theorem dX10_bribe_151 : decode cX10_bribe 151 = .ok (.iaload, 1) := by decide +kernel
theorem dX10_bribe_152 : decode cX10_bribe 152 = .ok (.istore 4, 2) := by decide +kernel
theorem dX10_bribe_154 : decode cX10_bribe 154 = .ok (.aload_n 0, 1) := by decide +kernel
theorem dX10_bribe_155 : decode cX10_bribe 155 = .ok (.iconst 2, 1) := by decide +kernel
theorem dX10_bribe_156 : decode cX10_bribe 156 = .ok (.invokevirtual 238, 3) := by decide +kernel
theorem dX10_bribe_159 : decode cX10_bribe 159 = .ok (.istore 5, 2) := by decide +kernel
theorem dX10_bribe_161 : decode cX10_bribe 161 = .ok (.iinc 6 1, 3) := by decide +kernel
theorem dX10_bribe_164 : decode cX10_bribe 164 = .ok (.goto (-111), 3) := by decide +kernel
theorem dX10_bribe_167 : decode cX10_bribe 167 = .ok (.iload_n 2, 1) := by decide +kernel
theorem dX10_bribe_168 : decode cX10_bribe 168 = .ok (.ifCond .ne 7, 3) := by decide +kernel
theorem dX10_bribe_171 : decode cX10_bribe 171 = .ok (.iload_n 3, 1) := by decide +kernel
theorem dX10_bribe_172 : decode cX10_bribe 172 = .ok (.goto 15, 3) := by decide +kernel
theorem dX10_bribe_175 : decode cX10_bribe 175 = .ok (.iload_n 2, 1) := by decide +kernel
theorem dX10_bribe_176 : decode cX10_bribe 176 = .ok (.iconst 1, 1) := by decide +kernel
theorem dX10_bribe_177 : decode cX10_bribe 177 = .ok (.if_icmp .ne 8, 3) := by decide +kernel
theorem dX10_bribe_180 : decode cX10_bribe 180 = .ok (.iload 4, 2) := by decide +kernel
theorem dX10_bribe_182 : decode cX10_bribe 182 = .ok (.goto 5, 3) := by decide +kernel
theorem dX10_bribe_185 : decode cX10_bribe 185 = .ok (.iload 5, 2) := by decide +kernel
theorem dX10_bribe_187 : decode cX10_bribe 187 = .ok (.ireturn, 1) := by decide +kernel
theorem dX10_heed_0 : decode cX10_heed 0 = .ok (.aload_n 0, 1) := by decide +kernel
theorem dX10_heed_1 : decode cX10_heed 1 = .ok (.iload_n 1, 1) := by decide +kernel
theorem dX10_heed_2 : decode cX10_heed 2 = .ok (.invokevirtual 221, 3) := by decide +kernel
theorem dX10_heed_5 : decode cX10_heed 5 = .ok (.ifCond .ne 6, 3) := by decide +kernel
theorem dX10_heed_8 : decode cX10_heed 8 = .ok (.ldc 79, 2) := by decide +kernel
theorem dX10_heed_10 : decode cX10_heed 10 = .ok (.ireturn, 1) := by decide +kernel
theorem dX10_heed_11 : decode cX10_heed 11 = .ok (.aload_n 0, 1) := by decide +kernel
theorem dX10_heed_12 : decode cX10_heed 12 = .ok (.getfield 28, 3) := by decide +kernel
theorem dX10_heed_15 : decode cX10_heed 15 = .ok (.bipush 17, 2) := by decide +kernel
theorem dX10_heed_17 : decode cX10_heed 17 = .ok (.iload_n 1, 1) := by decide +kernel
theorem dX10_heed_18 : decode cX10_heed 18 = .ok (.iadd, 1) := by decide +kernel
theorem dX10_heed_19 : decode cX10_heed 19 = .ok (.iaload, 1) := by decide +kernel
theorem dX10_heed_20 : decode cX10_heed 20 = .ok (.ifCond .eq 6, 3) := by decide +kernel
theorem dX10_heed_23 : decode cX10_heed 23 = .ok (.ldc 199, 2) := by decide +kernel
theorem dX10_heed_25 : decode cX10_heed 25 = .ok (.ireturn, 1) := by decide +kernel
theorem dX10_heed_26 : decode cX10_heed 26 = .ok (.ldc 165, 2) := by decide +kernel
theorem dX10_heed_28 : decode cX10_heed 28 = .ok (.istore_n 2, 1) := by decide +kernel
theorem dX10_heed_29 : decode cX10_heed 29 = .ok (.ldc 165, 2) := by decide +kernel
theorem dX10_heed_31 : decode cX10_heed 31 = .ok (.istore_n 3, 1) := by decide +kernel
theorem dX10_heed_32 : decode cX10_heed 32 = .ok (.iconst 0, 1) := by decide +kernel
theorem dX10_heed_33 : decode cX10_heed 33 = .ok (.istore 4, 2) := by decide +kernel
theorem dX10_heed_35 : decode cX10_heed 35 = .ok (.iload 4, 2) := by decide +kernel
theorem dX10_heed_37 : decode cX10_heed 37 = .ok (.aload_n 0, 1) := by decide +kernel
theorem dX10_heed_38 : decode cX10_heed 38 = .ok (.getfield 25, 3) := by decide +kernel
theorem dX10_heed_41 : decode cX10_heed 41 = .ok (.iconst 4, 1) := by decide +kernel
theorem dX10_heed_42 : decode cX10_heed 42 = .ok (.iaload, 1) := by decide +kernel
theorem dX10_heed_43 : decode cX10_heed 43 = .ok (.if_icmp .ge 76, 3) := by decide +kernel
theorem dX10_heed_46 : decode cX10_heed 46 = .ok (.aload_n 0, 1) := by decide +kernel
theorem dX10_heed_47 : decode cX10_heed 47 = .ok (.invokevirtual 205, 3) := by decide +kernel
theorem dX10_heed_50 : decode cX10_heed 50 = .ok (.aload_n 0, 1) := by decide +kernel
theorem dX10_heed_51 : decode cX10_heed 51 = .ok (.getfield 50, 3) := by decide +kernel
theorem dX10_heed_54 : decode cX10_heed 54 = .ok (.bipush 11, 2) := by decide +kernel
theorem dX10_heed_56 : decode cX10_heed 56 = .ok (.iload_n 1, 1) := by decide +kernel
theorem dX10_heed_57 : decode cX10_heed 57 = .ok (.iadd, 1) := by decide +kernel
theorem dX10_heed_58 : decode cX10_heed 58 = .ok (.iload 4, 2) := by decide +kernel
theorem dX10_heed_60 : decode cX10_heed 60 = .ok (.iastore, 1) := by decide +kernel
theorem dX10_heed_61 : decode cX10_heed 61 = .ok (.aload_n 0, 1) := by decide +kernel
theorem dX10_heed_62 : decode cX10_heed 62 = .ok (.sipush 200, 3) := by decide +kernel
theorem dX10_heed_65 : decode cX10_heed 65 = .ok (.invokevirtual 208, 3) := by decide +kernel
theorem dX10_heed_68 : decode cX10_heed 68 = .ok (.aload_n 0, 1) := by decide +kernel
theorem dX10_heed_69 : decode cX10_heed 69 = .ok (.getfield 50, 3) := by decide +kernel
theorem dX10_heed_72 : decode cX10_heed 72 = .ok (.bipush 17, 2) := by decide +kernel
theorem dX10_heed_74 : decode cX10_heed 74 = .ok (.iload_n 1, 1) := by decide +kernel
theorem dX10_heed_75 : decode cX10_heed 75 = .ok (.iadd, 1) := by decide +kernel
theorem dX10_heed_76 : decode cX10_heed 76 = .ok (.iaload, 1) := by decide +kernel
theorem dX10_heed_77 : decode cX10_heed 77 = .ok (.iconst 1, 1) := by decide +kernel
theorem dX10_heed_78 : decode cX10_heed 78 = .ok (.if_icmp .ne 35, 3) := by decide +kernel
theorem dX10_heed_81 : decode cX10_heed 81 = .ok (.iload_n 3, 1) := by decide +kernel
theorem dX10_heed_82 : decode cX10_heed 82 = .ok (.ldc 165, 2) := by decide +kernel
theorem dX10_heed_84 : decode cX10_heed 84 = .ok (.if_icmp .eq 16, 3) := by decide +kernel
theorem dX10_heed_87 : decode cX10_heed 87 = .ok (.aload_n 0, 1) := by decide +kernel
theorem dX10_heed_88 : decode cX10_heed 88 = .ok (.getfield 50, 3) := by decide +kernel
theorem dX10_heed_91 : decode cX10_heed 91 = .ok (.bipush 23, 2) := by decide +kernel
theorem dX10_heed_93 : decode cX10_heed 93 = .ok (.iload_n 1, 1) := by decide +kernel
theorem dX10_heed_94 : decode cX10_heed 94 = .ok (.iadd, 1) := by decide +kernel
theorem dX10_heed_95 : decode cX10_heed 95 = .ok (.iaload, 1) := by decide +kernel
theorem dX10_heed_96 : decode cX10_heed 96 = .ok (.iload_n 3, 1) := by decide +kernel
theorem dX10_heed_97 : decode cX10_heed 97 = .ok (.if_icmp .ge 16, 3) := by decide +kernel
theorem dX10_heed_100 : decode cX10_heed 100 = .ok (.iload 4, 2) := by decide +kernel
theorem dX10_heed_102 : decode cX10_heed 102 = .ok (.istore_n 2, 1) := by decide +kernel
theorem dX10_heed_103 : decode cX10_heed 103 = .ok (.aload_n 0, 1) := by decide +kernel
theorem dX10_heed_104 : decode cX10_heed 104 = .ok (.getfield 50, 3) := by decide +kernel
theorem dX10_heed_107 : decode cX10_heed 107 = .ok (.bipush 23, 2) := by decide +kernel
theorem dX10_heed_109 : decode cX10_heed 109 = .ok (.iload_n 1, 1) := by decide +kernel
theorem dX10_heed_110 : decode cX10_heed 110 = .ok (.iadd, 1) := by decide +kernel
theorem dX10_heed_111 : decode cX10_heed 111 = .ok (.iaload, 1) := by decide +kernel
theorem dX10_heed_112 : decode cX10_heed 112 = .ok (.istore_n 3, 1) := by decide +kernel
theorem dX10_heed_113 : decode cX10_heed 113 = .ok (.iinc 4 1, 3) := by decide +kernel
theorem dX10_heed_116 : decode cX10_heed 116 = .ok (.goto (-81), 3) := by decide +kernel
theorem dX10_heed_119 : decode cX10_heed 119 = .ok (.iload_n 2, 1) := by decide +kernel
theorem dX10_heed_120 : decode cX10_heed 120 = .ok (.ireturn, 1) := by decide +kernel
theorem dX10_callers_0 : decode cX10_callers 0 = .ok (.iconst 0, 1) := by decide +kernel
theorem dX10_callers_1 : decode cX10_callers 1 = .ok (.istore_n 1, 1) := by decide +kernel
theorem dX10_callers_2 : decode cX10_callers 2 = .ok (.iconst 0, 1) := by decide +kernel
theorem dX10_callers_3 : decode cX10_callers 3 = .ok (.istore_n 2, 1) := by decide +kernel
theorem dX10_callers_4 : decode cX10_callers 4 = .ok (.iload_n 2, 1) := by decide +kernel
theorem dX10_callers_5 : decode cX10_callers 5 = .ok (.aload_n 0, 1) := by decide +kernel
theorem dX10_callers_6 : decode cX10_callers 6 = .ok (.getfield 25, 3) := by decide +kernel
theorem dX10_callers_9 : decode cX10_callers 9 = .ok (.iconst 4, 1) := by decide +kernel
theorem dX10_callers_10 : decode cX10_callers 10 = .ok (.iaload, 1) := by decide +kernel
theorem dX10_callers_11 : decode cX10_callers 11 = .ok (.if_icmp .ge 59, 3) := by decide +kernel
theorem dX10_callers_14 : decode cX10_callers 14 = .ok (.iload_n 1, 1) := by decide +kernel
theorem dX10_callers_15 : decode cX10_callers 15 = .ok (.aload_n 0, 1) := by decide +kernel
theorem dX10_callers_16 : decode cX10_callers 16 = .ok (.getfield 50, 3) := by decide +kernel
theorem dX10_callers_19 : decode cX10_callers 19 = .ok (.iconst 2, 1) := by decide +kernel
theorem dX10_callers_20 : decode cX10_callers 20 = .ok (.iload_n 2, 1) := by decide +kernel
theorem dX10_callers_21 : decode cX10_callers 21 = .ok (.iadd, 1) := by decide +kernel
theorem dX10_callers_22 : decode cX10_callers 22 = .ok (.iaload, 1) := by decide +kernel
theorem dX10_callers_23 : decode cX10_callers 23 = .ok (.aload_n 0, 1) := by decide +kernel
theorem dX10_callers_24 : decode cX10_callers 24 = .ok (.getfield 25, 3) := by decide +kernel
theorem dX10_callers_27 : decode cX10_callers 27 = .ok (.bipush 46, 2) := by decide +kernel
theorem dX10_callers_29 : decode cX10_callers 29 = .ok (.iload_n 2, 1) := by decide +kernel
theorem dX10_callers_30 : decode cX10_callers 30 = .ok (.iadd, 1) := by decide +kernel
theorem dX10_callers_31 : decode cX10_callers 31 = .ok (.iaload, 1) := by decide +kernel
theorem dX10_callers_32 : decode cX10_callers 32 = .ok (.aload_n 0, 1) := by decide +kernel
theorem dX10_callers_33 : decode cX10_callers 33 = .ok (.aload_n 0, 1) := by decide +kernel
theorem dX10_callers_34 : decode cX10_callers 34 = .ok (.getfield 50, 3) := by decide +kernel
theorem dX10_callers_37 : decode cX10_callers 37 = .ok (.iconst 0, 1) := by decide +kernel
theorem dX10_callers_38 : decode cX10_callers 38 = .ok (.iaload, 1) := by decide +kernel
theorem dX10_callers_39 : decode cX10_callers 39 = .ok (.invokevirtual 176, 3) := by decide +kernel
theorem dX10_callers_42 : decode cX10_callers 42 = .ok (.invokestatic 186, 3) := by decide +kernel
theorem dX10_callers_45 : decode cX10_callers 45 = .ok (.aload_n 0, 1) := by decide +kernel
theorem dX10_callers_46 : decode cX10_callers 46 = .ok (.getfield 50, 3) := by decide +kernel
theorem dX10_callers_49 : decode cX10_callers 49 = .ok (.iconst 1, 1) := by decide +kernel
theorem dX10_callers_50 : decode cX10_callers 50 = .ok (.iaload, 1) := by decide +kernel
theorem dX10_callers_51 : decode cX10_callers 51 = .ok (.invokestatic 189, 3) := by decide +kernel
theorem dX10_callers_54 : decode cX10_callers 54 = .ok (.ifCond .eq 7, 3) := by decide +kernel
theorem dX10_callers_57 : decode cX10_callers 57 = .ok (.iconst 1, 1) := by decide +kernel
theorem dX10_callers_58 : decode cX10_callers 58 = .ok (.goto 4, 3) := by decide +kernel
theorem dX10_callers_61 : decode cX10_callers 61 = .ok (.iconst 0, 1) := by decide +kernel
theorem dX10_callers_62 : decode cX10_callers 62 = .ok (.iadd, 1) := by decide +kernel
theorem dX10_callers_63 : decode cX10_callers 63 = .ok (.istore_n 1, 1) := by decide +kernel
theorem dX10_callers_64 : decode cX10_callers 64 = .ok (.iinc 2 1, 3) := by decide +kernel
theorem dX10_callers_67 : decode cX10_callers 67 = .ok (.goto (-63), 3) := by decide +kernel
theorem dX10_callers_70 : decode cX10_callers 70 = .ok (.iload_n 1, 1) := by decide +kernel
theorem dX10_callers_71 : decode cX10_callers 71 = .ok (.ireturn, 1) := by decide +kernel
theorem dX10_agreed_0 : decode cX10_agreed 0 = .ok (.aload_n 0, 1) := by decide +kernel
theorem dX10_agreed_1 : decode cX10_agreed 1 = .ok (.invokevirtual 196, 3) := by decide +kernel
theorem dX10_agreed_4 : decode cX10_agreed 4 = .ok (.ifCond .ne 6, 3) := by decide +kernel
theorem dX10_agreed_7 : decode cX10_agreed 7 = .ok (.ldc 199, 2) := by decide +kernel
theorem dX10_agreed_9 : decode cX10_agreed 9 = .ok (.ireturn, 1) := by decide +kernel
theorem dX10_agreed_10 : decode cX10_agreed 10 = .ok (.iload_n 1, 1) := by decide +kernel
theorem dX10_agreed_11 : decode cX10_agreed 11 = .ok (.i2l, 1) := by decide +kernel
theorem dX10_agreed_12 : decode cX10_agreed 12 = .ok (.lconst 1, 1) := by decide +kernel
theorem dX10_agreed_13 : decode cX10_agreed 13 = .ok (.ldc2_w 241, 3) := by decide +kernel
theorem dX10_agreed_16 : decode cX10_agreed 16 = .ok (.invokestatic 64, 3) := by decide +kernel
theorem dX10_agreed_19 : decode cX10_agreed 19 = .ok (.ifCond .eq 13, 3) := by decide +kernel
theorem dX10_agreed_22 : decode cX10_agreed 22 = .ok (.iload_n 2, 1) := by decide +kernel
theorem dX10_agreed_23 : decode cX10_agreed 23 = .ok (.i2l, 1) := by decide +kernel
theorem dX10_agreed_24 : decode cX10_agreed 24 = .ok (.lconst 0, 1) := by decide +kernel
theorem dX10_agreed_25 : decode cX10_agreed 25 = .ok (.lconst 1, 1) := by decide +kernel
theorem dX10_agreed_26 : decode cX10_agreed 26 = .ok (.invokestatic 64, 3) := by decide +kernel
theorem dX10_agreed_29 : decode cX10_agreed 29 = .ok (.ifCond .ne 6, 3) := by decide +kernel
theorem dX10_agreed_32 : decode cX10_agreed 32 = .ok (.ldc 79, 2) := by decide +kernel
theorem dX10_agreed_34 : decode cX10_agreed 34 = .ok (.ireturn, 1) := by decide +kernel
theorem dX10_agreed_35 : decode cX10_agreed 35 = .ok (.aload_n 0, 1) := by decide +kernel
theorem dX10_agreed_36 : decode cX10_agreed 36 = .ok (.invokevirtual 205, 3) := by decide +kernel
theorem dX10_agreed_39 : decode cX10_agreed 39 = .ok (.iconst 0, 1) := by decide +kernel
theorem dX10_agreed_40 : decode cX10_agreed 40 = .ok (.istore_n 3, 1) := by decide +kernel
theorem dX10_agreed_41 : decode cX10_agreed 41 = .ok (.ldc 165, 2) := by decide +kernel
theorem dX10_agreed_43 : decode cX10_agreed 43 = .ok (.istore 4, 2) := by decide +kernel
theorem dX10_agreed_45 : decode cX10_agreed 45 = .ok (.iconst 0, 1) := by decide +kernel
theorem dX10_agreed_46 : decode cX10_agreed 46 = .ok (.istore 5, 2) := by decide +kernel
theorem dX10_agreed_48 : decode cX10_agreed 48 = .ok (.iload 5, 2) := by decide +kernel
theorem dX10_agreed_50 : decode cX10_agreed 50 = .ok (.iload_n 1, 1) := by decide +kernel
theorem dX10_agreed_51 : decode cX10_agreed 51 = .ok (.if_icmp .ge 67, 3) := by decide +kernel
theorem dX10_agreed_54 : decode cX10_agreed 54 = .ok (.aload_n 0, 1) := by decide +kernel
theorem dX10_agreed_55 : decode cX10_agreed 55 = .ok (.invokevirtual 250, 3) := by decide +kernel
theorem dX10_agreed_58 : decode cX10_agreed 58 = .ok (.iconst 1, 1) := by decide +kernel
theorem dX10_agreed_59 : decode cX10_agreed 59 = .ok (.if_icmp .le 7, 3) := by decide +kernel
theorem dX10_agreed_62 : decode cX10_agreed 62 = .ok (.iconst 1, 1) := by decide +kernel
theorem dX10_agreed_63 : decode cX10_agreed 63 = .ok (.goto 4, 3) := by decide +kernel
theorem dX10_agreed_66 : decode cX10_agreed 66 = .ok (.iconst 0, 1) := by decide +kernel
theorem dX10_agreed_67 : decode cX10_agreed 67 = .ok (.istore 6, 2) := by decide +kernel
theorem dX10_agreed_69 : decode cX10_agreed 69 = .ok (.iload_n 3, 1) := by decide +kernel
theorem dX10_agreed_70 : decode cX10_agreed 70 = .ok (.iload 6, 2) := by decide +kernel
theorem dX10_agreed_72 : decode cX10_agreed 72 = .ok (.ifCond .eq 7, 3) := by decide +kernel
theorem dX10_agreed_75 : decode cX10_agreed 75 = .ok (.iconst 1, 1) := by decide +kernel
theorem dX10_agreed_76 : decode cX10_agreed 76 = .ok (.goto 4, 3) := by decide +kernel
theorem dX10_agreed_79 : decode cX10_agreed 79 = .ok (.iconst 0, 1) := by decide +kernel
theorem dX10_agreed_80 : decode cX10_agreed 80 = .ok (.iadd, 1) := by decide +kernel
theorem dX10_agreed_81 : decode cX10_agreed 81 = .ok (.istore_n 3, 1) := by decide +kernel
theorem dX10_agreed_82 : decode cX10_agreed 82 = .ok (.iload 6, 2) := by decide +kernel
theorem dX10_agreed_84 : decode cX10_agreed 84 = .ok (.ifCond .eq 19, 3) := by decide +kernel
theorem dX10_agreed_87 : decode cX10_agreed 87 = .ok (.iload 4, 2) := by decide +kernel
theorem dX10_agreed_89 : decode cX10_agreed 89 = .ok (.ldc 165, 2) := by decide +kernel
theorem dX10_agreed_91 : decode cX10_agreed 91 = .ok (.if_icmp .ne 12, 3) := by decide +kernel
theorem dX10_agreed_94 : decode cX10_agreed 94 = .ok (.aload_n 0, 1) := by decide +kernel
theorem dX10_agreed_95 : decode cX10_agreed 95 = .ok (.getfield 50, 3) := by decide +kernel
theorem dX10_agreed_98 : decode cX10_agreed 98 = .ok (.iconst 0, 1) := by decide +kernel
theorem dX10_agreed_99 : decode cX10_agreed 99 = .ok (.iaload, 1) := by decide +kernel
theorem dX10_agreed_100 : decode cX10_agreed 100 = .ok (.goto 5, 3) := by decide +kernel
theorem dX10_agreed_103 : decode cX10_agreed 103 = .ok (.iload 4, 2) := by decide +kernel
theorem dX10_agreed_105 : decode cX10_agreed 105 = .ok (.istore 4, 2) := by decide +kernel
theorem dX10_agreed_107 : decode cX10_agreed 107 = .ok (.aload_n 0, 1) := by decide +kernel
theorem dX10_agreed_108 : decode cX10_agreed 108 = .ok (.iconst 1, 1) := by decide +kernel
theorem dX10_agreed_109 : decode cX10_agreed 109 = .ok (.invokevirtual 208, 3) := by decide +kernel
theorem dX10_agreed_112 : decode cX10_agreed 112 = .ok (.iinc 5 1, 3) := by decide +kernel
theorem dX10_agreed_115 : decode cX10_agreed 115 = .ok (.goto (-67), 3) := by decide +kernel
theorem dX10_agreed_118 : decode cX10_agreed 118 = .ok (.iload_n 2, 1) := by decide +kernel
theorem dX10_agreed_119 : decode cX10_agreed 119 = .ok (.ifCond .ne 7, 3) := by decide +kernel
theorem dX10_agreed_122 : decode cX10_agreed 122 = .ok (.iload_n 3, 1) := by decide +kernel
theorem dX10_agreed_123 : decode cX10_agreed 123 = .ok (.goto 5, 3) := by decide +kernel
theorem dX10_agreed_126 : decode cX10_agreed 126 = .ok (.iload 4, 2) := by decide +kernel
theorem dX10_agreed_128 : decode cX10_agreed 128 = .ok (.ireturn, 1) := by decide +kernel
theorem dX10_hasCalled_0 : decode cX10_hasCalled 0 = .ok (.iload_n 1, 1) := by decide +kernel
theorem dX10_hasCalled_1 : decode cX10_hasCalled 1 = .ok (.istore 5, 2) := by decide +kernel
theorem dX10_hasCalled_3 : decode cX10_hasCalled 3 = .ok (.iconst 0, 1) := by decide +kernel
theorem dX10_hasCalled_4 : decode cX10_hasCalled 4 = .ok (.istore 6, 2) := by decide +kernel
theorem dX10_hasCalled_6 : decode cX10_hasCalled 6 = .ok (.aload_n 0, 1) := by decide +kernel
theorem dX10_hasCalled_7 : decode cX10_hasCalled 7 = .ok (.getfield 16, 3) := by decide +kernel
theorem dX10_hasCalled_10 : decode cX10_hasCalled 10 = .ok (.iload_n 3, 1) := by decide +kernel
theorem dX10_hasCalled_11 : decode cX10_hasCalled 11 = .ok (.iload 4, 2) := by decide +kernel
theorem dX10_hasCalled_13 : decode cX10_hasCalled 13 = .ok (.iadd, 1) := by decide +kernel
theorem dX10_hasCalled_14 : decode cX10_hasCalled 14 = .ok (.iconst 1, 1) := by decide +kernel
theorem dX10_hasCalled_15 : decode cX10_hasCalled 15 = .ok (.isub, 1) := by decide +kernel
theorem dX10_hasCalled_16 : decode cX10_hasCalled 16 = .ok (.iaload, 1) := by decide +kernel
theorem dX10_hasCalled_17 : decode cX10_hasCalled 17 = .ok (.istore 7, 2) := by decide +kernel
theorem dX10_hasCalled_19 : decode cX10_hasCalled 19 = .ok (.iconst 1, 1) := by decide +kernel
theorem dX10_hasCalled_20 : decode cX10_hasCalled 20 = .ok (.istore 8, 2) := by decide +kernel
theorem dX10_hasCalled_22 : decode cX10_hasCalled 22 = .ok (.iconst 0, 1) := by decide +kernel
theorem dX10_hasCalled_23 : decode cX10_hasCalled 23 = .ok (.istore 9, 2) := by decide +kernel
theorem dX10_hasCalled_25 : decode cX10_hasCalled 25 = .ok (.iload 9, 2) := by decide +kernel
theorem dX10_hasCalled_27 : decode cX10_hasCalled 27 = .ok (.iload 7, 2) := by decide +kernel
theorem dX10_hasCalled_29 : decode cX10_hasCalled 29 = .ok (.if_icmp .gt 103, 3) := by decide +kernel
theorem dX10_hasCalled_32 : decode cX10_hasCalled 32 = .ok (.iload 8, 2) := by decide +kernel
theorem dX10_hasCalled_34 : decode cX10_hasCalled 34 = .ok (.ifCond .eq 98, 3) := by decide +kernel
theorem dX10_hasCalled_37 : decode cX10_hasCalled 37 = .ok (.iload_n 2, 1) := by decide +kernel
theorem dX10_hasCalled_38 : decode cX10_hasCalled 38 = .ok (.aload_n 0, 1) := by decide +kernel
theorem dX10_hasCalled_39 : decode cX10_hasCalled 39 = .ok (.iload 9, 2) := by decide +kernel
theorem dX10_hasCalled_41 : decode cX10_hasCalled 41 = .ok (.invokevirtual 176, 3) := by decide +kernel
theorem dX10_hasCalled_44 : decode cX10_hasCalled 44 = .ok (.invokestatic 186, 3) := by decide +kernel
theorem dX10_hasCalled_47 : decode cX10_hasCalled 47 = .ok (.istore 10, 2) := by decide +kernel
theorem dX10_hasCalled_49 : decode cX10_hasCalled 49 = .ok (.aload_n 0, 1) := by decide +kernel
theorem dX10_hasCalled_50 : decode cX10_hasCalled 50 = .ok (.getfield 16, 3) := by decide +kernel
theorem dX10_hasCalled_53 : decode cX10_hasCalled 53 = .ok (.iload_n 3, 1) := by decide +kernel
theorem dX10_hasCalled_54 : decode cX10_hasCalled 54 = .ok (.iload 6, 2) := by decide +kernel
theorem dX10_hasCalled_56 : decode cX10_hasCalled 56 = .ok (.iadd, 1) := by decide +kernel
theorem dX10_hasCalled_57 : decode cX10_hasCalled 57 = .ok (.iaload, 1) := by decide +kernel
theorem dX10_hasCalled_58 : decode cX10_hasCalled 58 = .ok (.iload 9, 2) := by decide +kernel
theorem dX10_hasCalled_60 : decode cX10_hasCalled 60 = .ok (.if_icmp .ne 7, 3) := by decide +kernel
theorem dX10_hasCalled_63 : decode cX10_hasCalled 63 = .ok (.iconst 1, 1) := by decide +kernel
theorem dX10_hasCalled_64 : decode cX10_hasCalled 64 = .ok (.goto 4, 3) := by decide +kernel
theorem dX10_hasCalled_67 : decode cX10_hasCalled 67 = .ok (.iconst 0, 1) := by decide +kernel
theorem dX10_hasCalled_68 : decode cX10_hasCalled 68 = .ok (.istore 11, 2) := by decide +kernel
theorem dX10_hasCalled_70 : decode cX10_hasCalled 70 = .ok (.iload 5, 2) := by decide +kernel
theorem dX10_hasCalled_72 : decode cX10_hasCalled 72 = .ok (.iload 10, 2) := by decide +kernel
theorem dX10_hasCalled_74 : decode cX10_hasCalled 74 = .ok (.aload_n 0, 1) := by decide +kernel
theorem dX10_hasCalled_75 : decode cX10_hasCalled 75 = .ok (.getfield 28, 3) := by decide +kernel
theorem dX10_hasCalled_78 : decode cX10_hasCalled 78 = .ok (.iconst 1, 1) := by decide +kernel
theorem dX10_hasCalled_79 : decode cX10_hasCalled 79 = .ok (.iaload, 1) := by decide +kernel
theorem dX10_hasCalled_80 : decode cX10_hasCalled 80 = .ok (.invokestatic 189, 3) := by decide +kernel
theorem dX10_hasCalled_83 : decode cX10_hasCalled 83 = .ok (.iload 11, 2) := by decide +kernel
theorem dX10_hasCalled_85 : decode cX10_hasCalled 85 = .ok (.if_icmp .ne 7, 3) := by decide +kernel
theorem dX10_hasCalled_88 : decode cX10_hasCalled 88 = .ok (.iconst 1, 1) := by decide +kernel
theorem dX10_hasCalled_89 : decode cX10_hasCalled 89 = .ok (.goto 4, 3) := by decide +kernel
theorem dX10_hasCalled_92 : decode cX10_hasCalled 92 = .ok (.iconst 0, 1) := by decide +kernel
theorem dX10_hasCalled_93 : decode cX10_hasCalled 93 = .ok (.istore 8, 2) := by decide +kernel
theorem dX10_hasCalled_95 : decode cX10_hasCalled 95 = .ok (.iload 6, 2) := by decide +kernel
theorem dX10_hasCalled_97 : decode cX10_hasCalled 97 = .ok (.iload 11, 2) := by decide +kernel
theorem dX10_hasCalled_99 : decode cX10_hasCalled 99 = .ok (.ifCond .eq 16, 3) := by decide +kernel
theorem dX10_hasCalled_102 : decode cX10_hasCalled 102 = .ok (.iload 6, 2) := by decide +kernel
theorem dX10_hasCalled_104 : decode cX10_hasCalled 104 = .ok (.iload 4, 2) := by decide +kernel
theorem dX10_hasCalled_106 : decode cX10_hasCalled 106 = .ok (.iconst 1, 1) := by decide +kernel
theorem dX10_hasCalled_107 : decode cX10_hasCalled 107 = .ok (.isub, 1) := by decide +kernel
theorem dX10_hasCalled_108 : decode cX10_hasCalled 108 = .ok (.if_icmp .ge 7, 3) := by decide +kernel
theorem dX10_hasCalled_111 : decode cX10_hasCalled 111 = .ok (.iconst 1, 1) := by decide +kernel
theorem dX10_hasCalled_112 : decode cX10_hasCalled 112 = .ok (.goto 4, 3) := by decide +kernel
theorem dX10_hasCalled_115 : decode cX10_hasCalled 115 = .ok (.iconst 0, 1) := by decide +kernel
theorem dX10_hasCalled_116 : decode cX10_hasCalled 116 = .ok (.iadd, 1) := by decide +kernel
theorem dX10_hasCalled_117 : decode cX10_hasCalled 117 = .ok (.istore 6, 2) := by decide +kernel
theorem dX10_hasCalled_119 : decode cX10_hasCalled 119 = .ok (.iload 5, 2) := by decide +kernel
theorem dX10_hasCalled_121 : decode cX10_hasCalled 121 = .ok (.iload 10, 2) := by decide +kernel
theorem dX10_hasCalled_123 : decode cX10_hasCalled 123 = .ok (.iadd, 1) := by decide +kernel
theorem dX10_hasCalled_124 : decode cX10_hasCalled 124 = .ok (.istore 5, 2) := by decide +kernel
theorem dX10_hasCalled_126 : decode cX10_hasCalled 126 = .ok (.iinc 9 1, 3) := by decide +kernel
theorem dX10_hasCalled_129 : decode cX10_hasCalled 129 = .ok (.goto (-104), 3) := by decide +kernel
theorem dX10_hasCalled_132 : decode cX10_hasCalled 132 = .ok (.iload 8, 2) := by decide +kernel
theorem dX10_hasCalled_134 : decode cX10_hasCalled 134 = .ok (.ireturn, 1) := by decide +kernel
theorem dX10_log_0 : decode cX10_log 0 = .ok (.aload_n 0, 1) := by decide +kernel
theorem dX10_log_1 : decode cX10_log 1 = .ok (.invokevirtual 196, 3) := by decide +kernel
theorem dX10_log_4 : decode cX10_log 4 = .ok (.ifCond .ne 6, 3) := by decide +kernel
theorem dX10_log_7 : decode cX10_log 7 = .ok (.ldc 199, 2) := by decide +kernel
theorem dX10_log_9 : decode cX10_log 9 = .ok (.ireturn, 1) := by decide +kernel
theorem dX10_log_10 : decode cX10_log 10 = .ok (.iload_n 1, 1) := by decide +kernel
theorem dX10_log_11 : decode cX10_log 11 = .ok (.invokestatic 73, 3) := by decide +kernel
theorem dX10_log_14 : decode cX10_log 14 = .ok (.ifCond .eq 26, 3) := by decide +kernel
theorem dX10_log_17 : decode cX10_log 17 = .ok (.iload_n 3, 1) := by decide +kernel
theorem dX10_log_18 : decode cX10_log 18 = .ok (.i2l, 1) := by decide +kernel
theorem dX10_log_19 : decode cX10_log 19 = .ok (.lconst 1, 1) := by decide +kernel
theorem dX10_log_20 : decode cX10_log 20 = .ok (.ldc2_w 254, 3) := by decide +kernel
theorem dX10_log_23 : decode cX10_log 23 = .ok (.invokestatic 64, 3) := by decide +kernel
theorem dX10_log_26 : decode cX10_log 26 = .ok (.ifCond .eq 14, 3) := by decide +kernel
theorem dX10_log_29 : decode cX10_log 29 = .ok (.iload 4, 2) := by decide +kernel
theorem dX10_log_31 : decode cX10_log 31 = .ok (.i2l, 1) := by decide +kernel
theorem dX10_log_32 : decode cX10_log 32 = .ok (.lconst 0, 1) := by decide +kernel
theorem dX10_log_33 : decode cX10_log 33 = .ok (.lconst 1, 1) := by decide +kernel
theorem dX10_log_34 : decode cX10_log 34 = .ok (.invokestatic 64, 3) := by decide +kernel
theorem dX10_log_37 : decode cX10_log 37 = .ok (.ifCond .ne 6, 3) := by decide +kernel
theorem dX10_log_40 : decode cX10_log 40 = .ok (.ldc 79, 2) := by decide +kernel
theorem dX10_log_42 : decode cX10_log 42 = .ok (.ireturn, 1) := by decide +kernel
theorem dX10_log_43 : decode cX10_log 43 = .ok (.aload_n 0, 1) := by decide +kernel
theorem dX10_log_44 : decode cX10_log 44 = .ok (.getfield 7, 3) := by decide +kernel
theorem dX10_log_47 : decode cX10_log 47 = .ok (.iload_n 1, 1) := by decide +kernel
theorem dX10_log_48 : decode cX10_log 48 = .ok (.iaload, 1) := by decide +kernel
theorem dX10_log_49 : decode cX10_log 49 = .ok (.ifCond .ge 9, 3) := by decide +kernel
theorem dX10_log_52 : decode cX10_log 52 = .ok (.aload_n 0, 1) := by decide +kernel
theorem dX10_log_53 : decode cX10_log 53 = .ok (.iconst 1, 1) := by decide +kernel
theorem dX10_log_54 : decode cX10_log 54 = .ok (.invokevirtual 80, 3) := by decide +kernel
theorem dX10_log_57 : decode cX10_log 57 = .ok (.ireturn, 1) := by decide +kernel
theorem dX10_log_58 : decode cX10_log 58 = .ok (.iload_n 2, 1) := by decide +kernel
theorem dX10_log_59 : decode cX10_log 59 = .ok (.ifCond .lt 19, 3) := by decide +kernel
theorem dX10_log_62 : decode cX10_log 62 = .ok (.iload_n 2, 1) := by decide +kernel
theorem dX10_log_63 : decode cX10_log 63 = .ok (.i2l, 1) := by decide +kernel
theorem dX10_log_64 : decode cX10_log 64 = .ok (.iload_n 3, 1) := by decide +kernel
theorem dX10_log_65 : decode cX10_log 65 = .ok (.i2l, 1) := by decide +kernel
theorem dX10_log_66 : decode cX10_log 66 = .ok (.ladd, 1) := by decide +kernel
theorem dX10_log_67 : decode cX10_log 67 = .ok (.aload_n 0, 1) := by decide +kernel
theorem dX10_log_68 : decode cX10_log 68 = .ok (.getfield 13, 3) := by decide +kernel
theorem dX10_log_71 : decode cX10_log 71 = .ok (.iload_n 1, 1) := by decide +kernel
theorem dX10_log_72 : decode cX10_log 72 = .ok (.iaload, 1) := by decide +kernel
theorem dX10_log_73 : decode cX10_log 73 = .ok (.i2l, 1) := by decide +kernel
theorem dX10_log_74 : decode cX10_log 74 = .ok (.lcmp, 1) := by decide +kernel
theorem dX10_log_75 : decode cX10_log 75 = .ok (.ifCond .le 9, 3) := by decide +kernel
theorem dX10_log_78 : decode cX10_log 78 = .ok (.aload_n 0, 1) := by decide +kernel
theorem dX10_log_79 : decode cX10_log 79 = .ok (.iconst 2, 1) := by decide +kernel
theorem dX10_log_80 : decode cX10_log 80 = .ok (.invokevirtual 80, 3) := by decide +kernel
theorem dX10_log_83 : decode cX10_log 83 = .ok (.ireturn, 1) := by decide +kernel
theorem dX10_log_84 : decode cX10_log 84 = .ok (.bipush 40, 2) := by decide +kernel
theorem dX10_log_86 : decode cX10_log 86 = .ok (.iload_n 1, 1) := by decide +kernel
theorem dX10_log_87 : decode cX10_log 87 = .ok (.imul, 1) := by decide +kernel
theorem dX10_log_88 : decode cX10_log 88 = .ok (.iload_n 2, 1) := by decide +kernel
theorem dX10_log_89 : decode cX10_log 89 = .ok (.iadd, 1) := by decide +kernel
theorem dX10_log_90 : decode cX10_log 90 = .ok (.istore 5, 2) := by decide +kernel
theorem dX10_log_92 : decode cX10_log 92 = .ok (.iconst 0, 1) := by decide +kernel
theorem dX10_log_93 : decode cX10_log 93 = .ok (.istore 6, 2) := by decide +kernel
theorem dX10_log_95 : decode cX10_log 95 = .ok (.iload 6, 2) := by decide +kernel
theorem dX10_log_97 : decode cX10_log 97 = .ok (.iload_n 3, 1) := by decide +kernel
theorem dX10_log_98 : decode cX10_log 98 = .ok (.if_icmp .ge 56, 3) := by decide +kernel
theorem dX10_log_101 : decode cX10_log 101 = .ok (.aload_n 0, 1) := by decide +kernel
theorem dX10_log_102 : decode cX10_log 102 = .ok (.getfield 16, 3) := by decide +kernel
theorem dX10_log_105 : decode cX10_log 105 = .ok (.iload 5, 2) := by decide +kernel
theorem dX10_log_107 : decode cX10_log 107 = .ok (.iload 6, 2) := by decide +kernel
theorem dX10_log_109 : decode cX10_log 109 = .ok (.iadd, 1) := by decide +kernel
theorem dX10_log_110 : decode cX10_log 110 = .ok (.iaload, 1) := by decide +kernel
theorem dX10_log_111 : decode cX10_log 111 = .ok (.i2l, 1) := by decide +kernel
theorem dX10_log_112 : decode cX10_log 112 = .ok (.iload 6, 2) := by decide +kernel
theorem dX10_log_114 : decode cX10_log 114 = .ok (.ifCond .ne 7, 3) := by decide +kernel
theorem dX10_log_117 : decode cX10_log 117 = .ok (.lconst 0, 1) := by decide +kernel
theorem dX10_log_118 : decode cX10_log 118 = .ok (.goto 18, 3) := by decide +kernel
theorem dX10_log_121 : decode cX10_log 121 = .ok (.aload_n 0, 1) := by decide +kernel
theorem dX10_log_122 : decode cX10_log 122 = .ok (.getfield 16, 3) := by decide +kernel
theorem dX10_log_125 : decode cX10_log 125 = .ok (.iload 5, 2) := by decide +kernel
theorem dX10_log_127 : decode cX10_log 127 = .ok (.iload 6, 2) := by decide +kernel
theorem dX10_log_129 : decode cX10_log 129 = .ok (.iadd, 1) := by decide +kernel
theorem dX10_log_130 : decode cX10_log 130 = .ok (.iconst 1, 1) := by decide +kernel
theorem dX10_log_131 : decode cX10_log 131 = .ok (.isub, 1) := by decide +kernel
theorem dX10_log_132 : decode cX10_log 132 = .ok (.iaload, 1) := by decide +kernel
theorem dX10_log_133 : decode cX10_log 133 = .ok (.i2l, 1) := by decide +kernel
theorem dX10_log_134 : decode cX10_log 134 = .ok (.lconst 1, 1) := by decide +kernel
theorem dX10_log_135 : decode cX10_log 135 = .ok (.ladd, 1) := by decide +kernel
theorem dX10_log_136 : decode cX10_log 136 = .ok (.ldc2_w 256, 3) := by decide +kernel
theorem dX10_log_139 : decode cX10_log 139 = .ok (.invokestatic 64, 3) := by decide +kernel
theorem dX10_log_142 : decode cX10_log 142 = .ok (.ifCond .ne 6, 3) := by decide +kernel
theorem dX10_log_145 : decode cX10_log 145 = .ok (.ldc 79, 2) := by decide +kernel
theorem dX10_log_147 : decode cX10_log 147 = .ok (.ireturn, 1) := by decide +kernel
theorem dX10_log_148 : decode cX10_log 148 = .ok (.iinc 6 1, 3) := by decide +kernel
theorem dX10_log_151 : decode cX10_log 151 = .ok (.goto (-56), 3) := by decide +kernel
theorem dX10_log_154 : decode cX10_log 154 = .ok (.iconst 0, 1) := by decide +kernel
theorem dX10_log_155 : decode cX10_log 155 = .ok (.istore 6, 2) := by decide +kernel
theorem dX10_log_157 : decode cX10_log 157 = .ok (.ldc 165, 2) := by decide +kernel
theorem dX10_log_159 : decode cX10_log 159 = .ok (.istore 7, 2) := by decide +kernel
theorem dX10_log_161 : decode cX10_log 161 = .ok (.iconst 0, 1) := by decide +kernel
theorem dX10_log_162 : decode cX10_log 162 = .ok (.istore 8, 2) := by decide +kernel
theorem dX10_log_164 : decode cX10_log 164 = .ok (.iload 8, 2) := by decide +kernel
theorem dX10_log_166 : decode cX10_log 166 = .ok (.bipush 72, 2) := by decide +kernel
theorem dX10_log_168 : decode cX10_log 168 = .ok (.if_icmp .ge 64, 3) := by decide +kernel
theorem dX10_log_171 : decode cX10_log 171 = .ok (.aload_n 0, 1) := by decide +kernel
theorem dX10_log_172 : decode cX10_log 172 = .ok (.iload 8, 2) := by decide +kernel
theorem dX10_log_174 : decode cX10_log 174 = .ok (.bipush 8, 2) := by decide +kernel
theorem dX10_log_176 : decode cX10_log 176 = .ok (.idiv, 1) := by decide +kernel
theorem dX10_log_177 : decode cX10_log 177 = .ok (.iload 8, 2) := by decide +kernel
theorem dX10_log_179 : decode cX10_log 179 = .ok (.bipush 8, 2) := by decide +kernel
theorem dX10_log_181 : decode cX10_log 181 = .ok (.irem, 1) := by decide +kernel
theorem dX10_log_182 : decode cX10_log 182 = .ok (.iload 5, 2) := by decide +kernel
theorem dX10_log_184 : decode cX10_log 184 = .ok (.iload_n 3, 1) := by decide +kernel
theorem dX10_log_185 : decode cX10_log 185 = .ok (.invokevirtual 258, 3) := by decide +kernel
theorem dX10_log_188 : decode cX10_log 188 = .ok (.istore 9, 2) := by decide +kernel
theorem dX10_log_190 : decode cX10_log 190 = .ok (.iload 6, 2) := by decide +kernel
theorem dX10_log_192 : decode cX10_log 192 = .ok (.iload 9, 2) := by decide +kernel
theorem dX10_log_194 : decode cX10_log 194 = .ok (.ifCond .eq 7, 3) := by decide +kernel
theorem dX10_log_197 : decode cX10_log 197 = .ok (.iconst 1, 1) := by decide +kernel
theorem dX10_log_198 : decode cX10_log 198 = .ok (.goto 4, 3) := by decide +kernel
theorem dX10_log_201 : decode cX10_log 201 = .ok (.iconst 0, 1) := by decide +kernel
theorem dX10_log_202 : decode cX10_log 202 = .ok (.iadd, 1) := by decide +kernel
theorem dX10_log_203 : decode cX10_log 203 = .ok (.istore 6, 2) := by decide +kernel
theorem dX10_log_205 : decode cX10_log 205 = .ok (.iload 9, 2) := by decide +kernel
theorem dX10_log_207 : decode cX10_log 207 = .ok (.ifCond .eq 15, 3) := by decide +kernel
theorem dX10_log_210 : decode cX10_log 210 = .ok (.iload 7, 2) := by decide +kernel
theorem dX10_log_212 : decode cX10_log 212 = .ok (.ldc 165, 2) := by decide +kernel
theorem dX10_log_214 : decode cX10_log 214 = .ok (.if_icmp .ne 8, 3) := by decide +kernel
theorem dX10_log_217 : decode cX10_log 217 = .ok (.iload 8, 2) := by decide +kernel
theorem dX10_log_219 : decode cX10_log 219 = .ok (.goto 5, 3) := by decide +kernel
theorem dX10_log_222 : decode cX10_log 222 = .ok (.iload 7, 2) := by decide +kernel
theorem dX10_log_224 : decode cX10_log 224 = .ok (.istore 7, 2) := by decide +kernel
theorem dX10_log_226 : decode cX10_log 226 = .ok (.iinc 8 1, 3) := by decide +kernel
theorem dX10_log_229 : decode cX10_log 229 = .ok (.goto (-65), 3) := by decide +kernel
theorem dX10_log_232 : decode cX10_log 232 = .ok (.aload_n 0, 1) := by decide +kernel
theorem dX10_log_233 : decode cX10_log 233 = .ok (.iload 4, 2) := by decide +kernel
theorem dX10_log_235 : decode cX10_log 235 = .ok (.ifCond .ne 8, 3) := by decide +kernel
theorem dX10_log_238 : decode cX10_log 238 = .ok (.iload 6, 2) := by decide +kernel
theorem dX10_log_240 : decode cX10_log 240 = .ok (.goto 5, 3) := by decide +kernel
theorem dX10_log_243 : decode cX10_log 243 = .ok (.iload 7, 2) := by decide +kernel
theorem dX10_log_245 : decode cX10_log 245 = .ok (.invokevirtual 84, 3) := by decide +kernel
theorem dX10_log_248 : decode cX10_log 248 = .ok (.ireturn, 1) := by decide +kernel
theorem dX10_wreck_0 : decode cX10_wreck 0 = .ok (.aload_n 0, 1) := by decide +kernel
theorem dX10_wreck_1 : decode cX10_wreck 1 = .ok (.invokevirtual 196, 3) := by decide +kernel
theorem dX10_wreck_4 : decode cX10_wreck 4 = .ok (.ifCond .ne 6, 3) := by decide +kernel
theorem dX10_wreck_7 : decode cX10_wreck 7 = .ok (.ldc 199, 2) := by decide +kernel
theorem dX10_wreck_9 : decode cX10_wreck 9 = .ok (.ireturn, 1) := by decide +kernel
theorem dX10_wreck_10 : decode cX10_wreck 10 = .ok (.iload_n 1, 1) := by decide +kernel
theorem dX10_wreck_11 : decode cX10_wreck 11 = .ok (.i2l, 1) := by decide +kernel
theorem dX10_wreck_12 : decode cX10_wreck 12 = .ok (.lconst 0, 1) := by decide +kernel
theorem dX10_wreck_13 : decode cX10_wreck 13 = .ok (.ldc2_w 262, 3) := by decide +kernel
theorem dX10_wreck_16 : decode cX10_wreck 16 = .ok (.invokestatic 64, 3) := by decide +kernel
theorem dX10_wreck_19 : decode cX10_wreck 19 = .ok (.ifCond .eq 38, 3) := by decide +kernel
theorem dX10_wreck_22 : decode cX10_wreck 22 = .ok (.iload_n 2, 1) := by decide +kernel
theorem dX10_wreck_23 : decode cX10_wreck 23 = .ok (.i2l, 1) := by decide +kernel
theorem dX10_wreck_24 : decode cX10_wreck 24 = .ok (.lconst 1, 1) := by decide +kernel
theorem dX10_wreck_25 : decode cX10_wreck 25 = .ok (.ldc2_w 262, 3) := by decide +kernel
theorem dX10_wreck_28 : decode cX10_wreck 28 = .ok (.invokestatic 64, 3) := by decide +kernel
theorem dX10_wreck_31 : decode cX10_wreck 31 = .ok (.ifCond .eq 26, 3) := by decide +kernel
theorem dX10_wreck_34 : decode cX10_wreck 34 = .ok (.iload_n 3, 1) := by decide +kernel
theorem dX10_wreck_35 : decode cX10_wreck 35 = .ok (.i2l, 1) := by decide +kernel
theorem dX10_wreck_36 : decode cX10_wreck 36 = .ok (.lconst 1, 1) := by decide +kernel
theorem dX10_wreck_37 : decode cX10_wreck 37 = .ok (.ldc2_w 241, 3) := by decide +kernel
theorem dX10_wreck_40 : decode cX10_wreck 40 = .ok (.invokestatic 64, 3) := by decide +kernel
theorem dX10_wreck_43 : decode cX10_wreck 43 = .ok (.ifCond .eq 14, 3) := by decide +kernel
theorem dX10_wreck_46 : decode cX10_wreck 46 = .ok (.iload 4, 2) := by decide +kernel
theorem dX10_wreck_48 : decode cX10_wreck 48 = .ok (.i2l, 1) := by decide +kernel
theorem dX10_wreck_49 : decode cX10_wreck 49 = .ok (.lconst 0, 1) := by decide +kernel
theorem dX10_wreck_50 : decode cX10_wreck 50 = .ok (.lconst 1, 1) := by decide +kernel
theorem dX10_wreck_51 : decode cX10_wreck 51 = .ok (.invokestatic 64, 3) := by decide +kernel
theorem dX10_wreck_54 : decode cX10_wreck 54 = .ok (.ifCond .ne 6, 3) := by decide +kernel
theorem dX10_wreck_57 : decode cX10_wreck 57 = .ok (.ldc 79, 2) := by decide +kernel
theorem dX10_wreck_59 : decode cX10_wreck 59 = .ok (.ireturn, 1) := by decide +kernel
theorem dX10_wreck_60 : decode cX10_wreck 60 = .ok (.aload_n 0, 1) := by decide +kernel
theorem dX10_wreck_61 : decode cX10_wreck 61 = .ok (.invokevirtual 205, 3) := by decide +kernel
theorem dX10_wreck_64 : decode cX10_wreck 64 = .ok (.iconst 0, 1) := by decide +kernel
theorem dX10_wreck_65 : decode cX10_wreck 65 = .ok (.istore 5, 2) := by decide +kernel
theorem dX10_wreck_67 : decode cX10_wreck 67 = .ok (.ldc 165, 2) := by decide +kernel
theorem dX10_wreck_69 : decode cX10_wreck 69 = .ok (.istore 6, 2) := by decide +kernel
theorem dX10_wreck_71 : decode cX10_wreck 71 = .ok (.iconst 0, 1) := by decide +kernel
theorem dX10_wreck_72 : decode cX10_wreck 72 = .ok (.istore 7, 2) := by decide +kernel
theorem dX10_wreck_74 : decode cX10_wreck 74 = .ok (.iload 7, 2) := by decide +kernel
theorem dX10_wreck_76 : decode cX10_wreck 76 = .ok (.iload_n 3, 1) := by decide +kernel
theorem dX10_wreck_77 : decode cX10_wreck 77 = .ok (.if_icmp .ge 84, 3) := by decide +kernel
theorem dX10_wreck_80 : decode cX10_wreck 80 = .ok (.aload_n 0, 1) := by decide +kernel
theorem dX10_wreck_81 : decode cX10_wreck 81 = .ok (.invokevirtual 250, 3) := by decide +kernel
theorem dX10_wreck_84 : decode cX10_wreck 84 = .ok (.ifCond .le 23, 3) := by decide +kernel
theorem dX10_wreck_87 : decode cX10_wreck 87 = .ok (.iload_n 1, 1) := by decide +kernel
theorem dX10_wreck_88 : decode cX10_wreck 88 = .ok (.aload_n 0, 1) := by decide +kernel
theorem dX10_wreck_89 : decode cX10_wreck 89 = .ok (.aload_n 0, 1) := by decide +kernel
theorem dX10_wreck_90 : decode cX10_wreck 90 = .ok (.getfield 50, 3) := by decide +kernel
theorem dX10_wreck_93 : decode cX10_wreck 93 = .ok (.iconst 0, 1) := by decide +kernel
theorem dX10_wreck_94 : decode cX10_wreck 94 = .ok (.iaload, 1) := by decide +kernel
theorem dX10_wreck_95 : decode cX10_wreck 95 = .ok (.invokevirtual 233, 3) := by decide +kernel
theorem dX10_wreck_98 : decode cX10_wreck 98 = .ok (.isub, 1) := by decide +kernel
theorem dX10_wreck_99 : decode cX10_wreck 99 = .ok (.iload_n 2, 1) := by decide +kernel
theorem dX10_wreck_100 : decode cX10_wreck 100 = .ok (.if_icmp .ne 7, 3) := by decide +kernel
theorem dX10_wreck_103 : decode cX10_wreck 103 = .ok (.iconst 1, 1) := by decide +kernel
theorem dX10_wreck_104 : decode cX10_wreck 104 = .ok (.goto 4, 3) := by decide +kernel
theorem dX10_wreck_107 : decode cX10_wreck 107 = .ok (.iconst 0, 1) := by decide +kernel
theorem dX10_wreck_108 : decode cX10_wreck 108 = .ok (.istore 8, 2) := by decide +kernel
theorem dX10_wreck_110 : decode cX10_wreck 110 = .ok (.iload 5, 2) := by decide +kernel
theorem dX10_wreck_112 : decode cX10_wreck 112 = .ok (.iload 8, 2) := by decide +kernel
theorem dX10_wreck_114 : decode cX10_wreck 114 = .ok (.ifCond .eq 7, 3) := by decide +kernel
theorem dX10_wreck_117 : decode cX10_wreck 117 = .ok (.iconst 1, 1) := by decide +kernel
theorem dX10_wreck_118 : decode cX10_wreck 118 = .ok (.goto 4, 3) := by decide +kernel
theorem dX10_wreck_121 : decode cX10_wreck 121 = .ok (.iconst 0, 1) := by decide +kernel
theorem dX10_wreck_122 : decode cX10_wreck 122 = .ok (.iadd, 1) := by decide +kernel
theorem dX10_wreck_123 : decode cX10_wreck 123 = .ok (.istore 5, 2) := by decide +kernel
theorem dX10_wreck_125 : decode cX10_wreck 125 = .ok (.iload 8, 2) := by decide +kernel
theorem dX10_wreck_127 : decode cX10_wreck 127 = .ok (.ifCond .eq 19, 3) := by decide +kernel
theorem dX10_wreck_130 : decode cX10_wreck 130 = .ok (.iload 6, 2) := by decide +kernel
theorem dX10_wreck_132 : decode cX10_wreck 132 = .ok (.ldc 165, 2) := by decide +kernel
theorem dX10_wreck_134 : decode cX10_wreck 134 = .ok (.if_icmp .ne 12, 3) := by decide +kernel
theorem dX10_wreck_137 : decode cX10_wreck 137 = .ok (.aload_n 0, 1) := by decide +kernel
theorem dX10_wreck_138 : decode cX10_wreck 138 = .ok (.getfield 50, 3) := by decide +kernel
theorem dX10_wreck_141 : decode cX10_wreck 141 = .ok (.iconst 0, 1) := by decide +kernel
theorem dX10_wreck_142 : decode cX10_wreck 142 = .ok (.iaload, 1) := by decide +kernel
theorem dX10_wreck_143 : decode cX10_wreck 143 = .ok (.goto 5, 3) := by decide +kernel
theorem dX10_wreck_146 : decode cX10_wreck 146 = .ok (.iload 6, 2) := by decide +kernel
theorem dX10_wreck_148 : decode cX10_wreck 148 = .ok (.istore 6, 2) := by decide +kernel
theorem dX10_wreck_150 : decode cX10_wreck 150 = .ok (.aload_n 0, 1) := by decide +kernel
theorem dX10_wreck_151 : decode cX10_wreck 151 = .ok (.iconst 1, 1) := by decide +kernel
theorem dX10_wreck_152 : decode cX10_wreck 152 = .ok (.invokevirtual 208, 3) := by decide +kernel
theorem dX10_wreck_155 : decode cX10_wreck 155 = .ok (.iinc 7 1, 3) := by decide +kernel
theorem dX10_wreck_158 : decode cX10_wreck 158 = .ok (.goto (-84), 3) := by decide +kernel
theorem dX10_wreck_161 : decode cX10_wreck 161 = .ok (.iload 4, 2) := by decide +kernel
theorem dX10_wreck_163 : decode cX10_wreck 163 = .ok (.ifCond .ne 8, 3) := by decide +kernel
theorem dX10_wreck_166 : decode cX10_wreck 166 = .ok (.iload 5, 2) := by decide +kernel
theorem dX10_wreck_168 : decode cX10_wreck 168 = .ok (.goto 5, 3) := by decide +kernel
theorem dX10_wreck_171 : decode cX10_wreck 171 = .ok (.iload 6, 2) := by decide +kernel
theorem dX10_wreck_173 : decode cX10_wreck 173 = .ok (.ireturn, 1) := by decide +kernel
theorem dX10_season_0 : decode cX10_season 0 = .ok (.aload_n 0, 1) := by decide +kernel
theorem dX10_season_1 : decode cX10_season 1 = .ok (.invokevirtual 196, 3) := by decide +kernel
theorem dX10_season_4 : decode cX10_season 4 = .ok (.ifCond .ne 6, 3) := by decide +kernel
theorem dX10_season_7 : decode cX10_season 7 = .ok (.ldc 199, 2) := by decide +kernel
theorem dX10_season_9 : decode cX10_season 9 = .ok (.ireturn, 1) := by decide +kernel
theorem dX10_season_10 : decode cX10_season 10 = .ok (.iload_n 1, 1) := by decide +kernel
theorem dX10_season_11 : decode cX10_season 11 = .ok (.i2l, 1) := by decide +kernel
theorem dX10_season_12 : decode cX10_season 12 = .ok (.lconst 0, 1) := by decide +kernel
theorem dX10_season_13 : decode cX10_season 13 = .ok (.ldc2_w 241, 3) := by decide +kernel
theorem dX10_season_16 : decode cX10_season 16 = .ok (.invokestatic 64, 3) := by decide +kernel
theorem dX10_season_19 : decode cX10_season 19 = .ok (.ifCond .eq 25, 3) := by decide +kernel
theorem dX10_season_22 : decode cX10_season 22 = .ok (.iload_n 2, 1) := by decide +kernel
theorem dX10_season_23 : decode cX10_season 23 = .ok (.i2l, 1) := by decide +kernel
theorem dX10_season_24 : decode cX10_season 24 = .ok (.lconst 1, 1) := by decide +kernel
theorem dX10_season_25 : decode cX10_season 25 = .ok (.ldc2_w 264, 3) := by decide +kernel
theorem dX10_season_28 : decode cX10_season 28 = .ok (.invokestatic 64, 3) := by decide +kernel
theorem dX10_season_31 : decode cX10_season 31 = .ok (.ifCond .eq 13, 3) := by decide +kernel
theorem dX10_season_34 : decode cX10_season 34 = .ok (.iload_n 3, 1) := by decide +kernel
theorem dX10_season_35 : decode cX10_season 35 = .ok (.i2l, 1) := by decide +kernel
theorem dX10_season_36 : decode cX10_season 36 = .ok (.lconst 0, 1) := by decide +kernel
theorem dX10_season_37 : decode cX10_season 37 = .ok (.lconst 1, 1) := by decide +kernel
theorem dX10_season_38 : decode cX10_season 38 = .ok (.invokestatic 64, 3) := by decide +kernel
theorem dX10_season_41 : decode cX10_season 41 = .ok (.ifCond .ne 6, 3) := by decide +kernel
theorem dX10_season_44 : decode cX10_season 44 = .ok (.ldc 79, 2) := by decide +kernel
theorem dX10_season_46 : decode cX10_season 46 = .ok (.ireturn, 1) := by decide +kernel
theorem dX10_season_47 : decode cX10_season 47 = .ok (.aload_n 0, 1) := by decide +kernel
theorem dX10_season_48 : decode cX10_season 48 = .ok (.invokevirtual 205, 3) := by decide +kernel
theorem dX10_season_51 : decode cX10_season 51 = .ok (.iload_n 2, 1) := by decide +kernel
theorem dX10_season_52 : decode cX10_season 52 = .ok (.i2l, 1) := by decide +kernel
theorem dX10_season_53 : decode cX10_season 53 = .ok (.lstore 4, 2) := by decide +kernel
theorem dX10_season_55 : decode cX10_season 55 = .ok (.iconst 0, 1) := by decide +kernel
theorem dX10_season_56 : decode cX10_season 56 = .ok (.istore 6, 2) := by decide +kernel
theorem dX10_season_58 : decode cX10_season 58 = .ok (.iload 6, 2) := by decide +kernel
theorem dX10_season_60 : decode cX10_season 60 = .ok (.iload_n 1, 1) := by decide +kernel
theorem dX10_season_61 : decode cX10_season 61 = .ok (.if_icmp .ge 45, 3) := by decide +kernel
theorem dX10_season_64 : decode cX10_season 64 = .ok (.lload 4, 2) := by decide +kernel
theorem dX10_season_66 : decode cX10_season 66 = .ok (.ldc2_w 266, 3) := by decide +kernel
theorem dX10_season_69 : decode cX10_season 69 = .ok (.lmul, 1) := by decide +kernel
theorem dX10_season_70 : decode cX10_season 70 = .ok (.ldc2_w 268, 3) := by decide +kernel
theorem dX10_season_73 : decode cX10_season 73 = .ok (.lrem, 1) := by decide +kernel
theorem dX10_season_74 : decode cX10_season 74 = .ok (.lstore 4, 2) := by decide +kernel
theorem dX10_season_76 : decode cX10_season 76 = .ok (.aload_n 0, 1) := by decide +kernel
theorem dX10_season_77 : decode cX10_season 77 = .ok (.lload 4, 2) := by decide +kernel
theorem dX10_season_79 : decode cX10_season 79 = .ok (.ldc2_w 270, 3) := by decide +kernel
theorem dX10_season_82 : decode cX10_season 82 = .ok (.lrem, 1) := by decide +kernel
theorem dX10_season_83 : decode cX10_season 83 = .ok (.l2i, 1) := by decide +kernel
theorem dX10_season_84 : decode cX10_season 84 = .ok (.iconst 1, 1) := by decide +kernel
theorem dX10_season_85 : decode cX10_season 85 = .ok (.iadd, 1) := by decide +kernel
theorem dX10_season_86 : decode cX10_season 86 = .ok (.lload 4, 2) := by decide +kernel
theorem dX10_season_88 : decode cX10_season 88 = .ok (.ldc2_w 270, 3) := by decide +kernel
theorem dX10_season_91 : decode cX10_season 91 = .ok (.ldiv, 1) := by decide +kernel
theorem dX10_season_92 : decode cX10_season 92 = .ok (.ldc2_w 272, 3) := by decide +kernel
theorem dX10_season_95 : decode cX10_season 95 = .ok (.lrem, 1) := by decide +kernel
theorem dX10_season_96 : decode cX10_season 96 = .ok (.l2i, 1) := by decide +kernel
theorem dX10_season_97 : decode cX10_season 97 = .ok (.invokevirtual 192, 3) := by decide +kernel
theorem dX10_season_100 : decode cX10_season 100 = .ok (.iinc 6 1, 3) := by decide +kernel
theorem dX10_season_103 : decode cX10_season 103 = .ok (.goto (-45), 3) := by decide +kernel
theorem dX10_season_106 : decode cX10_season 106 = .ok (.aload_n 0, 1) := by decide +kernel
theorem dX10_season_107 : decode cX10_season 107 = .ok (.iload_n 3, 1) := by decide +kernel
theorem dX10_season_108 : decode cX10_season 108 = .ok (.iconst 1, 1) := by decide +kernel
theorem dX10_season_109 : decode cX10_season 109 = .ok (.iadd, 1) := by decide +kernel
theorem dX10_season_110 : decode cX10_season 110 = .ok (.invokevirtual 238, 3) := by decide +kernel
theorem dX10_season_113 : decode cX10_season 113 = .ok (.ireturn, 1) := by decide +kernel
theorem dX10_image_0 : decode cX10_image 0 = .ok (.iload_n 1, 1) := by decide +kernel
theorem dX10_image_1 : decode cX10_image 1 = .ok (.i2l, 1) := by decide +kernel
theorem dX10_image_2 : decode cX10_image 2 = .ok (.lconst 0, 1) := by decide +kernel
theorem dX10_image_3 : decode cX10_image 3 = .ok (.lconst 1, 1) := by decide +kernel
theorem dX10_image_4 : decode cX10_image 4 = .ok (.invokestatic 64, 3) := by decide +kernel
theorem dX10_image_7 : decode cX10_image 7 = .ok (.ifCond .ne 6, 3) := by decide +kernel
theorem dX10_image_10 : decode cX10_image 10 = .ok (.ldc 79, 2) := by decide +kernel
theorem dX10_image_12 : decode cX10_image 12 = .ok (.ireturn, 1) := by decide +kernel
theorem dX10_image_13 : decode cX10_image 13 = .ok (.aload_n 0, 1) := by decide +kernel
theorem dX10_image_14 : decode cX10_image 14 = .ok (.invokevirtual 196, 3) := by decide +kernel
theorem dX10_image_17 : decode cX10_image 17 = .ok (.ifCond .ne 6, 3) := by decide +kernel
theorem dX10_image_20 : decode cX10_image 20 = .ok (.ldc 199, 2) := by decide +kernel
theorem dX10_image_22 : decode cX10_image 22 = .ok (.ireturn, 1) := by decide +kernel
theorem dX10_image_23 : decode cX10_image 23 = .ok (.iconst 0, 1) := by decide +kernel
theorem dX10_image_24 : decode cX10_image 24 = .ok (.istore_n 2, 1) := by decide +kernel
theorem dX10_image_25 : decode cX10_image 25 = .ok (.iload_n 2, 1) := by decide +kernel
theorem dX10_image_26 : decode cX10_image 26 = .ok (.bipush 55, 2) := by decide +kernel
theorem dX10_image_28 : decode cX10_image 28 = .ok (.if_icmp .ge 26, 3) := by decide +kernel
theorem dX10_image_31 : decode cX10_image 31 = .ok (.aload_n 0, 1) := by decide +kernel
theorem dX10_image_32 : decode cX10_image 32 = .ok (.getfield 34, 3) := by decide +kernel
theorem dX10_image_35 : decode cX10_image 35 = .ok (.bipush 84, 2) := by decide +kernel
theorem dX10_image_37 : decode cX10_image 37 = .ok (.iload_n 1, 1) := by decide +kernel
theorem dX10_image_38 : decode cX10_image 38 = .ok (.imul, 1) := by decide +kernel
theorem dX10_image_39 : decode cX10_image 39 = .ok (.iload_n 2, 1) := by decide +kernel
theorem dX10_image_40 : decode cX10_image 40 = .ok (.iadd, 1) := by decide +kernel
theorem dX10_image_41 : decode cX10_image 41 = .ok (.aload_n 0, 1) := by decide +kernel
theorem dX10_image_42 : decode cX10_image 42 = .ok (.getfield 25, 3) := by decide +kernel
theorem dX10_image_45 : decode cX10_image 45 = .ok (.iload_n 2, 1) := by decide +kernel
theorem dX10_image_46 : decode cX10_image 46 = .ok (.iaload, 1) := by decide +kernel
theorem dX10_image_47 : decode cX10_image 47 = .ok (.iastore, 1) := by decide +kernel
theorem dX10_image_48 : decode cX10_image 48 = .ok (.iinc 2 1, 3) := by decide +kernel
theorem dX10_image_51 : decode cX10_image 51 = .ok (.goto (-26), 3) := by decide +kernel
theorem dX10_image_54 : decode cX10_image 54 = .ok (.iconst 0, 1) := by decide +kernel
theorem dX10_image_55 : decode cX10_image 55 = .ok (.istore_n 2, 1) := by decide +kernel
theorem dX10_image_56 : decode cX10_image 56 = .ok (.iload_n 2, 1) := by decide +kernel
theorem dX10_image_57 : decode cX10_image 57 = .ok (.bipush 29, 2) := by decide +kernel
theorem dX10_image_59 : decode cX10_image 59 = .ok (.if_icmp .ge 29, 3) := by decide +kernel
theorem dX10_image_62 : decode cX10_image 62 = .ok (.aload_n 0, 1) := by decide +kernel
theorem dX10_image_63 : decode cX10_image 63 = .ok (.getfield 34, 3) := by decide +kernel
theorem dX10_image_66 : decode cX10_image 66 = .ok (.bipush 84, 2) := by decide +kernel
theorem dX10_image_68 : decode cX10_image 68 = .ok (.iload_n 1, 1) := by decide +kernel
theorem dX10_image_69 : decode cX10_image 69 = .ok (.imul, 1) := by decide +kernel
theorem dX10_image_70 : decode cX10_image 70 = .ok (.bipush 55, 2) := by decide +kernel
theorem dX10_image_72 : decode cX10_image 72 = .ok (.iadd, 1) := by decide +kernel
theorem dX10_image_73 : decode cX10_image 73 = .ok (.iload_n 2, 1) := by decide +kernel
theorem dX10_image_74 : decode cX10_image 74 = .ok (.iadd, 1) := by decide +kernel
theorem dX10_image_75 : decode cX10_image 75 = .ok (.aload_n 0, 1) := by decide +kernel
theorem dX10_image_76 : decode cX10_image 76 = .ok (.getfield 28, 3) := by decide +kernel
theorem dX10_image_79 : decode cX10_image 79 = .ok (.iload_n 2, 1) := by decide +kernel
theorem dX10_image_80 : decode cX10_image 80 = .ok (.iaload, 1) := by decide +kernel
theorem dX10_image_81 : decode cX10_image 81 = .ok (.iastore, 1) := by decide +kernel
theorem dX10_image_82 : decode cX10_image 82 = .ok (.iinc 2 1, 3) := by decide +kernel
theorem dX10_image_85 : decode cX10_image 85 = .ok (.goto (-29), 3) := by decide +kernel
theorem dX10_image_88 : decode cX10_image 88 = .ok (.aload_n 0, 1) := by decide +kernel
theorem dX10_image_89 : decode cX10_image 89 = .ok (.getfield 37, 3) := by decide +kernel
theorem dX10_image_92 : decode cX10_image 92 = .ok (.iload_n 1, 1) := by decide +kernel
theorem dX10_image_93 : decode cX10_image 93 = .ok (.iconst 1, 1) := by decide +kernel
theorem dX10_image_94 : decode cX10_image 94 = .ok (.bastore, 1) := by decide +kernel
theorem dX10_image_95 : decode cX10_image 95 = .ok (.iconst 1, 1) := by decide +kernel
theorem dX10_image_96 : decode cX10_image 96 = .ok (.ireturn, 1) := by decide +kernel
theorem dX10_restore_0 : decode cX10_restore 0 = .ok (.iload_n 1, 1) := by decide +kernel
theorem dX10_restore_1 : decode cX10_restore 1 = .ok (.i2l, 1) := by decide +kernel
theorem dX10_restore_2 : decode cX10_restore 2 = .ok (.lconst 0, 1) := by decide +kernel
theorem dX10_restore_3 : decode cX10_restore 3 = .ok (.lconst 1, 1) := by decide +kernel
theorem dX10_restore_4 : decode cX10_restore 4 = .ok (.invokestatic 64, 3) := by decide +kernel
theorem dX10_restore_7 : decode cX10_restore 7 = .ok (.ifCond .ne 6, 3) := by decide +kernel
theorem dX10_restore_10 : decode cX10_restore 10 = .ok (.ldc 79, 2) := by decide +kernel
theorem dX10_restore_12 : decode cX10_restore 12 = .ok (.ireturn, 1) := by decide +kernel
theorem dX10_restore_13 : decode cX10_restore 13 = .ok (.aload_n 0, 1) := by decide +kernel
theorem dX10_restore_14 : decode cX10_restore 14 = .ok (.getfield 37, 3) := by decide +kernel
theorem dX10_restore_17 : decode cX10_restore 17 = .ok (.iload_n 1, 1) := by decide +kernel
theorem dX10_restore_18 : decode cX10_restore 18 = .ok (.baload, 1) := by decide +kernel
theorem dX10_restore_19 : decode cX10_restore 19 = .ok (.ifCond .ne 6, 3) := by decide +kernel
theorem dX10_restore_22 : decode cX10_restore 22 = .ok (.ldc 199, 2) := by decide +kernel
theorem dX10_restore_24 : decode cX10_restore 24 = .ok (.ireturn, 1) := by decide +kernel
theorem dX10_restore_25 : decode cX10_restore 25 = .ok (.iconst 0, 1) := by decide +kernel
theorem dX10_restore_26 : decode cX10_restore 26 = .ok (.istore_n 2, 1) := by decide +kernel
theorem dX10_restore_27 : decode cX10_restore 27 = .ok (.iload_n 2, 1) := by decide +kernel
theorem dX10_restore_28 : decode cX10_restore 28 = .ok (.bipush 55, 2) := by decide +kernel
theorem dX10_restore_30 : decode cX10_restore 30 = .ok (.if_icmp .ge 26, 3) := by decide +kernel
theorem dX10_restore_33 : decode cX10_restore 33 = .ok (.aload_n 0, 1) := by decide +kernel
theorem dX10_restore_34 : decode cX10_restore 34 = .ok (.getfield 25, 3) := by decide +kernel
theorem dX10_restore_37 : decode cX10_restore 37 = .ok (.iload_n 2, 1) := by decide +kernel
theorem dX10_restore_38 : decode cX10_restore 38 = .ok (.aload_n 0, 1) := by decide +kernel
theorem dX10_restore_39 : decode cX10_restore 39 = .ok (.getfield 34, 3) := by decide +kernel
theorem dX10_restore_42 : decode cX10_restore 42 = .ok (.bipush 84, 2) := by decide +kernel
theorem dX10_restore_44 : decode cX10_restore 44 = .ok (.iload_n 1, 1) := by decide +kernel
theorem dX10_restore_45 : decode cX10_restore 45 = .ok (.imul, 1) := by decide +kernel
theorem dX10_restore_46 : decode cX10_restore 46 = .ok (.iload_n 2, 1) := by decide +kernel
theorem dX10_restore_47 : decode cX10_restore 47 = .ok (.iadd, 1) := by decide +kernel
theorem dX10_restore_48 : decode cX10_restore 48 = .ok (.iaload, 1) := by decide +kernel
theorem dX10_restore_49 : decode cX10_restore 49 = .ok (.iastore, 1) := by decide +kernel
theorem dX10_restore_50 : decode cX10_restore 50 = .ok (.iinc 2 1, 3) := by decide +kernel
theorem dX10_restore_53 : decode cX10_restore 53 = .ok (.goto (-26), 3) := by decide +kernel
theorem dX10_restore_56 : decode cX10_restore 56 = .ok (.iconst 0, 1) := by decide +kernel
theorem dX10_restore_57 : decode cX10_restore 57 = .ok (.istore_n 2, 1) := by decide +kernel
theorem dX10_restore_58 : decode cX10_restore 58 = .ok (.iload_n 2, 1) := by decide +kernel
theorem dX10_restore_59 : decode cX10_restore 59 = .ok (.bipush 29, 2) := by decide +kernel
theorem dX10_restore_61 : decode cX10_restore 61 = .ok (.if_icmp .ge 29, 3) := by decide +kernel
theorem dX10_restore_64 : decode cX10_restore 64 = .ok (.aload_n 0, 1) := by decide +kernel
theorem dX10_restore_65 : decode cX10_restore 65 = .ok (.getfield 28, 3) := by decide +kernel
theorem dX10_restore_68 : decode cX10_restore 68 = .ok (.iload_n 2, 1) := by decide +kernel
theorem dX10_restore_69 : decode cX10_restore 69 = .ok (.aload_n 0, 1) := by decide +kernel
theorem dX10_restore_70 : decode cX10_restore 70 = .ok (.getfield 34, 3) := by decide +kernel
theorem dX10_restore_73 : decode cX10_restore 73 = .ok (.bipush 84, 2) := by decide +kernel
theorem dX10_restore_75 : decode cX10_restore 75 = .ok (.iload_n 1, 1) := by decide +kernel
theorem dX10_restore_76 : decode cX10_restore 76 = .ok (.imul, 1) := by decide +kernel
theorem dX10_restore_77 : decode cX10_restore 77 = .ok (.bipush 55, 2) := by decide +kernel
theorem dX10_restore_79 : decode cX10_restore 79 = .ok (.iadd, 1) := by decide +kernel
theorem dX10_restore_80 : decode cX10_restore 80 = .ok (.iload_n 2, 1) := by decide +kernel
theorem dX10_restore_81 : decode cX10_restore 81 = .ok (.iadd, 1) := by decide +kernel
theorem dX10_restore_82 : decode cX10_restore 82 = .ok (.iaload, 1) := by decide +kernel
theorem dX10_restore_83 : decode cX10_restore 83 = .ok (.iastore, 1) := by decide +kernel
theorem dX10_restore_84 : decode cX10_restore 84 = .ok (.iinc 2 1, 3) := by decide +kernel
theorem dX10_restore_87 : decode cX10_restore 87 = .ok (.goto (-29), 3) := by decide +kernel
theorem dX10_restore_90 : decode cX10_restore 90 = .ok (.aload_n 0, 1) := by decide +kernel
theorem dX10_restore_91 : decode cX10_restore 91 = .ok (.iconst 0, 1) := by decide +kernel
theorem dX10_restore_92 : decode cX10_restore 92 = .ok (.putfield 166, 3) := by decide +kernel
theorem dX10_restore_95 : decode cX10_restore 95 = .ok (.iconst 1, 1) := by decide +kernel
theorem dX10_restore_96 : decode cX10_restore 96 = .ok (.ireturn, 1) := by decide +kernel
theorem dX10_isSwell_0 : decode cX10_isSwell 0 = .ok (.iload_n 1, 1) := by decide +kernel
theorem dX10_isSwell_1 : decode cX10_isSwell 1 = .ok (.i2l, 1) := by decide +kernel
theorem dX10_isSwell_2 : decode cX10_isSwell 2 = .ok (.lconst 0, 1) := by decide +kernel
theorem dX10_isSwell_3 : decode cX10_isSwell 3 = .ok (.aload_n 0, 1) := by decide +kernel
theorem dX10_isSwell_4 : decode cX10_isSwell 4 = .ok (.getfield 25, 3) := by decide +kernel
theorem dX10_isSwell_7 : decode cX10_isSwell 7 = .ok (.iconst 3, 1) := by decide +kernel
theorem dX10_isSwell_8 : decode cX10_isSwell 8 = .ok (.iaload, 1) := by decide +kernel
theorem dX10_isSwell_9 : decode cX10_isSwell 9 = .ok (.iconst 1, 1) := by decide +kernel
theorem dX10_isSwell_10 : decode cX10_isSwell 10 = .ok (.isub, 1) := by decide +kernel
theorem dX10_isSwell_11 : decode cX10_isSwell 11 = .ok (.i2l, 1) := by decide +kernel
theorem dX10_isSwell_12 : decode cX10_isSwell 12 = .ok (.invokestatic 64, 3) := by decide +kernel
theorem dX10_isSwell_15 : decode cX10_isSwell 15 = .ok (.ireturn, 1) := by decide +kernel
theorem dX10_kind_0 : decode cX10_kind 0 = .ok (.aload_n 0, 1) := by decide +kernel
theorem dX10_kind_1 : decode cX10_kind 1 = .ok (.iload_n 1, 1) := by decide +kernel
theorem dX10_kind_2 : decode cX10_kind 2 = .ok (.invokevirtual 274, 3) := by decide +kernel
theorem dX10_kind_5 : decode cX10_kind 5 = .ok (.ifCond .eq 15, 3) := by decide +kernel
theorem dX10_kind_8 : decode cX10_kind 8 = .ok (.aload_n 0, 1) := by decide +kernel
theorem dX10_kind_9 : decode cX10_kind 9 = .ok (.getfield 25, 3) := by decide +kernel
theorem dX10_kind_12 : decode cX10_kind 12 = .ok (.bipush 6, 2) := by decide +kernel
theorem dX10_kind_14 : decode cX10_kind 14 = .ok (.iload_n 1, 1) := by decide +kernel
theorem dX10_kind_15 : decode cX10_kind 15 = .ok (.iadd, 1) := by decide +kernel
theorem dX10_kind_16 : decode cX10_kind 16 = .ok (.iaload, 1) := by decide +kernel
theorem dX10_kind_17 : decode cX10_kind 17 = .ok (.goto 5, 3) := by decide +kernel
theorem dX10_kind_20 : decode cX10_kind 20 = .ok (.ldc 79, 2) := by decide +kernel
theorem dX10_kind_22 : decode cX10_kind 22 = .ok (.ireturn, 1) := by decide +kernel
theorem dX10_as_0 : decode cX10_as 0 = .ok (.aload_n 0, 1) := by decide +kernel
theorem dX10_as_1 : decode cX10_as 1 = .ok (.iload_n 1, 1) := by decide +kernel
theorem dX10_as_2 : decode cX10_as 2 = .ok (.invokevirtual 274, 3) := by decide +kernel
theorem dX10_as_5 : decode cX10_as 5 = .ok (.ifCond .eq 15, 3) := by decide +kernel
theorem dX10_as_8 : decode cX10_as 8 = .ok (.iload_n 2, 1) := by decide +kernel
theorem dX10_as_9 : decode cX10_as 9 = .ok (.i2l, 1) := by decide +kernel
theorem dX10_as_10 : decode cX10_as 10 = .ok (.lconst 0, 1) := by decide +kernel
theorem dX10_as_11 : decode cX10_as 11 = .ok (.ldc2_w 270, 3) := by decide +kernel
theorem dX10_as_14 : decode cX10_as 14 = .ok (.invokestatic 64, 3) := by decide +kernel
theorem dX10_as_17 : decode cX10_as 17 = .ok (.ifCond .ne 6, 3) := by decide +kernel
theorem dX10_as_20 : decode cX10_as 20 = .ok (.ldc 79, 2) := by decide +kernel
theorem dX10_as_22 : decode cX10_as 22 = .ok (.ireturn, 1) := by decide +kernel
theorem dX10_as_23 : decode cX10_as 23 = .ok (.aload_n 0, 1) := by decide +kernel
theorem dX10_as_24 : decode cX10_as 24 = .ok (.getfield 25, 3) := by decide +kernel
theorem dX10_as_27 : decode cX10_as 27 = .ok (.bipush 6, 2) := by decide +kernel
theorem dX10_as_29 : decode cX10_as 29 = .ok (.iload_n 1, 1) := by decide +kernel
theorem dX10_as_30 : decode cX10_as 30 = .ok (.iadd, 1) := by decide +kernel
theorem dX10_as_31 : decode cX10_as 31 = .ok (.iaload, 1) := by decide +kernel
theorem dX10_as_32 : decode cX10_as 32 = .ok (.istore_n 3, 1) := by decide +kernel
theorem dX10_as_33 : decode cX10_as 33 = .ok (.iload_n 2, 1) := by decide +kernel
theorem dX10_as_34 : decode cX10_as 34 = .ok (.iconst 1, 1) := by decide +kernel
theorem dX10_as_35 : decode cX10_as 35 = .ok (.if_icmp .ne 17, 3) := by decide +kernel
theorem dX10_as_38 : decode cX10_as 38 = .ok (.iload_n 3, 1) := by decide +kernel
theorem dX10_as_39 : decode cX10_as 39 = .ok (.iconst 2, 1) := by decide +kernel
theorem dX10_as_40 : decode cX10_as 40 = .ok (.if_icmp .eq 8, 3) := by decide +kernel
theorem dX10_as_43 : decode cX10_as 43 = .ok (.iload_n 3, 1) := by decide +kernel
theorem dX10_as_44 : decode cX10_as 44 = .ok (.iconst 3, 1) := by decide +kernel
theorem dX10_as_45 : decode cX10_as 45 = .ok (.if_icmp .ne 7, 3) := by decide +kernel
theorem dX10_as_48 : decode cX10_as 48 = .ok (.iconst 1, 1) := by decide +kernel
theorem dX10_as_49 : decode cX10_as 49 = .ok (.goto 4, 3) := by decide +kernel
theorem dX10_as_52 : decode cX10_as 52 = .ok (.iconst 0, 1) := by decide +kernel
theorem dX10_as_53 : decode cX10_as 53 = .ok (.istore 4, 2) := by decide +kernel
theorem dX10_as_55 : decode cX10_as 55 = .ok (.iload_n 2, 1) := by decide +kernel
theorem dX10_as_56 : decode cX10_as 56 = .ok (.ifCond .eq 23, 3) := by decide +kernel
theorem dX10_as_59 : decode cX10_as 59 = .ok (.iload_n 2, 1) := by decide +kernel
theorem dX10_as_60 : decode cX10_as 60 = .ok (.iload_n 3, 1) := by decide +kernel
theorem dX10_as_61 : decode cX10_as 61 = .ok (.if_icmp .eq 18, 3) := by decide +kernel
theorem dX10_as_64 : decode cX10_as 64 = .ok (.iload 4, 2) := by decide +kernel
theorem dX10_as_66 : decode cX10_as 66 = .ok (.ifCond .ne 13, 3) := by decide +kernel
theorem dX10_as_69 : decode cX10_as 69 = .ok (.iload_n 2, 1) := by decide +kernel
theorem dX10_as_70 : decode cX10_as 70 = .ok (.iconst 4, 1) := by decide +kernel
theorem dX10_as_71 : decode cX10_as 71 = .ok (.if_icmp .ne 12, 3) := by decide +kernel
theorem dX10_as_74 : decode cX10_as 74 = .ok (.iload_n 3, 1) := by decide +kernel
theorem dX10_as_75 : decode cX10_as 75 = .ok (.iconst 5, 1) := by decide +kernel
theorem dX10_as_76 : decode cX10_as 76 = .ok (.if_icmp .ne 7, 3) := by decide +kernel
theorem dX10_as_79 : decode cX10_as 79 = .ok (.iconst 1, 1) := by decide +kernel
theorem dX10_as_80 : decode cX10_as 80 = .ok (.goto 4, 3) := by decide +kernel
theorem dX10_as_83 : decode cX10_as 83 = .ok (.iconst 0, 1) := by decide +kernel
theorem dX10_as_84 : decode cX10_as 84 = .ok (.istore 5, 2) := by decide +kernel
theorem dX10_as_86 : decode cX10_as 86 = .ok (.iload 5, 2) := by decide +kernel
theorem dX10_as_88 : decode cX10_as 88 = .ok (.ifCond .eq 11, 3) := by decide +kernel
theorem dX10_as_91 : decode cX10_as 91 = .ok (.aload_n 0, 1) := by decide +kernel
theorem dX10_as_92 : decode cX10_as 92 = .ok (.iload_n 1, 1) := by decide +kernel
theorem dX10_as_93 : decode cX10_as 93 = .ok (.invokevirtual 84, 3) := by decide +kernel
theorem dX10_as_96 : decode cX10_as 96 = .ok (.goto 8, 3) := by decide +kernel
theorem dX10_as_99 : decode cX10_as 99 = .ok (.aload_n 0, 1) := by decide +kernel
theorem dX10_as_100 : decode cX10_as 100 = .ok (.iconst 3, 1) := by decide +kernel
theorem dX10_as_101 : decode cX10_as 101 = .ok (.invokevirtual 80, 3) := by decide +kernel
theorem dX10_as_104 : decode cX10_as 104 = .ok (.ireturn, 1) := by decide +kernel
theorem dX10_leaves_0 : decode cX10_leaves 0 = .ok (.aload_n 0, 1) := by decide +kernel
theorem dX10_leaves_1 : decode cX10_leaves 1 = .ok (.getfield 277, 3) := by decide +kernel
theorem dX10_leaves_4 : decode cX10_leaves 4 = .ok (.bipush 16, 2) := by decide +kernel
theorem dX10_leaves_6 : decode cX10_leaves 6 = .ok (.if_icmp .ge 23, 3) := by decide +kernel
theorem dX10_leaves_9 : decode cX10_leaves 9 = .ok (.aload_n 0, 1) := by decide +kernel
theorem dX10_leaves_10 : decode cX10_leaves 10 = .ok (.getfield 59, 3) := by decide +kernel
theorem dX10_leaves_13 : decode cX10_leaves 13 = .ok (.aload_n 0, 1) := by decide +kernel
theorem dX10_leaves_14 : decode cX10_leaves 14 = .ok (.getfield 277, 3) := by decide +kernel
theorem dX10_leaves_17 : decode cX10_leaves 17 = .ok (.iload_n 1, 1) := by decide +kernel
theorem dX10_leaves_18 : decode cX10_leaves 18 = .ok (.iastore, 1) := by decide +kernel
theorem dX10_leaves_19 : decode cX10_leaves 19 = .ok (.aload_n 0, 1) := by decide +kernel
theorem dX10_leaves_20 : decode cX10_leaves 20 = .ok (.dup, 1) := by decide +kernel
theorem dX10_leaves_21 : decode cX10_leaves 21 = .ok (.getfield 277, 3) := by decide +kernel
theorem dX10_leaves_24 : decode cX10_leaves 24 = .ok (.iconst 1, 1) := by decide +kernel
theorem dX10_leaves_25 : decode cX10_leaves 25 = .ok (.iadd, 1) := by decide +kernel
theorem dX10_leaves_26 : decode cX10_leaves 26 = .ok (.putfield 277, 3) := by decide +kernel
theorem dX10_leaves_29 : decode cX10_leaves 29 = .ok (.return_, 1) := by decide +kernel
theorem dX10_plainMark_0 : decode cX10_plainMark 0 = .ok (.aload_n 0, 1) := by decide +kernel
theorem dX10_plainMark_1 : decode cX10_plainMark 1 = .ok (.getfield 25, 3) := by decide +kernel
theorem dX10_plainMark_4 : decode cX10_plainMark 4 = .ok (.bipush 6, 2) := by decide +kernel
theorem dX10_plainMark_6 : decode cX10_plainMark 6 = .ok (.iload_n 1, 1) := by decide +kernel
theorem dX10_plainMark_7 : decode cX10_plainMark 7 = .ok (.iadd, 1) := by decide +kernel
theorem dX10_plainMark_8 : decode cX10_plainMark 8 = .ok (.iaload, 1) := by decide +kernel
theorem dX10_plainMark_9 : decode cX10_plainMark 9 = .ok (.istore_n 2, 1) := by decide +kernel
theorem dX10_plainMark_10 : decode cX10_plainMark 10 = .ok (.iload_n 2, 1) := by decide +kernel
theorem dX10_plainMark_11 : decode cX10_plainMark 11 = .ok (.iconst 3, 1) := by decide +kernel
theorem dX10_plainMark_12 : decode cX10_plainMark 12 = .ok (.if_icmp .ne 12, 3) := by decide +kernel
theorem dX10_plainMark_15 : decode cX10_plainMark 15 = .ok (.aload_n 0, 1) := by decide +kernel
theorem dX10_plainMark_16 : decode cX10_plainMark 16 = .ok (.bipush 22, 2) := by decide +kernel
theorem dX10_plainMark_18 : decode cX10_plainMark 18 = .ok (.invokevirtual 280, 3) := by decide +kernel
theorem dX10_plainMark_21 : decode cX10_plainMark 21 = .ok (.goto 14, 3) := by decide +kernel
theorem dX10_plainMark_24 : decode cX10_plainMark 24 = .ok (.iload_n 2, 1) := by decide +kernel
theorem dX10_plainMark_25 : decode cX10_plainMark 25 = .ok (.iconst 2, 1) := by decide +kernel
theorem dX10_plainMark_26 : decode cX10_plainMark 26 = .ok (.if_icmp .ne 9, 3) := by decide +kernel
theorem dX10_plainMark_29 : decode cX10_plainMark 29 = .ok (.aload_n 0, 1) := by decide +kernel
theorem dX10_plainMark_30 : decode cX10_plainMark 30 = .ok (.bipush 24, 2) := by decide +kernel
theorem dX10_plainMark_32 : decode cX10_plainMark 32 = .ok (.invokevirtual 280, 3) := by decide +kernel
theorem dX10_plainMark_35 : decode cX10_plainMark 35 = .ok (.aload_n 0, 1) := by decide +kernel
theorem dX10_plainMark_36 : decode cX10_plainMark 36 = .ok (.bipush 21, 2) := by decide +kernel
theorem dX10_plainMark_38 : decode cX10_plainMark 38 = .ok (.invokevirtual 280, 3) := by decide +kernel
theorem dX10_plainMark_41 : decode cX10_plainMark 41 = .ok (.aload_n 0, 1) := by decide +kernel
theorem dX10_plainMark_42 : decode cX10_plainMark 42 = .ok (.bipush 20, 2) := by decide +kernel
theorem dX10_plainMark_44 : decode cX10_plainMark 44 = .ok (.invokevirtual 280, 3) := by decide +kernel
theorem dX10_plainMark_47 : decode cX10_plainMark 47 = .ok (.iload_n 1, 1) := by decide +kernel
theorem dX10_plainMark_48 : decode cX10_plainMark 48 = .ok (.iload_n 2, 1) := by decide +kernel
theorem dX10_plainMark_49 : decode cX10_plainMark 49 = .ok (.aload_n 0, 1) := by decide +kernel
theorem dX10_plainMark_50 : decode cX10_plainMark 50 = .ok (.getfield 25, 3) := by decide +kernel
theorem dX10_plainMark_53 : decode cX10_plainMark 53 = .ok (.bipush 26, 2) := by decide +kernel
theorem dX10_plainMark_55 : decode cX10_plainMark 55 = .ok (.iload_n 1, 1) := by decide +kernel
theorem dX10_plainMark_56 : decode cX10_plainMark 56 = .ok (.iadd, 1) := by decide +kernel
theorem dX10_plainMark_57 : decode cX10_plainMark 57 = .ok (.iaload, 1) := by decide +kernel
theorem dX10_plainMark_58 : decode cX10_plainMark 58 = .ok (.invokestatic 173, 3) := by decide +kernel
theorem dX10_plainMark_61 : decode cX10_plainMark 61 = .ok (.iadd, 1) := by decide +kernel
theorem dX10_plainMark_62 : decode cX10_plainMark 62 = .ok (.istore_n 3, 1) := by decide +kernel
theorem dX10_plainMark_63 : decode cX10_plainMark 63 = .ok (.iload_n 2, 1) := by decide +kernel
theorem dX10_plainMark_64 : decode cX10_plainMark 64 = .ok (.iconst 3, 1) := by decide +kernel
theorem dX10_plainMark_65 : decode cX10_plainMark 65 = .ok (.if_icmp .ne 11, 3) := by decide +kernel
theorem dX10_plainMark_68 : decode cX10_plainMark 68 = .ok (.iload_n 3, 1) := by decide +kernel
theorem dX10_plainMark_69 : decode cX10_plainMark 69 = .ok (.sipush 1000, 3) := by decide +kernel
theorem dX10_plainMark_72 : decode cX10_plainMark 72 = .ok (.isub, 1) := by decide +kernel
theorem dX10_plainMark_73 : decode cX10_plainMark 73 = .ok (.goto 15, 3) := by decide +kernel
theorem dX10_plainMark_76 : decode cX10_plainMark 76 = .ok (.iload_n 2, 1) := by decide +kernel
theorem dX10_plainMark_77 : decode cX10_plainMark 77 = .ok (.iconst 2, 1) := by decide +kernel
theorem dX10_plainMark_78 : decode cX10_plainMark 78 = .ok (.if_icmp .ne 9, 3) := by decide +kernel
theorem dX10_plainMark_81 : decode cX10_plainMark 81 = .ok (.iconst 2, 1) := by decide +kernel
theorem dX10_plainMark_82 : decode cX10_plainMark 82 = .ok (.iload_n 3, 1) := by decide +kernel
theorem dX10_plainMark_83 : decode cX10_plainMark 83 = .ok (.imul, 1) := by decide +kernel
theorem dX10_plainMark_84 : decode cX10_plainMark 84 = .ok (.goto 4, 3) := by decide +kernel
theorem dX10_plainMark_87 : decode cX10_plainMark 87 = .ok (.iload_n 3, 1) := by decide +kernel
theorem dX10_plainMark_88 : decode cX10_plainMark 88 = .ok (.ireturn, 1) := by decide +kernel
theorem dX10_sizeOf_0 : decode cX10_sizeOf 0 = .ok (.aload_n 0, 1) := by decide +kernel
theorem dX10_sizeOf_1 : decode cX10_sizeOf 1 = .ok (.getfield 25, 3) := by decide +kernel
theorem dX10_sizeOf_4 : decode cX10_sizeOf 4 = .ok (.bipush 6, 2) := by decide +kernel
theorem dX10_sizeOf_6 : decode cX10_sizeOf 6 = .ok (.iload_n 1, 1) := by decide +kernel
theorem dX10_sizeOf_7 : decode cX10_sizeOf 7 = .ok (.iadd, 1) := by decide +kernel
theorem dX10_sizeOf_8 : decode cX10_sizeOf 8 = .ok (.iaload, 1) := by decide +kernel
theorem dX10_sizeOf_9 : decode cX10_sizeOf 9 = .ok (.istore_n 2, 1) := by decide +kernel
theorem dX10_sizeOf_10 : decode cX10_sizeOf 10 = .ok (.aload_n 0, 1) := by decide +kernel
theorem dX10_sizeOf_11 : decode cX10_sizeOf 11 = .ok (.getfield 25, 3) := by decide +kernel
theorem dX10_sizeOf_14 : decode cX10_sizeOf 14 = .ok (.bipush 26, 2) := by decide +kernel
theorem dX10_sizeOf_16 : decode cX10_sizeOf 16 = .ok (.iload_n 1, 1) := by decide +kernel
theorem dX10_sizeOf_17 : decode cX10_sizeOf 17 = .ok (.iadd, 1) := by decide +kernel
theorem dX10_sizeOf_18 : decode cX10_sizeOf 18 = .ok (.iaload, 1) := by decide +kernel
theorem dX10_sizeOf_19 : decode cX10_sizeOf 19 = .ok (.istore_n 3, 1) := by decide +kernel
theorem dX10_sizeOf_20 : decode cX10_sizeOf 20 = .ok (.iload_n 2, 1) := by decide +kernel
theorem dX10_sizeOf_21 : decode cX10_sizeOf 21 = .ok (.iconst 4, 1) := by decide +kernel
theorem dX10_sizeOf_22 : decode cX10_sizeOf 22 = .ok (.if_icmp .lt 45, 3) := by decide +kernel
theorem dX10_sizeOf_25 : decode cX10_sizeOf 25 = .ok (.iload_n 2, 1) := by decide +kernel
theorem dX10_sizeOf_26 : decode cX10_sizeOf 26 = .ok (.iconst 5, 1) := by decide +kernel
theorem dX10_sizeOf_27 : decode cX10_sizeOf 27 = .ok (.if_icmp .ne 9, 3) := by decide +kernel
theorem dX10_sizeOf_30 : decode cX10_sizeOf 30 = .ok (.aload_n 0, 1) := by decide +kernel
theorem dX10_sizeOf_31 : decode cX10_sizeOf 31 = .ok (.bipush 14, 2) := by decide +kernel
theorem dX10_sizeOf_33 : decode cX10_sizeOf 33 = .ok (.invokevirtual 280, 3) := by decide +kernel
theorem dX10_sizeOf_36 : decode cX10_sizeOf 36 = .ok (.aload_n 0, 1) := by decide +kernel
theorem dX10_sizeOf_37 : decode cX10_sizeOf 37 = .ok (.bipush 13, 2) := by decide +kernel
theorem dX10_sizeOf_39 : decode cX10_sizeOf 39 = .ok (.invokevirtual 280, 3) := by decide +kernel
theorem dX10_sizeOf_42 : decode cX10_sizeOf 42 = .ok (.aload_n 0, 1) := by decide +kernel
theorem dX10_sizeOf_43 : decode cX10_sizeOf 43 = .ok (.bipush 10, 2) := by decide +kernel
theorem dX10_sizeOf_45 : decode cX10_sizeOf 45 = .ok (.invokevirtual 280, 3) := by decide +kernel
theorem dX10_sizeOf_48 : decode cX10_sizeOf 48 = .ok (.iload_n 2, 1) := by decide +kernel
theorem dX10_sizeOf_49 : decode cX10_sizeOf 49 = .ok (.iconst 5, 1) := by decide +kernel
theorem dX10_sizeOf_50 : decode cX10_sizeOf 50 = .ok (.if_icmp .ne 12, 3) := by decide +kernel
theorem dX10_sizeOf_53 : decode cX10_sizeOf 53 = .ok (.iconst 2, 1) := by decide +kernel
theorem dX10_sizeOf_54 : decode cX10_sizeOf 54 = .ok (.iload_n 3, 1) := by decide +kernel
theorem dX10_sizeOf_55 : decode cX10_sizeOf 55 = .ok (.bipush 100, 2) := by decide +kernel
theorem dX10_sizeOf_57 : decode cX10_sizeOf 57 = .ok (.isub, 1) := by decide +kernel
theorem dX10_sizeOf_58 : decode cX10_sizeOf 58 = .ok (.imul, 1) := by decide +kernel
theorem dX10_sizeOf_59 : decode cX10_sizeOf 59 = .ok (.goto 7, 3) := by decide +kernel
theorem dX10_sizeOf_62 : decode cX10_sizeOf 62 = .ok (.iload_n 3, 1) := by decide +kernel
theorem dX10_sizeOf_63 : decode cX10_sizeOf 63 = .ok (.bipush 100, 2) := by decide +kernel
theorem dX10_sizeOf_65 : decode cX10_sizeOf 65 = .ok (.isub, 1) := by decide +kernel
theorem dX10_sizeOf_66 : decode cX10_sizeOf 66 = .ok (.ireturn, 1) := by decide +kernel
theorem dX10_sizeOf_67 : decode cX10_sizeOf 67 = .ok (.iload_n 2, 1) := by decide +kernel
theorem dX10_sizeOf_68 : decode cX10_sizeOf 68 = .ok (.iconst 2, 1) := by decide +kernel
theorem dX10_sizeOf_69 : decode cX10_sizeOf 69 = .ok (.if_icmp .ne 9, 3) := by decide +kernel
theorem dX10_sizeOf_72 : decode cX10_sizeOf 72 = .ok (.aload_n 0, 1) := by decide +kernel
theorem dX10_sizeOf_73 : decode cX10_sizeOf 73 = .ok (.bipush 12, 2) := by decide +kernel
theorem dX10_sizeOf_75 : decode cX10_sizeOf 75 = .ok (.invokevirtual 280, 3) := by decide +kernel
theorem dX10_sizeOf_78 : decode cX10_sizeOf 78 = .ok (.aload_n 0, 1) := by decide +kernel
theorem dX10_sizeOf_79 : decode cX10_sizeOf 79 = .ok (.bipush 11, 2) := by decide +kernel
theorem dX10_sizeOf_81 : decode cX10_sizeOf 81 = .ok (.invokevirtual 280, 3) := by decide +kernel
theorem dX10_sizeOf_84 : decode cX10_sizeOf 84 = .ok (.aload_n 0, 1) := by decide +kernel
theorem dX10_sizeOf_85 : decode cX10_sizeOf 85 = .ok (.bipush 10, 2) := by decide +kernel
theorem dX10_sizeOf_87 : decode cX10_sizeOf 87 = .ok (.invokevirtual 280, 3) := by decide +kernel
theorem dX10_sizeOf_90 : decode cX10_sizeOf 90 = .ok (.iload_n 3, 1) := by decide +kernel
theorem dX10_sizeOf_91 : decode cX10_sizeOf 91 = .ok (.aload_n 0, 1) := by decide +kernel
theorem dX10_sizeOf_92 : decode cX10_sizeOf 92 = .ok (.iload_n 1, 1) := by decide +kernel
theorem dX10_sizeOf_93 : decode cX10_sizeOf 93 = .ok (.invokevirtual 283, 3) := by decide +kernel
theorem dX10_sizeOf_96 : decode cX10_sizeOf 96 = .ok (.iadd, 1) := by decide +kernel
theorem dX10_sizeOf_97 : decode cX10_sizeOf 97 = .ok (.istore 4, 2) := by decide +kernel
theorem dX10_sizeOf_99 : decode cX10_sizeOf 99 = .ok (.iload_n 2, 1) := by decide +kernel
theorem dX10_sizeOf_100 : decode cX10_sizeOf 100 = .ok (.iconst 2, 1) := by decide +kernel
theorem dX10_sizeOf_101 : decode cX10_sizeOf 101 = .ok (.if_icmp .ne 9, 3) := by decide +kernel
theorem dX10_sizeOf_104 : decode cX10_sizeOf 104 = .ok (.iload 4, 2) := by decide +kernel
theorem dX10_sizeOf_106 : decode cX10_sizeOf 106 = .ok (.ineg, 1) := by decide +kernel
theorem dX10_sizeOf_107 : decode cX10_sizeOf 107 = .ok (.goto 5, 3) := by decide +kernel
theorem dX10_sizeOf_110 : decode cX10_sizeOf 110 = .ok (.iload 4, 2) := by decide +kernel
theorem dX10_sizeOf_112 : decode cX10_sizeOf 112 = .ok (.ireturn, 1) := by decide +kernel
theorem dX10_markOf_0 : decode cX10_markOf 0 = .ok (.aload_n 0, 1) := by decide +kernel
theorem dX10_markOf_1 : decode cX10_markOf 1 = .ok (.getfield 25, 3) := by decide +kernel
theorem dX10_markOf_4 : decode cX10_markOf 4 = .ok (.bipush 6, 2) := by decide +kernel
theorem dX10_markOf_6 : decode cX10_markOf 6 = .ok (.iload_n 1, 1) := by decide +kernel
theorem dX10_markOf_7 : decode cX10_markOf 7 = .ok (.iadd, 1) := by decide +kernel
theorem dX10_markOf_8 : decode cX10_markOf 8 = .ok (.iaload, 1) := by decide +kernel
theorem dX10_markOf_9 : decode cX10_markOf 9 = .ok (.iconst 4, 1) := by decide +kernel
theorem dX10_markOf_10 : decode cX10_markOf 10 = .ok (.if_icmp .ge 9, 3) := by decide +kernel
theorem dX10_markOf_13 : decode cX10_markOf 13 = .ok (.aload_n 0, 1) := by decide +kernel
theorem dX10_markOf_14 : decode cX10_markOf 14 = .ok (.iload_n 1, 1) := by decide +kernel
theorem dX10_markOf_15 : decode cX10_markOf 15 = .ok (.invokevirtual 283, 3) := by decide +kernel
theorem dX10_markOf_18 : decode cX10_markOf 18 = .ok (.ireturn, 1) := by decide +kernel
theorem dX10_markOf_19 : decode cX10_markOf 19 = .ok (.aload_n 0, 1) := by decide +kernel
theorem dX10_markOf_20 : decode cX10_markOf 20 = .ok (.bipush 23, 2) := by decide +kernel
theorem dX10_markOf_22 : decode cX10_markOf 22 = .ok (.invokevirtual 280, 3) := by decide +kernel
theorem dX10_markOf_25 : decode cX10_markOf 25 = .ok (.aload_n 0, 1) := by decide +kernel
theorem dX10_markOf_26 : decode cX10_markOf 26 = .ok (.bipush 20, 2) := by decide +kernel
theorem dX10_markOf_28 : decode cX10_markOf 28 = .ok (.invokevirtual 280, 3) := by decide +kernel
theorem dX10_markOf_31 : decode cX10_markOf 31 = .ok (.iload_n 1, 1) := by decide +kernel
theorem dX10_markOf_32 : decode cX10_markOf 32 = .ok (.aload_n 0, 1) := by decide +kernel
theorem dX10_markOf_33 : decode cX10_markOf 33 = .ok (.iload_n 1, 1) := by decide +kernel
theorem dX10_markOf_34 : decode cX10_markOf 34 = .ok (.invokevirtual 286, 3) := by decide +kernel
theorem dX10_markOf_37 : decode cX10_markOf 37 = .ok (.isub, 1) := by decide +kernel
theorem dX10_markOf_38 : decode cX10_markOf 38 = .ok (.ireturn, 1) := by decide +kernel
theorem dX10_ask_0 : decode cX10_ask 0 = .ok (.aload_n 0, 1) := by decide +kernel
theorem dX10_ask_1 : decode cX10_ask 1 = .ok (.iload_n 1, 1) := by decide +kernel
theorem dX10_ask_2 : decode cX10_ask 2 = .ok (.invokevirtual 274, 3) := by decide +kernel
theorem dX10_ask_5 : decode cX10_ask 5 = .ok (.ifCond .eq 13, 3) := by decide +kernel
theorem dX10_ask_8 : decode cX10_ask 8 = .ok (.iload_n 2, 1) := by decide +kernel
theorem dX10_ask_9 : decode cX10_ask 9 = .ok (.i2l, 1) := by decide +kernel
theorem dX10_ask_10 : decode cX10_ask 10 = .ok (.lconst 0, 1) := by decide +kernel
theorem dX10_ask_11 : decode cX10_ask 11 = .ok (.lconst 1, 1) := by decide +kernel
theorem dX10_ask_12 : decode cX10_ask 12 = .ok (.invokestatic 64, 3) := by decide +kernel
theorem dX10_ask_15 : decode cX10_ask 15 = .ok (.ifCond .ne 6, 3) := by decide +kernel
theorem dX10_ask_18 : decode cX10_ask 18 = .ok (.ldc 79, 2) := by decide +kernel
theorem dX10_ask_20 : decode cX10_ask 20 = .ok (.ireturn, 1) := by decide +kernel
theorem dX10_ask_21 : decode cX10_ask 21 = .ok (.aload_n 0, 1) := by decide +kernel
theorem dX10_ask_22 : decode cX10_ask 22 = .ok (.iconst 0, 1) := by decide +kernel
theorem dX10_ask_23 : decode cX10_ask 23 = .ok (.putfield 277, 3) := by decide +kernel
theorem dX10_ask_26 : decode cX10_ask 26 = .ok (.iload_n 2, 1) := by decide +kernel
theorem dX10_ask_27 : decode cX10_ask 27 = .ok (.ifCond .ne 11, 3) := by decide +kernel
theorem dX10_ask_30 : decode cX10_ask 30 = .ok (.aload_n 0, 1) := by decide +kernel
theorem dX10_ask_31 : decode cX10_ask 31 = .ok (.iload_n 1, 1) := by decide +kernel
theorem dX10_ask_32 : decode cX10_ask 32 = .ok (.invokevirtual 286, 3) := by decide +kernel
theorem dX10_ask_35 : decode cX10_ask 35 = .ok (.goto 8, 3) := by decide +kernel
theorem dX10_ask_38 : decode cX10_ask 38 = .ok (.aload_n 0, 1) := by decide +kernel
theorem dX10_ask_39 : decode cX10_ask 39 = .ok (.iload_n 1, 1) := by decide +kernel
theorem dX10_ask_40 : decode cX10_ask 40 = .ok (.invokevirtual 289, 3) := by decide +kernel
theorem dX10_ask_43 : decode cX10_ask 43 = .ok (.ireturn, 1) := by decide +kernel
theorem dX10_trace_0 : decode cX10_trace 0 = .ok (.iload_n 1, 1) := by decide +kernel
theorem dX10_trace_1 : decode cX10_trace 1 = .ok (.i2l, 1) := by decide +kernel
theorem dX10_trace_2 : decode cX10_trace 2 = .ok (.lconst 0, 1) := by decide +kernel
theorem dX10_trace_3 : decode cX10_trace 3 = .ok (.aload_n 0, 1) := by decide +kernel
theorem dX10_trace_4 : decode cX10_trace 4 = .ok (.getfield 277, 3) := by decide +kernel
theorem dX10_trace_7 : decode cX10_trace 7 = .ok (.iconst 1, 1) := by decide +kernel
theorem dX10_trace_8 : decode cX10_trace 8 = .ok (.isub, 1) := by decide +kernel
theorem dX10_trace_9 : decode cX10_trace 9 = .ok (.i2l, 1) := by decide +kernel
theorem dX10_trace_10 : decode cX10_trace 10 = .ok (.invokestatic 64, 3) := by decide +kernel
theorem dX10_trace_13 : decode cX10_trace 13 = .ok (.ifCond .eq 12, 3) := by decide +kernel
theorem dX10_trace_16 : decode cX10_trace 16 = .ok (.aload_n 0, 1) := by decide +kernel
theorem dX10_trace_17 : decode cX10_trace 17 = .ok (.getfield 59, 3) := by decide +kernel
theorem dX10_trace_20 : decode cX10_trace 20 = .ok (.iload_n 1, 1) := by decide +kernel
theorem dX10_trace_21 : decode cX10_trace 21 = .ok (.iaload, 1) := by decide +kernel
theorem dX10_trace_22 : decode cX10_trace 22 = .ok (.goto 5, 3) := by decide +kernel
theorem dX10_trace_25 : decode cX10_trace 25 = .ok (.ldc 165, 2) := by decide +kernel
theorem dX10_trace_27 : decode cX10_trace 27 = .ok (.ireturn, 1) := by decide +kernel
theorem dX10_count_0 : decode cX10_count 0 = .ok (.iload_n 1, 1) := by decide +kernel
theorem dX10_count_1 : decode cX10_count 1 = .ok (.i2l, 1) := by decide +kernel
theorem dX10_count_2 : decode cX10_count 2 = .ok (.lconst 0, 1) := by decide +kernel
theorem dX10_count_3 : decode cX10_count 3 = .ok (.ldc2_w 292, 3) := by decide +kernel
theorem dX10_count_6 : decode cX10_count 6 = .ok (.invokestatic 64, 3) := by decide +kernel
theorem dX10_count_9 : decode cX10_count 9 = .ok (.ifCond .ne 6, 3) := by decide +kernel
theorem dX10_count_12 : decode cX10_count 12 = .ok (.ldc 79, 2) := by decide +kernel
theorem dX10_count_14 : decode cX10_count 14 = .ok (.ireturn, 1) := by decide +kernel
theorem dX10_count_15 : decode cX10_count 15 = .ok (.iconst 0, 1) := by decide +kernel
theorem dX10_count_16 : decode cX10_count 16 = .ok (.istore_n 2, 1) := by decide +kernel
theorem dX10_count_17 : decode cX10_count 17 = .ok (.iconst 0, 1) := by decide +kernel
theorem dX10_count_18 : decode cX10_count 18 = .ok (.istore_n 3, 1) := by decide +kernel
theorem dX10_count_19 : decode cX10_count 19 = .ok (.iload_n 3, 1) := by decide +kernel
theorem dX10_count_20 : decode cX10_count 20 = .ok (.bipush 8, 2) := by decide +kernel
theorem dX10_count_22 : decode cX10_count 22 = .ok (.if_icmp .ge 26, 3) := by decide +kernel
theorem dX10_count_25 : decode cX10_count 25 = .ok (.iload_n 2, 1) := by decide +kernel
theorem dX10_count_26 : decode cX10_count 26 = .ok (.aload_n 0, 1) := by decide +kernel
theorem dX10_count_27 : decode cX10_count 27 = .ok (.getfield 7, 3) := by decide +kernel
theorem dX10_count_30 : decode cX10_count 30 = .ok (.iload_n 3, 1) := by decide +kernel
theorem dX10_count_31 : decode cX10_count 31 = .ok (.iaload, 1) := by decide +kernel
theorem dX10_count_32 : decode cX10_count 32 = .ok (.ifCond .ge 7, 3) := by decide +kernel
theorem dX10_count_35 : decode cX10_count 35 = .ok (.iconst 0, 1) := by decide +kernel
theorem dX10_count_36 : decode cX10_count 36 = .ok (.goto 4, 3) := by decide +kernel
theorem dX10_count_39 : decode cX10_count 39 = .ok (.iconst 1, 1) := by decide +kernel
theorem dX10_count_40 : decode cX10_count 40 = .ok (.iadd, 1) := by decide +kernel
theorem dX10_count_41 : decode cX10_count 41 = .ok (.istore_n 2, 1) := by decide +kernel
theorem dX10_count_42 : decode cX10_count 42 = .ok (.iinc 3 1, 3) := by decide +kernel
theorem dX10_count_45 : decode cX10_count 45 = .ok (.goto (-26), 3) := by decide +kernel
theorem dX10_count_48 : decode cX10_count 48 = .ok (.aload_n 0, 1) := by decide +kernel
theorem dX10_count_49 : decode cX10_count 49 = .ok (.invokevirtual 205, 3) := by decide +kernel
theorem dX10_count_52 : decode cX10_count 52 = .ok (.iload_n 1, 1) := by decide +kernel
theorem dX10_count_53 : decode cX10_count 53 = .ok (.ifCond .ne 7, 3) := by decide +kernel
theorem dX10_count_56 : decode cX10_count 56 = .ok (.iload_n 2, 1) := by decide +kernel
theorem dX10_count_57 : decode cX10_count 57 = .ok (.goto 37, 3) := by decide +kernel
theorem dX10_count_60 : decode cX10_count 60 = .ok (.iload_n 1, 1) := by decide +kernel
theorem dX10_count_61 : decode cX10_count 61 = .ok (.iconst 1, 1) := by decide +kernel
theorem dX10_count_62 : decode cX10_count 62 = .ok (.if_icmp .ne 12, 3) := by decide +kernel
theorem dX10_count_65 : decode cX10_count 65 = .ok (.aload_n 0, 1) := by decide +kernel
theorem dX10_count_66 : decode cX10_count 66 = .ok (.getfield 25, 3) := by decide +kernel
theorem dX10_count_69 : decode cX10_count 69 = .ok (.iconst 3, 1) := by decide +kernel
theorem dX10_count_70 : decode cX10_count 70 = .ok (.iaload, 1) := by decide +kernel
theorem dX10_count_71 : decode cX10_count 71 = .ok (.goto 23, 3) := by decide +kernel
theorem dX10_count_74 : decode cX10_count 74 = .ok (.iload_n 1, 1) := by decide +kernel
theorem dX10_count_75 : decode cX10_count 75 = .ok (.iconst 2, 1) := by decide +kernel
theorem dX10_count_76 : decode cX10_count 76 = .ok (.if_icmp .ne 12, 3) := by decide +kernel
theorem dX10_count_79 : decode cX10_count 79 = .ok (.aload_n 0, 1) := by decide +kernel
theorem dX10_count_80 : decode cX10_count 80 = .ok (.getfield 25, 3) := by decide +kernel
theorem dX10_count_83 : decode cX10_count 83 = .ok (.iconst 4, 1) := by decide +kernel
theorem dX10_count_84 : decode cX10_count 84 = .ok (.iaload, 1) := by decide +kernel
theorem dX10_count_85 : decode cX10_count 85 = .ok (.goto 9, 3) := by decide +kernel
theorem dX10_count_88 : decode cX10_count 88 = .ok (.aload_n 0, 1) := by decide +kernel
theorem dX10_count_89 : decode cX10_count 89 = .ok (.getfield 25, 3) := by decide +kernel
theorem dX10_count_92 : decode cX10_count 92 = .ok (.iconst 5, 1) := by decide +kernel
theorem dX10_count_93 : decode cX10_count 93 = .ok (.iaload, 1) := by decide +kernel
theorem dX10_count_94 : decode cX10_count 94 = .ok (.istore_n 3, 1) := by decide +kernel
theorem dX10_count_95 : decode cX10_count 95 = .ok (.iload_n 1, 1) := by decide +kernel
theorem dX10_count_96 : decode cX10_count 96 = .ok (.iconst 5, 1) := by decide +kernel
theorem dX10_count_97 : decode cX10_count 97 = .ok (.if_icmp .ne 12, 3) := by decide +kernel
theorem dX10_count_100 : decode cX10_count 100 = .ok (.aload_n 0, 1) := by decide +kernel
theorem dX10_count_101 : decode cX10_count 101 = .ok (.getfield 28, 3) := by decide +kernel
theorem dX10_count_104 : decode cX10_count 104 = .ok (.iconst 1, 1) := by decide +kernel
theorem dX10_count_105 : decode cX10_count 105 = .ok (.iaload, 1) := by decide +kernel
theorem dX10_count_106 : decode cX10_count 106 = .ok (.goto 34, 3) := by decide +kernel
theorem dX10_count_109 : decode cX10_count 109 = .ok (.iload_n 1, 1) := by decide +kernel
theorem dX10_count_110 : decode cX10_count 110 = .ok (.bipush 6, 2) := by decide +kernel
theorem dX10_count_112 : decode cX10_count 112 = .ok (.if_icmp .ne 11, 3) := by decide +kernel
theorem dX10_count_115 : decode cX10_count 115 = .ok (.aload_n 0, 1) := by decide +kernel
theorem dX10_count_116 : decode cX10_count 116 = .ok (.iconst 0, 1) := by decide +kernel
theorem dX10_count_117 : decode cX10_count 117 = .ok (.invokevirtual 238, 3) := by decide +kernel
theorem dX10_count_120 : decode cX10_count 120 = .ok (.goto 20, 3) := by decide +kernel
theorem dX10_count_123 : decode cX10_count 123 = .ok (.iload_n 1, 1) := by decide +kernel
theorem dX10_count_124 : decode cX10_count 124 = .ok (.bipush 7, 2) := by decide +kernel
theorem dX10_count_126 : decode cX10_count 126 = .ok (.if_icmp .ne 10, 3) := by decide +kernel
theorem dX10_count_129 : decode cX10_count 129 = .ok (.aload_n 0, 1) := by decide +kernel
theorem dX10_count_130 : decode cX10_count 130 = .ok (.getfield 166, 3) := by decide +kernel
theorem dX10_count_133 : decode cX10_count 133 = .ok (.goto 7, 3) := by decide +kernel
theorem dX10_count_136 : decode cX10_count 136 = .ok (.aload_n 0, 1) := by decide +kernel
theorem dX10_count_137 : decode cX10_count 137 = .ok (.getfield 89, 3) := by decide +kernel
theorem dX10_count_140 : decode cX10_count 140 = .ok (.istore 4, 2) := by decide +kernel
theorem dX10_count_142 : decode cX10_count 142 = .ok (.iload_n 1, 1) := by decide +kernel
theorem dX10_count_143 : decode cX10_count 143 = .ok (.iconst 4, 1) := by decide +kernel
theorem dX10_count_144 : decode cX10_count 144 = .ok (.if_icmp .ge 7, 3) := by decide +kernel
theorem dX10_count_147 : decode cX10_count 147 = .ok (.iload_n 3, 1) := by decide +kernel
theorem dX10_count_148 : decode cX10_count 148 = .ok (.goto 19, 3) := by decide +kernel
theorem dX10_count_151 : decode cX10_count 151 = .ok (.iload_n 1, 1) := by decide +kernel
theorem dX10_count_152 : decode cX10_count 152 = .ok (.iconst 4, 1) := by decide +kernel
theorem dX10_count_153 : decode cX10_count 153 = .ok (.if_icmp .ne 12, 3) := by decide +kernel
theorem dX10_count_156 : decode cX10_count 156 = .ok (.aload_n 0, 1) := by decide +kernel
theorem dX10_count_157 : decode cX10_count 157 = .ok (.getfield 28, 3) := by decide +kernel
theorem dX10_count_160 : decode cX10_count 160 = .ok (.iconst 0, 1) := by decide +kernel
theorem dX10_count_161 : decode cX10_count 161 = .ok (.iaload, 1) := by decide +kernel
theorem dX10_count_162 : decode cX10_count 162 = .ok (.goto 5, 3) := by decide +kernel
theorem dX10_count_165 : decode cX10_count 165 = .ok (.iload 4, 2) := by decide +kernel
theorem dX10_count_167 : decode cX10_count 167 = .ok (.ireturn, 1) := by decide +kernel
theorem dX10_status_0 : decode cX10_status 0 = .ok (.aload_n 0, 1) := by decide +kernel
theorem dX10_status_1 : decode cX10_status 1 = .ok (.getfield 68, 3) := by decide +kernel
theorem dX10_status_4 : decode cX10_status 4 = .ok (.ireturn, 1) := by decide +kernel
end
section
theorem dL_law_0 : decode cL_law 0 = .ok (.new 7, 3) := by decide +kernel
theorem dL_law_3 : decode cL_law 3 = .ok (.dup, 1) := by decide +kernel
theorem dL_law_4 : decode cL_law 4 = .ok (.invokespecial 9, 3) := by decide +kernel
theorem dL_law_7 : decode cL_law 7 = .ok (.astore_n 1, 1) := by decide +kernel
theorem dL_law_8 : decode cL_law 8 = .ok (.new 10, 3) := by decide +kernel
theorem dL_law_11 : decode cL_law 11 = .ok (.dup, 1) := by decide +kernel
theorem dL_law_12 : decode cL_law 12 = .ok (.invokespecial 12, 3) := by decide +kernel
theorem dL_law_15 : decode cL_law 15 = .ok (.astore_n 2, 1) := by decide +kernel
theorem dL_law_16 : decode cL_law 16 = .ok (.iconst 0, 1) := by decide +kernel
theorem dL_law_17 : decode cL_law 17 = .ok (.istore_n 3, 1) := by decide +kernel
theorem dL_law_18 : decode cL_law 18 = .ok (.iload_n 3, 1) := by decide +kernel
theorem dL_law_19 : decode cL_law 19 = .ok (.aload_n 0, 1) := by decide +kernel
theorem dL_law_20 : decode cL_law 20 = .ok (.arraylength, 1) := by decide +kernel
theorem dL_law_21 : decode cL_law 21 = .ok (.bipush 6, 2) := by decide +kernel
theorem dL_law_23 : decode cL_law 23 = .ok (.isub, 1) := by decide +kernel
theorem dL_law_24 : decode cL_law 24 = .ok (.if_icmp .gt 1366, 3) := by decide +kernel
theorem dL_law_27 : decode cL_law 27 = .ok (.aload_n 0, 1) := by decide +kernel
theorem dL_law_28 : decode cL_law 28 = .ok (.iload_n 3, 1) := by decide +kernel
theorem dL_law_29 : decode cL_law 29 = .ok (.iaload, 1) := by decide +kernel
theorem dL_law_30 : decode cL_law 30 = .ok (.bipush 63, 2) := by decide +kernel
theorem dL_law_32 : decode cL_law 32 = .ok (.iand, 1) := by decide +kernel
theorem dL_law_33 : decode cL_law 33 = .ok (.tableswitch 1351 0 37 #[167, 210, 253, 316, 339, 362, 375, 388, 411, 444, 467, 500, 533, 546, 579, 612, 645, 678, 721, 754, 787, 820, 853, 886, 919, 952, 975, 1008, 1061, 1114, 1157, 1180, 1203, 1226, 1259, 1292, 1315, 1338], 167) := by decide +kernel
theorem dL_law_200 : decode cL_law 200 = .ok (.aload_n 1, 1) := by decide +kernel
theorem dL_law_201 : decode cL_law 201 = .ok (.aload_n 0, 1) := by decide +kernel
theorem dL_law_202 : decode cL_law 202 = .ok (.iload_n 3, 1) := by decide +kernel
theorem dL_law_203 : decode cL_law 203 = .ok (.iconst 1, 1) := by decide +kernel
theorem dL_law_204 : decode cL_law 204 = .ok (.iadd, 1) := by decide +kernel
theorem dL_law_205 : decode cL_law 205 = .ok (.iaload, 1) := by decide +kernel
theorem dL_law_206 : decode cL_law 206 = .ok (.aload_n 0, 1) := by decide +kernel
theorem dL_law_207 : decode cL_law 207 = .ok (.iload_n 3, 1) := by decide +kernel
theorem dL_law_208 : decode cL_law 208 = .ok (.iconst 2, 1) := by decide +kernel
theorem dL_law_209 : decode cL_law 209 = .ok (.iadd, 1) := by decide +kernel
theorem dL_law_210 : decode cL_law 210 = .ok (.iaload, 1) := by decide +kernel
theorem dL_law_211 : decode cL_law 211 = .ok (.aload_n 0, 1) := by decide +kernel
theorem dL_law_212 : decode cL_law 212 = .ok (.iload_n 3, 1) := by decide +kernel
theorem dL_law_213 : decode cL_law 213 = .ok (.iconst 3, 1) := by decide +kernel
theorem dL_law_214 : decode cL_law 214 = .ok (.iadd, 1) := by decide +kernel
theorem dL_law_215 : decode cL_law 215 = .ok (.iaload, 1) := by decide +kernel
theorem dL_law_216 : decode cL_law 216 = .ok (.invokevirtual 13, 3) := by decide +kernel
theorem dL_law_219 : decode cL_law 219 = .ok (.aload_n 2, 1) := by decide +kernel
theorem dL_law_220 : decode cL_law 220 = .ok (.aload_n 0, 1) := by decide +kernel
theorem dL_law_221 : decode cL_law 221 = .ok (.iload_n 3, 1) := by decide +kernel
theorem dL_law_222 : decode cL_law 222 = .ok (.iconst 1, 1) := by decide +kernel
theorem dL_law_223 : decode cL_law 223 = .ok (.iadd, 1) := by decide +kernel
theorem dL_law_224 : decode cL_law 224 = .ok (.iaload, 1) := by decide +kernel
theorem dL_law_225 : decode cL_law 225 = .ok (.aload_n 0, 1) := by decide +kernel
theorem dL_law_226 : decode cL_law 226 = .ok (.iload_n 3, 1) := by decide +kernel
theorem dL_law_227 : decode cL_law 227 = .ok (.iconst 2, 1) := by decide +kernel
theorem dL_law_228 : decode cL_law 228 = .ok (.iadd, 1) := by decide +kernel
theorem dL_law_229 : decode cL_law 229 = .ok (.iaload, 1) := by decide +kernel
theorem dL_law_230 : decode cL_law 230 = .ok (.aload_n 0, 1) := by decide +kernel
theorem dL_law_231 : decode cL_law 231 = .ok (.iload_n 3, 1) := by decide +kernel
theorem dL_law_232 : decode cL_law 232 = .ok (.iconst 3, 1) := by decide +kernel
theorem dL_law_233 : decode cL_law 233 = .ok (.iadd, 1) := by decide +kernel
theorem dL_law_234 : decode cL_law 234 = .ok (.iaload, 1) := by decide +kernel
theorem dL_law_235 : decode cL_law 235 = .ok (.invokevirtual 17, 3) := by decide +kernel
theorem dL_law_238 : decode cL_law 238 = .ok (.if_icmp .eq 1146, 3) := by decide +kernel
theorem dL_law_241 : decode cL_law 241 = .ok (.iconst 0, 1) := by decide +kernel
theorem dL_law_242 : decode cL_law 242 = .ok (.ireturn, 1) := by decide +kernel
theorem dL_law_243 : decode cL_law 243 = .ok (.aload_n 1, 1) := by decide +kernel
theorem dL_law_244 : decode cL_law 244 = .ok (.aload_n 0, 1) := by decide +kernel
theorem dL_law_245 : decode cL_law 245 = .ok (.iload_n 3, 1) := by decide +kernel
theorem dL_law_246 : decode cL_law 246 = .ok (.iconst 1, 1) := by decide +kernel
theorem dL_law_247 : decode cL_law 247 = .ok (.iadd, 1) := by decide +kernel
theorem dL_law_248 : decode cL_law 248 = .ok (.iaload, 1) := by decide +kernel
theorem dL_law_249 : decode cL_law 249 = .ok (.aload_n 0, 1) := by decide +kernel
theorem dL_law_250 : decode cL_law 250 = .ok (.iload_n 3, 1) := by decide +kernel
theorem dL_law_251 : decode cL_law 251 = .ok (.iconst 2, 1) := by decide +kernel
theorem dL_law_252 : decode cL_law 252 = .ok (.iadd, 1) := by decide +kernel
theorem dL_law_253 : decode cL_law 253 = .ok (.iaload, 1) := by decide +kernel
theorem dL_law_254 : decode cL_law 254 = .ok (.aload_n 0, 1) := by decide +kernel
theorem dL_law_255 : decode cL_law 255 = .ok (.iload_n 3, 1) := by decide +kernel
theorem dL_law_256 : decode cL_law 256 = .ok (.iconst 3, 1) := by decide +kernel
theorem dL_law_257 : decode cL_law 257 = .ok (.iadd, 1) := by decide +kernel
theorem dL_law_258 : decode cL_law 258 = .ok (.iaload, 1) := by decide +kernel
theorem dL_law_259 : decode cL_law 259 = .ok (.invokevirtual 18, 3) := by decide +kernel
theorem dL_law_262 : decode cL_law 262 = .ok (.aload_n 2, 1) := by decide +kernel
theorem dL_law_263 : decode cL_law 263 = .ok (.aload_n 0, 1) := by decide +kernel
theorem dL_law_264 : decode cL_law 264 = .ok (.iload_n 3, 1) := by decide +kernel
theorem dL_law_265 : decode cL_law 265 = .ok (.iconst 1, 1) := by decide +kernel
theorem dL_law_266 : decode cL_law 266 = .ok (.iadd, 1) := by decide +kernel
theorem dL_law_267 : decode cL_law 267 = .ok (.iaload, 1) := by decide +kernel
theorem dL_law_268 : decode cL_law 268 = .ok (.aload_n 0, 1) := by decide +kernel
theorem dL_law_269 : decode cL_law 269 = .ok (.iload_n 3, 1) := by decide +kernel
theorem dL_law_270 : decode cL_law 270 = .ok (.iconst 2, 1) := by decide +kernel
theorem dL_law_271 : decode cL_law 271 = .ok (.iadd, 1) := by decide +kernel
theorem dL_law_272 : decode cL_law 272 = .ok (.iaload, 1) := by decide +kernel
theorem dL_law_273 : decode cL_law 273 = .ok (.aload_n 0, 1) := by decide +kernel
theorem dL_law_274 : decode cL_law 274 = .ok (.iload_n 3, 1) := by decide +kernel
theorem dL_law_275 : decode cL_law 275 = .ok (.iconst 3, 1) := by decide +kernel
theorem dL_law_276 : decode cL_law 276 = .ok (.iadd, 1) := by decide +kernel
theorem dL_law_277 : decode cL_law 277 = .ok (.iaload, 1) := by decide +kernel
theorem dL_law_278 : decode cL_law 278 = .ok (.invokevirtual 21, 3) := by decide +kernel
theorem dL_law_281 : decode cL_law 281 = .ok (.if_icmp .eq 1103, 3) := by decide +kernel
theorem dL_law_284 : decode cL_law 284 = .ok (.iconst 0, 1) := by decide +kernel
theorem dL_law_285 : decode cL_law 285 = .ok (.ireturn, 1) := by decide +kernel
theorem dL_law_286 : decode cL_law 286 = .ok (.aload_n 1, 1) := by decide +kernel
theorem dL_law_287 : decode cL_law 287 = .ok (.aload_n 0, 1) := by decide +kernel
theorem dL_law_288 : decode cL_law 288 = .ok (.iload_n 3, 1) := by decide +kernel
theorem dL_law_289 : decode cL_law 289 = .ok (.iconst 1, 1) := by decide +kernel
theorem dL_law_290 : decode cL_law 290 = .ok (.iadd, 1) := by decide +kernel
theorem dL_law_291 : decode cL_law 291 = .ok (.iaload, 1) := by decide +kernel
theorem dL_law_292 : decode cL_law 292 = .ok (.aload_n 0, 1) := by decide +kernel
theorem dL_law_293 : decode cL_law 293 = .ok (.iload_n 3, 1) := by decide +kernel
theorem dL_law_294 : decode cL_law 294 = .ok (.iconst 2, 1) := by decide +kernel
theorem dL_law_295 : decode cL_law 295 = .ok (.iadd, 1) := by decide +kernel
theorem dL_law_296 : decode cL_law 296 = .ok (.iaload, 1) := by decide +kernel
theorem dL_law_297 : decode cL_law 297 = .ok (.aload_n 0, 1) := by decide +kernel
theorem dL_law_298 : decode cL_law 298 = .ok (.iload_n 3, 1) := by decide +kernel
theorem dL_law_299 : decode cL_law 299 = .ok (.iconst 3, 1) := by decide +kernel
theorem dL_law_300 : decode cL_law 300 = .ok (.iadd, 1) := by decide +kernel
theorem dL_law_301 : decode cL_law 301 = .ok (.iaload, 1) := by decide +kernel
theorem dL_law_302 : decode cL_law 302 = .ok (.aload_n 0, 1) := by decide +kernel
theorem dL_law_303 : decode cL_law 303 = .ok (.iload_n 3, 1) := by decide +kernel
theorem dL_law_304 : decode cL_law 304 = .ok (.iconst 4, 1) := by decide +kernel
theorem dL_law_305 : decode cL_law 305 = .ok (.iadd, 1) := by decide +kernel
theorem dL_law_306 : decode cL_law 306 = .ok (.iaload, 1) := by decide +kernel
theorem dL_law_307 : decode cL_law 307 = .ok (.aload_n 0, 1) := by decide +kernel
theorem dL_law_308 : decode cL_law 308 = .ok (.iload_n 3, 1) := by decide +kernel
theorem dL_law_309 : decode cL_law 309 = .ok (.iconst 5, 1) := by decide +kernel
theorem dL_law_310 : decode cL_law 310 = .ok (.iadd, 1) := by decide +kernel
theorem dL_law_311 : decode cL_law 311 = .ok (.iaload, 1) := by decide +kernel
theorem dL_law_312 : decode cL_law 312 = .ok (.invokevirtual 22, 3) := by decide +kernel
theorem dL_law_315 : decode cL_law 315 = .ok (.aload_n 2, 1) := by decide +kernel
theorem dL_law_316 : decode cL_law 316 = .ok (.aload_n 0, 1) := by decide +kernel
theorem dL_law_317 : decode cL_law 317 = .ok (.iload_n 3, 1) := by decide +kernel
theorem dL_law_318 : decode cL_law 318 = .ok (.iconst 1, 1) := by decide +kernel
theorem dL_law_319 : decode cL_law 319 = .ok (.iadd, 1) := by decide +kernel
theorem dL_law_320 : decode cL_law 320 = .ok (.iaload, 1) := by decide +kernel
theorem dL_law_321 : decode cL_law 321 = .ok (.aload_n 0, 1) := by decide +kernel
theorem dL_law_322 : decode cL_law 322 = .ok (.iload_n 3, 1) := by decide +kernel
theorem dL_law_323 : decode cL_law 323 = .ok (.iconst 2, 1) := by decide +kernel
theorem dL_law_324 : decode cL_law 324 = .ok (.iadd, 1) := by decide +kernel
theorem dL_law_325 : decode cL_law 325 = .ok (.iaload, 1) := by decide +kernel
theorem dL_law_326 : decode cL_law 326 = .ok (.aload_n 0, 1) := by decide +kernel
theorem dL_law_327 : decode cL_law 327 = .ok (.iload_n 3, 1) := by decide +kernel
theorem dL_law_328 : decode cL_law 328 = .ok (.iconst 3, 1) := by decide +kernel
theorem dL_law_329 : decode cL_law 329 = .ok (.iadd, 1) := by decide +kernel
theorem dL_law_330 : decode cL_law 330 = .ok (.iaload, 1) := by decide +kernel
theorem dL_law_331 : decode cL_law 331 = .ok (.aload_n 0, 1) := by decide +kernel
theorem dL_law_332 : decode cL_law 332 = .ok (.iload_n 3, 1) := by decide +kernel
theorem dL_law_333 : decode cL_law 333 = .ok (.iconst 4, 1) := by decide +kernel
theorem dL_law_334 : decode cL_law 334 = .ok (.iadd, 1) := by decide +kernel
theorem dL_law_335 : decode cL_law 335 = .ok (.iaload, 1) := by decide +kernel
theorem dL_law_336 : decode cL_law 336 = .ok (.aload_n 0, 1) := by decide +kernel
theorem dL_law_337 : decode cL_law 337 = .ok (.iload_n 3, 1) := by decide +kernel
theorem dL_law_338 : decode cL_law 338 = .ok (.iconst 5, 1) := by decide +kernel
theorem dL_law_339 : decode cL_law 339 = .ok (.iadd, 1) := by decide +kernel
theorem dL_law_340 : decode cL_law 340 = .ok (.iaload, 1) := by decide +kernel
theorem dL_law_341 : decode cL_law 341 = .ok (.invokevirtual 26, 3) := by decide +kernel
theorem dL_law_344 : decode cL_law 344 = .ok (.if_icmp .eq 1040, 3) := by decide +kernel
theorem dL_law_347 : decode cL_law 347 = .ok (.iconst 0, 1) := by decide +kernel
theorem dL_law_348 : decode cL_law 348 = .ok (.ireturn, 1) := by decide +kernel
theorem dL_law_349 : decode cL_law 349 = .ok (.aload_n 1, 1) := by decide +kernel
theorem dL_law_350 : decode cL_law 350 = .ok (.aload_n 0, 1) := by decide +kernel
theorem dL_law_351 : decode cL_law 351 = .ok (.iload_n 3, 1) := by decide +kernel
theorem dL_law_352 : decode cL_law 352 = .ok (.iconst 1, 1) := by decide +kernel
theorem dL_law_353 : decode cL_law 353 = .ok (.iadd, 1) := by decide +kernel
theorem dL_law_354 : decode cL_law 354 = .ok (.iaload, 1) := by decide +kernel
theorem dL_law_355 : decode cL_law 355 = .ok (.invokevirtual 27, 3) := by decide +kernel
theorem dL_law_358 : decode cL_law 358 = .ok (.aload_n 2, 1) := by decide +kernel
theorem dL_law_359 : decode cL_law 359 = .ok (.aload_n 0, 1) := by decide +kernel
theorem dL_law_360 : decode cL_law 360 = .ok (.iload_n 3, 1) := by decide +kernel
theorem dL_law_361 : decode cL_law 361 = .ok (.iconst 1, 1) := by decide +kernel
theorem dL_law_362 : decode cL_law 362 = .ok (.iadd, 1) := by decide +kernel
theorem dL_law_363 : decode cL_law 363 = .ok (.iaload, 1) := by decide +kernel
theorem dL_law_364 : decode cL_law 364 = .ok (.invokevirtual 31, 3) := by decide +kernel
theorem dL_law_367 : decode cL_law 367 = .ok (.if_icmp .eq 1017, 3) := by decide +kernel
theorem dL_law_370 : decode cL_law 370 = .ok (.iconst 0, 1) := by decide +kernel
theorem dL_law_371 : decode cL_law 371 = .ok (.ireturn, 1) := by decide +kernel
theorem dL_law_372 : decode cL_law 372 = .ok (.aload_n 1, 1) := by decide +kernel
theorem dL_law_373 : decode cL_law 373 = .ok (.aload_n 0, 1) := by decide +kernel
theorem dL_law_374 : decode cL_law 374 = .ok (.iload_n 3, 1) := by decide +kernel
theorem dL_law_375 : decode cL_law 375 = .ok (.iconst 1, 1) := by decide +kernel
theorem dL_law_376 : decode cL_law 376 = .ok (.iadd, 1) := by decide +kernel
theorem dL_law_377 : decode cL_law 377 = .ok (.iaload, 1) := by decide +kernel
theorem dL_law_378 : decode cL_law 378 = .ok (.invokevirtual 32, 3) := by decide +kernel
theorem dL_law_381 : decode cL_law 381 = .ok (.aload_n 2, 1) := by decide +kernel
theorem dL_law_382 : decode cL_law 382 = .ok (.aload_n 0, 1) := by decide +kernel
theorem dL_law_383 : decode cL_law 383 = .ok (.iload_n 3, 1) := by decide +kernel
theorem dL_law_384 : decode cL_law 384 = .ok (.iconst 1, 1) := by decide +kernel
theorem dL_law_385 : decode cL_law 385 = .ok (.iadd, 1) := by decide +kernel
theorem dL_law_386 : decode cL_law 386 = .ok (.iaload, 1) := by decide +kernel
theorem dL_law_387 : decode cL_law 387 = .ok (.invokevirtual 35, 3) := by decide +kernel
theorem dL_law_390 : decode cL_law 390 = .ok (.if_icmp .eq 994, 3) := by decide +kernel
theorem dL_law_393 : decode cL_law 393 = .ok (.iconst 0, 1) := by decide +kernel
theorem dL_law_394 : decode cL_law 394 = .ok (.ireturn, 1) := by decide +kernel
theorem dL_law_395 : decode cL_law 395 = .ok (.aload_n 1, 1) := by decide +kernel
theorem dL_law_396 : decode cL_law 396 = .ok (.invokevirtual 36, 3) := by decide +kernel
theorem dL_law_399 : decode cL_law 399 = .ok (.aload_n 2, 1) := by decide +kernel
theorem dL_law_400 : decode cL_law 400 = .ok (.invokevirtual 40, 3) := by decide +kernel
theorem dL_law_403 : decode cL_law 403 = .ok (.if_icmp .eq 981, 3) := by decide +kernel
theorem dL_law_406 : decode cL_law 406 = .ok (.iconst 0, 1) := by decide +kernel
theorem dL_law_407 : decode cL_law 407 = .ok (.ireturn, 1) := by decide +kernel
theorem dL_law_408 : decode cL_law 408 = .ok (.aload_n 1, 1) := by decide +kernel
theorem dL_law_409 : decode cL_law 409 = .ok (.invokevirtual 41, 3) := by decide +kernel
theorem dL_law_412 : decode cL_law 412 = .ok (.aload_n 2, 1) := by decide +kernel
theorem dL_law_413 : decode cL_law 413 = .ok (.invokevirtual 44, 3) := by decide +kernel
theorem dL_law_416 : decode cL_law 416 = .ok (.if_icmp .eq 968, 3) := by decide +kernel
theorem dL_law_419 : decode cL_law 419 = .ok (.iconst 0, 1) := by decide +kernel
theorem dL_law_420 : decode cL_law 420 = .ok (.ireturn, 1) := by decide +kernel
theorem dL_law_421 : decode cL_law 421 = .ok (.aload_n 1, 1) := by decide +kernel
theorem dL_law_422 : decode cL_law 422 = .ok (.aload_n 0, 1) := by decide +kernel
theorem dL_law_423 : decode cL_law 423 = .ok (.iload_n 3, 1) := by decide +kernel
theorem dL_law_424 : decode cL_law 424 = .ok (.iconst 1, 1) := by decide +kernel
theorem dL_law_425 : decode cL_law 425 = .ok (.iadd, 1) := by decide +kernel
theorem dL_law_426 : decode cL_law 426 = .ok (.iaload, 1) := by decide +kernel
theorem dL_law_427 : decode cL_law 427 = .ok (.invokevirtual 45, 3) := by decide +kernel
theorem dL_law_430 : decode cL_law 430 = .ok (.aload_n 2, 1) := by decide +kernel
theorem dL_law_431 : decode cL_law 431 = .ok (.aload_n 0, 1) := by decide +kernel
theorem dL_law_432 : decode cL_law 432 = .ok (.iload_n 3, 1) := by decide +kernel
theorem dL_law_433 : decode cL_law 433 = .ok (.iconst 1, 1) := by decide +kernel
theorem dL_law_434 : decode cL_law 434 = .ok (.iadd, 1) := by decide +kernel
theorem dL_law_435 : decode cL_law 435 = .ok (.iaload, 1) := by decide +kernel
theorem dL_law_436 : decode cL_law 436 = .ok (.invokevirtual 48, 3) := by decide +kernel
theorem dL_law_439 : decode cL_law 439 = .ok (.if_icmp .eq 945, 3) := by decide +kernel
theorem dL_law_442 : decode cL_law 442 = .ok (.iconst 0, 1) := by decide +kernel
theorem dL_law_443 : decode cL_law 443 = .ok (.ireturn, 1) := by decide +kernel
theorem dL_law_444 : decode cL_law 444 = .ok (.aload_n 1, 1) := by decide +kernel
theorem dL_law_445 : decode cL_law 445 = .ok (.aload_n 0, 1) := by decide +kernel
theorem dL_law_446 : decode cL_law 446 = .ok (.iload_n 3, 1) := by decide +kernel
theorem dL_law_447 : decode cL_law 447 = .ok (.iconst 1, 1) := by decide +kernel
theorem dL_law_448 : decode cL_law 448 = .ok (.iadd, 1) := by decide +kernel
theorem dL_law_449 : decode cL_law 449 = .ok (.iaload, 1) := by decide +kernel
theorem dL_law_450 : decode cL_law 450 = .ok (.aload_n 0, 1) := by decide +kernel
theorem dL_law_451 : decode cL_law 451 = .ok (.iload_n 3, 1) := by decide +kernel
theorem dL_law_452 : decode cL_law 452 = .ok (.iconst 2, 1) := by decide +kernel
theorem dL_law_453 : decode cL_law 453 = .ok (.iadd, 1) := by decide +kernel
theorem dL_law_454 : decode cL_law 454 = .ok (.iaload, 1) := by decide +kernel
theorem dL_law_455 : decode cL_law 455 = .ok (.invokevirtual 49, 3) := by decide +kernel
theorem dL_law_458 : decode cL_law 458 = .ok (.aload_n 2, 1) := by decide +kernel
theorem dL_law_459 : decode cL_law 459 = .ok (.aload_n 0, 1) := by decide +kernel
theorem dL_law_460 : decode cL_law 460 = .ok (.iload_n 3, 1) := by decide +kernel
theorem dL_law_461 : decode cL_law 461 = .ok (.iconst 1, 1) := by decide +kernel
theorem dL_law_462 : decode cL_law 462 = .ok (.iadd, 1) := by decide +kernel
theorem dL_law_463 : decode cL_law 463 = .ok (.iaload, 1) := by decide +kernel
theorem dL_law_464 : decode cL_law 464 = .ok (.aload_n 0, 1) := by decide +kernel
theorem dL_law_465 : decode cL_law 465 = .ok (.iload_n 3, 1) := by decide +kernel
theorem dL_law_466 : decode cL_law 466 = .ok (.iconst 2, 1) := by decide +kernel
theorem dL_law_467 : decode cL_law 467 = .ok (.iadd, 1) := by decide +kernel
theorem dL_law_468 : decode cL_law 468 = .ok (.iaload, 1) := by decide +kernel
theorem dL_law_469 : decode cL_law 469 = .ok (.invokevirtual 53, 3) := by decide +kernel
theorem dL_law_472 : decode cL_law 472 = .ok (.if_icmp .eq 912, 3) := by decide +kernel
theorem dL_law_475 : decode cL_law 475 = .ok (.iconst 0, 1) := by decide +kernel
theorem dL_law_476 : decode cL_law 476 = .ok (.ireturn, 1) := by decide +kernel
theorem dL_law_477 : decode cL_law 477 = .ok (.aload_n 1, 1) := by decide +kernel
theorem dL_law_478 : decode cL_law 478 = .ok (.aload_n 0, 1) := by decide +kernel
theorem dL_law_479 : decode cL_law 479 = .ok (.iload_n 3, 1) := by decide +kernel
theorem dL_law_480 : decode cL_law 480 = .ok (.iconst 1, 1) := by decide +kernel
theorem dL_law_481 : decode cL_law 481 = .ok (.iadd, 1) := by decide +kernel
theorem dL_law_482 : decode cL_law 482 = .ok (.iaload, 1) := by decide +kernel
theorem dL_law_483 : decode cL_law 483 = .ok (.invokevirtual 54, 3) := by decide +kernel
theorem dL_law_486 : decode cL_law 486 = .ok (.aload_n 2, 1) := by decide +kernel
theorem dL_law_487 : decode cL_law 487 = .ok (.aload_n 0, 1) := by decide +kernel
theorem dL_law_488 : decode cL_law 488 = .ok (.iload_n 3, 1) := by decide +kernel
theorem dL_law_489 : decode cL_law 489 = .ok (.iconst 1, 1) := by decide +kernel
theorem dL_law_490 : decode cL_law 490 = .ok (.iadd, 1) := by decide +kernel
theorem dL_law_491 : decode cL_law 491 = .ok (.iaload, 1) := by decide +kernel
theorem dL_law_492 : decode cL_law 492 = .ok (.invokevirtual 57, 3) := by decide +kernel
theorem dL_law_495 : decode cL_law 495 = .ok (.if_icmp .eq 889, 3) := by decide +kernel
theorem dL_law_498 : decode cL_law 498 = .ok (.iconst 0, 1) := by decide +kernel
theorem dL_law_499 : decode cL_law 499 = .ok (.ireturn, 1) := by decide +kernel
theorem dL_law_500 : decode cL_law 500 = .ok (.aload_n 1, 1) := by decide +kernel
theorem dL_law_501 : decode cL_law 501 = .ok (.aload_n 0, 1) := by decide +kernel
theorem dL_law_502 : decode cL_law 502 = .ok (.iload_n 3, 1) := by decide +kernel
theorem dL_law_503 : decode cL_law 503 = .ok (.iconst 1, 1) := by decide +kernel
theorem dL_law_504 : decode cL_law 504 = .ok (.iadd, 1) := by decide +kernel
theorem dL_law_505 : decode cL_law 505 = .ok (.iaload, 1) := by decide +kernel
theorem dL_law_506 : decode cL_law 506 = .ok (.aload_n 0, 1) := by decide +kernel
theorem dL_law_507 : decode cL_law 507 = .ok (.iload_n 3, 1) := by decide +kernel
theorem dL_law_508 : decode cL_law 508 = .ok (.iconst 2, 1) := by decide +kernel
theorem dL_law_509 : decode cL_law 509 = .ok (.iadd, 1) := by decide +kernel
theorem dL_law_510 : decode cL_law 510 = .ok (.iaload, 1) := by decide +kernel
theorem dL_law_511 : decode cL_law 511 = .ok (.invokevirtual 58, 3) := by decide +kernel
theorem dL_law_514 : decode cL_law 514 = .ok (.aload_n 2, 1) := by decide +kernel
theorem dL_law_515 : decode cL_law 515 = .ok (.aload_n 0, 1) := by decide +kernel
theorem dL_law_516 : decode cL_law 516 = .ok (.iload_n 3, 1) := by decide +kernel
theorem dL_law_517 : decode cL_law 517 = .ok (.iconst 1, 1) := by decide +kernel
theorem dL_law_518 : decode cL_law 518 = .ok (.iadd, 1) := by decide +kernel
theorem dL_law_519 : decode cL_law 519 = .ok (.iaload, 1) := by decide +kernel
theorem dL_law_520 : decode cL_law 520 = .ok (.aload_n 0, 1) := by decide +kernel
theorem dL_law_521 : decode cL_law 521 = .ok (.iload_n 3, 1) := by decide +kernel
theorem dL_law_522 : decode cL_law 522 = .ok (.iconst 2, 1) := by decide +kernel
theorem dL_law_523 : decode cL_law 523 = .ok (.iadd, 1) := by decide +kernel
theorem dL_law_524 : decode cL_law 524 = .ok (.iaload, 1) := by decide +kernel
theorem dL_law_525 : decode cL_law 525 = .ok (.invokevirtual 61, 3) := by decide +kernel
theorem dL_law_528 : decode cL_law 528 = .ok (.if_icmp .eq 856, 3) := by decide +kernel
theorem dL_law_531 : decode cL_law 531 = .ok (.iconst 0, 1) := by decide +kernel
theorem dL_law_532 : decode cL_law 532 = .ok (.ireturn, 1) := by decide +kernel
theorem dL_law_533 : decode cL_law 533 = .ok (.aload_n 1, 1) := by decide +kernel
theorem dL_law_534 : decode cL_law 534 = .ok (.aload_n 0, 1) := by decide +kernel
theorem dL_law_535 : decode cL_law 535 = .ok (.iload_n 3, 1) := by decide +kernel
theorem dL_law_536 : decode cL_law 536 = .ok (.iconst 1, 1) := by decide +kernel
theorem dL_law_537 : decode cL_law 537 = .ok (.iadd, 1) := by decide +kernel
theorem dL_law_538 : decode cL_law 538 = .ok (.iaload, 1) := by decide +kernel
theorem dL_law_539 : decode cL_law 539 = .ok (.aload_n 0, 1) := by decide +kernel
theorem dL_law_540 : decode cL_law 540 = .ok (.iload_n 3, 1) := by decide +kernel
theorem dL_law_541 : decode cL_law 541 = .ok (.iconst 2, 1) := by decide +kernel
theorem dL_law_542 : decode cL_law 542 = .ok (.iadd, 1) := by decide +kernel
theorem dL_law_543 : decode cL_law 543 = .ok (.iaload, 1) := by decide +kernel
theorem dL_law_544 : decode cL_law 544 = .ok (.invokevirtual 62, 3) := by decide +kernel
theorem dL_law_547 : decode cL_law 547 = .ok (.aload_n 2, 1) := by decide +kernel
theorem dL_law_548 : decode cL_law 548 = .ok (.aload_n 0, 1) := by decide +kernel
theorem dL_law_549 : decode cL_law 549 = .ok (.iload_n 3, 1) := by decide +kernel
theorem dL_law_550 : decode cL_law 550 = .ok (.iconst 1, 1) := by decide +kernel
theorem dL_law_551 : decode cL_law 551 = .ok (.iadd, 1) := by decide +kernel
theorem dL_law_552 : decode cL_law 552 = .ok (.iaload, 1) := by decide +kernel
theorem dL_law_553 : decode cL_law 553 = .ok (.aload_n 0, 1) := by decide +kernel
theorem dL_law_554 : decode cL_law 554 = .ok (.iload_n 3, 1) := by decide +kernel
theorem dL_law_555 : decode cL_law 555 = .ok (.iconst 2, 1) := by decide +kernel
theorem dL_law_556 : decode cL_law 556 = .ok (.iadd, 1) := by decide +kernel
theorem dL_law_557 : decode cL_law 557 = .ok (.iaload, 1) := by decide +kernel
theorem dL_law_558 : decode cL_law 558 = .ok (.invokevirtual 65, 3) := by decide +kernel
theorem dL_law_561 : decode cL_law 561 = .ok (.if_icmp .eq 823, 3) := by decide +kernel
theorem dL_law_564 : decode cL_law 564 = .ok (.iconst 0, 1) := by decide +kernel
theorem dL_law_565 : decode cL_law 565 = .ok (.ireturn, 1) := by decide +kernel
theorem dL_law_566 : decode cL_law 566 = .ok (.aload_n 1, 1) := by decide +kernel
theorem dL_law_567 : decode cL_law 567 = .ok (.invokevirtual 66, 3) := by decide +kernel
theorem dL_law_570 : decode cL_law 570 = .ok (.aload_n 2, 1) := by decide +kernel
theorem dL_law_571 : decode cL_law 571 = .ok (.invokevirtual 69, 3) := by decide +kernel
theorem dL_law_574 : decode cL_law 574 = .ok (.if_icmp .eq 810, 3) := by decide +kernel
theorem dL_law_577 : decode cL_law 577 = .ok (.iconst 0, 1) := by decide +kernel
theorem dL_law_578 : decode cL_law 578 = .ok (.ireturn, 1) := by decide +kernel
theorem dL_law_579 : decode cL_law 579 = .ok (.aload_n 1, 1) := by decide +kernel
theorem dL_law_580 : decode cL_law 580 = .ok (.aload_n 0, 1) := by decide +kernel
theorem dL_law_581 : decode cL_law 581 = .ok (.iload_n 3, 1) := by decide +kernel
theorem dL_law_582 : decode cL_law 582 = .ok (.iconst 1, 1) := by decide +kernel
theorem dL_law_583 : decode cL_law 583 = .ok (.iadd, 1) := by decide +kernel
theorem dL_law_584 : decode cL_law 584 = .ok (.iaload, 1) := by decide +kernel
theorem dL_law_585 : decode cL_law 585 = .ok (.aload_n 0, 1) := by decide +kernel
theorem dL_law_586 : decode cL_law 586 = .ok (.iload_n 3, 1) := by decide +kernel
theorem dL_law_587 : decode cL_law 587 = .ok (.iconst 2, 1) := by decide +kernel
theorem dL_law_588 : decode cL_law 588 = .ok (.iadd, 1) := by decide +kernel
theorem dL_law_589 : decode cL_law 589 = .ok (.iaload, 1) := by decide +kernel
theorem dL_law_590 : decode cL_law 590 = .ok (.invokevirtual 70, 3) := by decide +kernel
theorem dL_law_593 : decode cL_law 593 = .ok (.aload_n 2, 1) := by decide +kernel
theorem dL_law_594 : decode cL_law 594 = .ok (.aload_n 0, 1) := by decide +kernel
theorem dL_law_595 : decode cL_law 595 = .ok (.iload_n 3, 1) := by decide +kernel
theorem dL_law_596 : decode cL_law 596 = .ok (.iconst 1, 1) := by decide +kernel
theorem dL_law_597 : decode cL_law 597 = .ok (.iadd, 1) := by decide +kernel
theorem dL_law_598 : decode cL_law 598 = .ok (.iaload, 1) := by decide +kernel
theorem dL_law_599 : decode cL_law 599 = .ok (.aload_n 0, 1) := by decide +kernel
theorem dL_law_600 : decode cL_law 600 = .ok (.iload_n 3, 1) := by decide +kernel
theorem dL_law_601 : decode cL_law 601 = .ok (.iconst 2, 1) := by decide +kernel
theorem dL_law_602 : decode cL_law 602 = .ok (.iadd, 1) := by decide +kernel
theorem dL_law_603 : decode cL_law 603 = .ok (.iaload, 1) := by decide +kernel
theorem dL_law_604 : decode cL_law 604 = .ok (.invokevirtual 73, 3) := by decide +kernel
theorem dL_law_607 : decode cL_law 607 = .ok (.if_icmp .eq 777, 3) := by decide +kernel
theorem dL_law_610 : decode cL_law 610 = .ok (.iconst 0, 1) := by decide +kernel
theorem dL_law_611 : decode cL_law 611 = .ok (.ireturn, 1) := by decide +kernel
theorem dL_law_612 : decode cL_law 612 = .ok (.aload_n 1, 1) := by decide +kernel
theorem dL_law_613 : decode cL_law 613 = .ok (.aload_n 0, 1) := by decide +kernel
theorem dL_law_614 : decode cL_law 614 = .ok (.iload_n 3, 1) := by decide +kernel
theorem dL_law_615 : decode cL_law 615 = .ok (.iconst 1, 1) := by decide +kernel
theorem dL_law_616 : decode cL_law 616 = .ok (.iadd, 1) := by decide +kernel
theorem dL_law_617 : decode cL_law 617 = .ok (.iaload, 1) := by decide +kernel
theorem dL_law_618 : decode cL_law 618 = .ok (.aload_n 0, 1) := by decide +kernel
theorem dL_law_619 : decode cL_law 619 = .ok (.iload_n 3, 1) := by decide +kernel
theorem dL_law_620 : decode cL_law 620 = .ok (.iconst 2, 1) := by decide +kernel
theorem dL_law_621 : decode cL_law 621 = .ok (.iadd, 1) := by decide +kernel
theorem dL_law_622 : decode cL_law 622 = .ok (.iaload, 1) := by decide +kernel
theorem dL_law_623 : decode cL_law 623 = .ok (.invokevirtual 74, 3) := by decide +kernel
theorem dL_law_626 : decode cL_law 626 = .ok (.aload_n 2, 1) := by decide +kernel
theorem dL_law_627 : decode cL_law 627 = .ok (.aload_n 0, 1) := by decide +kernel
theorem dL_law_628 : decode cL_law 628 = .ok (.iload_n 3, 1) := by decide +kernel
theorem dL_law_629 : decode cL_law 629 = .ok (.iconst 1, 1) := by decide +kernel
theorem dL_law_630 : decode cL_law 630 = .ok (.iadd, 1) := by decide +kernel
theorem dL_law_631 : decode cL_law 631 = .ok (.iaload, 1) := by decide +kernel
theorem dL_law_632 : decode cL_law 632 = .ok (.aload_n 0, 1) := by decide +kernel
theorem dL_law_633 : decode cL_law 633 = .ok (.iload_n 3, 1) := by decide +kernel
theorem dL_law_634 : decode cL_law 634 = .ok (.iconst 2, 1) := by decide +kernel
theorem dL_law_635 : decode cL_law 635 = .ok (.iadd, 1) := by decide +kernel
theorem dL_law_636 : decode cL_law 636 = .ok (.iaload, 1) := by decide +kernel
theorem dL_law_637 : decode cL_law 637 = .ok (.invokevirtual 77, 3) := by decide +kernel
theorem dL_law_640 : decode cL_law 640 = .ok (.if_icmp .eq 744, 3) := by decide +kernel
theorem dL_law_643 : decode cL_law 643 = .ok (.iconst 0, 1) := by decide +kernel
theorem dL_law_644 : decode cL_law 644 = .ok (.ireturn, 1) := by decide +kernel
theorem dL_law_645 : decode cL_law 645 = .ok (.aload_n 1, 1) := by decide +kernel
theorem dL_law_646 : decode cL_law 646 = .ok (.aload_n 0, 1) := by decide +kernel
theorem dL_law_647 : decode cL_law 647 = .ok (.iload_n 3, 1) := by decide +kernel
theorem dL_law_648 : decode cL_law 648 = .ok (.iconst 1, 1) := by decide +kernel
theorem dL_law_649 : decode cL_law 649 = .ok (.iadd, 1) := by decide +kernel
theorem dL_law_650 : decode cL_law 650 = .ok (.iaload, 1) := by decide +kernel
theorem dL_law_651 : decode cL_law 651 = .ok (.aload_n 0, 1) := by decide +kernel
theorem dL_law_652 : decode cL_law 652 = .ok (.iload_n 3, 1) := by decide +kernel
theorem dL_law_653 : decode cL_law 653 = .ok (.iconst 2, 1) := by decide +kernel
theorem dL_law_654 : decode cL_law 654 = .ok (.iadd, 1) := by decide +kernel
theorem dL_law_655 : decode cL_law 655 = .ok (.iaload, 1) := by decide +kernel
theorem dL_law_656 : decode cL_law 656 = .ok (.invokevirtual 78, 3) := by decide +kernel
theorem dL_law_659 : decode cL_law 659 = .ok (.aload_n 2, 1) := by decide +kernel
theorem dL_law_660 : decode cL_law 660 = .ok (.aload_n 0, 1) := by decide +kernel
theorem dL_law_661 : decode cL_law 661 = .ok (.iload_n 3, 1) := by decide +kernel
theorem dL_law_662 : decode cL_law 662 = .ok (.iconst 1, 1) := by decide +kernel
theorem dL_law_663 : decode cL_law 663 = .ok (.iadd, 1) := by decide +kernel
theorem dL_law_664 : decode cL_law 664 = .ok (.iaload, 1) := by decide +kernel
theorem dL_law_665 : decode cL_law 665 = .ok (.aload_n 0, 1) := by decide +kernel
theorem dL_law_666 : decode cL_law 666 = .ok (.iload_n 3, 1) := by decide +kernel
theorem dL_law_667 : decode cL_law 667 = .ok (.iconst 2, 1) := by decide +kernel
theorem dL_law_668 : decode cL_law 668 = .ok (.iadd, 1) := by decide +kernel
theorem dL_law_669 : decode cL_law 669 = .ok (.iaload, 1) := by decide +kernel
theorem dL_law_670 : decode cL_law 670 = .ok (.invokevirtual 81, 3) := by decide +kernel
theorem dL_law_673 : decode cL_law 673 = .ok (.if_icmp .eq 711, 3) := by decide +kernel
theorem dL_law_676 : decode cL_law 676 = .ok (.iconst 0, 1) := by decide +kernel
theorem dL_law_677 : decode cL_law 677 = .ok (.ireturn, 1) := by decide +kernel
theorem dL_law_678 : decode cL_law 678 = .ok (.aload_n 1, 1) := by decide +kernel
theorem dL_law_679 : decode cL_law 679 = .ok (.aload_n 0, 1) := by decide +kernel
theorem dL_law_680 : decode cL_law 680 = .ok (.iload_n 3, 1) := by decide +kernel
theorem dL_law_681 : decode cL_law 681 = .ok (.iconst 1, 1) := by decide +kernel
theorem dL_law_682 : decode cL_law 682 = .ok (.iadd, 1) := by decide +kernel
theorem dL_law_683 : decode cL_law 683 = .ok (.iaload, 1) := by decide +kernel
theorem dL_law_684 : decode cL_law 684 = .ok (.aload_n 0, 1) := by decide +kernel
theorem dL_law_685 : decode cL_law 685 = .ok (.iload_n 3, 1) := by decide +kernel
theorem dL_law_686 : decode cL_law 686 = .ok (.iconst 2, 1) := by decide +kernel
theorem dL_law_687 : decode cL_law 687 = .ok (.iadd, 1) := by decide +kernel
theorem dL_law_688 : decode cL_law 688 = .ok (.iaload, 1) := by decide +kernel
theorem dL_law_689 : decode cL_law 689 = .ok (.invokevirtual 82, 3) := by decide +kernel
theorem dL_law_692 : decode cL_law 692 = .ok (.aload_n 2, 1) := by decide +kernel
theorem dL_law_693 : decode cL_law 693 = .ok (.aload_n 0, 1) := by decide +kernel
theorem dL_law_694 : decode cL_law 694 = .ok (.iload_n 3, 1) := by decide +kernel
theorem dL_law_695 : decode cL_law 695 = .ok (.iconst 1, 1) := by decide +kernel
theorem dL_law_696 : decode cL_law 696 = .ok (.iadd, 1) := by decide +kernel
theorem dL_law_697 : decode cL_law 697 = .ok (.iaload, 1) := by decide +kernel
theorem dL_law_698 : decode cL_law 698 = .ok (.aload_n 0, 1) := by decide +kernel
theorem dL_law_699 : decode cL_law 699 = .ok (.iload_n 3, 1) := by decide +kernel
theorem dL_law_700 : decode cL_law 700 = .ok (.iconst 2, 1) := by decide +kernel
theorem dL_law_701 : decode cL_law 701 = .ok (.iadd, 1) := by decide +kernel
theorem dL_law_702 : decode cL_law 702 = .ok (.iaload, 1) := by decide +kernel
theorem dL_law_703 : decode cL_law 703 = .ok (.invokevirtual 85, 3) := by decide +kernel
theorem dL_law_706 : decode cL_law 706 = .ok (.if_icmp .eq 678, 3) := by decide +kernel
theorem dL_law_709 : decode cL_law 709 = .ok (.iconst 0, 1) := by decide +kernel
theorem dL_law_710 : decode cL_law 710 = .ok (.ireturn, 1) := by decide +kernel
theorem dL_law_711 : decode cL_law 711 = .ok (.aload_n 1, 1) := by decide +kernel
theorem dL_law_712 : decode cL_law 712 = .ok (.aload_n 0, 1) := by decide +kernel
theorem dL_law_713 : decode cL_law 713 = .ok (.iload_n 3, 1) := by decide +kernel
theorem dL_law_714 : decode cL_law 714 = .ok (.iconst 1, 1) := by decide +kernel
theorem dL_law_715 : decode cL_law 715 = .ok (.iadd, 1) := by decide +kernel
theorem dL_law_716 : decode cL_law 716 = .ok (.iaload, 1) := by decide +kernel
theorem dL_law_717 : decode cL_law 717 = .ok (.aload_n 0, 1) := by decide +kernel
theorem dL_law_718 : decode cL_law 718 = .ok (.iload_n 3, 1) := by decide +kernel
theorem dL_law_719 : decode cL_law 719 = .ok (.iconst 2, 1) := by decide +kernel
theorem dL_law_720 : decode cL_law 720 = .ok (.iadd, 1) := by decide +kernel
theorem dL_law_721 : decode cL_law 721 = .ok (.iaload, 1) := by decide +kernel
theorem dL_law_722 : decode cL_law 722 = .ok (.aload_n 0, 1) := by decide +kernel
theorem dL_law_723 : decode cL_law 723 = .ok (.iload_n 3, 1) := by decide +kernel
theorem dL_law_724 : decode cL_law 724 = .ok (.iconst 3, 1) := by decide +kernel
theorem dL_law_725 : decode cL_law 725 = .ok (.iadd, 1) := by decide +kernel
theorem dL_law_726 : decode cL_law 726 = .ok (.iaload, 1) := by decide +kernel
theorem dL_law_727 : decode cL_law 727 = .ok (.invokevirtual 86, 3) := by decide +kernel
theorem dL_law_730 : decode cL_law 730 = .ok (.aload_n 2, 1) := by decide +kernel
theorem dL_law_731 : decode cL_law 731 = .ok (.aload_n 0, 1) := by decide +kernel
theorem dL_law_732 : decode cL_law 732 = .ok (.iload_n 3, 1) := by decide +kernel
theorem dL_law_733 : decode cL_law 733 = .ok (.iconst 1, 1) := by decide +kernel
theorem dL_law_734 : decode cL_law 734 = .ok (.iadd, 1) := by decide +kernel
theorem dL_law_735 : decode cL_law 735 = .ok (.iaload, 1) := by decide +kernel
theorem dL_law_736 : decode cL_law 736 = .ok (.aload_n 0, 1) := by decide +kernel
theorem dL_law_737 : decode cL_law 737 = .ok (.iload_n 3, 1) := by decide +kernel
theorem dL_law_738 : decode cL_law 738 = .ok (.iconst 2, 1) := by decide +kernel
theorem dL_law_739 : decode cL_law 739 = .ok (.iadd, 1) := by decide +kernel
theorem dL_law_740 : decode cL_law 740 = .ok (.iaload, 1) := by decide +kernel
theorem dL_law_741 : decode cL_law 741 = .ok (.aload_n 0, 1) := by decide +kernel
theorem dL_law_742 : decode cL_law 742 = .ok (.iload_n 3, 1) := by decide +kernel
theorem dL_law_743 : decode cL_law 743 = .ok (.iconst 3, 1) := by decide +kernel
theorem dL_law_744 : decode cL_law 744 = .ok (.iadd, 1) := by decide +kernel
theorem dL_law_745 : decode cL_law 745 = .ok (.iaload, 1) := by decide +kernel
theorem dL_law_746 : decode cL_law 746 = .ok (.invokevirtual 89, 3) := by decide +kernel
theorem dL_law_749 : decode cL_law 749 = .ok (.if_icmp .eq 635, 3) := by decide +kernel
theorem dL_law_752 : decode cL_law 752 = .ok (.iconst 0, 1) := by decide +kernel
theorem dL_law_753 : decode cL_law 753 = .ok (.ireturn, 1) := by decide +kernel
theorem dL_law_754 : decode cL_law 754 = .ok (.aload_n 1, 1) := by decide +kernel
theorem dL_law_755 : decode cL_law 755 = .ok (.aload_n 0, 1) := by decide +kernel
theorem dL_law_756 : decode cL_law 756 = .ok (.iload_n 3, 1) := by decide +kernel
theorem dL_law_757 : decode cL_law 757 = .ok (.iconst 1, 1) := by decide +kernel
theorem dL_law_758 : decode cL_law 758 = .ok (.iadd, 1) := by decide +kernel
theorem dL_law_759 : decode cL_law 759 = .ok (.iaload, 1) := by decide +kernel
theorem dL_law_760 : decode cL_law 760 = .ok (.aload_n 0, 1) := by decide +kernel
theorem dL_law_761 : decode cL_law 761 = .ok (.iload_n 3, 1) := by decide +kernel
theorem dL_law_762 : decode cL_law 762 = .ok (.iconst 2, 1) := by decide +kernel
theorem dL_law_763 : decode cL_law 763 = .ok (.iadd, 1) := by decide +kernel
theorem dL_law_764 : decode cL_law 764 = .ok (.iaload, 1) := by decide +kernel
theorem dL_law_765 : decode cL_law 765 = .ok (.invokevirtual 90, 3) := by decide +kernel
theorem dL_law_768 : decode cL_law 768 = .ok (.aload_n 2, 1) := by decide +kernel
theorem dL_law_769 : decode cL_law 769 = .ok (.aload_n 0, 1) := by decide +kernel
theorem dL_law_770 : decode cL_law 770 = .ok (.iload_n 3, 1) := by decide +kernel
theorem dL_law_771 : decode cL_law 771 = .ok (.iconst 1, 1) := by decide +kernel
theorem dL_law_772 : decode cL_law 772 = .ok (.iadd, 1) := by decide +kernel
theorem dL_law_773 : decode cL_law 773 = .ok (.iaload, 1) := by decide +kernel
theorem dL_law_774 : decode cL_law 774 = .ok (.aload_n 0, 1) := by decide +kernel
theorem dL_law_775 : decode cL_law 775 = .ok (.iload_n 3, 1) := by decide +kernel
theorem dL_law_776 : decode cL_law 776 = .ok (.iconst 2, 1) := by decide +kernel
theorem dL_law_777 : decode cL_law 777 = .ok (.iadd, 1) := by decide +kernel
theorem dL_law_778 : decode cL_law 778 = .ok (.iaload, 1) := by decide +kernel
theorem dL_law_779 : decode cL_law 779 = .ok (.invokevirtual 93, 3) := by decide +kernel
theorem dL_law_782 : decode cL_law 782 = .ok (.if_icmp .eq 602, 3) := by decide +kernel
theorem dL_law_785 : decode cL_law 785 = .ok (.iconst 0, 1) := by decide +kernel
theorem dL_law_786 : decode cL_law 786 = .ok (.ireturn, 1) := by decide +kernel
theorem dL_law_787 : decode cL_law 787 = .ok (.aload_n 1, 1) := by decide +kernel
theorem dL_law_788 : decode cL_law 788 = .ok (.aload_n 0, 1) := by decide +kernel
theorem dL_law_789 : decode cL_law 789 = .ok (.iload_n 3, 1) := by decide +kernel
theorem dL_law_790 : decode cL_law 790 = .ok (.iconst 1, 1) := by decide +kernel
theorem dL_law_791 : decode cL_law 791 = .ok (.iadd, 1) := by decide +kernel
theorem dL_law_792 : decode cL_law 792 = .ok (.iaload, 1) := by decide +kernel
theorem dL_law_793 : decode cL_law 793 = .ok (.aload_n 0, 1) := by decide +kernel
theorem dL_law_794 : decode cL_law 794 = .ok (.iload_n 3, 1) := by decide +kernel
theorem dL_law_795 : decode cL_law 795 = .ok (.iconst 2, 1) := by decide +kernel
theorem dL_law_796 : decode cL_law 796 = .ok (.iadd, 1) := by decide +kernel
theorem dL_law_797 : decode cL_law 797 = .ok (.iaload, 1) := by decide +kernel
theorem dL_law_798 : decode cL_law 798 = .ok (.invokevirtual 94, 3) := by decide +kernel
theorem dL_law_801 : decode cL_law 801 = .ok (.aload_n 2, 1) := by decide +kernel
theorem dL_law_802 : decode cL_law 802 = .ok (.aload_n 0, 1) := by decide +kernel
theorem dL_law_803 : decode cL_law 803 = .ok (.iload_n 3, 1) := by decide +kernel
theorem dL_law_804 : decode cL_law 804 = .ok (.iconst 1, 1) := by decide +kernel
theorem dL_law_805 : decode cL_law 805 = .ok (.iadd, 1) := by decide +kernel
theorem dL_law_806 : decode cL_law 806 = .ok (.iaload, 1) := by decide +kernel
theorem dL_law_807 : decode cL_law 807 = .ok (.aload_n 0, 1) := by decide +kernel
theorem dL_law_808 : decode cL_law 808 = .ok (.iload_n 3, 1) := by decide +kernel
theorem dL_law_809 : decode cL_law 809 = .ok (.iconst 2, 1) := by decide +kernel
theorem dL_law_810 : decode cL_law 810 = .ok (.iadd, 1) := by decide +kernel
theorem dL_law_811 : decode cL_law 811 = .ok (.iaload, 1) := by decide +kernel
theorem dL_law_812 : decode cL_law 812 = .ok (.invokevirtual 97, 3) := by decide +kernel
theorem dL_law_815 : decode cL_law 815 = .ok (.if_icmp .eq 569, 3) := by decide +kernel
theorem dL_law_818 : decode cL_law 818 = .ok (.iconst 0, 1) := by decide +kernel
theorem dL_law_819 : decode cL_law 819 = .ok (.ireturn, 1) := by decide +kernel
theorem dL_law_820 : decode cL_law 820 = .ok (.aload_n 1, 1) := by decide +kernel
theorem dL_law_821 : decode cL_law 821 = .ok (.aload_n 0, 1) := by decide +kernel
theorem dL_law_822 : decode cL_law 822 = .ok (.iload_n 3, 1) := by decide +kernel
theorem dL_law_823 : decode cL_law 823 = .ok (.iconst 1, 1) := by decide +kernel
theorem dL_law_824 : decode cL_law 824 = .ok (.iadd, 1) := by decide +kernel
theorem dL_law_825 : decode cL_law 825 = .ok (.iaload, 1) := by decide +kernel
theorem dL_law_826 : decode cL_law 826 = .ok (.aload_n 0, 1) := by decide +kernel
theorem dL_law_827 : decode cL_law 827 = .ok (.iload_n 3, 1) := by decide +kernel
theorem dL_law_828 : decode cL_law 828 = .ok (.iconst 2, 1) := by decide +kernel
theorem dL_law_829 : decode cL_law 829 = .ok (.iadd, 1) := by decide +kernel
theorem dL_law_830 : decode cL_law 830 = .ok (.iaload, 1) := by decide +kernel
theorem dL_law_831 : decode cL_law 831 = .ok (.invokevirtual 98, 3) := by decide +kernel
theorem dL_law_834 : decode cL_law 834 = .ok (.aload_n 2, 1) := by decide +kernel
theorem dL_law_835 : decode cL_law 835 = .ok (.aload_n 0, 1) := by decide +kernel
theorem dL_law_836 : decode cL_law 836 = .ok (.iload_n 3, 1) := by decide +kernel
theorem dL_law_837 : decode cL_law 837 = .ok (.iconst 1, 1) := by decide +kernel
theorem dL_law_838 : decode cL_law 838 = .ok (.iadd, 1) := by decide +kernel
theorem dL_law_839 : decode cL_law 839 = .ok (.iaload, 1) := by decide +kernel
theorem dL_law_840 : decode cL_law 840 = .ok (.aload_n 0, 1) := by decide +kernel
theorem dL_law_841 : decode cL_law 841 = .ok (.iload_n 3, 1) := by decide +kernel
theorem dL_law_842 : decode cL_law 842 = .ok (.iconst 2, 1) := by decide +kernel
theorem dL_law_843 : decode cL_law 843 = .ok (.iadd, 1) := by decide +kernel
theorem dL_law_844 : decode cL_law 844 = .ok (.iaload, 1) := by decide +kernel
theorem dL_law_845 : decode cL_law 845 = .ok (.invokevirtual 101, 3) := by decide +kernel
theorem dL_law_848 : decode cL_law 848 = .ok (.if_icmp .eq 536, 3) := by decide +kernel
theorem dL_law_851 : decode cL_law 851 = .ok (.iconst 0, 1) := by decide +kernel
theorem dL_law_852 : decode cL_law 852 = .ok (.ireturn, 1) := by decide +kernel
theorem dL_law_853 : decode cL_law 853 = .ok (.aload_n 1, 1) := by decide +kernel
theorem dL_law_854 : decode cL_law 854 = .ok (.aload_n 0, 1) := by decide +kernel
theorem dL_law_855 : decode cL_law 855 = .ok (.iload_n 3, 1) := by decide +kernel
theorem dL_law_856 : decode cL_law 856 = .ok (.iconst 1, 1) := by decide +kernel
theorem dL_law_857 : decode cL_law 857 = .ok (.iadd, 1) := by decide +kernel
theorem dL_law_858 : decode cL_law 858 = .ok (.iaload, 1) := by decide +kernel
theorem dL_law_859 : decode cL_law 859 = .ok (.aload_n 0, 1) := by decide +kernel
theorem dL_law_860 : decode cL_law 860 = .ok (.iload_n 3, 1) := by decide +kernel
theorem dL_law_861 : decode cL_law 861 = .ok (.iconst 2, 1) := by decide +kernel
theorem dL_law_862 : decode cL_law 862 = .ok (.iadd, 1) := by decide +kernel
theorem dL_law_863 : decode cL_law 863 = .ok (.iaload, 1) := by decide +kernel
theorem dL_law_864 : decode cL_law 864 = .ok (.invokevirtual 102, 3) := by decide +kernel
theorem dL_law_867 : decode cL_law 867 = .ok (.aload_n 2, 1) := by decide +kernel
theorem dL_law_868 : decode cL_law 868 = .ok (.aload_n 0, 1) := by decide +kernel
theorem dL_law_869 : decode cL_law 869 = .ok (.iload_n 3, 1) := by decide +kernel
theorem dL_law_870 : decode cL_law 870 = .ok (.iconst 1, 1) := by decide +kernel
theorem dL_law_871 : decode cL_law 871 = .ok (.iadd, 1) := by decide +kernel
theorem dL_law_872 : decode cL_law 872 = .ok (.iaload, 1) := by decide +kernel
theorem dL_law_873 : decode cL_law 873 = .ok (.aload_n 0, 1) := by decide +kernel
theorem dL_law_874 : decode cL_law 874 = .ok (.iload_n 3, 1) := by decide +kernel
theorem dL_law_875 : decode cL_law 875 = .ok (.iconst 2, 1) := by decide +kernel
theorem dL_law_876 : decode cL_law 876 = .ok (.iadd, 1) := by decide +kernel
theorem dL_law_877 : decode cL_law 877 = .ok (.iaload, 1) := by decide +kernel
theorem dL_law_878 : decode cL_law 878 = .ok (.invokevirtual 105, 3) := by decide +kernel
theorem dL_law_881 : decode cL_law 881 = .ok (.if_icmp .eq 503, 3) := by decide +kernel
theorem dL_law_884 : decode cL_law 884 = .ok (.iconst 0, 1) := by decide +kernel
theorem dL_law_885 : decode cL_law 885 = .ok (.ireturn, 1) := by decide +kernel
theorem dL_law_886 : decode cL_law 886 = .ok (.aload_n 1, 1) := by decide +kernel
theorem dL_law_887 : decode cL_law 887 = .ok (.aload_n 0, 1) := by decide +kernel
theorem dL_law_888 : decode cL_law 888 = .ok (.iload_n 3, 1) := by decide +kernel
theorem dL_law_889 : decode cL_law 889 = .ok (.iconst 1, 1) := by decide +kernel
theorem dL_law_890 : decode cL_law 890 = .ok (.iadd, 1) := by decide +kernel
theorem dL_law_891 : decode cL_law 891 = .ok (.iaload, 1) := by decide +kernel
theorem dL_law_892 : decode cL_law 892 = .ok (.aload_n 0, 1) := by decide +kernel
theorem dL_law_893 : decode cL_law 893 = .ok (.iload_n 3, 1) := by decide +kernel
theorem dL_law_894 : decode cL_law 894 = .ok (.iconst 2, 1) := by decide +kernel
theorem dL_law_895 : decode cL_law 895 = .ok (.iadd, 1) := by decide +kernel
theorem dL_law_896 : decode cL_law 896 = .ok (.iaload, 1) := by decide +kernel
theorem dL_law_897 : decode cL_law 897 = .ok (.invokevirtual 106, 3) := by decide +kernel
theorem dL_law_900 : decode cL_law 900 = .ok (.aload_n 2, 1) := by decide +kernel
theorem dL_law_901 : decode cL_law 901 = .ok (.aload_n 0, 1) := by decide +kernel
theorem dL_law_902 : decode cL_law 902 = .ok (.iload_n 3, 1) := by decide +kernel
theorem dL_law_903 : decode cL_law 903 = .ok (.iconst 1, 1) := by decide +kernel
theorem dL_law_904 : decode cL_law 904 = .ok (.iadd, 1) := by decide +kernel
theorem dL_law_905 : decode cL_law 905 = .ok (.iaload, 1) := by decide +kernel
theorem dL_law_906 : decode cL_law 906 = .ok (.aload_n 0, 1) := by decide +kernel
theorem dL_law_907 : decode cL_law 907 = .ok (.iload_n 3, 1) := by decide +kernel
theorem dL_law_908 : decode cL_law 908 = .ok (.iconst 2, 1) := by decide +kernel
theorem dL_law_909 : decode cL_law 909 = .ok (.iadd, 1) := by decide +kernel
theorem dL_law_910 : decode cL_law 910 = .ok (.iaload, 1) := by decide +kernel
theorem dL_law_911 : decode cL_law 911 = .ok (.invokevirtual 109, 3) := by decide +kernel
theorem dL_law_914 : decode cL_law 914 = .ok (.if_icmp .eq 470, 3) := by decide +kernel
theorem dL_law_917 : decode cL_law 917 = .ok (.iconst 0, 1) := by decide +kernel
theorem dL_law_918 : decode cL_law 918 = .ok (.ireturn, 1) := by decide +kernel
theorem dL_law_919 : decode cL_law 919 = .ok (.aload_n 1, 1) := by decide +kernel
theorem dL_law_920 : decode cL_law 920 = .ok (.aload_n 0, 1) := by decide +kernel
theorem dL_law_921 : decode cL_law 921 = .ok (.iload_n 3, 1) := by decide +kernel
theorem dL_law_922 : decode cL_law 922 = .ok (.iconst 1, 1) := by decide +kernel
theorem dL_law_923 : decode cL_law 923 = .ok (.iadd, 1) := by decide +kernel
theorem dL_law_924 : decode cL_law 924 = .ok (.iaload, 1) := by decide +kernel
theorem dL_law_925 : decode cL_law 925 = .ok (.aload_n 0, 1) := by decide +kernel
theorem dL_law_926 : decode cL_law 926 = .ok (.iload_n 3, 1) := by decide +kernel
theorem dL_law_927 : decode cL_law 927 = .ok (.iconst 2, 1) := by decide +kernel
theorem dL_law_928 : decode cL_law 928 = .ok (.iadd, 1) := by decide +kernel
theorem dL_law_929 : decode cL_law 929 = .ok (.iaload, 1) := by decide +kernel
theorem dL_law_930 : decode cL_law 930 = .ok (.invokevirtual 110, 3) := by decide +kernel
theorem dL_law_933 : decode cL_law 933 = .ok (.aload_n 2, 1) := by decide +kernel
theorem dL_law_934 : decode cL_law 934 = .ok (.aload_n 0, 1) := by decide +kernel
theorem dL_law_935 : decode cL_law 935 = .ok (.iload_n 3, 1) := by decide +kernel
theorem dL_law_936 : decode cL_law 936 = .ok (.iconst 1, 1) := by decide +kernel
theorem dL_law_937 : decode cL_law 937 = .ok (.iadd, 1) := by decide +kernel
theorem dL_law_938 : decode cL_law 938 = .ok (.iaload, 1) := by decide +kernel
theorem dL_law_939 : decode cL_law 939 = .ok (.aload_n 0, 1) := by decide +kernel
theorem dL_law_940 : decode cL_law 940 = .ok (.iload_n 3, 1) := by decide +kernel
theorem dL_law_941 : decode cL_law 941 = .ok (.iconst 2, 1) := by decide +kernel
theorem dL_law_942 : decode cL_law 942 = .ok (.iadd, 1) := by decide +kernel
theorem dL_law_943 : decode cL_law 943 = .ok (.iaload, 1) := by decide +kernel
theorem dL_law_944 : decode cL_law 944 = .ok (.invokevirtual 113, 3) := by decide +kernel
theorem dL_law_947 : decode cL_law 947 = .ok (.if_icmp .eq 437, 3) := by decide +kernel
theorem dL_law_950 : decode cL_law 950 = .ok (.iconst 0, 1) := by decide +kernel
theorem dL_law_951 : decode cL_law 951 = .ok (.ireturn, 1) := by decide +kernel
theorem dL_law_952 : decode cL_law 952 = .ok (.aload_n 1, 1) := by decide +kernel
theorem dL_law_953 : decode cL_law 953 = .ok (.aload_n 0, 1) := by decide +kernel
theorem dL_law_954 : decode cL_law 954 = .ok (.iload_n 3, 1) := by decide +kernel
theorem dL_law_955 : decode cL_law 955 = .ok (.iconst 1, 1) := by decide +kernel
theorem dL_law_956 : decode cL_law 956 = .ok (.iadd, 1) := by decide +kernel
theorem dL_law_957 : decode cL_law 957 = .ok (.iaload, 1) := by decide +kernel
theorem dL_law_958 : decode cL_law 958 = .ok (.aload_n 0, 1) := by decide +kernel
theorem dL_law_959 : decode cL_law 959 = .ok (.iload_n 3, 1) := by decide +kernel
theorem dL_law_960 : decode cL_law 960 = .ok (.iconst 2, 1) := by decide +kernel
theorem dL_law_961 : decode cL_law 961 = .ok (.iadd, 1) := by decide +kernel
theorem dL_law_962 : decode cL_law 962 = .ok (.iaload, 1) := by decide +kernel
theorem dL_law_963 : decode cL_law 963 = .ok (.invokevirtual 114, 3) := by decide +kernel
theorem dL_law_966 : decode cL_law 966 = .ok (.aload_n 2, 1) := by decide +kernel
theorem dL_law_967 : decode cL_law 967 = .ok (.aload_n 0, 1) := by decide +kernel
theorem dL_law_968 : decode cL_law 968 = .ok (.iload_n 3, 1) := by decide +kernel
theorem dL_law_969 : decode cL_law 969 = .ok (.iconst 1, 1) := by decide +kernel
theorem dL_law_970 : decode cL_law 970 = .ok (.iadd, 1) := by decide +kernel
theorem dL_law_971 : decode cL_law 971 = .ok (.iaload, 1) := by decide +kernel
theorem dL_law_972 : decode cL_law 972 = .ok (.aload_n 0, 1) := by decide +kernel
theorem dL_law_973 : decode cL_law 973 = .ok (.iload_n 3, 1) := by decide +kernel
theorem dL_law_974 : decode cL_law 974 = .ok (.iconst 2, 1) := by decide +kernel
theorem dL_law_975 : decode cL_law 975 = .ok (.iadd, 1) := by decide +kernel
theorem dL_law_976 : decode cL_law 976 = .ok (.iaload, 1) := by decide +kernel
theorem dL_law_977 : decode cL_law 977 = .ok (.invokevirtual 117, 3) := by decide +kernel
theorem dL_law_980 : decode cL_law 980 = .ok (.if_icmp .eq 404, 3) := by decide +kernel
theorem dL_law_983 : decode cL_law 983 = .ok (.iconst 0, 1) := by decide +kernel
theorem dL_law_984 : decode cL_law 984 = .ok (.ireturn, 1) := by decide +kernel
theorem dL_law_985 : decode cL_law 985 = .ok (.aload_n 1, 1) := by decide +kernel
theorem dL_law_986 : decode cL_law 986 = .ok (.aload_n 0, 1) := by decide +kernel
theorem dL_law_987 : decode cL_law 987 = .ok (.iload_n 3, 1) := by decide +kernel
theorem dL_law_988 : decode cL_law 988 = .ok (.iconst 1, 1) := by decide +kernel
theorem dL_law_989 : decode cL_law 989 = .ok (.iadd, 1) := by decide +kernel
theorem dL_law_990 : decode cL_law 990 = .ok (.iaload, 1) := by decide +kernel
theorem dL_law_991 : decode cL_law 991 = .ok (.invokevirtual 118, 3) := by decide +kernel
theorem dL_law_994 : decode cL_law 994 = .ok (.aload_n 2, 1) := by decide +kernel
theorem dL_law_995 : decode cL_law 995 = .ok (.aload_n 0, 1) := by decide +kernel
theorem dL_law_996 : decode cL_law 996 = .ok (.iload_n 3, 1) := by decide +kernel
theorem dL_law_997 : decode cL_law 997 = .ok (.iconst 1, 1) := by decide +kernel
theorem dL_law_998 : decode cL_law 998 = .ok (.iadd, 1) := by decide +kernel
theorem dL_law_999 : decode cL_law 999 = .ok (.iaload, 1) := by decide +kernel
theorem dL_law_1000 : decode cL_law 1000 = .ok (.invokevirtual 121, 3) := by decide +kernel
theorem dL_law_1003 : decode cL_law 1003 = .ok (.if_icmp .eq 381, 3) := by decide +kernel
theorem dL_law_1006 : decode cL_law 1006 = .ok (.iconst 0, 1) := by decide +kernel
theorem dL_law_1007 : decode cL_law 1007 = .ok (.ireturn, 1) := by decide +kernel
theorem dL_law_1008 : decode cL_law 1008 = .ok (.aload_n 1, 1) := by decide +kernel
theorem dL_law_1009 : decode cL_law 1009 = .ok (.aload_n 0, 1) := by decide +kernel
theorem dL_law_1010 : decode cL_law 1010 = .ok (.iload_n 3, 1) := by decide +kernel
theorem dL_law_1011 : decode cL_law 1011 = .ok (.iconst 1, 1) := by decide +kernel
theorem dL_law_1012 : decode cL_law 1012 = .ok (.iadd, 1) := by decide +kernel
theorem dL_law_1013 : decode cL_law 1013 = .ok (.iaload, 1) := by decide +kernel
theorem dL_law_1014 : decode cL_law 1014 = .ok (.aload_n 0, 1) := by decide +kernel
theorem dL_law_1015 : decode cL_law 1015 = .ok (.iload_n 3, 1) := by decide +kernel
theorem dL_law_1016 : decode cL_law 1016 = .ok (.iconst 2, 1) := by decide +kernel
theorem dL_law_1017 : decode cL_law 1017 = .ok (.iadd, 1) := by decide +kernel
theorem dL_law_1018 : decode cL_law 1018 = .ok (.iaload, 1) := by decide +kernel
theorem dL_law_1019 : decode cL_law 1019 = .ok (.invokevirtual 122, 3) := by decide +kernel
theorem dL_law_1022 : decode cL_law 1022 = .ok (.aload_n 2, 1) := by decide +kernel
theorem dL_law_1023 : decode cL_law 1023 = .ok (.aload_n 0, 1) := by decide +kernel
theorem dL_law_1024 : decode cL_law 1024 = .ok (.iload_n 3, 1) := by decide +kernel
theorem dL_law_1025 : decode cL_law 1025 = .ok (.iconst 1, 1) := by decide +kernel
theorem dL_law_1026 : decode cL_law 1026 = .ok (.iadd, 1) := by decide +kernel
theorem dL_law_1027 : decode cL_law 1027 = .ok (.iaload, 1) := by decide +kernel
theorem dL_law_1028 : decode cL_law 1028 = .ok (.aload_n 0, 1) := by decide +kernel
theorem dL_law_1029 : decode cL_law 1029 = .ok (.iload_n 3, 1) := by decide +kernel
theorem dL_law_1030 : decode cL_law 1030 = .ok (.iconst 2, 1) := by decide +kernel
theorem dL_law_1031 : decode cL_law 1031 = .ok (.iadd, 1) := by decide +kernel
theorem dL_law_1032 : decode cL_law 1032 = .ok (.iaload, 1) := by decide +kernel
theorem dL_law_1033 : decode cL_law 1033 = .ok (.invokevirtual 125, 3) := by decide +kernel
theorem dL_law_1036 : decode cL_law 1036 = .ok (.if_icmp .eq 348, 3) := by decide +kernel
theorem dL_law_1039 : decode cL_law 1039 = .ok (.iconst 0, 1) := by decide +kernel
theorem dL_law_1040 : decode cL_law 1040 = .ok (.ireturn, 1) := by decide +kernel
theorem dL_law_1041 : decode cL_law 1041 = .ok (.aload_n 1, 1) := by decide +kernel
theorem dL_law_1042 : decode cL_law 1042 = .ok (.aload_n 0, 1) := by decide +kernel
theorem dL_law_1043 : decode cL_law 1043 = .ok (.iload_n 3, 1) := by decide +kernel
theorem dL_law_1044 : decode cL_law 1044 = .ok (.iconst 1, 1) := by decide +kernel
theorem dL_law_1045 : decode cL_law 1045 = .ok (.iadd, 1) := by decide +kernel
theorem dL_law_1046 : decode cL_law 1046 = .ok (.iaload, 1) := by decide +kernel
theorem dL_law_1047 : decode cL_law 1047 = .ok (.aload_n 0, 1) := by decide +kernel
theorem dL_law_1048 : decode cL_law 1048 = .ok (.iload_n 3, 1) := by decide +kernel
theorem dL_law_1049 : decode cL_law 1049 = .ok (.iconst 2, 1) := by decide +kernel
theorem dL_law_1050 : decode cL_law 1050 = .ok (.iadd, 1) := by decide +kernel
theorem dL_law_1051 : decode cL_law 1051 = .ok (.iaload, 1) := by decide +kernel
theorem dL_law_1052 : decode cL_law 1052 = .ok (.aload_n 0, 1) := by decide +kernel
theorem dL_law_1053 : decode cL_law 1053 = .ok (.iload_n 3, 1) := by decide +kernel
theorem dL_law_1054 : decode cL_law 1054 = .ok (.iconst 3, 1) := by decide +kernel
theorem dL_law_1055 : decode cL_law 1055 = .ok (.iadd, 1) := by decide +kernel
theorem dL_law_1056 : decode cL_law 1056 = .ok (.iaload, 1) := by decide +kernel
theorem dL_law_1057 : decode cL_law 1057 = .ok (.aload_n 0, 1) := by decide +kernel
theorem dL_law_1058 : decode cL_law 1058 = .ok (.iload_n 3, 1) := by decide +kernel
theorem dL_law_1059 : decode cL_law 1059 = .ok (.iconst 4, 1) := by decide +kernel
theorem dL_law_1060 : decode cL_law 1060 = .ok (.iadd, 1) := by decide +kernel
theorem dL_law_1061 : decode cL_law 1061 = .ok (.iaload, 1) := by decide +kernel
theorem dL_law_1062 : decode cL_law 1062 = .ok (.invokevirtual 126, 3) := by decide +kernel
theorem dL_law_1065 : decode cL_law 1065 = .ok (.aload_n 2, 1) := by decide +kernel
theorem dL_law_1066 : decode cL_law 1066 = .ok (.aload_n 0, 1) := by decide +kernel
theorem dL_law_1067 : decode cL_law 1067 = .ok (.iload_n 3, 1) := by decide +kernel
theorem dL_law_1068 : decode cL_law 1068 = .ok (.iconst 1, 1) := by decide +kernel
theorem dL_law_1069 : decode cL_law 1069 = .ok (.iadd, 1) := by decide +kernel
theorem dL_law_1070 : decode cL_law 1070 = .ok (.iaload, 1) := by decide +kernel
theorem dL_law_1071 : decode cL_law 1071 = .ok (.aload_n 0, 1) := by decide +kernel
theorem dL_law_1072 : decode cL_law 1072 = .ok (.iload_n 3, 1) := by decide +kernel
theorem dL_law_1073 : decode cL_law 1073 = .ok (.iconst 2, 1) := by decide +kernel
theorem dL_law_1074 : decode cL_law 1074 = .ok (.iadd, 1) := by decide +kernel
theorem dL_law_1075 : decode cL_law 1075 = .ok (.iaload, 1) := by decide +kernel
theorem dL_law_1076 : decode cL_law 1076 = .ok (.aload_n 0, 1) := by decide +kernel
theorem dL_law_1077 : decode cL_law 1077 = .ok (.iload_n 3, 1) := by decide +kernel
theorem dL_law_1078 : decode cL_law 1078 = .ok (.iconst 3, 1) := by decide +kernel
theorem dL_law_1079 : decode cL_law 1079 = .ok (.iadd, 1) := by decide +kernel
theorem dL_law_1080 : decode cL_law 1080 = .ok (.iaload, 1) := by decide +kernel
theorem dL_law_1081 : decode cL_law 1081 = .ok (.aload_n 0, 1) := by decide +kernel
theorem dL_law_1082 : decode cL_law 1082 = .ok (.iload_n 3, 1) := by decide +kernel
theorem dL_law_1083 : decode cL_law 1083 = .ok (.iconst 4, 1) := by decide +kernel
theorem dL_law_1084 : decode cL_law 1084 = .ok (.iadd, 1) := by decide +kernel
theorem dL_law_1085 : decode cL_law 1085 = .ok (.iaload, 1) := by decide +kernel
theorem dL_law_1086 : decode cL_law 1086 = .ok (.invokevirtual 130, 3) := by decide +kernel
theorem dL_law_1089 : decode cL_law 1089 = .ok (.if_icmp .eq 295, 3) := by decide +kernel
theorem dL_law_1092 : decode cL_law 1092 = .ok (.iconst 0, 1) := by decide +kernel
theorem dL_law_1093 : decode cL_law 1093 = .ok (.ireturn, 1) := by decide +kernel
theorem dL_law_1094 : decode cL_law 1094 = .ok (.aload_n 1, 1) := by decide +kernel
theorem dL_law_1095 : decode cL_law 1095 = .ok (.aload_n 0, 1) := by decide +kernel
theorem dL_law_1096 : decode cL_law 1096 = .ok (.iload_n 3, 1) := by decide +kernel
theorem dL_law_1097 : decode cL_law 1097 = .ok (.iconst 1, 1) := by decide +kernel
theorem dL_law_1098 : decode cL_law 1098 = .ok (.iadd, 1) := by decide +kernel
theorem dL_law_1099 : decode cL_law 1099 = .ok (.iaload, 1) := by decide +kernel
theorem dL_law_1100 : decode cL_law 1100 = .ok (.aload_n 0, 1) := by decide +kernel
theorem dL_law_1101 : decode cL_law 1101 = .ok (.iload_n 3, 1) := by decide +kernel
theorem dL_law_1102 : decode cL_law 1102 = .ok (.iconst 2, 1) := by decide +kernel
theorem dL_law_1103 : decode cL_law 1103 = .ok (.iadd, 1) := by decide +kernel
theorem dL_law_1104 : decode cL_law 1104 = .ok (.iaload, 1) := by decide +kernel
theorem dL_law_1105 : decode cL_law 1105 = .ok (.aload_n 0, 1) := by decide +kernel
theorem dL_law_1106 : decode cL_law 1106 = .ok (.iload_n 3, 1) := by decide +kernel
theorem dL_law_1107 : decode cL_law 1107 = .ok (.iconst 3, 1) := by decide +kernel
theorem dL_law_1108 : decode cL_law 1108 = .ok (.iadd, 1) := by decide +kernel
theorem dL_law_1109 : decode cL_law 1109 = .ok (.iaload, 1) := by decide +kernel
theorem dL_law_1110 : decode cL_law 1110 = .ok (.aload_n 0, 1) := by decide +kernel
theorem dL_law_1111 : decode cL_law 1111 = .ok (.iload_n 3, 1) := by decide +kernel
theorem dL_law_1112 : decode cL_law 1112 = .ok (.iconst 4, 1) := by decide +kernel
theorem dL_law_1113 : decode cL_law 1113 = .ok (.iadd, 1) := by decide +kernel
theorem dL_law_1114 : decode cL_law 1114 = .ok (.iaload, 1) := by decide +kernel
theorem dL_law_1115 : decode cL_law 1115 = .ok (.invokevirtual 131, 3) := by decide +kernel
theorem dL_law_1118 : decode cL_law 1118 = .ok (.aload_n 2, 1) := by decide +kernel
theorem dL_law_1119 : decode cL_law 1119 = .ok (.aload_n 0, 1) := by decide +kernel
theorem dL_law_1120 : decode cL_law 1120 = .ok (.iload_n 3, 1) := by decide +kernel
theorem dL_law_1121 : decode cL_law 1121 = .ok (.iconst 1, 1) := by decide +kernel
theorem dL_law_1122 : decode cL_law 1122 = .ok (.iadd, 1) := by decide +kernel
theorem dL_law_1123 : decode cL_law 1123 = .ok (.iaload, 1) := by decide +kernel
theorem dL_law_1124 : decode cL_law 1124 = .ok (.aload_n 0, 1) := by decide +kernel
theorem dL_law_1125 : decode cL_law 1125 = .ok (.iload_n 3, 1) := by decide +kernel
theorem dL_law_1126 : decode cL_law 1126 = .ok (.iconst 2, 1) := by decide +kernel
theorem dL_law_1127 : decode cL_law 1127 = .ok (.iadd, 1) := by decide +kernel
theorem dL_law_1128 : decode cL_law 1128 = .ok (.iaload, 1) := by decide +kernel
theorem dL_law_1129 : decode cL_law 1129 = .ok (.aload_n 0, 1) := by decide +kernel
theorem dL_law_1130 : decode cL_law 1130 = .ok (.iload_n 3, 1) := by decide +kernel
theorem dL_law_1131 : decode cL_law 1131 = .ok (.iconst 3, 1) := by decide +kernel
theorem dL_law_1132 : decode cL_law 1132 = .ok (.iadd, 1) := by decide +kernel
theorem dL_law_1133 : decode cL_law 1133 = .ok (.iaload, 1) := by decide +kernel
theorem dL_law_1134 : decode cL_law 1134 = .ok (.aload_n 0, 1) := by decide +kernel
theorem dL_law_1135 : decode cL_law 1135 = .ok (.iload_n 3, 1) := by decide +kernel
theorem dL_law_1136 : decode cL_law 1136 = .ok (.iconst 4, 1) := by decide +kernel
theorem dL_law_1137 : decode cL_law 1137 = .ok (.iadd, 1) := by decide +kernel
theorem dL_law_1138 : decode cL_law 1138 = .ok (.iaload, 1) := by decide +kernel
theorem dL_law_1139 : decode cL_law 1139 = .ok (.invokevirtual 134, 3) := by decide +kernel
theorem dL_law_1142 : decode cL_law 1142 = .ok (.if_icmp .eq 242, 3) := by decide +kernel
theorem dL_law_1145 : decode cL_law 1145 = .ok (.iconst 0, 1) := by decide +kernel
theorem dL_law_1146 : decode cL_law 1146 = .ok (.ireturn, 1) := by decide +kernel
theorem dL_law_1147 : decode cL_law 1147 = .ok (.aload_n 1, 1) := by decide +kernel
theorem dL_law_1148 : decode cL_law 1148 = .ok (.aload_n 0, 1) := by decide +kernel
theorem dL_law_1149 : decode cL_law 1149 = .ok (.iload_n 3, 1) := by decide +kernel
theorem dL_law_1150 : decode cL_law 1150 = .ok (.iconst 1, 1) := by decide +kernel
theorem dL_law_1151 : decode cL_law 1151 = .ok (.iadd, 1) := by decide +kernel
theorem dL_law_1152 : decode cL_law 1152 = .ok (.iaload, 1) := by decide +kernel
theorem dL_law_1153 : decode cL_law 1153 = .ok (.aload_n 0, 1) := by decide +kernel
theorem dL_law_1154 : decode cL_law 1154 = .ok (.iload_n 3, 1) := by decide +kernel
theorem dL_law_1155 : decode cL_law 1155 = .ok (.iconst 2, 1) := by decide +kernel
theorem dL_law_1156 : decode cL_law 1156 = .ok (.iadd, 1) := by decide +kernel
theorem dL_law_1157 : decode cL_law 1157 = .ok (.iaload, 1) := by decide +kernel
theorem dL_law_1158 : decode cL_law 1158 = .ok (.aload_n 0, 1) := by decide +kernel
theorem dL_law_1159 : decode cL_law 1159 = .ok (.iload_n 3, 1) := by decide +kernel
theorem dL_law_1160 : decode cL_law 1160 = .ok (.iconst 3, 1) := by decide +kernel
theorem dL_law_1161 : decode cL_law 1161 = .ok (.iadd, 1) := by decide +kernel
theorem dL_law_1162 : decode cL_law 1162 = .ok (.iaload, 1) := by decide +kernel
theorem dL_law_1163 : decode cL_law 1163 = .ok (.invokevirtual 135, 3) := by decide +kernel
theorem dL_law_1166 : decode cL_law 1166 = .ok (.aload_n 2, 1) := by decide +kernel
theorem dL_law_1167 : decode cL_law 1167 = .ok (.aload_n 0, 1) := by decide +kernel
theorem dL_law_1168 : decode cL_law 1168 = .ok (.iload_n 3, 1) := by decide +kernel
theorem dL_law_1169 : decode cL_law 1169 = .ok (.iconst 1, 1) := by decide +kernel
theorem dL_law_1170 : decode cL_law 1170 = .ok (.iadd, 1) := by decide +kernel
theorem dL_law_1171 : decode cL_law 1171 = .ok (.iaload, 1) := by decide +kernel
theorem dL_law_1172 : decode cL_law 1172 = .ok (.aload_n 0, 1) := by decide +kernel
theorem dL_law_1173 : decode cL_law 1173 = .ok (.iload_n 3, 1) := by decide +kernel
theorem dL_law_1174 : decode cL_law 1174 = .ok (.iconst 2, 1) := by decide +kernel
theorem dL_law_1175 : decode cL_law 1175 = .ok (.iadd, 1) := by decide +kernel
theorem dL_law_1176 : decode cL_law 1176 = .ok (.iaload, 1) := by decide +kernel
theorem dL_law_1177 : decode cL_law 1177 = .ok (.aload_n 0, 1) := by decide +kernel
theorem dL_law_1178 : decode cL_law 1178 = .ok (.iload_n 3, 1) := by decide +kernel
theorem dL_law_1179 : decode cL_law 1179 = .ok (.iconst 3, 1) := by decide +kernel
theorem dL_law_1180 : decode cL_law 1180 = .ok (.iadd, 1) := by decide +kernel
theorem dL_law_1181 : decode cL_law 1181 = .ok (.iaload, 1) := by decide +kernel
theorem dL_law_1182 : decode cL_law 1182 = .ok (.invokevirtual 138, 3) := by decide +kernel
theorem dL_law_1185 : decode cL_law 1185 = .ok (.if_icmp .eq 199, 3) := by decide +kernel
theorem dL_law_1188 : decode cL_law 1188 = .ok (.iconst 0, 1) := by decide +kernel
theorem dL_law_1189 : decode cL_law 1189 = .ok (.ireturn, 1) := by decide +kernel
theorem dL_law_1190 : decode cL_law 1190 = .ok (.aload_n 1, 1) := by decide +kernel
theorem dL_law_1191 : decode cL_law 1191 = .ok (.aload_n 0, 1) := by decide +kernel
theorem dL_law_1192 : decode cL_law 1192 = .ok (.iload_n 3, 1) := by decide +kernel
theorem dL_law_1193 : decode cL_law 1193 = .ok (.iconst 1, 1) := by decide +kernel
theorem dL_law_1194 : decode cL_law 1194 = .ok (.iadd, 1) := by decide +kernel
theorem dL_law_1195 : decode cL_law 1195 = .ok (.iaload, 1) := by decide +kernel
theorem dL_law_1196 : decode cL_law 1196 = .ok (.invokevirtual 139, 3) := by decide +kernel
theorem dL_law_1199 : decode cL_law 1199 = .ok (.aload_n 2, 1) := by decide +kernel
theorem dL_law_1200 : decode cL_law 1200 = .ok (.aload_n 0, 1) := by decide +kernel
theorem dL_law_1201 : decode cL_law 1201 = .ok (.iload_n 3, 1) := by decide +kernel
theorem dL_law_1202 : decode cL_law 1202 = .ok (.iconst 1, 1) := by decide +kernel
theorem dL_law_1203 : decode cL_law 1203 = .ok (.iadd, 1) := by decide +kernel
theorem dL_law_1204 : decode cL_law 1204 = .ok (.iaload, 1) := by decide +kernel
theorem dL_law_1205 : decode cL_law 1205 = .ok (.invokevirtual 142, 3) := by decide +kernel
theorem dL_law_1208 : decode cL_law 1208 = .ok (.if_icmp .eq 176, 3) := by decide +kernel
theorem dL_law_1211 : decode cL_law 1211 = .ok (.iconst 0, 1) := by decide +kernel
theorem dL_law_1212 : decode cL_law 1212 = .ok (.ireturn, 1) := by decide +kernel
theorem dL_law_1213 : decode cL_law 1213 = .ok (.aload_n 1, 1) := by decide +kernel
theorem dL_law_1214 : decode cL_law 1214 = .ok (.aload_n 0, 1) := by decide +kernel
theorem dL_law_1215 : decode cL_law 1215 = .ok (.iload_n 3, 1) := by decide +kernel
theorem dL_law_1216 : decode cL_law 1216 = .ok (.iconst 1, 1) := by decide +kernel
theorem dL_law_1217 : decode cL_law 1217 = .ok (.iadd, 1) := by decide +kernel
theorem dL_law_1218 : decode cL_law 1218 = .ok (.iaload, 1) := by decide +kernel
theorem dL_law_1219 : decode cL_law 1219 = .ok (.invokevirtual 143, 3) := by decide +kernel
theorem dL_law_1222 : decode cL_law 1222 = .ok (.aload_n 2, 1) := by decide +kernel
theorem dL_law_1223 : decode cL_law 1223 = .ok (.aload_n 0, 1) := by decide +kernel
theorem dL_law_1224 : decode cL_law 1224 = .ok (.iload_n 3, 1) := by decide +kernel
theorem dL_law_1225 : decode cL_law 1225 = .ok (.iconst 1, 1) := by decide +kernel
theorem dL_law_1226 : decode cL_law 1226 = .ok (.iadd, 1) := by decide +kernel
theorem dL_law_1227 : decode cL_law 1227 = .ok (.iaload, 1) := by decide +kernel
theorem dL_law_1228 : decode cL_law 1228 = .ok (.invokevirtual 146, 3) := by decide +kernel
theorem dL_law_1231 : decode cL_law 1231 = .ok (.if_icmp .eq 153, 3) := by decide +kernel
theorem dL_law_1234 : decode cL_law 1234 = .ok (.iconst 0, 1) := by decide +kernel
theorem dL_law_1235 : decode cL_law 1235 = .ok (.ireturn, 1) := by decide +kernel
theorem dL_law_1236 : decode cL_law 1236 = .ok (.aload_n 1, 1) := by decide +kernel
theorem dL_law_1237 : decode cL_law 1237 = .ok (.aload_n 0, 1) := by decide +kernel
theorem dL_law_1238 : decode cL_law 1238 = .ok (.iload_n 3, 1) := by decide +kernel
theorem dL_law_1239 : decode cL_law 1239 = .ok (.iconst 1, 1) := by decide +kernel
theorem dL_law_1240 : decode cL_law 1240 = .ok (.iadd, 1) := by decide +kernel
theorem dL_law_1241 : decode cL_law 1241 = .ok (.iaload, 1) := by decide +kernel
theorem dL_law_1242 : decode cL_law 1242 = .ok (.invokevirtual 147, 3) := by decide +kernel
theorem dL_law_1245 : decode cL_law 1245 = .ok (.aload_n 2, 1) := by decide +kernel
theorem dL_law_1246 : decode cL_law 1246 = .ok (.aload_n 0, 1) := by decide +kernel
theorem dL_law_1247 : decode cL_law 1247 = .ok (.iload_n 3, 1) := by decide +kernel
theorem dL_law_1248 : decode cL_law 1248 = .ok (.iconst 1, 1) := by decide +kernel
theorem dL_law_1249 : decode cL_law 1249 = .ok (.iadd, 1) := by decide +kernel
theorem dL_law_1250 : decode cL_law 1250 = .ok (.iaload, 1) := by decide +kernel
theorem dL_law_1251 : decode cL_law 1251 = .ok (.invokevirtual 150, 3) := by decide +kernel
theorem dL_law_1254 : decode cL_law 1254 = .ok (.if_icmp .eq 130, 3) := by decide +kernel
theorem dL_law_1257 : decode cL_law 1257 = .ok (.iconst 0, 1) := by decide +kernel
theorem dL_law_1258 : decode cL_law 1258 = .ok (.ireturn, 1) := by decide +kernel
theorem dL_law_1259 : decode cL_law 1259 = .ok (.aload_n 1, 1) := by decide +kernel
theorem dL_law_1260 : decode cL_law 1260 = .ok (.aload_n 0, 1) := by decide +kernel
theorem dL_law_1261 : decode cL_law 1261 = .ok (.iload_n 3, 1) := by decide +kernel
theorem dL_law_1262 : decode cL_law 1262 = .ok (.iconst 1, 1) := by decide +kernel
theorem dL_law_1263 : decode cL_law 1263 = .ok (.iadd, 1) := by decide +kernel
theorem dL_law_1264 : decode cL_law 1264 = .ok (.iaload, 1) := by decide +kernel
theorem dL_law_1265 : decode cL_law 1265 = .ok (.aload_n 0, 1) := by decide +kernel
theorem dL_law_1266 : decode cL_law 1266 = .ok (.iload_n 3, 1) := by decide +kernel
theorem dL_law_1267 : decode cL_law 1267 = .ok (.iconst 2, 1) := by decide +kernel
theorem dL_law_1268 : decode cL_law 1268 = .ok (.iadd, 1) := by decide +kernel
theorem dL_law_1269 : decode cL_law 1269 = .ok (.iaload, 1) := by decide +kernel
theorem dL_law_1270 : decode cL_law 1270 = .ok (.invokevirtual 151, 3) := by decide +kernel
theorem dL_law_1273 : decode cL_law 1273 = .ok (.aload_n 2, 1) := by decide +kernel
theorem dL_law_1274 : decode cL_law 1274 = .ok (.aload_n 0, 1) := by decide +kernel
theorem dL_law_1275 : decode cL_law 1275 = .ok (.iload_n 3, 1) := by decide +kernel
theorem dL_law_1276 : decode cL_law 1276 = .ok (.iconst 1, 1) := by decide +kernel
theorem dL_law_1277 : decode cL_law 1277 = .ok (.iadd, 1) := by decide +kernel
theorem dL_law_1278 : decode cL_law 1278 = .ok (.iaload, 1) := by decide +kernel
theorem dL_law_1279 : decode cL_law 1279 = .ok (.aload_n 0, 1) := by decide +kernel
theorem dL_law_1280 : decode cL_law 1280 = .ok (.iload_n 3, 1) := by decide +kernel
theorem dL_law_1281 : decode cL_law 1281 = .ok (.iconst 2, 1) := by decide +kernel
theorem dL_law_1282 : decode cL_law 1282 = .ok (.iadd, 1) := by decide +kernel
theorem dL_law_1283 : decode cL_law 1283 = .ok (.iaload, 1) := by decide +kernel
theorem dL_law_1284 : decode cL_law 1284 = .ok (.invokevirtual 154, 3) := by decide +kernel
theorem dL_law_1287 : decode cL_law 1287 = .ok (.if_icmp .eq 97, 3) := by decide +kernel
theorem dL_law_1290 : decode cL_law 1290 = .ok (.iconst 0, 1) := by decide +kernel
theorem dL_law_1291 : decode cL_law 1291 = .ok (.ireturn, 1) := by decide +kernel
theorem dL_law_1292 : decode cL_law 1292 = .ok (.aload_n 1, 1) := by decide +kernel
theorem dL_law_1293 : decode cL_law 1293 = .ok (.aload_n 0, 1) := by decide +kernel
theorem dL_law_1294 : decode cL_law 1294 = .ok (.iload_n 3, 1) := by decide +kernel
theorem dL_law_1295 : decode cL_law 1295 = .ok (.iconst 1, 1) := by decide +kernel
theorem dL_law_1296 : decode cL_law 1296 = .ok (.iadd, 1) := by decide +kernel
theorem dL_law_1297 : decode cL_law 1297 = .ok (.iaload, 1) := by decide +kernel
theorem dL_law_1298 : decode cL_law 1298 = .ok (.aload_n 0, 1) := by decide +kernel
theorem dL_law_1299 : decode cL_law 1299 = .ok (.iload_n 3, 1) := by decide +kernel
theorem dL_law_1300 : decode cL_law 1300 = .ok (.iconst 2, 1) := by decide +kernel
theorem dL_law_1301 : decode cL_law 1301 = .ok (.iadd, 1) := by decide +kernel
theorem dL_law_1302 : decode cL_law 1302 = .ok (.iaload, 1) := by decide +kernel
theorem dL_law_1303 : decode cL_law 1303 = .ok (.invokevirtual 155, 3) := by decide +kernel
theorem dL_law_1306 : decode cL_law 1306 = .ok (.aload_n 2, 1) := by decide +kernel
theorem dL_law_1307 : decode cL_law 1307 = .ok (.aload_n 0, 1) := by decide +kernel
theorem dL_law_1308 : decode cL_law 1308 = .ok (.iload_n 3, 1) := by decide +kernel
theorem dL_law_1309 : decode cL_law 1309 = .ok (.iconst 1, 1) := by decide +kernel
theorem dL_law_1310 : decode cL_law 1310 = .ok (.iadd, 1) := by decide +kernel
theorem dL_law_1311 : decode cL_law 1311 = .ok (.iaload, 1) := by decide +kernel
theorem dL_law_1312 : decode cL_law 1312 = .ok (.aload_n 0, 1) := by decide +kernel
theorem dL_law_1313 : decode cL_law 1313 = .ok (.iload_n 3, 1) := by decide +kernel
theorem dL_law_1314 : decode cL_law 1314 = .ok (.iconst 2, 1) := by decide +kernel
theorem dL_law_1315 : decode cL_law 1315 = .ok (.iadd, 1) := by decide +kernel
theorem dL_law_1316 : decode cL_law 1316 = .ok (.iaload, 1) := by decide +kernel
theorem dL_law_1317 : decode cL_law 1317 = .ok (.invokevirtual 158, 3) := by decide +kernel
theorem dL_law_1320 : decode cL_law 1320 = .ok (.if_icmp .eq 64, 3) := by decide +kernel
theorem dL_law_1323 : decode cL_law 1323 = .ok (.iconst 0, 1) := by decide +kernel
theorem dL_law_1324 : decode cL_law 1324 = .ok (.ireturn, 1) := by decide +kernel
theorem dL_law_1325 : decode cL_law 1325 = .ok (.aload_n 1, 1) := by decide +kernel
theorem dL_law_1326 : decode cL_law 1326 = .ok (.aload_n 0, 1) := by decide +kernel
theorem dL_law_1327 : decode cL_law 1327 = .ok (.iload_n 3, 1) := by decide +kernel
theorem dL_law_1328 : decode cL_law 1328 = .ok (.iconst 1, 1) := by decide +kernel
theorem dL_law_1329 : decode cL_law 1329 = .ok (.iadd, 1) := by decide +kernel
theorem dL_law_1330 : decode cL_law 1330 = .ok (.iaload, 1) := by decide +kernel
theorem dL_law_1331 : decode cL_law 1331 = .ok (.invokevirtual 159, 3) := by decide +kernel
theorem dL_law_1334 : decode cL_law 1334 = .ok (.aload_n 2, 1) := by decide +kernel
theorem dL_law_1335 : decode cL_law 1335 = .ok (.aload_n 0, 1) := by decide +kernel
theorem dL_law_1336 : decode cL_law 1336 = .ok (.iload_n 3, 1) := by decide +kernel
theorem dL_law_1337 : decode cL_law 1337 = .ok (.iconst 1, 1) := by decide +kernel
theorem dL_law_1338 : decode cL_law 1338 = .ok (.iadd, 1) := by decide +kernel
theorem dL_law_1339 : decode cL_law 1339 = .ok (.iaload, 1) := by decide +kernel
theorem dL_law_1340 : decode cL_law 1340 = .ok (.invokevirtual 162, 3) := by decide +kernel
theorem dL_law_1343 : decode cL_law 1343 = .ok (.if_icmp .eq 41, 3) := by decide +kernel
theorem dL_law_1346 : decode cL_law 1346 = .ok (.iconst 0, 1) := by decide +kernel
theorem dL_law_1347 : decode cL_law 1347 = .ok (.ireturn, 1) := by decide +kernel
theorem dL_law_1348 : decode cL_law 1348 = .ok (.aload_n 1, 1) := by decide +kernel
theorem dL_law_1349 : decode cL_law 1349 = .ok (.aload_n 0, 1) := by decide +kernel
theorem dL_law_1350 : decode cL_law 1350 = .ok (.iload_n 3, 1) := by decide +kernel
theorem dL_law_1351 : decode cL_law 1351 = .ok (.iconst 1, 1) := by decide +kernel
theorem dL_law_1352 : decode cL_law 1352 = .ok (.iadd, 1) := by decide +kernel
theorem dL_law_1353 : decode cL_law 1353 = .ok (.iaload, 1) := by decide +kernel
theorem dL_law_1354 : decode cL_law 1354 = .ok (.invokevirtual 163, 3) := by decide +kernel
theorem dL_law_1357 : decode cL_law 1357 = .ok (.aload_n 2, 1) := by decide +kernel
theorem dL_law_1358 : decode cL_law 1358 = .ok (.aload_n 0, 1) := by decide +kernel
theorem dL_law_1359 : decode cL_law 1359 = .ok (.iload_n 3, 1) := by decide +kernel
theorem dL_law_1360 : decode cL_law 1360 = .ok (.iconst 1, 1) := by decide +kernel
theorem dL_law_1361 : decode cL_law 1361 = .ok (.iadd, 1) := by decide +kernel
theorem dL_law_1362 : decode cL_law 1362 = .ok (.iaload, 1) := by decide +kernel
theorem dL_law_1363 : decode cL_law 1363 = .ok (.invokevirtual 166, 3) := by decide +kernel
theorem dL_law_1366 : decode cL_law 1366 = .ok (.if_icmp .eq 18, 3) := by decide +kernel
theorem dL_law_1369 : decode cL_law 1369 = .ok (.iconst 0, 1) := by decide +kernel
theorem dL_law_1370 : decode cL_law 1370 = .ok (.ireturn, 1) := by decide +kernel
theorem dL_law_1371 : decode cL_law 1371 = .ok (.aload_n 1, 1) := by decide +kernel
theorem dL_law_1372 : decode cL_law 1372 = .ok (.invokevirtual 167, 3) := by decide +kernel
theorem dL_law_1375 : decode cL_law 1375 = .ok (.aload_n 2, 1) := by decide +kernel
theorem dL_law_1376 : decode cL_law 1376 = .ok (.invokevirtual 170, 3) := by decide +kernel
theorem dL_law_1379 : decode cL_law 1379 = .ok (.if_icmp .eq 5, 3) := by decide +kernel
theorem dL_law_1382 : decode cL_law 1382 = .ok (.iconst 0, 1) := by decide +kernel
theorem dL_law_1383 : decode cL_law 1383 = .ok (.ireturn, 1) := by decide +kernel
theorem dL_law_1384 : decode cL_law 1384 = .ok (.iinc 3 6, 3) := by decide +kernel
theorem dL_law_1387 : decode cL_law 1387 = .ok (.goto (-1369), 3) := by decide +kernel
theorem dL_law_1390 : decode cL_law 1390 = .ok (.iconst 1, 1) := by decide +kernel
theorem dL_law_1391 : decode cL_law 1391 = .ok (.ireturn, 1) := by decide +kernel
end
section
theorem kc_m1 : Int32.ofInt (-1) = -1 := by decide
theorem kc_0 : Int32.ofInt (0) = 0 := by decide
theorem kc_1 : Int32.ofInt (1) = 1 := by decide
theorem kc_2 : Int32.ofInt (2) = 2 := by decide
theorem kc_3 : Int32.ofInt (3) = 3 := by decide
theorem kc_4 : Int32.ofInt (4) = 4 := by decide
theorem kc_5 : Int32.ofInt (5) = 5 := by decide
theorem kb_m9 : (Int8.ofInt (-9)).toInt32 = -9 := by decide
theorem kb_m4 : (Int8.ofInt (-4)).toInt32 = -4 := by decide
theorem kb_6 : (Int8.ofInt (6)).toInt32 = 6 := by decide
theorem kb_7 : (Int8.ofInt (7)).toInt32 = 7 := by decide
theorem kb_8 : (Int8.ofInt (8)).toInt32 = 8 := by decide
theorem kb_9 : (Int8.ofInt (9)).toInt32 = 9 := by decide
theorem kb_10 : (Int8.ofInt (10)).toInt32 = 10 := by decide
theorem kb_11 : (Int8.ofInt (11)).toInt32 = 11 := by decide
theorem kb_12 : (Int8.ofInt (12)).toInt32 = 12 := by decide
theorem kb_13 : (Int8.ofInt (13)).toInt32 = 13 := by decide
theorem kb_14 : (Int8.ofInt (14)).toInt32 = 14 := by decide
theorem kb_16 : (Int8.ofInt (16)).toInt32 = 16 := by decide
theorem kb_17 : (Int8.ofInt (17)).toInt32 = 17 := by decide
theorem kb_20 : (Int8.ofInt (20)).toInt32 = 20 := by decide
theorem kb_21 : (Int8.ofInt (21)).toInt32 = 21 := by decide
theorem kb_22 : (Int8.ofInt (22)).toInt32 = 22 := by decide
theorem kb_23 : (Int8.ofInt (23)).toInt32 = 23 := by decide
theorem kb_24 : (Int8.ofInt (24)).toInt32 = 24 := by decide
theorem kb_26 : (Int8.ofInt (26)).toInt32 = 26 := by decide
theorem kb_29 : (Int8.ofInt (29)).toInt32 = 29 := by decide
theorem kb_30 : (Int8.ofInt (30)).toInt32 = 30 := by decide
theorem kb_40 : (Int8.ofInt (40)).toInt32 = 40 := by decide
theorem kb_44 : (Int8.ofInt (44)).toInt32 = 44 := by decide
theorem kb_46 : (Int8.ofInt (46)).toInt32 = 46 := by decide
theorem kb_48 : (Int8.ofInt (48)).toInt32 = 48 := by decide
theorem kb_49 : (Int8.ofInt (49)).toInt32 = 49 := by decide
theorem kb_55 : (Int8.ofInt (55)).toInt32 = 55 := by decide
theorem kb_57 : (Int8.ofInt (57)).toInt32 = 57 := by decide
theorem kb_59 : (Int8.ofInt (59)).toInt32 = 59 := by decide
theorem kb_60 : (Int8.ofInt (60)).toInt32 = 60 := by decide
theorem kb_63 : (Int8.ofInt (63)).toInt32 = 63 := by decide
theorem kb_72 : (Int8.ofInt (72)).toInt32 = 72 := by decide
theorem kb_84 : (Int8.ofInt (84)).toInt32 = 84 := by decide
theorem kb_98 : (Int8.ofInt (98)).toInt32 = 98 := by decide
theorem kb_99 : (Int8.ofInt (99)).toInt32 = 99 := by decide
theorem kb_100 : (Int8.ofInt (100)).toInt32 = 100 := by decide
theorem kb_104 : (Int8.ofInt (104)).toInt32 = 104 := by decide
theorem kb_108 : (Int8.ofInt (108)).toInt32 = 108 := by decide
theorem kb_109 : (Int8.ofInt (109)).toInt32 = 109 := by decide
theorem kb_112 : (Int8.ofInt (112)).toInt32 = 112 := by decide
theorem kb_115 : (Int8.ofInt (115)).toInt32 = 115 := by decide
theorem kb_116 : (Int8.ofInt (116)).toInt32 = 116 := by decide
theorem ks_160 : (Int16.ofInt (160)).toInt32 = 160 := by decide
theorem ks_168 : (Int16.ofInt (168)).toInt32 = 168 := by decide
theorem ks_200 : (Int16.ofInt (200)).toInt32 = 200 := by decide
theorem ks_255 : (Int16.ofInt (255)).toInt32 = 255 := by decide
theorem ks_320 : (Int16.ofInt (320)).toInt32 = 320 := by decide
theorem ks_399 : (Int16.ofInt (399)).toInt32 = 399 := by decide
theorem ks_667 : (Int16.ofInt (667)).toInt32 = 667 := by decide
theorem ks_696 : (Int16.ofInt (696)).toInt32 = 696 := by decide
theorem ks_720 : (Int16.ofInt (720)).toInt32 = 720 := by decide
theorem ks_999 : (Int16.ofInt (999)).toInt32 = 999 := by decide
theorem ks_1000 : (Int16.ofInt (1000)).toInt32 = 1000 := by decide
theorem ks_1199 : (Int16.ofInt (1199)).toInt32 = 1199 := by decide
theorem fX4_7 : Cond.fieldLink RX4 7 RX4 "NEXT" "[I" ∈ nw_gw := tb_in (i := 753) (by decide +kernel)
theorem fX1_47 : Cond.fieldLink RX1 47 RX1 "TOLD" "[I" ∈ nw_gw := tb_in (i := 771) (by decide +kernel)
/-- contracts that say the answer and the cells outright -/
abbrev nw_dI (l : Launch) (g : nw_G) (d : Nat) (M : nw_Mt) (av : List Value) (I : nw_Me) (r0 : Int32) (I0 : nw_Me) : Prop := nw_cI l g d M av I (fun r I' => r = r0 ∧ I' = I0)
abbrev nw_dZ (l : Launch) (g : nw_G) (d : Nat) (M : nw_Mt) (av : List Value) (I : nw_Me) (r0 : Bool) (I0 : nw_Me) : Prop := nw_cZ l g d M av I (fun r I' => r = r0 ∧ I' = I0)
abbrev nw_dV (l : Launch) (g : nw_G) (d : Nat) (M : nw_Mt) (av : List Value) (I : nw_Me) (I0 : nw_Me) : Prop := nw_cV l g d M av I (fun I' => I' = I0)
section
variable {l : Launch} {g : nw_G} {d d0 : Nat} {M M' : nw_Mt} {pc n : Nat} {ls : List (Option Value)} {st : List Value} {I I0 : nw_Me} {Post : Option Int32 → List nw_Sh → nw_Me → Prop}
theorem s_dVi {i k ci N : Nat} {T : u_T} {fs : List (Option (Option Nat))} {As : List Value} {r0 : Int32} (h : nw_dI l g d0 M' (.ref (nw_a g k) :: As) I r0 I0) (hdd : d0 ≤ d) (hl : nw_ml M.1.cls i M') (hk : nw_ok M' n) (hv : nw_iv M') (hd : decode M.2.1 pc = .ok (.invokevirtual i, 3)) (hret : M'.2.2.2 = some .int) (hn : As.length = n) (hsh : nw_SH[k]? = some (.inr (ci, fs))) (hci : ci < 100) (hcl : nw_cl[ci]? = some (M'.1.cls, T, N)) (hst : (st.map fun v => v.category).sum ≤ 8) (kk : nw_S l g (d + 1) M (pc + 3) ls (.int r0 :: st) I0 Post) : nw_S l g (d + 1) M pc ls (As.reverse ++ .ref (nw_a g k) :: st) I Post :=
  s_callVi h hdd hl hk hv hd hret hn hsh hci hcl hst (fun r I' q => by rw [q.1, q.2]; exact kk)
theorem s_dVz {i k ci N : Nat} {T : u_T} {fs : List (Option (Option Nat))} {As : List Value} {r0 : Bool} (h : nw_dZ l g d0 M' (.ref (nw_a g k) :: As) I r0 I0) (hdd : d0 ≤ d) (hl : nw_ml M.1.cls i M') (hk : nw_ok M' n) (hv : nw_iv M') (hd : decode M.2.1 pc = .ok (.invokevirtual i, 3)) (hret : M'.2.2.2 = some .boolean) (hn : As.length = n) (hsh : nw_SH[k]? = some (.inr (ci, fs))) (hci : ci < 100) (hcl : nw_cl[ci]? = some (M'.1.cls, T, N)) (hst : (st.map fun v => v.category).sum ≤ 8) (kk : nw_S l g (d + 1) M (pc + 3) ls (.int (nw_bi r0) :: st) I0 Post) : nw_S l g (d + 1) M pc ls (As.reverse ++ .ref (nw_a g k) :: st) I Post :=
  s_callVz h hdd hl hk hv hd hret hn hsh hci hcl hst (fun r I' q => by rw [q.1, q.2]; exact kk)
theorem s_dVv {i k ci N : Nat} {T : u_T} {fs : List (Option (Option Nat))} {As : List Value} (h : nw_dV l g d0 M' (.ref (nw_a g k) :: As) I I0) (hdd : d0 ≤ d) (hl : nw_ml M.1.cls i M') (hk : nw_ok M' n) (hv : nw_iv M') (hd : decode M.2.1 pc = .ok (.invokevirtual i, 3)) (hret : M'.2.2.2 = none) (hn : As.length = n) (hsh : nw_SH[k]? = some (.inr (ci, fs))) (hci : ci < 100) (hcl : nw_cl[ci]? = some (M'.1.cls, T, N)) (hst : (st.map fun v => v.category).sum ≤ 8) (kk : nw_S l g (d + 1) M (pc + 3) ls (st) I0 Post) : nw_S l g (d + 1) M pc ls (As.reverse ++ .ref (nw_a g k) :: st) I Post :=
  s_callVv h hdd hl hk hv hd hret hn hsh hci hcl hst (fun I' q => by rw [q]; exact kk)
theorem s_dSi {i : Nat} {As : List Value} {r0 : Int32} (h : nw_dI l g d0 M' As I r0 I0) (hdd : d0 ≤ d) (hl : nw_ml M.1.cls i M') (hk : nw_ok M' n) (hv : nw_ss M') (hd : decode M.2.1 pc = .ok (.invokestatic i, 3)) (hret : M'.2.2.2 = some .int) (hn : As.length = n) (hst : (st.map fun v => v.category).sum ≤ 8) (kk : nw_S l g (d + 1) M (pc + 3) ls (.int r0 :: st) I0 Post) : nw_S l g (d + 1) M pc ls (As.reverse ++ st) I Post :=
  s_callSi h hdd hl hk hv hd hret hn hst (fun r I' q => by rw [q.1, q.2]; exact kk)
theorem s_dSz {i : Nat} {As : List Value} {r0 : Bool} (h : nw_dZ l g d0 M' As I r0 I0) (hdd : d0 ≤ d) (hl : nw_ml M.1.cls i M') (hk : nw_ok M' n) (hv : nw_ss M') (hd : decode M.2.1 pc = .ok (.invokestatic i, 3)) (hret : M'.2.2.2 = some .boolean) (hn : As.length = n) (hst : (st.map fun v => v.category).sum ≤ 8) (kk : nw_S l g (d + 1) M (pc + 3) ls (.int (nw_bi r0) :: st) I0 Post) : nw_S l g (d + 1) M pc ls (As.reverse ++ st) I Post :=
  s_callSz h hdd hl hk hv hd hret hn hst (fun r I' q => by rw [q.1, q.2]; exact kk)
theorem s_dNz {i : Nat} {As : List Value} {r0 : Bool} (h : nw_dZ l g d0 M' As I r0 I0) (hdd : d0 ≤ d) (hl : nw_mn M.1.cls i M') (hk : nw_ok M' n) (hv : nw_ss M') (hd : decode M.2.1 pc = .ok (.invokestatic i, 3)) (hret : M'.2.2.2 = some .boolean) (hn : As.length = n) (hst : (st.map fun v => v.category).sum ≤ 8) (kk : nw_S l g (d + 1) M (pc + 3) ls (.int (nw_bi r0) :: st) I0 Post) : nw_S l g (d + 1) M pc ls (As.reverse ++ st) I Post :=
  s_callNz h hdd hl hk hv hd hret hn hst (fun r I' q => by rw [q.1, q.2]; exact kk)
end
end
section
section
variable {l : Launch} {g : nw_G} {I : nw_Me}
theorem nw_in_lit {n : Nat} {i : Int32} (h : decide (0 ≤ i.toInt ∧ i.toInt < n) = true) : vp_in i n := vp_in_iff.mpr (of_decide_eq_true h)
def nv_in (n a b : Int32) : Bool := decide (¬ n < a) && decide (¬ b < n)
def nv_calls (c s k : Int32) : Bool := decide (¬ k ≤ 0) && decide (¬ (c + s) / k ≤ c / k)
theorem nw_ne0 {k : Int32} (h : ¬ k ≤ 0) : ¬ k = 0 := fun e => h (by rw [e]; decide)
def nv_next (k : Int32) : Int32 := if k < 0 then -1 else if 6 ≤ k then -1 else nw_NEXT k.toNatClampNeg
def nv_step (s k : Int32) : Int32 := if k = 2 then 1 + (s &&& 1) else if k = 4 then (s >>> (1 &&& 31)) &&& 1 else if k = 5 then (s >>> (2 &&& 31)) &&& 1 else 1
def nv_told (c : Int32) : Int32 := if c = 112 then 1 else if c = 115 then 2 else if c = 100 then 3 else if c = 108 then 4 else if c = 109 then 5 else -1
def nv_max (x y : Int32) : Int32 := if x < y then y else x
def nv_lift (k h : Int32) : Int32 := if k = 2 then h / 2 else if k = 3 then h * 2 else if k = 4 then 0 else if k = 5 then nv_max 0 (h - 5) else h
theorem c_within (n a b : Int32) : nw_dZ l g 0 mX9_within [.int n, .int a, .int b] I (nv_in n a b) I := by
  refine ⟨(Nat.le_of_ble_eq_true rfl), ?_⟩
  refine ev_iload_n (i := 0) dX9_within_0 rfl rfl ?_
  refine ev_iload_n (i := 1) dX9_within_1 rfl rfl ?_
  refine ev_icmp_lt (tgt := 14) dX9_within_2 (by decide) (fun h2 => ?_) (fun h2 => ?_)
  · refine ev_iconst (v := 0) dX9_within_14 kc_0 ?_
    exact s_ret0 dX9_within_15 ⟨by simp [nv_in, *], rfl⟩
  · refine ev_iload_n (i := 0) dX9_within_5 rfl rfl ?_
    refine ev_iload_n (i := 2) dX9_within_6 rfl rfl ?_
    refine ev_icmp_gt (tgt := 14) dX9_within_7 (by decide) (fun h7 => ?_) (fun h7 => ?_)
    · refine ev_iconst (v := 0) dX9_within_14 kc_0 ?_
      exact s_ret0 dX9_within_15 ⟨by simp [nv_in, *], rfl⟩
    · refine ev_iconst (v := 1) dX9_within_10 kc_1 ?_
      refine ev_goto (tgt := 15) dX9_within_11 (by decide) ?_
      exact s_ret1 dX9_within_15 ⟨by simp [nv_in, *], rfl⟩
theorem c_calls (c s k : Int32) : nw_dZ l g 0 mX9_calls [.int c, .int s, .int k] I (nv_calls c s k) I := by
  refine ⟨(Nat.le_of_ble_eq_true rfl), ?_⟩
  refine ev_iload_n (i := 2) dX9_calls_0 rfl rfl ?_
  refine ev_if_le (tgt := 19) dX9_calls_1 (by decide) (fun h1 => ?_) (fun h1 => ?_)
  · refine ev_iconst (v := 0) dX9_calls_19 kc_0 ?_
    exact s_ret0 dX9_calls_20 ⟨by simp [nv_calls, *], rfl⟩
  · refine ev_iload_n (i := 0) dX9_calls_4 rfl rfl ?_
    refine ev_iload_n (i := 1) dX9_calls_5 rfl rfl ?_
    refine ev_iadd dX9_calls_6 ?_
    refine ev_iload_n (i := 2) dX9_calls_7 rfl rfl ?_
    refine ev_idiv dX9_calls_8 (nw_ne0 h1) ?_
    refine ev_iload_n (i := 0) dX9_calls_9 rfl rfl ?_
    refine ev_iload_n (i := 2) dX9_calls_10 rfl rfl ?_
    refine ev_idiv dX9_calls_11 (nw_ne0 h1) ?_
    refine ev_icmp_le (tgt := 19) dX9_calls_12 (by decide) (fun h12 => ?_) (fun h12 => ?_)
    · refine ev_iconst (v := 0) dX9_calls_19 kc_0 ?_
      exact s_ret0 dX9_calls_20 ⟨by simp [nv_calls, *], rfl⟩
    · refine ev_iconst (v := 1) dX9_calls_15 kc_1 ?_
      refine ev_goto (tgt := 20) dX9_calls_16 (by decide) ?_
      exact s_ret1 dX9_calls_20 ⟨by simp [nv_calls, *], rfl⟩
theorem c_next (k : Int32) : nw_dI l g 0 mX4_next [.int k] I (nv_next k) I := by
  refine ⟨(Nat.le_of_ble_eq_true rfl), ?_⟩
  refine ev_iload_n (i := 0) dX4_next_0 rfl rfl ?_
  refine ev_if_lt (tgt := 20) dX4_next_1 (by decide) (fun h1 => ?_) (fun h1 => ?_)
  · refine ev_iconst (v := (-1)) dX4_next_20 kc_m1 ?_
    exact s_retI dX4_next_21 ⟨by simp [nv_next, *], rfl⟩
  · refine ev_iload_n (i := 0) dX4_next_4 rfl rfl ?_
    refine ev_gets_next fX4_7 dX4_next_5 ?_
    refine ev_nlen dX4_next_8 ?_
    refine ev_icmp_ge (tgt := 20) dX4_next_9 (by decide) (fun h9 => ?_) (fun h9 => ?_)
    · refine ev_iconst (v := (-1)) dX4_next_20 kc_m1 ?_
      exact s_retI dX4_next_21 ⟨by simp [nv_next, *], rfl⟩
    · refine ev_gets_next fX4_7 dX4_next_12 ?_
      refine ev_iload_n (i := 0) dX4_next_15 rfl rfl ?_
      refine ev_nld dX4_next_16 (vp_in_iff.mpr (by have a1 := Int32.not_lt.mp h1; have a2 := Int32.not_le.mp h9; rw [Int32.le_iff_toInt_le] at a1; rw [Int32.lt_iff_toInt_lt] at a2; exact ⟨a1, a2⟩)) ?_
      refine ev_goto (tgt := 21) dX4_next_17 (by decide) ?_
      exact s_retI dX4_next_21 ⟨by simp [nv_next, *], rfl⟩
theorem c_step (s k : Int32) : nw_dI l g 0 mX4_stepOf [.int s, .int k] I (nv_step s k) I := by
  refine ⟨(Nat.le_of_ble_eq_true rfl), ?_⟩
  refine ev_iload_n (i := 1) dX4_stepOf_0 rfl rfl ?_
  by_cases hw1_2 : k = 2
  · refine ev_tableIn (off := 31) (tgt := 32) dX4_stepOf_1 (by rw [hw1_2]; decide) (by rw [hw1_2]; decide) (by rw [hw1_2]; decide) (by decide) ?_
    refine ev_iconst (v := 1) dX4_stepOf_32 kc_1 ?_
    refine ev_iload_n (i := 0) dX4_stepOf_33 rfl rfl ?_
    refine ev_iconst (v := 1) dX4_stepOf_34 kc_1 ?_
    refine ev_iand dX4_stepOf_35 ?_
    refine ev_iadd dX4_stepOf_36 ?_
    exact s_retI dX4_stepOf_37 ⟨by simp [nv_step, *], rfl⟩
  by_cases hw1_4 : k = 4
  · refine ev_tableIn (off := 37) (tgt := 38) dX4_stepOf_1 (by rw [hw1_4]; decide) (by rw [hw1_4]; decide) (by rw [hw1_4]; decide) (by decide) ?_
    refine ev_iload_n (i := 0) dX4_stepOf_38 rfl rfl ?_
    refine ev_iconst (v := 1) dX4_stepOf_39 kc_1 ?_
    refine ev_ishr dX4_stepOf_40 ?_
    refine ev_iconst (v := 1) dX4_stepOf_41 kc_1 ?_
    refine ev_iand dX4_stepOf_42 ?_
    exact s_retI dX4_stepOf_43 ⟨by simp [nv_step, *], rfl⟩
  by_cases hw1_5 : k = 5
  · refine ev_tableIn (off := 43) (tgt := 44) dX4_stepOf_1 (by rw [hw1_5]; decide) (by rw [hw1_5]; decide) (by rw [hw1_5]; decide) (by decide) ?_
    refine ev_iload_n (i := 0) dX4_stepOf_44 rfl rfl ?_
    refine ev_iconst (v := 2) dX4_stepOf_45 kc_2 ?_
    refine ev_ishr dX4_stepOf_46 ?_
    refine ev_iconst (v := 1) dX4_stepOf_47 kc_1 ?_
    refine ev_iand dX4_stepOf_48 ?_
    exact s_retI dX4_stepOf_49 ⟨by simp [nv_step, *], rfl⟩
  by_cases hw1_3 : k = 3
  · refine ev_tableIn (off := 49) (tgt := 50) dX4_stepOf_1 (by rw [hw1_3]; decide) (by rw [hw1_3]; decide) (by rw [hw1_3]; decide) (by decide) ?_
    refine ev_iconst (v := 1) dX4_stepOf_50 kc_1 ?_
    exact s_retI dX4_stepOf_51 ⟨by simp [nv_step, *], rfl⟩
  have hw1_o : (k).toInt < 2 ∨ 5 < (k).toInt := by
    have e2 : (k).toInt ≠ 2 := fun q => hw1_2 (Int32.toInt_inj.mp (by rw [q]; decide))
    have e3 : (k).toInt ≠ 3 := fun q => hw1_3 (Int32.toInt_inj.mp (by rw [q]; decide))
    have e4 : (k).toInt ≠ 4 := fun q => hw1_4 (Int32.toInt_inj.mp (by rw [q]; decide))
    have e5 : (k).toInt ≠ 5 := fun q => hw1_5 (Int32.toInt_inj.mp (by rw [q]; decide))
    omega
  refine ev_tableOut (tgt := 50) dX4_stepOf_1 hw1_o (by decide) ?_
  refine ev_iconst (v := 1) dX4_stepOf_50 kc_1 ?_
  exact s_retI dX4_stepOf_51 ⟨by simp [nv_step, *], rfl⟩
theorem c_told (c : Int32) : nw_dI l g 0 mX4_toldBy [.int c] I (nv_told c) I := by
  refine ⟨(Nat.le_of_ble_eq_true rfl), ?_⟩
  refine ev_iload_n (i := 0) dX4_toldBy_0 rfl rfl ?_
  by_cases hw1_100 : c = 100
  · refine ev_lookup (off := 55) (tgt := 56) dX4_toldBy_1 (by decide) (by rw [hw1_100]; decide) (by decide) ?_
    refine ev_iconst (v := 3) dX4_toldBy_56 kc_3 ?_
    exact s_retI dX4_toldBy_57 ⟨by simp [nv_told, *], rfl⟩
  by_cases hw1_108 : c = 108
  · refine ev_lookup (off := 57) (tgt := 58) dX4_toldBy_1 (by decide) (by rw [hw1_108]; decide) (by decide) ?_
    refine ev_iconst (v := 4) dX4_toldBy_58 kc_4 ?_
    exact s_retI dX4_toldBy_59 ⟨by simp [nv_told, *], rfl⟩
  by_cases hw1_109 : c = 109
  · refine ev_lookup (off := 59) (tgt := 60) dX4_toldBy_1 (by decide) (by rw [hw1_109]; decide) (by decide) ?_
    refine ev_iconst (v := 5) dX4_toldBy_60 kc_5 ?_
    exact s_retI dX4_toldBy_61 ⟨by simp [nv_told, *], rfl⟩
  by_cases hw1_112 : c = 112
  · refine ev_lookup (off := 51) (tgt := 52) dX4_toldBy_1 (by decide) (by rw [hw1_112]; decide) (by decide) ?_
    refine ev_iconst (v := 1) dX4_toldBy_52 kc_1 ?_
    exact s_retI dX4_toldBy_53 ⟨by simp [nv_told, *], rfl⟩
  by_cases hw1_115 : c = 115
  · refine ev_lookup (off := 53) (tgt := 54) dX4_toldBy_1 (by decide) (by rw [hw1_115]; decide) (by decide) ?_
    refine ev_iconst (v := 2) dX4_toldBy_54 kc_2 ?_
    exact s_retI dX4_toldBy_55 ⟨by simp [nv_told, *], rfl⟩
  have e100 : (c).toInt ≠ 100 := fun q => hw1_100 (Int32.toInt_inj.mp (by rw [q]; decide))
  have e108 : (c).toInt ≠ 108 := fun q => hw1_108 (Int32.toInt_inj.mp (by rw [q]; decide))
  have e109 : (c).toInt ≠ 109 := fun q => hw1_109 (Int32.toInt_inj.mp (by rw [q]; decide))
  have e112 : (c).toInt ≠ 112 := fun q => hw1_112 (Int32.toInt_inj.mp (by rw [q]; decide))
  have e115 : (c).toInt ≠ 115 := fun q => hw1_115 (Int32.toInt_inj.mp (by rw [q]; decide))
  refine ev_lookup (off := 61) (tgt := 62) dX4_toldBy_1 (by decide) (by simp [Op.lookupswitch.offset, e100, Ne.symm e100, e108, Ne.symm e108, e109, Ne.symm e109, e112, Ne.symm e112, e115, Ne.symm e115]) (by decide) ?_
  refine ev_iconst (v := (-1)) dX4_toldBy_62 kc_m1 ?_
  exact s_retI dX4_toldBy_63 ⟨by simp [nv_told, *], rfl⟩
theorem c_lift (k h : Int32) : nw_dI l g 0 mX2_liftOf [.int k, .int h] I (nv_lift k h) I := by
  refine ⟨(Nat.le_of_ble_eq_true rfl), ?_⟩
  refine ev_iload_n (i := 0) dX2_liftOf_0 rfl rfl ?_
  by_cases hw1_2 : k = 2
  · refine ev_tableIn (off := 31) (tgt := 32) dX2_liftOf_1 (by rw [hw1_2]; decide) (by rw [hw1_2]; decide) (by rw [hw1_2]; decide) (by decide) ?_
    refine ev_iload_n (i := 1) dX2_liftOf_32 rfl rfl ?_
    refine ev_iconst (v := 2) dX2_liftOf_33 kc_2 ?_
    refine ev_idiv dX2_liftOf_34 (by decide) ?_
    exact s_retI dX2_liftOf_35 ⟨by simp [nv_lift, nv_max, *], rfl⟩
  by_cases hw1_3 : k = 3
  · refine ev_tableIn (off := 35) (tgt := 36) dX2_liftOf_1 (by rw [hw1_3]; decide) (by rw [hw1_3]; decide) (by rw [hw1_3]; decide) (by decide) ?_
    refine ev_iload_n (i := 1) dX2_liftOf_36 rfl rfl ?_
    refine ev_iconst (v := 2) dX2_liftOf_37 kc_2 ?_
    refine ev_imul dX2_liftOf_38 ?_
    exact s_retI dX2_liftOf_39 ⟨by simp [nv_lift, nv_max, *], rfl⟩
  by_cases hw1_4 : k = 4
  · refine ev_tableIn (off := 39) (tgt := 40) dX2_liftOf_1 (by rw [hw1_4]; decide) (by rw [hw1_4]; decide) (by rw [hw1_4]; decide) (by decide) ?_
    refine ev_iconst (v := 0) dX2_liftOf_40 kc_0 ?_
    exact s_retI dX2_liftOf_41 ⟨by simp [nv_lift, nv_max, *], rfl⟩
  by_cases hw1_5 : k = 5
  · refine ev_tableIn (off := 41) (tgt := 42) dX2_liftOf_1 (by rw [hw1_5]; decide) (by rw [hw1_5]; decide) (by rw [hw1_5]; decide) (by decide) ?_
    refine ev_iconst (v := 0) dX2_liftOf_42 kc_0 ?_
    refine ev_iload_n (i := 1) dX2_liftOf_43 rfl rfl ?_
    refine ev_iconst (v := 5) dX2_liftOf_44 kc_5 ?_
    refine ev_isub dX2_liftOf_45 ?_
    refine ev_mmax jX2_54 dX2_liftOf_46 (Nat.le_of_ble_eq_true rfl) ?_
    exact s_retI dX2_liftOf_49 ⟨by simp [nv_lift, nv_max, *], rfl⟩
  have hw1_o : (k).toInt < 2 ∨ 5 < (k).toInt := by
    have e2 : (k).toInt ≠ 2 := fun q => hw1_2 (Int32.toInt_inj.mp (by rw [q]; decide))
    have e3 : (k).toInt ≠ 3 := fun q => hw1_3 (Int32.toInt_inj.mp (by rw [q]; decide))
    have e4 : (k).toInt ≠ 4 := fun q => hw1_4 (Int32.toInt_inj.mp (by rw [q]; decide))
    have e5 : (k).toInt ≠ 5 := fun q => hw1_5 (Int32.toInt_inj.mp (by rw [q]; decide))
    omega
  refine ev_tableOut (tgt := 50) dX2_liftOf_1 hw1_o (by decide) ?_
  refine ev_iload_n (i := 1) dX2_liftOf_50 rfl rfl ?_
  exact s_retI dX2_liftOf_51 ⟨by simp [nv_lift, nv_max, *], rfl⟩
end
end
