section
-- ===== PART A: goes FIRST, ahead of the names: the tables' words, and 'selects' of the private methods out of them =====
/-- a private method of a class that the tables say can be made, by its rows of tables_1 -/
def lw_okq (q : MethodName × Nat) : Prop := (q.1.cls ≠ "java/lang/invoke/MethodHandle" ∧ q.1.cls ≠ "java/lang/invoke/VarHandle") ∧ Cond.instantiable q.1.cls q.2 ∈ tables_1 ∧ Cond.privateMethod q.1 ∈ tables_1 ∧ Cond.instanceMethod q.1 ∈ tables_1
theorem lw_p0 : lw_okq (⟨"NinthWave", "isRow", "(I)Z"⟩, 13) := ⟨⟨by decide +kernel, by decide +kernel⟩, List.mem_of_getElem? (i := 15) (by decide +kernel), List.mem_of_getElem? (i := 310) (by decide +kernel), List.mem_of_getElem? (i := 311) (by decide +kernel)⟩
theorem lw_p1 : lw_okq (⟨"NinthWave", "found", "(I)I"⟩, 13) := ⟨⟨by decide +kernel, by decide +kernel⟩, List.mem_of_getElem? (i := 15) (by decide +kernel), List.mem_of_getElem? (i := 318) (by decide +kernel), List.mem_of_getElem? (i := 319) (by decide +kernel)⟩
theorem lw_p2 : lw_okq (⟨"NinthWave", "fine", "(I)I"⟩, 13) := ⟨⟨by decide +kernel, by decide +kernel⟩, List.mem_of_getElem? (i := 15) (by decide +kernel), List.mem_of_getElem? (i := 327) (by decide +kernel), List.mem_of_getElem? (i := 328) (by decide +kernel)⟩
theorem lw_p3 : lw_okq (⟨"NinthWave$Reader", "readBar", "(LNinthWave$Chart;)Z"⟩, 6) := ⟨⟨by decide +kernel, by decide +kernel⟩, List.mem_of_getElem? (i := 42) (by decide +kernel), List.mem_of_getElem? (i := 397) (by decide +kernel), List.mem_of_getElem? (i := 398) (by decide +kernel)⟩
theorem lw_p4 : lw_okq (⟨"NinthWave$Reader", "passes", "(I)Z"⟩, 6) := ⟨⟨by decide +kernel, by decide +kernel⟩, List.mem_of_getElem? (i := 42) (by decide +kernel), List.mem_of_getElem? (i := 401) (by decide +kernel), List.mem_of_getElem? (i := 402) (by decide +kernel)⟩
theorem lw_p5 : lw_okq (⟨"NinthWave$Reader", "at", "(I)I"⟩, 6) := ⟨⟨by decide +kernel, by decide +kernel⟩, List.mem_of_getElem? (i := 42) (by decide +kernel), List.mem_of_getElem? (i := 405) (by decide +kernel), List.mem_of_getElem? (i := 406) (by decide +kernel)⟩
theorem lw_p6 : lw_okq (⟨"NinthWave$Reader", "fails", "(I)Z"⟩, 6) := ⟨⟨by decide +kernel, by decide +kernel⟩, List.mem_of_getElem? (i := 42) (by decide +kernel), List.mem_of_getElem? (i := 409) (by decide +kernel), List.mem_of_getElem? (i := 410) (by decide +kernel)⟩
theorem lw_p7 : lw_okq (⟨"NinthWave$Reader", "readPair", "(II)Z"⟩, 6) := ⟨⟨by decide +kernel, by decide +kernel⟩, List.mem_of_getElem? (i := 42) (by decide +kernel), List.mem_of_getElem? (i := 413) (by decide +kernel), List.mem_of_getElem? (i := 414) (by decide +kernel)⟩
theorem lw_p8 : lw_okq (⟨"NinthWave$Reader", "number", "(I)I"⟩, 6) := ⟨⟨by decide +kernel, by decide +kernel⟩, List.mem_of_getElem? (i := 42) (by decide +kernel), List.mem_of_getElem? (i := 417) (by decide +kernel), List.mem_of_getElem? (i := 418) (by decide +kernel)⟩
theorem lw_p9 : lw_okq (⟨"NinthWave$Reader", "readSwells", "(LNinthWave$Chart;)Z"⟩, 6) := ⟨⟨by decide +kernel, by decide +kernel⟩, List.mem_of_getElem? (i := 42) (by decide +kernel), List.mem_of_getElem? (i := 424) (by decide +kernel), List.mem_of_getElem? (i := 425) (by decide +kernel)⟩
theorem lw_p10 : lw_okq (⟨"NinthWave$Reader", "readTowers", "(LNinthWave$Chart;LNinthWave$Scene;)Z"⟩, 6) := ⟨⟨by decide +kernel, by decide +kernel⟩, List.mem_of_getElem? (i := 42) (by decide +kernel), List.mem_of_getElem? (i := 431) (by decide +kernel), List.mem_of_getElem? (i := 432) (by decide +kernel)⟩
theorem lw_p11 : lw_okq (⟨"NinthWave$Reader", "readShips", "(LNinthWave$Chart;LNinthWave$Scene;)Z"⟩, 6) := ⟨⟨by decide +kernel, by decide +kernel⟩, List.mem_of_getElem? (i := 42) (by decide +kernel), List.mem_of_getElem? (i := 435) (by decide +kernel), List.mem_of_getElem? (i := 436) (by decide +kernel)⟩
theorem lw_p12 : lw_okq (⟨"NinthWave$Reader", "isAtEnd", "()Z"⟩, 6) := ⟨⟨by decide +kernel, by decide +kernel⟩, List.mem_of_getElem? (i := 42) (by decide +kernel), List.mem_of_getElem? (i := 439) (by decide +kernel), List.mem_of_getElem? (i := 440) (by decide +kernel)⟩
theorem lw_p13 : lw_okq (⟨"NinthWave$Scene", "cross", "(LNinthWave$Chart;II)V"⟩, 7) := ⟨⟨by decide +kernel, by decide +kernel⟩, List.mem_of_getElem? (i := 126) (by decide +kernel), List.mem_of_getElem? (i := 531) (by decide +kernel), List.mem_of_getElem? (i := 532) (by decide +kernel)⟩
theorem lw_p14 : lw_okq (⟨"NinthWave", "isTower", "(I)Z"⟩, 13) := ⟨⟨by decide +kernel, by decide +kernel⟩, List.mem_of_getElem? (i := 15) (by decide +kernel), List.mem_of_getElem? (i := 539) (by decide +kernel), List.mem_of_getElem? (i := 540) (by decide +kernel)⟩
theorem lw_p15 : lw_okq (⟨"NinthWave", "isShip", "(I)Z"⟩, 13) := ⟨⟨by decide +kernel, by decide +kernel⟩, List.mem_of_getElem? (i := 15) (by decide +kernel), List.mem_of_getElem? (i := 556) (by decide +kernel), List.mem_of_getElem? (i := 557) (by decide +kernel)⟩
def lw_privs_1 : List (MethodName × Nat) := [(⟨"NinthWave", "isRow", "(I)Z"⟩, 13), (⟨"NinthWave", "found", "(I)I"⟩, 13), (⟨"NinthWave", "fine", "(I)I"⟩, 13), (⟨"NinthWave$Reader", "readBar", "(LNinthWave$Chart;)Z"⟩, 6), (⟨"NinthWave$Reader", "passes", "(I)Z"⟩, 6), (⟨"NinthWave$Reader", "at", "(I)I"⟩, 6), (⟨"NinthWave$Reader", "fails", "(I)Z"⟩, 6), (⟨"NinthWave$Reader", "readPair", "(II)Z"⟩, 6), (⟨"NinthWave$Reader", "number", "(I)I"⟩, 6), (⟨"NinthWave$Reader", "readSwells", "(LNinthWave$Chart;)Z"⟩, 6), (⟨"NinthWave$Reader", "readTowers", "(LNinthWave$Chart;LNinthWave$Scene;)Z"⟩, 6), (⟨"NinthWave$Reader", "readShips", "(LNinthWave$Chart;LNinthWave$Scene;)Z"⟩, 6), (⟨"NinthWave$Reader", "isAtEnd", "()Z"⟩, 6), (⟨"NinthWave$Scene", "cross", "(LNinthWave$Chart;II)V"⟩, 7), (⟨"NinthWave", "isTower", "(I)Z"⟩, 13), (⟨"NinthWave", "isShip", "(I)Z"⟩, 13)]
theorem lw_r1 : ∀ q ∈ lw_privs_1, lw_okq q := List.forall_mem_cons.mpr ⟨lw_p0, List.forall_mem_cons.mpr ⟨lw_p1, List.forall_mem_cons.mpr ⟨lw_p2, List.forall_mem_cons.mpr ⟨lw_p3, List.forall_mem_cons.mpr ⟨lw_p4, List.forall_mem_cons.mpr ⟨lw_p5, List.forall_mem_cons.mpr ⟨lw_p6, List.forall_mem_cons.mpr ⟨lw_p7, List.forall_mem_cons.mpr ⟨lw_p8, List.forall_mem_cons.mpr ⟨lw_p9, List.forall_mem_cons.mpr ⟨lw_p10, List.forall_mem_cons.mpr ⟨lw_p11, List.forall_mem_cons.mpr ⟨lw_p12, List.forall_mem_cons.mpr ⟨lw_p13, List.forall_mem_cons.mpr ⟨lw_p14, List.forall_mem_cons.mpr ⟨lw_p15, fun _ h => absurd h List.not_mem_nil⟩⟩⟩⟩⟩⟩⟩⟩⟩⟩⟩⟩⟩⟩⟩⟩
theorem lw_p16 : lw_okq (⟨"NinthWave", "foretell", "(I)V"⟩, 13) := ⟨⟨by decide +kernel, by decide +kernel⟩, List.mem_of_getElem? (i := 15) (by decide +kernel), List.mem_of_getElem? (i := 603) (by decide +kernel), List.mem_of_getElem? (i := 604) (by decide +kernel)⟩
theorem lw_p17 : lw_okq (⟨"NinthWave$Orders", "howManyCross", "(LNinthWave$Chart;LNinthWave$Scene;)I"⟩, 6) := ⟨⟨by decide +kernel, by decide +kernel⟩, List.mem_of_getElem? (i := 187) (by decide +kernel), List.mem_of_getElem? (i := 656) (by decide +kernel), List.mem_of_getElem? (i := 657) (by decide +kernel)⟩
theorem lw_p18 : lw_okq (⟨"NinthWave$Orders", "goOn", "(I)Z"⟩, 6) := ⟨⟨by decide +kernel, by decide +kernel⟩, List.mem_of_getElem? (i := 187) (by decide +kernel), List.mem_of_getElem? (i := 662) (by decide +kernel), List.mem_of_getElem? (i := 663) (by decide +kernel)⟩
theorem lw_p19 : lw_okq (⟨"NinthWave$Orders", "swap", "(II)V"⟩, 6) := ⟨⟨by decide +kernel, by decide +kernel⟩, List.mem_of_getElem? (i := 187) (by decide +kernel), List.mem_of_getElem? (i := 666) (by decide +kernel), List.mem_of_getElem? (i := 667) (by decide +kernel)⟩
theorem lw_p20 : lw_okq (⟨"NinthWave", "fitsLog", "(IIII)Z"⟩, 13) := ⟨⟨by decide +kernel, by decide +kernel⟩, List.mem_of_getElem? (i := 15) (by decide +kernel), List.mem_of_getElem? (i := 698) (by decide +kernel), List.mem_of_getElem? (i := 699) (by decide +kernel)⟩
theorem lw_p21 : lw_okq (⟨"NinthWave", "isSwell", "(I)Z"⟩, 13) := ⟨⟨by decide +kernel, by decide +kernel⟩, List.mem_of_getElem? (i := 15) (by decide +kernel), List.mem_of_getElem? (i := 743) (by decide +kernel), List.mem_of_getElem? (i := 744) (by decide +kernel)⟩
theorem lw_p22 : lw_okq (⟨"NinthWave$Asker", "asked", "(II)I"⟩, 6) := ⟨⟨by decide +kernel, by decide +kernel⟩, List.mem_of_getElem? (i := 215) (by decide +kernel), List.mem_of_getElem? (i := 768) (by decide +kernel), List.mem_of_getElem? (i := 769) (by decide +kernel)⟩
theorem lw_p23 : lw_okq (⟨"NinthWave$Asker", "given", "(II)I"⟩, 6) := ⟨⟨by decide +kernel, by decide +kernel⟩, List.mem_of_getElem? (i := 215) (by decide +kernel), List.mem_of_getElem? (i := 774) (by decide +kernel), List.mem_of_getElem? (i := 775) (by decide +kernel)⟩
theorem lw_p24 : lw_okq (⟨"NinthWave$Asker", "leave", "(I)V"⟩, 6) := ⟨⟨by decide +kernel, by decide +kernel⟩, List.mem_of_getElem? (i := 215) (by decide +kernel), List.mem_of_getElem? (i := 778) (by decide +kernel), List.mem_of_getElem? (i := 779) (by decide +kernel)⟩
theorem lw_p25 : lw_okq (⟨"NinthWaveModel", "finds", "(I)I"⟩, 29) := ⟨⟨by decide +kernel, by decide +kernel⟩, List.mem_of_getElem? (i := 800) (by decide +kernel), List.mem_of_getElem? (i := 908) (by decide +kernel), List.mem_of_getElem? (i := 909) (by decide +kernel)⟩
theorem lw_p26 : lw_okq (⟨"NinthWaveModel", "well", "(I)I"⟩, 29) := ⟨⟨by decide +kernel, by decide +kernel⟩, List.mem_of_getElem? (i := 800) (by decide +kernel), List.mem_of_getElem? (i := 913) (by decide +kernel), List.mem_of_getElem? (i := 914) (by decide +kernel)⟩
theorem lw_p27 : lw_okq (⟨"NinthWaveModel", "reads", "()Z"⟩, 29) := ⟨⟨by decide +kernel, by decide +kernel⟩, List.mem_of_getElem? (i := 800) (by decide +kernel), List.mem_of_getElem? (i := 939) (by decide +kernel), List.mem_of_getElem? (i := 940) (by decide +kernel)⟩
theorem lw_p28 : lw_okq (⟨"NinthWaveModel", "scans", "()V"⟩, 29) := ⟨⟨by decide +kernel, by decide +kernel⟩, List.mem_of_getElem? (i := 800) (by decide +kernel), List.mem_of_getElem? (i := 943) (by decide +kernel), List.mem_of_getElem? (i := 944) (by decide +kernel)⟩
theorem lw_p29 : lw_okq (⟨"NinthWaveModel", "isFigure", "()Z"⟩, 29) := ⟨⟨by decide +kernel, by decide +kernel⟩, List.mem_of_getElem? (i := 800) (by decide +kernel), List.mem_of_getElem? (i := 947) (by decide +kernel), List.mem_of_getElem? (i := 948) (by decide +kernel)⟩
theorem lw_p30 : lw_okq (⟨"NinthWaveModel", "isLetter", "(I)Z"⟩, 29) := ⟨⟨by decide +kernel, by decide +kernel⟩, List.mem_of_getElem? (i := 800) (by decide +kernel), List.mem_of_getElem? (i := 955) (by decide +kernel), List.mem_of_getElem? (i := 956) (by decide +kernel)⟩
theorem lw_p31 : lw_okq (⟨"NinthWaveModel", "faults", "(I)Z"⟩, 29) := ⟨⟨by decide +kernel, by decide +kernel⟩, List.mem_of_getElem? (i := 800) (by decide +kernel), List.mem_of_getElem? (i := 959) (by decide +kernel), List.mem_of_getElem? (i := 960) (by decide +kernel)⟩
def lw_privs_2 : List (MethodName × Nat) := [(⟨"NinthWave", "foretell", "(I)V"⟩, 13), (⟨"NinthWave$Orders", "howManyCross", "(LNinthWave$Chart;LNinthWave$Scene;)I"⟩, 6), (⟨"NinthWave$Orders", "goOn", "(I)Z"⟩, 6), (⟨"NinthWave$Orders", "swap", "(II)V"⟩, 6), (⟨"NinthWave", "fitsLog", "(IIII)Z"⟩, 13), (⟨"NinthWave", "isSwell", "(I)Z"⟩, 13), (⟨"NinthWave$Asker", "asked", "(II)I"⟩, 6), (⟨"NinthWave$Asker", "given", "(II)I"⟩, 6), (⟨"NinthWave$Asker", "leave", "(I)V"⟩, 6), (⟨"NinthWaveModel", "finds", "(I)I"⟩, 29), (⟨"NinthWaveModel", "well", "(I)I"⟩, 29), (⟨"NinthWaveModel", "reads", "()Z"⟩, 29), (⟨"NinthWaveModel", "scans", "()V"⟩, 29), (⟨"NinthWaveModel", "isFigure", "()Z"⟩, 29), (⟨"NinthWaveModel", "isLetter", "(I)Z"⟩, 29), (⟨"NinthWaveModel", "faults", "(I)Z"⟩, 29)]
theorem lw_r2 : ∀ q ∈ lw_privs_2, lw_okq q := List.forall_mem_cons.mpr ⟨lw_p16, List.forall_mem_cons.mpr ⟨lw_p17, List.forall_mem_cons.mpr ⟨lw_p18, List.forall_mem_cons.mpr ⟨lw_p19, List.forall_mem_cons.mpr ⟨lw_p20, List.forall_mem_cons.mpr ⟨lw_p21, List.forall_mem_cons.mpr ⟨lw_p22, List.forall_mem_cons.mpr ⟨lw_p23, List.forall_mem_cons.mpr ⟨lw_p24, List.forall_mem_cons.mpr ⟨lw_p25, List.forall_mem_cons.mpr ⟨lw_p26, List.forall_mem_cons.mpr ⟨lw_p27, List.forall_mem_cons.mpr ⟨lw_p28, List.forall_mem_cons.mpr ⟨lw_p29, List.forall_mem_cons.mpr ⟨lw_p30, List.forall_mem_cons.mpr ⟨lw_p31, fun _ h => absurd h List.not_mem_nil⟩⟩⟩⟩⟩⟩⟩⟩⟩⟩⟩⟩⟩⟩⟩⟩
theorem lw_p32 : lw_okq (⟨"NinthWaveModel", "two", "(III)Z"⟩, 29) := ⟨⟨by decide +kernel, by decide +kernel⟩, List.mem_of_getElem? (i := 800) (by decide +kernel), List.mem_of_getElem? (i := 963) (by decide +kernel), List.mem_of_getElem? (i := 964) (by decide +kernel)⟩
theorem lw_p33 : lw_okq (⟨"NinthWaveModel", "takes", "(II)Z"⟩, 29) := ⟨⟨by decide +kernel, by decide +kernel⟩, List.mem_of_getElem? (i := 800) (by decide +kernel), List.mem_of_getElem? (i := 967) (by decide +kernel), List.mem_of_getElem? (i := 968) (by decide +kernel)⟩
theorem lw_p34 : lw_okq (⟨"NinthWaveModel", "signs", "(I)Z"⟩, 29) := ⟨⟨by decide +kernel, by decide +kernel⟩, List.mem_of_getElem? (i := 800) (by decide +kernel), List.mem_of_getElem? (i := 971) (by decide +kernel), List.mem_of_getElem? (i := 972) (by decide +kernel)⟩
theorem lw_p35 : lw_okq (⟨"NinthWaveModel", "swell", "()Z"⟩, 29) := ⟨⟨by decide +kernel, by decide +kernel⟩, List.mem_of_getElem? (i := 800) (by decide +kernel), List.mem_of_getElem? (i := 978) (by decide +kernel), List.mem_of_getElem? (i := 979) (by decide +kernel)⟩
theorem lw_p36 : lw_okq (⟨"NinthWaveModel", "turret", "()Z"⟩, 29) := ⟨⟨by decide +kernel, by decide +kernel⟩, List.mem_of_getElem? (i := 800) (by decide +kernel), List.mem_of_getElem? (i := 982) (by decide +kernel), List.mem_of_getElem? (i := 983) (by decide +kernel)⟩
theorem lw_p37 : lw_okq (⟨"NinthWaveModel", "vessel", "()Z"⟩, 29) := ⟨⟨by decide +kernel, by decide +kernel⟩, List.mem_of_getElem? (i := 800) (by decide +kernel), List.mem_of_getElem? (i := 986) (by decide +kernel), List.mem_of_getElem? (i := 987) (by decide +kernel)⟩
theorem lw_p38 : lw_okq (⟨"NinthWaveModel", "isSea", "()Z"⟩, 29) := ⟨⟨by decide +kernel, by decide +kernel⟩, List.mem_of_getElem? (i := 800) (by decide +kernel), List.mem_of_getElem? (i := 1000) (by decide +kernel), List.mem_of_getElem? (i := 1001) (by decide +kernel)⟩
theorem lw_p39 : lw_okq (⟨"NinthWaveModel", "remembers", "()V"⟩, 29) := ⟨⟨by decide +kernel, by decide +kernel⟩, List.mem_of_getElem? (i := 800) (by decide +kernel), List.mem_of_getElem? (i := 1006) (by decide +kernel), List.mem_of_getElem? (i := 1007) (by decide +kernel)⟩
theorem lw_p40 : lw_okq (⟨"NinthWaveModel", "asNow", "()V"⟩, 29) := ⟨⟨by decide +kernel, by decide +kernel⟩, List.mem_of_getElem? (i := 800) (by decide +kernel), List.mem_of_getElem? (i := 1010) (by decide +kernel), List.mem_of_getElem? (i := 1011) (by decide +kernel)⟩
theorem lw_p41 : lw_okq (⟨"NinthWaveModel", "waves0", "(I)V"⟩, 29) := ⟨⟨by decide +kernel, by decide +kernel⟩, List.mem_of_getElem? (i := 800) (by decide +kernel), List.mem_of_getElem? (i := 1014) (by decide +kernel), List.mem_of_getElem? (i := 1015) (by decide +kernel)⟩
theorem lw_p42 : lw_okq (⟨"NinthWaveModel", "sortIn", "(I)I"⟩, 29) := ⟨⟨by decide +kernel, by decide +kernel⟩, List.mem_of_getElem? (i := 800) (by decide +kernel), List.mem_of_getElem? (i := 1018) (by decide +kernel), List.mem_of_getElem? (i := 1019) (by decide +kernel)⟩
theorem lw_p43 : lw_okq (⟨"NinthWaveModel", "heightIn", "(I)I"⟩, 29) := ⟨⟨by decide +kernel, by decide +kernel⟩, List.mem_of_getElem? (i := 800) (by decide +kernel), List.mem_of_getElem? (i := 1022) (by decide +kernel), List.mem_of_getElem? (i := 1023) (by decide +kernel)⟩
theorem lw_p44 : lw_okq (⟨"NinthWaveModel", "comes", "(II)V"⟩, 29) := ⟨⟨by decide +kernel, by decide +kernel⟩, List.mem_of_getElem? (i := 800) (by decide +kernel), List.mem_of_getElem? (i := 1026) (by decide +kernel), List.mem_of_getElem? (i := 1027) (by decide +kernel)⟩
theorem lw_p45 : lw_okq (⟨"NinthWaveModel", "water", "(III)I"⟩, 29) := ⟨⟨by decide +kernel, by decide +kernel⟩, List.mem_of_getElem? (i := 800) (by decide +kernel), List.mem_of_getElem? (i := 1030) (by decide +kernel), List.mem_of_getElem? (i := 1031) (by decide +kernel)⟩
theorem lw_p46 : lw_okq (⟨"NinthWaveModel", "isTower", "(I)Z"⟩, 29) := ⟨⟨by decide +kernel, by decide +kernel⟩, List.mem_of_getElem? (i := 800) (by decide +kernel), List.mem_of_getElem? (i := 1050) (by decide +kernel), List.mem_of_getElem? (i := 1051) (by decide +kernel)⟩
theorem lw_p47 : lw_okq (⟨"NinthWaveModel", "isShip", "(I)Z"⟩, 29) := ⟨⟨by decide +kernel, by decide +kernel⟩, List.mem_of_getElem? (i := 800) (by decide +kernel), List.mem_of_getElem? (i := 1065) (by decide +kernel), List.mem_of_getElem? (i := 1066) (by decide +kernel)⟩
def lw_privs_3 : List (MethodName × Nat) := [(⟨"NinthWaveModel", "two", "(III)Z"⟩, 29), (⟨"NinthWaveModel", "takes", "(II)Z"⟩, 29), (⟨"NinthWaveModel", "signs", "(I)Z"⟩, 29), (⟨"NinthWaveModel", "swell", "()Z"⟩, 29), (⟨"NinthWaveModel", "turret", "()Z"⟩, 29), (⟨"NinthWaveModel", "vessel", "()Z"⟩, 29), (⟨"NinthWaveModel", "isSea", "()Z"⟩, 29), (⟨"NinthWaveModel", "remembers", "()V"⟩, 29), (⟨"NinthWaveModel", "asNow", "()V"⟩, 29), (⟨"NinthWaveModel", "waves0", "(I)V"⟩, 29), (⟨"NinthWaveModel", "sortIn", "(I)I"⟩, 29), (⟨"NinthWaveModel", "heightIn", "(I)I"⟩, 29), (⟨"NinthWaveModel", "comes", "(II)V"⟩, 29), (⟨"NinthWaveModel", "water", "(III)I"⟩, 29), (⟨"NinthWaveModel", "isTower", "(I)Z"⟩, 29), (⟨"NinthWaveModel", "isShip", "(I)Z"⟩, 29)]
theorem lw_r3 : ∀ q ∈ lw_privs_3, lw_okq q := List.forall_mem_cons.mpr ⟨lw_p32, List.forall_mem_cons.mpr ⟨lw_p33, List.forall_mem_cons.mpr ⟨lw_p34, List.forall_mem_cons.mpr ⟨lw_p35, List.forall_mem_cons.mpr ⟨lw_p36, List.forall_mem_cons.mpr ⟨lw_p37, List.forall_mem_cons.mpr ⟨lw_p38, List.forall_mem_cons.mpr ⟨lw_p39, List.forall_mem_cons.mpr ⟨lw_p40, List.forall_mem_cons.mpr ⟨lw_p41, List.forall_mem_cons.mpr ⟨lw_p42, List.forall_mem_cons.mpr ⟨lw_p43, List.forall_mem_cons.mpr ⟨lw_p44, List.forall_mem_cons.mpr ⟨lw_p45, List.forall_mem_cons.mpr ⟨lw_p46, List.forall_mem_cons.mpr ⟨lw_p47, fun _ h => absurd h List.not_mem_nil⟩⟩⟩⟩⟩⟩⟩⟩⟩⟩⟩⟩⟩⟩⟩⟩
theorem lw_p48 : lw_okq (⟨"NinthWaveModel", "placeOf", "(I)I"⟩, 29) := ⟨⟨by decide +kernel, by decide +kernel⟩, List.mem_of_getElem? (i := 800) (by decide +kernel), List.mem_of_getElem? (i := 1069) (by decide +kernel), List.mem_of_getElem? (i := 1070) (by decide +kernel)⟩
theorem lw_p49 : lw_okq (⟨"NinthWaveModel", "waterIn", "(I)I"⟩, 29) := ⟨⟨by decide +kernel, by decide +kernel⟩, List.mem_of_getElem? (i := 800) (by decide +kernel), List.mem_of_getElem? (i := 1096) (by decide +kernel), List.mem_of_getElem? (i := 1097) (by decide +kernel)⟩
theorem lw_p50 : lw_okq (⟨"NinthWaveModel", "many", "(I)I"⟩, 29) := ⟨⟨by decide +kernel, by decide +kernel⟩, List.mem_of_getElem? (i := 800) (by decide +kernel), List.mem_of_getElem? (i := 1105) (by decide +kernel), List.mem_of_getElem? (i := 1106) (by decide +kernel)⟩
theorem lw_p51 : lw_okq (⟨"NinthWaveModel", "lays", "(II)Z"⟩, 29) := ⟨⟨by decide +kernel, by decide +kernel⟩, List.mem_of_getElem? (i := 800) (by decide +kernel), List.mem_of_getElem? (i := 1136) (by decide +kernel), List.mem_of_getElem? (i := 1137) (by decide +kernel)⟩
theorem lw_p52 : lw_okq (⟨"NinthWaveModel", "callers", "()I"⟩, 29) := ⟨⟨by decide +kernel, by decide +kernel⟩, List.mem_of_getElem? (i := 800) (by decide +kernel), List.mem_of_getElem? (i := 1156) (by decide +kernel), List.mem_of_getElem? (i := 1157) (by decide +kernel)⟩
theorem lw_p53 : lw_okq (⟨"NinthWaveModel", "hasCalled", "(IIII)Z"⟩, 29) := ⟨⟨by decide +kernel, by decide +kernel⟩, List.mem_of_getElem? (i := 800) (by decide +kernel), List.mem_of_getElem? (i := 1166) (by decide +kernel), List.mem_of_getElem? (i := 1167) (by decide +kernel)⟩
theorem lw_p54 : lw_okq (⟨"NinthWaveModel", "isSwell", "(I)Z"⟩, 29) := ⟨⟨by decide +kernel, by decide +kernel⟩, List.mem_of_getElem? (i := 800) (by decide +kernel), List.mem_of_getElem? (i := 1196) (by decide +kernel), List.mem_of_getElem? (i := 1197) (by decide +kernel)⟩
theorem lw_p55 : lw_okq (⟨"NinthWaveModel", "sizeOf", "(I)I"⟩, 29) := ⟨⟨by decide +kernel, by decide +kernel⟩, List.mem_of_getElem? (i := 800) (by decide +kernel), List.mem_of_getElem? (i := 1208) (by decide +kernel), List.mem_of_getElem? (i := 1209) (by decide +kernel)⟩
theorem lw_p56 : lw_okq (⟨"NinthWaveModel", "leaves", "(I)V"⟩, 29) := ⟨⟨by decide +kernel, by decide +kernel⟩, List.mem_of_getElem? (i := 800) (by decide +kernel), List.mem_of_getElem? (i := 1212) (by decide +kernel), List.mem_of_getElem? (i := 1213) (by decide +kernel)⟩
theorem lw_p57 : lw_okq (⟨"NinthWaveModel", "plainMark", "(I)I"⟩, 29) := ⟨⟨by decide +kernel, by decide +kernel⟩, List.mem_of_getElem? (i := 800) (by decide +kernel), List.mem_of_getElem? (i := 1216) (by decide +kernel), List.mem_of_getElem? (i := 1217) (by decide +kernel)⟩
theorem lw_p58 : lw_okq (⟨"NinthWaveModel", "markOf", "(I)I"⟩, 29) := ⟨⟨by decide +kernel, by decide +kernel⟩, List.mem_of_getElem? (i := 800) (by decide +kernel), List.mem_of_getElem? (i := 1220) (by decide +kernel), List.mem_of_getElem? (i := 1221) (by decide +kernel)⟩
def lw_privs_4 : List (MethodName × Nat) := [(⟨"NinthWaveModel", "placeOf", "(I)I"⟩, 29), (⟨"NinthWaveModel", "waterIn", "(I)I"⟩, 29), (⟨"NinthWaveModel", "many", "(I)I"⟩, 29), (⟨"NinthWaveModel", "lays", "(II)Z"⟩, 29), (⟨"NinthWaveModel", "callers", "()I"⟩, 29), (⟨"NinthWaveModel", "hasCalled", "(IIII)Z"⟩, 29), (⟨"NinthWaveModel", "isSwell", "(I)Z"⟩, 29), (⟨"NinthWaveModel", "sizeOf", "(I)I"⟩, 29), (⟨"NinthWaveModel", "leaves", "(I)V"⟩, 29), (⟨"NinthWaveModel", "plainMark", "(I)I"⟩, 29), (⟨"NinthWaveModel", "markOf", "(I)I"⟩, 29)]
theorem lw_r4 : ∀ q ∈ lw_privs_4, lw_okq q := List.forall_mem_cons.mpr ⟨lw_p48, List.forall_mem_cons.mpr ⟨lw_p49, List.forall_mem_cons.mpr ⟨lw_p50, List.forall_mem_cons.mpr ⟨lw_p51, List.forall_mem_cons.mpr ⟨lw_p52, List.forall_mem_cons.mpr ⟨lw_p53, List.forall_mem_cons.mpr ⟨lw_p54, List.forall_mem_cons.mpr ⟨lw_p55, List.forall_mem_cons.mpr ⟨lw_p56, List.forall_mem_cons.mpr ⟨lw_p57, List.forall_mem_cons.mpr ⟨lw_p58, fun _ h => absurd h List.not_mem_nil⟩⟩⟩⟩⟩⟩⟩⟩⟩⟩⟩
def lw_privs : List (MethodName × Nat) := lw_privs_1 ++ (lw_privs_2 ++ (lw_privs_3 ++ (lw_privs_4)))
def lw_tbl : List Cond := k2_sels lw_privs ++ tables_1
theorem lw_privs_ok : ∀ q ∈ lw_privs, lw_okq q := by
  show ∀ q ∈ lw_privs_1 ++ (lw_privs_2 ++ (lw_privs_3 ++ (lw_privs_4))), lw_okq q
  exact List.forall_mem_append.mpr ⟨lw_r1, List.forall_mem_append.mpr ⟨lw_r2, List.forall_mem_append.mpr ⟨lw_r3, lw_r4⟩⟩⟩

theorem goodIn_r {big : List Cond} (ws : List Cond) (ps : List Nat) (hp : ws = ps.filterMap (fun i => big[i]?)) (h : ws.all goodWord = true) : GoodIn big ws := by
  intro w hw
  have h1 := List.all_eq_true.mp h w hw
  rw [hp] at hw
  obtain ⟨i, -, hi⟩ := List.mem_filterMap.mp hw
  have hm : w ∈ big := by first | exact List.mem_of_getElem? hi | exact List.getElem?_mem hi
  exact ⟨hm, good_of_word h1⟩
theorem goodIn_app {big a b : List Cond} (ha : GoodIn big a) (hb : GoodIn big b) : GoodIn big (a ++ b) := fun w h => (List.mem_append.mp h).elim (ha w) (hb w)
theorem goodIn_ca {big a b : List Cond} {c : Cond} (ha : GoodIn big (c :: a)) (hb : GoodIn big b) : GoodIn big (c :: (a ++ b)) := fun w h => (List.mem_cons.mp h).elim (fun e => ha w (List.mem_cons.mpr (Or.inl e))) (fun h => (List.mem_append.mp h).elim (fun h => ha w (List.mem_cons.mpr (Or.inr h))) (hb w))
theorem goodIn_sub {big ws : List Cond} (hm : ∀ w ∈ ws, w ∈ big) (h : ws.all goodWord = true) : GoodIn big ws := fun w hw => ⟨hm w hw, good_of_word (List.all_eq_true.mp h w hw)⟩
def RX0 : String := "NinthWave$Acts"
def TX0 : u_T := fun k => match k with
  | 0 => ("NinthWave$Acts", "ahead", "[LNinthWave$Scene;", true)
  | 1 => ("NinthWave$Acts", "next", "I", false)
  | _ => ("NinthWave$Acts", "many", "I", false)
def tyX0 : Nat → FieldType := fun k => match k with
  | 0 => .array (.object "NinthWave$Scene")
  | 1 => .int
  | _ => .int
abbrev wsX00 : List Cond := u_ws RX0 TX0 3
theorem nmX0 : ∀ a, a < 3 → ∀ b, b < 3 → a ≠ b → (TX0 a).2.1 ≠ (TX0 b).2.1 := by decide +kernel
theorem tyX0_ok : ∀ k, k < 3 → parseFieldDescriptor (TX0 k).2.2.1 = some (tyX0 k) := by decide +kernel
abbrev cX0_init : ByteArray := prog_2_method_1_code
def yX0_init : MethodName := ⟨RX0, "<init>", "()V"⟩
abbrev cX0_keep : ByteArray := prog_2_method_2_code
def yX0_keep : MethodName := ⟨RX0, "keep", "(LNinthWave$Scene;)V"⟩
abbrev cX0_takeBack : ByteArray := prog_2_method_3_code
def yX0_takeBack : MethodName := ⟨RX0, "takeBack", "(LNinthWave$Scene;)V"⟩
abbrev cX0_forgetAll : ByteArray := prog_2_method_4_code
def yX0_forgetAll : MethodName := ⟨RX0, "forgetAll", "()V"⟩
def RX1 : String := "NinthWave$Asker"
def TX1 : u_T := fun k => match k with
  | 0 => ("NinthWave$Asker", "bodies", "[I", true)
  | 1 => ("NinthWave$Asker", "traced", "I", false)
  | 2 => ("NinthWave$Asker", "swellKind", "I", false)
  | 3 => ("NinthWave$Asker", "height", "I", false)
  | 4 => ("NinthWave$Asker", "lift", "I", false)
  | _ => ("NinthWave$Asker", "swellNumber", "I", false)
def tyX1 : Nat → FieldType := fun k => match k with
  | 0 => .array .int
  | 1 => .int
  | 2 => .int
  | 3 => .int
  | 4 => .int
  | _ => .int
abbrev wsX10 : List Cond := u_ws RX1 TX1 6
theorem nmX1 : ∀ a, a < 6 → ∀ b, b < 6 → a ≠ b → (TX1 a).2.1 ≠ (TX1 b).2.1 := by decide +kernel
theorem tyX1_ok : ∀ k, k < 6 → parseFieldDescriptor (TX1 k).2.2.1 = some (tyX1 k) := by decide +kernel
abbrev cX1_init : ByteArray := prog_3_method_1_code
def yX1_init : MethodName := ⟨RX1, "<init>", "()V"⟩
abbrev cX1_answer : ByteArray := prog_3_method_2_code
def yX1_answer : MethodName := ⟨RX1, "answer", "(LNinthWave$Chart;II)I"⟩
abbrev cX1_asked : ByteArray := prog_3_method_3_code
def yX1_asked : MethodName := ⟨RX1, "asked", "(II)I"⟩
abbrev cX1_given : ByteArray := prog_3_method_4_code
def yX1_given : MethodName := ⟨RX1, "given", "(II)I"⟩
abbrev cX1_leave : ByteArray := prog_3_method_5_code
def yX1_leave : MethodName := ⟨RX1, "leave", "(I)V"⟩
def RX2 : String := "NinthWave$Chart"
def TX2 : u_T := fun k => match k with
  | 0 => ("NinthWave$Chart", "depth", "I", false)
  | 1 => ("NinthWave$Chart", "ebb", "I", false)
  | 2 => ("NinthWave$Chart", "swells", "I", false)
  | 3 => ("NinthWave$Chart", "towers", "I", false)
  | 4 => ("NinthWave$Chart", "ships", "I", false)
  | 5 => ("NinthWave$Chart", "kinds", "[I", true)
  | 6 => ("NinthWave$Chart", "heights", "[I", true)
  | 7 => ("NinthWave$Chart", "sees", "[I", true)
  | _ => ("NinthWave$Chart", "draughts", "[I", true)
def tyX2 : Nat → FieldType := fun k => match k with
  | 0 => .int
  | 1 => .int
  | 2 => .int
  | 3 => .int
  | 4 => .int
  | 5 => .array .int
  | 6 => .array .int
  | 7 => .array .int
  | _ => .array .int
abbrev wsX20 : List Cond := u_ws RX2 TX2 9
theorem nmX2 : ∀ a, a < 9 → ∀ b, b < 9 → a ≠ b → (TX2 a).2.1 ≠ (TX2 b).2.1 := by decide +kernel
theorem tyX2_ok : ∀ k, k < 9 → parseFieldDescriptor (TX2 k).2.2.1 = some (tyX2 k) := by decide +kernel
abbrev cX2_init : ByteArray := prog_4_method_1_code
def yX2_init : MethodName := ⟨RX2, "<init>", "()V"⟩
abbrev cX2_become : ByteArray := prog_4_method_2_code
def yX2_become : MethodName := ⟨RX2, "become", "(LNinthWave$Chart;)V"⟩
abbrev cX2_swellOf : ByteArray := prog_4_method_3_code
def yX2_swellOf : MethodName := ⟨RX2, "swellOf", "(I)I"⟩
abbrev cX2_kindIn : ByteArray := prog_4_method_4_code
def yX2_kindIn : MethodName := ⟨RX2, "kindIn", "(I)I"⟩
abbrev cX2_stepOf : ByteArray := prog_4_method_5_code
def yX2_stepOf : MethodName := ⟨RX2, "stepOf", "(II)I"⟩
abbrev cX2_liftOf : ByteArray := prog_4_method_6_code
def yX2_liftOf : MethodName := ⟨RX2, "liftOf", "(II)I"⟩
abbrev cX2_liftOfSwell : ByteArray := prog_4_method_7_code
def yX2_liftOfSwell : MethodName := ⟨RX2, "liftOfSwell", "(I)I"⟩
abbrev cX2_depthIn : ByteArray := prog_4_method_8_code
def yX2_depthIn : MethodName := ⟨RX2, "depthIn", "(I)I"⟩
abbrev cX2_waterIn : ByteArray := prog_4_method_9_code
def yX2_waterIn : MethodName := ⟨RX2, "waterIn", "(I)I"⟩
def RX3 : String := "NinthWave$Image"
def TX3 : u_T := fun k => match k with
  | 0 => ("NinthWave$Image", "chart", "LNinthWave$Chart;", true)
  | 1 => ("NinthWave$Image", "scene", "LNinthWave$Scene;", true)
  | _ => ("NinthWave$Image", "isKept", "Z", false)
def tyX3 : Nat → FieldType := fun k => match k with
  | 0 => .object "NinthWave$Chart"
  | 1 => .object "NinthWave$Scene"
  | _ => .boolean
abbrev wsX30 : List Cond := u_ws RX3 TX3 3
theorem nmX3 : ∀ a, a < 3 → ∀ b, b < 3 → a ≠ b → (TX3 a).2.1 ≠ (TX3 b).2.1 := by decide +kernel
theorem tyX3_ok : ∀ k, k < 3 → parseFieldDescriptor (TX3 k).2.2.1 = some (tyX3 k) := by decide +kernel
abbrev cX3_init : ByteArray := prog_5_method_1_code
def yX3_init : MethodName := ⟨RX3, "<init>", "()V"⟩
abbrev cX3_keep : ByteArray := prog_5_method_2_code
def yX3_keep : MethodName := ⟨RX3, "keep", "(LNinthWave$Chart;LNinthWave$Scene;)V"⟩
def RX4 : String := "NinthWave$Kinds"
def TX4 : u_T := fun k => match k with
  | _ => ("", "", "", false)
def tyX4 : Nat → FieldType := fun k => match k with
  | _ => .int
abbrev wsX40 : List Cond := u_ws RX4 TX4 0
theorem nmX4 : ∀ a, a < 0 → ∀ b, b < 0 → a ≠ b → (TX4 a).2.1 ≠ (TX4 b).2.1 := by decide +kernel
theorem tyX4_ok : ∀ k, k < 0 → parseFieldDescriptor (TX4 k).2.2.1 = some (tyX4 k) := by decide +kernel
abbrev cX4_next : ByteArray := prog_6_method_2_code
def yX4_next : MethodName := ⟨RX4, "next", "(I)I"⟩
abbrev cX4_isA : ByteArray := prog_6_method_3_code
def yX4_isA : MethodName := ⟨RX4, "isA", "(II)Z"⟩
abbrev cX4_stepOf : ByteArray := prog_6_method_4_code
def yX4_stepOf : MethodName := ⟨RX4, "stepOf", "(II)I"⟩
abbrev cX4_toldBy : ByteArray := prog_6_method_5_code
def yX4_toldBy : MethodName := ⟨RX4, "toldBy", "(I)I"⟩
def RX5 : String := "NinthWave$Orders"
def TX5 : u_T := fun k => match k with
  | 0 => ("NinthWave$Orders", "waters", "[[I", true)
  | 1 => ("NinthWave$Orders", "heard", "[I", true)
  | 2 => ("NinthWave$Orders", "used", "[I", true)
  | 3 => ("NinthWave$Orders", "tried", "[I", true)
  | 4 => ("NinthWave$Orders", "best", "[I", true)
  | _ => ("NinthWave$Orders", "mostOver", "I", false)
def tyX5 : Nat → FieldType := fun k => match k with
  | 0 => .array (.array .int)
  | 1 => .array .int
  | 2 => .array .int
  | 3 => .array .int
  | 4 => .array .int
  | _ => .int
abbrev wsX50 : List Cond := u_ws RX5 TX5 6
theorem nmX5 : ∀ a, a < 6 → ∀ b, b < 6 → a ≠ b → (TX5 a).2.1 ≠ (TX5 b).2.1 := by decide +kernel
theorem tyX5_ok : ∀ k, k < 6 → parseFieldDescriptor (TX5 k).2.2.1 = some (tyX5 k) := by decide +kernel
abbrev cX5_init : ByteArray := prog_7_method_1_code
def yX5_init : MethodName := ⟨RX5, "<init>", "()V"⟩
abbrev cX5_listen : ByteArray := prog_7_method_2_code
def yX5_listen : MethodName := ⟨RX5, "listen", "(LNinthWave$Chart;LNinthWave$Scene;I)V"⟩
abbrev cX5_search : ByteArray := prog_7_method_3_code
def yX5_search : MethodName := ⟨RX5, "search", "(LNinthWave$Chart;LNinthWave$Scene;)V"⟩
abbrev cX5_howManyCross : ByteArray := prog_7_method_4_code
def yX5_howManyCross : MethodName := ⟨RX5, "howManyCross", "(LNinthWave$Chart;LNinthWave$Scene;)I"⟩
abbrev cX5_goOn : ByteArray := prog_7_method_5_code
def yX5_goOn : MethodName := ⟨RX5, "goOn", "(I)Z"⟩
abbrev cX5_swap : ByteArray := prog_7_method_6_code
def yX5_swap : MethodName := ⟨RX5, "swap", "(II)V"⟩
def RX6 : String := "NinthWave$Reader"
def TX6 : u_T := fun k => match k with
  | 0 => ("NinthWave$Reader", "tape", "[I", true)
  | 1 => ("NinthWave$Reader", "length", "I", false)
  | 2 => ("NinthWave$Reader", "place", "I", false)
  | 3 => ("NinthWave$Reader", "flaw", "I", false)
  | 4 => ("NinthWave$Reader", "first", "I", false)
  | _ => ("NinthWave$Reader", "second", "I", false)
def tyX6 : Nat → FieldType := fun k => match k with
  | 0 => .array .int
  | 1 => .int
  | 2 => .int
  | 3 => .int
  | 4 => .int
  | _ => .int
abbrev wsX60 : List Cond := u_ws RX6 TX6 6
theorem nmX6 : ∀ a, a < 6 → ∀ b, b < 6 → a ≠ b → (TX6 a).2.1 ≠ (TX6 b).2.1 := by decide +kernel
theorem tyX6_ok : ∀ k, k < 6 → parseFieldDescriptor (TX6 k).2.2.1 = some (tyX6 k) := by decide +kernel
abbrev cX6_init : ByteArray := prog_8_method_1_code
def yX6_init : MethodName := ⟨RX6, "<init>", "()V"⟩
abbrev cX6_isFull : ByteArray := prog_8_method_2_code
def yX6_isFull : MethodName := ⟨RX6, "isFull", "()Z"⟩
abbrev cX6_append : ByteArray := prog_8_method_3_code
def yX6_append : MethodName := ⟨RX6, "append", "(I)I"⟩
abbrev cX6_empty : ByteArray := prog_8_method_4_code
def yX6_empty : MethodName := ⟨RX6, "empty", "()V"⟩
abbrev cX6_faultNumber : ByteArray := prog_8_method_5_code
def yX6_faultNumber : MethodName := ⟨RX6, "faultNumber", "()I"⟩
abbrev cX6_faultPlace : ByteArray := prog_8_method_6_code
def yX6_faultPlace : MethodName := ⟨RX6, "faultPlace", "()I"⟩
abbrev cX6_read : ByteArray := prog_8_method_7_code
def yX6_read : MethodName := ⟨RX6, "read", "(LNinthWave$Chart;LNinthWave$Scene;)Z"⟩
abbrev cX6_readBar : ByteArray := prog_8_method_8_code
def yX6_readBar : MethodName := ⟨RX6, "readBar", "(LNinthWave$Chart;)Z"⟩
abbrev cX6_readSwells : ByteArray := prog_8_method_9_code
def yX6_readSwells : MethodName := ⟨RX6, "readSwells", "(LNinthWave$Chart;)Z"⟩
abbrev cX6_readTowers : ByteArray := prog_8_method_10_code
def yX6_readTowers : MethodName := ⟨RX6, "readTowers", "(LNinthWave$Chart;LNinthWave$Scene;)Z"⟩
abbrev cX6_readShips : ByteArray := prog_8_method_11_code
def yX6_readShips : MethodName := ⟨RX6, "readShips", "(LNinthWave$Chart;LNinthWave$Scene;)Z"⟩
abbrev cX6_readPair : ByteArray := prog_8_method_12_code
def yX6_readPair : MethodName := ⟨RX6, "readPair", "(II)Z"⟩
abbrev cX6_isAtEnd : ByteArray := prog_8_method_13_code
def yX6_isAtEnd : MethodName := ⟨RX6, "isAtEnd", "()Z"⟩
abbrev cX6_at : ByteArray := prog_8_method_14_code
def yX6_at : MethodName := ⟨RX6, "at", "(I)I"⟩
abbrev cX6_fails : ByteArray := prog_8_method_15_code
def yX6_fails : MethodName := ⟨RX6, "fails", "(I)Z"⟩
abbrev cX6_passes : ByteArray := prog_8_method_16_code
def yX6_passes : MethodName := ⟨RX6, "passes", "(I)Z"⟩
abbrev cX6_number : ByteArray := prog_8_method_17_code
def yX6_number : MethodName := ⟨RX6, "number", "(I)I"⟩
abbrev cX6_isFigure : ByteArray := prog_8_method_18_code
def yX6_isFigure : MethodName := ⟨RX6, "isFigure", "(I)Z"⟩
def RX7 : String := "NinthWave$Rows"
def TX7 : u_T := fun k => match k with
  | 0 => ("NinthWave$Rows", "lanes", "[I", true)
  | 1 => ("NinthWave$Rows", "sizes", "[I", true)
  | _ => ("NinthWave$Rows", "items", "[[I", true)
def tyX7 : Nat → FieldType := fun k => match k with
  | 0 => .array .int
  | 1 => .array .int
  | _ => .array (.array .int)
abbrev wsX70 : List Cond := u_ws RX7 TX7 3
theorem nmX7 : ∀ a, a < 3 → ∀ b, b < 3 → a ≠ b → (TX7 a).2.1 ≠ (TX7 b).2.1 := by decide +kernel
theorem tyX7_ok : ∀ k, k < 3 → parseFieldDescriptor (TX7 k).2.2.1 = some (tyX7 k) := by decide +kernel
abbrev cX7_init : ByteArray := prog_9_method_1_code
def yX7_init : MethodName := ⟨RX7, "<init>", "()V"⟩
abbrev cX7_isMissing : ByteArray := prog_9_method_2_code
def yX7_isMissing : MethodName := ⟨RX7, "isMissing", "(I)Z"⟩
abbrev cX7_alike : ByteArray := prog_9_method_3_code
def yX7_alike : MethodName := ⟨RX7, "alike", "(II)Z"⟩
abbrev cX7_hasPlaces : ByteArray := prog_9_method_4_code
def yX7_hasPlaces : MethodName := ⟨RX7, "hasPlaces", "(III)Z"⟩
abbrev cX7_make : ByteArray := prog_9_method_5_code
def yX7_make : MethodName := ⟨RX7, "make", "(III)V"⟩
abbrev cX7_put : ByteArray := prog_9_method_6_code
def yX7_put : MethodName := ⟨RX7, "put", "(III)I"⟩
abbrev cX7_move : ByteArray := prog_9_method_7_code
def yX7_move : MethodName := ⟨RX7, "move", "(IIIII)V"⟩
abbrev cX7_lose : ByteArray := prog_9_method_8_code
def yX7_lose : MethodName := ⟨RX7, "lose", "(I)I"⟩
abbrev cX7_item : ByteArray := prog_9_method_9_code
def yX7_item : MethodName := ⟨RX7, "item", "(II)I"⟩
abbrev cX7_rises : ByteArray := prog_9_method_10_code
def yX7_rises : MethodName := ⟨RX7, "rises", "(IIII)Z"⟩
abbrev cX7_howManyThere : ByteArray := prog_9_method_11_code
def yX7_howManyThere : MethodName := ⟨RX7, "howManyThere", "()I"⟩
def RX8 : String := "NinthWave$Scene"
def TX8 : u_T := fun k => match k with
  | 0 => ("NinthWave$Scene", "wave", "I", false)
  | 1 => ("NinthWave$Scene", "law", "I", false)
  | 2 => ("NinthWave$Scene", "counts", "[I", true)
  | 3 => ("NinthWave$Scene", "order", "[I", true)
  | 4 => ("NinthWave$Scene", "heeded", "[I", true)
  | 5 => ("NinthWave$Scene", "fates", "[I", true)
  | _ => ("NinthWave$Scene", "crossings", "[I", true)
def tyX8 : Nat → FieldType := fun k => match k with
  | 0 => .int
  | 1 => .int
  | 2 => .array .int
  | 3 => .array .int
  | 4 => .array .int
  | 5 => .array .int
  | _ => .array .int
abbrev wsX80 : List Cond := u_ws RX8 TX8 7
theorem nmX8 : ∀ a, a < 7 → ∀ b, b < 7 → a ≠ b → (TX8 a).2.1 ≠ (TX8 b).2.1 := by decide +kernel
theorem tyX8_ok : ∀ k, k < 7 → parseFieldDescriptor (TX8 k).2.2.1 = some (tyX8 k) := by decide +kernel
abbrev cX8_init : ByteArray := prog_10_method_1_code
def yX8_init : MethodName := ⟨RX8, "<init>", "()V"⟩
abbrev cX8_begin : ByteArray := prog_10_method_2_code
def yX8_begin : MethodName := ⟨RX8, "begin", "()V"⟩
abbrev cX8_become : ByteArray := prog_10_method_3_code
def yX8_become : MethodName := ⟨RX8, "become", "(LNinthWave$Scene;)V"⟩
abbrev cX8_pass : ByteArray := prog_10_method_4_code
def yX8_pass : MethodName := ⟨RX8, "pass", "(LNinthWave$Chart;I)V"⟩
abbrev cX8_comeInBy : ByteArray := prog_10_method_5_code
def yX8_comeInBy : MethodName := ⟨RX8, "comeInBy", "(LNinthWave$Chart;)I"⟩
abbrev cX8_comeIn : ByteArray := prog_10_method_6_code
def yX8_comeIn : MethodName := ⟨RX8, "comeIn", "(LNinthWave$Chart;II)I"⟩
abbrev cX8_cross : ByteArray := prog_10_method_7_code
def yX8_cross : MethodName := ⟨RX8, "cross", "(LNinthWave$Chart;II)V"⟩
abbrev cX8_slipBy : ByteArray := prog_10_method_8_code
def yX8_slipBy : MethodName := ⟨RX8, "slipBy", "(II)I"⟩
abbrev cX8_waits : ByteArray := prog_10_method_9_code
def yX8_waits : MethodName := ⟨RX8, "waits", "(I)Z"⟩
abbrev cX8_isOverAheadOf : ByteArray := prog_10_method_10_code
def yX8_isOverAheadOf : MethodName := ⟨RX8, "isOverAheadOf", "(II)Z"⟩
abbrev cX8_placeOf : ByteArray := prog_10_method_11_code
def yX8_placeOf : MethodName := ⟨RX8, "placeOf", "(I)I"⟩
abbrev cX8_howMany : ByteArray := prog_10_method_12_code
def yX8_howMany : MethodName := ⟨RX8, "howMany", "(LNinthWave$Chart;I)I"⟩
abbrev cX8_howManyWaitFor : ByteArray := prog_10_method_13_code
def yX8_howManyWaitFor : MethodName := ⟨RX8, "howManyWaitFor", "(LNinthWave$Chart;I)I"⟩
def RX9 : String := "NinthWave"
def TX9 : u_T := fun k => match k with
  | 0 => ("NinthWave", "rows", "LNinthWave$Rows;", true)
  | 1 => ("NinthWave", "reader", "LNinthWave$Reader;", true)
  | 2 => ("NinthWave", "chart", "LNinthWave$Chart;", true)
  | 3 => ("NinthWave", "draft", "LNinthWave$Chart;", true)
  | 4 => ("NinthWave", "now", "LNinthWave$Scene;", true)
  | 5 => ("NinthWave", "trial", "LNinthWave$Scene;", true)
  | 6 => ("NinthWave", "acts", "LNinthWave$Acts;", true)
  | 7 => ("NinthWave", "orders", "LNinthWave$Orders;", true)
  | 8 => ("NinthWave", "asker", "LNinthWave$Asker;", true)
  | 9 => ("NinthWave", "images", "[LNinthWave$Image;", true)
  | 10 => ("NinthWave", "hasSea", "Z", false)
  | 11 => ("NinthWave", "latestFault", "I", false)
  | _ => ("NinthWave", "finding", "I", false)
def tyX9 : Nat → FieldType := fun k => match k with
  | 0 => .object "NinthWave$Rows"
  | 1 => .object "NinthWave$Reader"
  | 2 => .object "NinthWave$Chart"
  | 3 => .object "NinthWave$Chart"
  | 4 => .object "NinthWave$Scene"
  | 5 => .object "NinthWave$Scene"
  | 6 => .object "NinthWave$Acts"
  | 7 => .object "NinthWave$Orders"
  | 8 => .object "NinthWave$Asker"
  | 9 => .array (.object "NinthWave$Image")
  | 10 => .boolean
  | 11 => .int
  | _ => .int
abbrev wsX90 : List Cond := u_ws RX9 TX9 13
theorem nmX9 : ∀ a, a < 13 → ∀ b, b < 13 → a ≠ b → (TX9 a).2.1 ≠ (TX9 b).2.1 := by decide +kernel
theorem tyX9_ok : ∀ k, k < 13 → parseFieldDescriptor (TX9 k).2.2.1 = some (tyX9 k) := by decide +kernel
abbrev cX9_init : ByteArray := prog_1_method_1_code
def yX9_init : MethodName := ⟨RX9, "<init>", "()V"⟩
abbrev cX9_row : ByteArray := prog_1_method_2_code
def yX9_row : MethodName := ⟨RX9, "row", "(III)I"⟩
abbrev cX9_set : ByteArray := prog_1_method_3_code
def yX9_set : MethodName := ⟨RX9, "set", "(III)I"⟩
abbrev cX9_copy : ByteArray := prog_1_method_4_code
def yX9_copy : MethodName := ⟨RX9, "copy", "(IIIII)I"⟩
abbrev cX9_drop : ByteArray := prog_1_method_5_code
def yX9_drop : MethodName := ⟨RX9, "drop", "(I)I"⟩
abbrev cX9_feed : ByteArray := prog_1_method_6_code
def yX9_feed : MethodName := ⟨RX9, "feed", "(I)I"⟩
abbrev cX9_sea : ByteArray := prog_1_method_7_code
def yX9_sea : MethodName := ⟨RX9, "sea", "()I"⟩
abbrev cX9_fault : ByteArray := prog_1_method_8_code
def yX9_fault : MethodName := ⟨RX9, "fault", "()I"⟩
abbrev cX9_waves : ByteArray := prog_1_method_9_code
def yX9_waves : MethodName := ⟨RX9, "waves", "(I)I"⟩
abbrev cX9_slip : ByteArray := prog_1_method_10_code
def yX9_slip : MethodName := ⟨RX9, "slip", "(II)I"⟩
abbrev cX9_law : ByteArray := prog_1_method_11_code
def yX9_law : MethodName := ⟨RX9, "law", "(I)I"⟩
abbrev cX9_change : ByteArray := prog_1_method_12_code
def yX9_change : MethodName := ⟨RX9, "change", "(II)I"⟩
abbrev cX9_heeds : ByteArray := prog_1_method_13_code
def yX9_heeds : MethodName := ⟨RX9, "heeds", "(II)I"⟩
abbrev cX9_undo : ByteArray := prog_1_method_14_code
def yX9_undo : MethodName := ⟨RX9, "undo", "()I"⟩
abbrev cX9_ship : ByteArray := prog_1_method_15_code
def yX9_ship : MethodName := ⟨RX9, "ship", "(II)I"⟩
abbrev cX9_tower : ByteArray := prog_1_method_16_code
def yX9_tower : MethodName := ⟨RX9, "tower", "(II)I"⟩
abbrev cX9_wave : ByteArray := prog_1_method_17_code
def yX9_wave : MethodName := ⟨RX9, "wave", "(II)I"⟩
abbrev cX9_ahead : ByteArray := prog_1_method_18_code
def yX9_ahead : MethodName := ⟨RX9, "ahead", "(II)I"⟩
abbrev cX9_shipAhead : ByteArray := prog_1_method_19_code
def yX9_shipAhead : MethodName := ⟨RX9, "shipAhead", "(III)I"⟩
abbrev cX9_towerAhead : ByteArray := prog_1_method_20_code
def yX9_towerAhead : MethodName := ⟨RX9, "towerAhead", "(II)I"⟩
abbrev cX9_called : ByteArray := prog_1_method_21_code
def yX9_called : MethodName := ⟨RX9, "called", "(II)I"⟩
abbrev cX9_fit : ByteArray := prog_1_method_22_code
def yX9_fit : MethodName := ⟨RX9, "fit", "(II)I"⟩
abbrev cX9_highest : ByteArray := prog_1_method_23_code
def yX9_highest : MethodName := ⟨RX9, "highest", "(II)I"⟩
abbrev cX9_order : ByteArray := prog_1_method_24_code
def yX9_order : MethodName := ⟨RX9, "order", "(II)I"⟩
abbrev cX9_laws : ByteArray := prog_1_method_25_code
def yX9_laws : MethodName := ⟨RX9, "laws", "(II)I"⟩
abbrev cX9_bribe : ByteArray := prog_1_method_26_code
def yX9_bribe : MethodName := ⟨RX9, "bribe", "(II)I"⟩
abbrev cX9_heed : ByteArray := prog_1_method_27_code
def yX9_heed : MethodName := ⟨RX9, "heed", "(I)I"⟩
abbrev cX9_agreed : ByteArray := prog_1_method_28_code
def yX9_agreed : MethodName := ⟨RX9, "agreed", "(II)I"⟩
abbrev cX9_log : ByteArray := prog_1_method_29_code
def yX9_log : MethodName := ⟨RX9, "log", "(IIII)I"⟩
abbrev cX9_wreck : ByteArray := prog_1_method_30_code
def yX9_wreck : MethodName := ⟨RX9, "wreck", "(IIII)I"⟩
abbrev cX9_season : ByteArray := prog_1_method_31_code
def yX9_season : MethodName := ⟨RX9, "season", "(III)I"⟩
abbrev cX9_image : ByteArray := prog_1_method_32_code
def yX9_image : MethodName := ⟨RX9, "image", "(I)I"⟩
abbrev cX9_restore : ByteArray := prog_1_method_33_code
def yX9_restore : MethodName := ⟨RX9, "restore", "(I)I"⟩
abbrev cX9_kind : ByteArray := prog_1_method_34_code
def yX9_kind : MethodName := ⟨RX9, "kind", "(I)I"⟩
abbrev cX9_as : ByteArray := prog_1_method_35_code
def yX9_as : MethodName := ⟨RX9, "as", "(II)I"⟩
abbrev cX9_ask : ByteArray := prog_1_method_36_code
def yX9_ask : MethodName := ⟨RX9, "ask", "(II)I"⟩
abbrev cX9_trace : ByteArray := prog_1_method_37_code
def yX9_trace : MethodName := ⟨RX9, "trace", "(I)I"⟩
abbrev cX9_count : ByteArray := prog_1_method_38_code
def yX9_count : MethodName := ⟨RX9, "count", "(I)I"⟩
abbrev cX9_status : ByteArray := prog_1_method_39_code
def yX9_status : MethodName := ⟨RX9, "status", "()I"⟩
abbrev cX9_found : ByteArray := prog_1_method_40_code
def yX9_found : MethodName := ⟨RX9, "found", "(I)I"⟩
abbrev cX9_fine : ByteArray := prog_1_method_41_code
def yX9_fine : MethodName := ⟨RX9, "fine", "(I)I"⟩
abbrev cX9_foretell : ByteArray := prog_1_method_42_code
def yX9_foretell : MethodName := ⟨RX9, "foretell", "(I)V"⟩
abbrev cX9_fitsLog : ByteArray := prog_1_method_43_code
def yX9_fitsLog : MethodName := ⟨RX9, "fitsLog", "(IIII)Z"⟩
abbrev cX9_isRow : ByteArray := prog_1_method_44_code
def yX9_isRow : MethodName := ⟨RX9, "isRow", "(I)Z"⟩
abbrev cX9_isSwell : ByteArray := prog_1_method_45_code
def yX9_isSwell : MethodName := ⟨RX9, "isSwell", "(I)Z"⟩
abbrev cX9_isTower : ByteArray := prog_1_method_46_code
def yX9_isTower : MethodName := ⟨RX9, "isTower", "(I)Z"⟩
abbrev cX9_isShip : ByteArray := prog_1_method_47_code
def yX9_isShip : MethodName := ⟨RX9, "isShip", "(I)Z"⟩
abbrev cX9_within : ByteArray := prog_1_method_48_code
def yX9_within : MethodName := ⟨RX9, "within", "(III)Z"⟩
abbrev cX9_calls : ByteArray := prog_1_method_49_code
def yX9_calls : MethodName := ⟨RX9, "calls", "(III)Z"⟩
def RX10 : String := "NinthWaveModel"
def TX10 : u_T := fun k => match k with
  | 0 => ("NinthWaveModel", "lanes", "[I", true)
  | 1 => ("NinthWaveModel", "sizes", "[I", true)
  | 2 => ("NinthWaveModel", "items", "[I", true)
  | 3 => ("NinthWaveModel", "found", "I", false)
  | 4 => ("NinthWaveModel", "moved", "[I", true)
  | 5 => ("NinthWaveModel", "tape", "[I", true)
  | 6 => ("NinthWaveModel", "fed", "I", false)
  | 7 => ("NinthWaveModel", "faulty", "I", false)
  | 8 => ("NinthWaveModel", "sea", "[I", true)
  | 9 => ("NinthWaveModel", "now", "[I", true)
  | 10 => ("NinthWaveModel", "read", "[I", true)
  | 11 => ("NinthWaveModel", "images", "[I", true)
  | 12 => ("NinthWaveModel", "kept", "[Z", true)
  | 13 => ("NinthWaveModel", "was", "[I", true)
  | 14 => ("NinthWaveModel", "acts", "I", false)
  | 15 => ("NinthWaveModel", "at", "I", false)
  | 16 => ("NinthWaveModel", "start", "I", false)
  | 17 => ("NinthWaveModel", "token", "I", false)
  | 18 => ("NinthWaveModel", "value", "I", false)
  | 19 => ("NinthWaveModel", "wrong", "I", false)
  | 20 => ("NinthWaveModel", "got", "I", false)
  | 21 => ("NinthWaveModel", "other", "I", false)
  | 22 => ("NinthWaveModel", "counts", "[I", true)
  | 23 => ("NinthWaveModel", "heeded", "[I", true)
  | 24 => ("NinthWaveModel", "so", "[I", true)
  | 25 => ("NinthWaveModel", "row0", "[I", true)
  | 26 => ("NinthWaveModel", "best", "[I", true)
  | 27 => ("NinthWaveModel", "traced", "[I", true)
  | _ => ("NinthWaveModel", "traces", "I", false)
def tyX10 : Nat → FieldType := fun k => match k with
  | 0 => .array .int
  | 1 => .array .int
  | 2 => .array .int
  | 3 => .int
  | 4 => .array .int
  | 5 => .array .int
  | 6 => .int
  | 7 => .int
  | 8 => .array .int
  | 9 => .array .int
  | 10 => .array .int
  | 11 => .array .int
  | 12 => .array .boolean
  | 13 => .array .int
  | 14 => .int
  | 15 => .int
  | 16 => .int
  | 17 => .int
  | 18 => .int
  | 19 => .int
  | 20 => .int
  | 21 => .int
  | 22 => .array .int
  | 23 => .array .int
  | 24 => .array .int
  | 25 => .array .int
  | 26 => .array .int
  | 27 => .array .int
  | _ => .int
abbrev wsX100 : List Cond := u_ws RX10 TX10 29
theorem nmX10 : ∀ a, a < 29 → ∀ b, b < 29 → a ≠ b → (TX10 a).2.1 ≠ (TX10 b).2.1 := by decide +kernel
theorem tyX10_ok : ∀ k, k < 29 → parseFieldDescriptor (TX10 k).2.2.1 = some (tyX10 k) := by decide +kernel
abbrev cX10_in : ByteArray := prog_12_method_2_code
def yX10_in : MethodName := ⟨RX10, "in", "(JJJ)Z"⟩
abbrev cX10_most : ByteArray := prog_12_method_3_code
def yX10_most : MethodName := ⟨RX10, "most", "(II)I"⟩
abbrev cX10_init : ByteArray := prog_12_method_4_code
def yX10_init : MethodName := ⟨RX10, "<init>", "()V"⟩
abbrev cX10_isRow : ByteArray := prog_12_method_5_code
def yX10_isRow : MethodName := ⟨RX10, "isRow", "(I)Z"⟩
abbrev cX10_finds : ByteArray := prog_12_method_6_code
def yX10_finds : MethodName := ⟨RX10, "finds", "(I)I"⟩
abbrev cX10_well : ByteArray := prog_12_method_7_code
def yX10_well : MethodName := ⟨RX10, "well", "(I)I"⟩
abbrev cX10_row : ByteArray := prog_12_method_8_code
def yX10_row : MethodName := ⟨RX10, "row", "(III)I"⟩
abbrev cX10_set : ByteArray := prog_12_method_9_code
def yX10_set : MethodName := ⟨RX10, "set", "(III)I"⟩
abbrev cX10_copy : ByteArray := prog_12_method_10_code
def yX10_copy : MethodName := ⟨RX10, "copy", "(IIIII)I"⟩
abbrev cX10_drop : ByteArray := prog_12_method_11_code
def yX10_drop : MethodName := ⟨RX10, "drop", "(I)I"⟩
abbrev cX10_feed : ByteArray := prog_12_method_12_code
def yX10_feed : MethodName := ⟨RX10, "feed", "(I)I"⟩
abbrev cX10_isFigure : ByteArray := prog_12_method_13_code
def yX10_isFigure : MethodName := ⟨RX10, "isFigure", "()Z"⟩
abbrev cX10_scans : ByteArray := prog_12_method_14_code
def yX10_scans : MethodName := ⟨RX10, "scans", "()V"⟩
abbrev cX10_faults : ByteArray := prog_12_method_15_code
def yX10_faults : MethodName := ⟨RX10, "faults", "(I)Z"⟩
abbrev cX10_takes : ByteArray := prog_12_method_16_code
def yX10_takes : MethodName := ⟨RX10, "takes", "(II)Z"⟩
abbrev cX10_signs : ByteArray := prog_12_method_17_code
def yX10_signs : MethodName := ⟨RX10, "signs", "(I)Z"⟩
abbrev cX10_two : ByteArray := prog_12_method_18_code
def yX10_two : MethodName := ⟨RX10, "two", "(III)Z"⟩
abbrev cX10_sortOf : ByteArray := prog_12_method_19_code
def yX10_sortOf : MethodName := ⟨RX10, "sortOf", "(I)I"⟩
abbrev cX10_isLetter : ByteArray := prog_12_method_20_code
def yX10_isLetter : MethodName := ⟨RX10, "isLetter", "(I)Z"⟩
abbrev cX10_swell : ByteArray := prog_12_method_21_code
def yX10_swell : MethodName := ⟨RX10, "swell", "()Z"⟩
abbrev cX10_turret : ByteArray := prog_12_method_22_code
def yX10_turret : MethodName := ⟨RX10, "turret", "()Z"⟩
abbrev cX10_vessel : ByteArray := prog_12_method_23_code
def yX10_vessel : MethodName := ⟨RX10, "vessel", "()Z"⟩
abbrev cX10_reads : ByteArray := prog_12_method_24_code
def yX10_reads : MethodName := ⟨RX10, "reads", "()Z"⟩
abbrev cX10_sea : ByteArray := prog_12_method_25_code
def yX10_sea : MethodName := ⟨RX10, "sea", "()I"⟩
abbrev cX10_fault : ByteArray := prog_12_method_26_code
def yX10_fault : MethodName := ⟨RX10, "fault", "()I"⟩
abbrev cX10_isSea : ByteArray := prog_12_method_27_code
def yX10_isSea : MethodName := ⟨RX10, "isSea", "()Z"⟩
abbrev cX10_isShip : ByteArray := prog_12_method_28_code
def yX10_isShip : MethodName := ⟨RX10, "isShip", "(I)Z"⟩
abbrev cX10_isTower : ByteArray := prog_12_method_29_code
def yX10_isTower : MethodName := ⟨RX10, "isTower", "(I)Z"⟩
abbrev cX10_lift : ByteArray := prog_12_method_30_code
def yX10_lift : MethodName := ⟨RX10, "lift", "(II)I"⟩
abbrev cX10_water : ByteArray := prog_12_method_31_code
def yX10_water : MethodName := ⟨RX10, "water", "(III)I"⟩
abbrev cX10_sortIn : ByteArray := prog_12_method_32_code
def yX10_sortIn : MethodName := ⟨RX10, "sortIn", "(I)I"⟩
abbrev cX10_heightIn : ByteArray := prog_12_method_33_code
def yX10_heightIn : MethodName := ⟨RX10, "heightIn", "(I)I"⟩
abbrev cX10_waterIn : ByteArray := prog_12_method_34_code
def yX10_waterIn : MethodName := ⟨RX10, "waterIn", "(I)I"⟩
abbrev cX10_counted : ByteArray := prog_12_method_35_code
def yX10_counted : MethodName := ⟨RX10, "counted", "(II)I"⟩
abbrev cX10_isCalled : ByteArray := prog_12_method_36_code
def yX10_isCalled : MethodName := ⟨RX10, "isCalled", "(III)Z"⟩
abbrev cX10_asNow : ByteArray := prog_12_method_37_code
def yX10_asNow : MethodName := ⟨RX10, "asNow", "()V"⟩
abbrev cX10_comes : ByteArray := prog_12_method_38_code
def yX10_comes : MethodName := ⟨RX10, "comes", "(II)V"⟩
abbrev cX10_waves0 : ByteArray := prog_12_method_39_code
def yX10_waves0 : MethodName := ⟨RX10, "waves0", "(I)V"⟩
abbrev cX10_many : ByteArray := prog_12_method_40_code
def yX10_many : MethodName := ⟨RX10, "many", "(I)I"⟩
abbrev cX10_remembers : ByteArray := prog_12_method_41_code
def yX10_remembers : MethodName := ⟨RX10, "remembers", "()V"⟩
abbrev cX10_waves : ByteArray := prog_12_method_42_code
def yX10_waves : MethodName := ⟨RX10, "waves", "(I)I"⟩
abbrev cX10_slip : ByteArray := prog_12_method_43_code
def yX10_slip : MethodName := ⟨RX10, "slip", "(II)I"⟩
abbrev cX10_law : ByteArray := prog_12_method_44_code
def yX10_law : MethodName := ⟨RX10, "law", "(I)I"⟩
abbrev cX10_placeOf : ByteArray := prog_12_method_45_code
def yX10_placeOf : MethodName := ⟨RX10, "placeOf", "(I)I"⟩
abbrev cX10_change : ByteArray := prog_12_method_46_code
def yX10_change : MethodName := ⟨RX10, "change", "(II)I"⟩
abbrev cX10_heeds : ByteArray := prog_12_method_47_code
def yX10_heeds : MethodName := ⟨RX10, "heeds", "(II)I"⟩
abbrev cX10_undo : ByteArray := prog_12_method_48_code
def yX10_undo : MethodName := ⟨RX10, "undo", "()I"⟩
abbrev cX10_ship : ByteArray := prog_12_method_49_code
def yX10_ship : MethodName := ⟨RX10, "ship", "(II)I"⟩
abbrev cX10_tower : ByteArray := prog_12_method_50_code
def yX10_tower : MethodName := ⟨RX10, "tower", "(II)I"⟩
abbrev cX10_wave : ByteArray := prog_12_method_51_code
def yX10_wave : MethodName := ⟨RX10, "wave", "(II)I"⟩
abbrev cX10_ahead : ByteArray := prog_12_method_52_code
def yX10_ahead : MethodName := ⟨RX10, "ahead", "(II)I"⟩
abbrev cX10_shipAhead : ByteArray := prog_12_method_53_code
def yX10_shipAhead : MethodName := ⟨RX10, "shipAhead", "(III)I"⟩
abbrev cX10_towerAhead : ByteArray := prog_12_method_54_code
def yX10_towerAhead : MethodName := ⟨RX10, "towerAhead", "(II)I"⟩
abbrev cX10_called : ByteArray := prog_12_method_55_code
def yX10_called : MethodName := ⟨RX10, "called", "(II)I"⟩
abbrev cX10_fit : ByteArray := prog_12_method_56_code
def yX10_fit : MethodName := ⟨RX10, "fit", "(II)I"⟩
abbrev cX10_highest : ByteArray := prog_12_method_57_code
def yX10_highest : MethodName := ⟨RX10, "highest", "(II)I"⟩
abbrev cX10_lays : ByteArray := prog_12_method_58_code
def yX10_lays : MethodName := ⟨RX10, "lays", "(II)Z"⟩
abbrev cX10_order : ByteArray := prog_12_method_59_code
def yX10_order : MethodName := ⟨RX10, "order", "(II)I"⟩
abbrev cX10_laws : ByteArray := prog_12_method_60_code
def yX10_laws : MethodName := ⟨RX10, "laws", "(II)I"⟩
abbrev cX10_bribe : ByteArray := prog_12_method_61_code
def yX10_bribe : MethodName := ⟨RX10, "bribe", "(II)I"⟩
abbrev cX10_heed : ByteArray := prog_12_method_62_code
def yX10_heed : MethodName := ⟨RX10, "heed", "(I)I"⟩
abbrev cX10_callers : ByteArray := prog_12_method_63_code
def yX10_callers : MethodName := ⟨RX10, "callers", "()I"⟩
abbrev cX10_agreed : ByteArray := prog_12_method_64_code
def yX10_agreed : MethodName := ⟨RX10, "agreed", "(II)I"⟩
abbrev cX10_hasCalled : ByteArray := prog_12_method_65_code
def yX10_hasCalled : MethodName := ⟨RX10, "hasCalled", "(IIII)Z"⟩
abbrev cX10_log : ByteArray := prog_12_method_66_code
def yX10_log : MethodName := ⟨RX10, "log", "(IIII)I"⟩
abbrev cX10_wreck : ByteArray := prog_12_method_67_code
def yX10_wreck : MethodName := ⟨RX10, "wreck", "(IIII)I"⟩
abbrev cX10_season : ByteArray := prog_12_method_68_code
def yX10_season : MethodName := ⟨RX10, "season", "(III)I"⟩
abbrev cX10_image : ByteArray := prog_12_method_69_code
def yX10_image : MethodName := ⟨RX10, "image", "(I)I"⟩
abbrev cX10_restore : ByteArray := prog_12_method_70_code
def yX10_restore : MethodName := ⟨RX10, "restore", "(I)I"⟩
abbrev cX10_isSwell : ByteArray := prog_12_method_71_code
def yX10_isSwell : MethodName := ⟨RX10, "isSwell", "(I)Z"⟩
abbrev cX10_kind : ByteArray := prog_12_method_72_code
def yX10_kind : MethodName := ⟨RX10, "kind", "(I)I"⟩
abbrev cX10_as : ByteArray := prog_12_method_73_code
def yX10_as : MethodName := ⟨RX10, "as", "(II)I"⟩
abbrev cX10_leaves : ByteArray := prog_12_method_74_code
def yX10_leaves : MethodName := ⟨RX10, "leaves", "(I)V"⟩
abbrev cX10_plainMark : ByteArray := prog_12_method_75_code
def yX10_plainMark : MethodName := ⟨RX10, "plainMark", "(I)I"⟩
abbrev cX10_sizeOf : ByteArray := prog_12_method_76_code
def yX10_sizeOf : MethodName := ⟨RX10, "sizeOf", "(I)I"⟩
abbrev cX10_markOf : ByteArray := prog_12_method_77_code
def yX10_markOf : MethodName := ⟨RX10, "markOf", "(I)I"⟩
abbrev cX10_ask : ByteArray := prog_12_method_78_code
def yX10_ask : MethodName := ⟨RX10, "ask", "(II)I"⟩
abbrev cX10_trace : ByteArray := prog_12_method_79_code
def yX10_trace : MethodName := ⟨RX10, "trace", "(I)I"⟩
abbrev cX10_count : ByteArray := prog_12_method_80_code
def yX10_count : MethodName := ⟨RX10, "count", "(I)I"⟩
abbrev cX10_status : ByteArray := prog_12_method_81_code
def yX10_status : MethodName := ⟨RX10, "status", "()I"⟩
def RJ9 : String := "java/lang/Math"
def TJ9 : u_T := fun k => match k with
  | _ => ("", "", "", false)
def tyJ9 : Nat → FieldType := fun k => match k with
  | _ => .int
abbrev wsJ90 : List Cond := u_ws RJ9 TJ9 0
abbrev cJ9_max_7cf53 : ByteArray := prog_13_method_65_code
def yJ9_max_7cf53 : MethodName := ⟨RJ9, "max", "(II)I"⟩
abbrev cJ9_min_7cf53 : ByteArray := prog_13_method_69_code
def yJ9_min_7cf53 : MethodName := ⟨RJ9, "min", "(II)I"⟩
def RJ10 : String := "java/lang/System"
def TJ10 : u_T := fun k => match k with
  | _ => ("", "", "", false)
def tyJ10 : Nat → FieldType := fun k => match k with
  | _ => .int
abbrev wsJ100 : List Cond := u_ws RJ10 TJ10 0
def RL : String := "NinthWaveLaw"
abbrev cL_law : ByteArray := code
def yL_law : MethodName := ⟨RL, "law", "([I)Z"⟩
/-- the words that go along into every call -/
def nw_gw : List Cond := lw_tbl.filter goodWord
theorem tb_in {i : Nat} {w : Cond} (h : tables_1[i]? = some w) (hg : goodWord w = true := by rfl) : w ∈ nw_gw := List.mem_filter.mpr ⟨List.mem_append_right _ (List.mem_of_getElem? h), hg⟩
theorem tp_in {i : Nat} {w : Cond} (h : (k2_sels lw_privs)[i]? = some w) (hg : goodWord w = true := by rfl) : w ∈ nw_gw := List.mem_filter.mpr ⟨List.mem_append_left _ (List.mem_of_getElem? h), hg⟩
theorem tl_in {i : Nat} {w : Cond} (h : tables_1[i]? = some w) : w ∈ lw_tbl := List.mem_append_right _ (List.mem_of_getElem? h)
end
section
/-- the words on private members of nest mates -/
def nw_ne : List Cond := [Cond.methodLinkNest RX9 18 yX6_init "NinthWave", Cond.methodLinkNest RX9 25 yX2_init "NinthWave", Cond.methodLinkNest RX9 35 yX8_init "NinthWave", Cond.methodLinkNest RX0 15 yX8_init "NinthWave", Cond.methodLinkNest RX9 52 yX5_init "NinthWave", Cond.methodLinkNest RX9 59 yX1_init "NinthWave", Cond.methodLinkNest RX9 70 yX3_init "NinthWave", Cond.methodLinkNest RX3 9 yX2_init "NinthWave", Cond.methodLinkNest RX3 18 yX8_init "NinthWave", Cond.methodLinkNest RX8 65 yX9_calls "NinthWave", Cond.methodLinkNest RX5 52 yX9_calls "NinthWave"]
/-- a method: its name, its bytes, its locals, its answer's type -/
abbrev nw_Mt : Type := MethodName × ByteArray × Nat × Option FieldType
def nw_ok (M : nw_Mt) (n : Nat) : Prop := Cond.code M.1 M.2.1 M.2.2.1 M.2.2.2 ∈ nw_gw ∧ Cond.initialized M.1.cls ∈ nw_gw ∧ (M.1.cls ≠ "java/lang/invoke/MethodHandle" ∧ M.1.cls ≠ "java/lang/invoke/VarHandle" ∧ (parseMethodDescriptor M.1.desc).map (fun d => d.parameters.length) = some n) ∧ plainName M.1.cls = true ∧ M.2.2.1 ≤ 30
def nw_iv (M : nw_Mt) : Prop := Cond.instanceMethod M.1 ∈ nw_gw ∧ Cond.selects M.1.cls M.1 M.1 ∈ nw_gw
def nw_ss (M : nw_Mt) : Prop := Cond.static M.1 ∈ nw_gw
def nw_ii (M : nw_Mt) : Prop := Cond.instanceMethod M.1 ∈ nw_gw ∧ M.1.name = "<init>"
def nw_ml (own : String) (i : Nat) (M : nw_Mt) : Prop := Cond.methodLink own i M.1 ∈ nw_gw
def nw_mn (own : String) (i : Nat) (M : nw_Mt) : Prop := ∃ host, Cond.methodLinkNest own i M.1 host ∈ nw_ne
def mX9_init : nw_Mt := (yX9_init, cX9_init, 2, none)
theorem kX9_init : nw_ok mX9_init 0 := ⟨tb_in (i := 18) (by decide +kernel), tb_in (i := 1) (by decide +kernel), by decide +kernel, by decide +kernel, by decide +kernel⟩
theorem iX9_init : nw_ii mX9_init := ⟨tb_in (i := 17) (by decide +kernel), rfl⟩
def mX7_init : nw_Mt := (yX7_init, cX7_init, 2, none)
theorem kX7_init : nw_ok mX7_init 0 := ⟨tb_in (i := 26) (by decide +kernel), tb_in (i := 2) (by decide +kernel), by decide +kernel, by decide +kernel, by decide +kernel⟩
theorem iX7_init : nw_ii mX7_init := ⟨tb_in (i := 25) (by decide +kernel), rfl⟩
def mX6_init : nw_Mt := (yX6_init, cX6_init, 1, none)
theorem kX6_init : nw_ok mX6_init 0 := ⟨tb_in (i := 45) (by decide +kernel), tb_in (i := 3) (by decide +kernel), by decide +kernel, by decide +kernel, by decide +kernel⟩
theorem iX6_init : nw_ii mX6_init := ⟨tb_in (i := 44) (by decide +kernel), rfl⟩
def mX2_init : nw_Mt := (yX2_init, cX2_init, 1, none)
theorem kX2_init : nw_ok mX2_init 0 := ⟨tb_in (i := 71) (by decide +kernel), tb_in (i := 4) (by decide +kernel), by decide +kernel, by decide +kernel, by decide +kernel⟩
theorem iX2_init : nw_ii mX2_init := ⟨tb_in (i := 70) (by decide +kernel), rfl⟩
def mX8_init : nw_Mt := (yX8_init, cX8_init, 1, none)
theorem kX8_init : nw_ok mX8_init 0 := ⟨tb_in (i := 129) (by decide +kernel), tb_in (i := 5) (by decide +kernel), by decide +kernel, by decide +kernel, by decide +kernel⟩
theorem iX8_init : nw_ii mX8_init := ⟨tb_in (i := 128) (by decide +kernel), rfl⟩
def mX0_init : nw_Mt := (yX0_init, cX0_init, 2, none)
theorem kX0_init : nw_ok mX0_init 0 := ⟨tb_in (i := 170) (by decide +kernel), tb_in (i := 6) (by decide +kernel), by decide +kernel, by decide +kernel, by decide +kernel⟩
theorem iX0_init : nw_ii mX0_init := ⟨tb_in (i := 169) (by decide +kernel), rfl⟩
def mX5_init : nw_Mt := (yX5_init, cX5_init, 1, none)
theorem kX5_init : nw_ok mX5_init 0 := ⟨tb_in (i := 190) (by decide +kernel), tb_in (i := 7) (by decide +kernel), by decide +kernel, by decide +kernel, by decide +kernel⟩
theorem iX5_init : nw_ii mX5_init := ⟨tb_in (i := 189) (by decide +kernel), rfl⟩
def mX1_init : nw_Mt := (yX1_init, cX1_init, 1, none)
theorem kX1_init : nw_ok mX1_init 0 := ⟨tb_in (i := 218) (by decide +kernel), tb_in (i := 8) (by decide +kernel), by decide +kernel, by decide +kernel, by decide +kernel⟩
theorem iX1_init : nw_ii mX1_init := ⟨tb_in (i := 217) (by decide +kernel), rfl⟩
def mX3_init : nw_Mt := (yX3_init, cX3_init, 1, none)
theorem kX3_init : nw_ok mX3_init 0 := ⟨tb_in (i := 246) (by decide +kernel), tb_in (i := 9) (by decide +kernel), by decide +kernel, by decide +kernel, by decide +kernel⟩
theorem iX3_init : nw_ii mX3_init := ⟨tb_in (i := 245) (by decide +kernel), rfl⟩
def mX9_row : nw_Mt := (yX9_row, cX9_row, 4, (some .int))
theorem kX9_row : nw_ok mX9_row 3 := ⟨tb_in (i := 308) (by decide +kernel), tb_in (i := 1) (by decide +kernel), by decide +kernel, by decide +kernel, by decide +kernel⟩
theorem vX9_row : nw_iv mX9_row := ⟨tb_in (i := 306) (by decide +kernel), tb_in (i := 307) (by decide +kernel)⟩
def mX9_isRow : nw_Mt := (yX9_isRow, cX9_isRow, 2, (some .boolean))
theorem kX9_isRow : nw_ok mX9_isRow 1 := ⟨tb_in (i := 312) (by decide +kernel), tb_in (i := 1) (by decide +kernel), by decide +kernel, by decide +kernel, by decide +kernel⟩
theorem vX9_isRow : nw_iv mX9_isRow := ⟨tb_in (i := 311) (by decide +kernel), tp_in (i := 0) (by decide +kernel)⟩
def mX9_within : nw_Mt := (yX9_within, cX9_within, 3, (some .boolean))
theorem kX9_within : nw_ok mX9_within 3 := ⟨tb_in (i := 315) (by decide +kernel), tb_in (i := 1) (by decide +kernel), by decide +kernel, by decide +kernel, by decide +kernel⟩
theorem sX9_within : nw_ss mX9_within := tb_in (i := 314) (by decide +kernel)
def mX9_found : nw_Mt := (yX9_found, cX9_found, 2, (some .int))
theorem kX9_found : nw_ok mX9_found 1 := ⟨tb_in (i := 320) (by decide +kernel), tb_in (i := 1) (by decide +kernel), by decide +kernel, by decide +kernel, by decide +kernel⟩
theorem vX9_found : nw_iv mX9_found := ⟨tb_in (i := 319) (by decide +kernel), tp_in (i := 1) (by decide +kernel)⟩
def mX7_make : nw_Mt := (yX7_make, cX7_make, 5, none)
theorem kX7_make : nw_ok mX7_make 3 := ⟨tb_in (i := 325) (by decide +kernel), tb_in (i := 2) (by decide +kernel), by decide +kernel, by decide +kernel, by decide +kernel⟩
theorem vX7_make : nw_iv mX7_make := ⟨tb_in (i := 323) (by decide +kernel), tb_in (i := 324) (by decide +kernel)⟩
def mX9_fine : nw_Mt := (yX9_fine, cX9_fine, 2, (some .int))
theorem kX9_fine : nw_ok mX9_fine 1 := ⟨tb_in (i := 329) (by decide +kernel), tb_in (i := 1) (by decide +kernel), by decide +kernel, by decide +kernel, by decide +kernel⟩
theorem vX9_fine : nw_iv mX9_fine := ⟨tb_in (i := 328) (by decide +kernel), tp_in (i := 2) (by decide +kernel)⟩
def mX9_set : nw_Mt := (yX9_set, cX9_set, 4, (some .int))
theorem kX9_set : nw_ok mX9_set 3 := ⟨tb_in (i := 333) (by decide +kernel), tb_in (i := 1) (by decide +kernel), by decide +kernel, by decide +kernel, by decide +kernel⟩
theorem vX9_set : nw_iv mX9_set := ⟨tb_in (i := 331) (by decide +kernel), tb_in (i := 332) (by decide +kernel)⟩
def mX7_isMissing : nw_Mt := (yX7_isMissing, cX7_isMissing, 2, (some .boolean))
theorem kX7_isMissing : nw_ok mX7_isMissing 1 := ⟨tb_in (i := 337) (by decide +kernel), tb_in (i := 2) (by decide +kernel), by decide +kernel, by decide +kernel, by decide +kernel⟩
theorem vX7_isMissing : nw_iv mX7_isMissing := ⟨tb_in (i := 335) (by decide +kernel), tb_in (i := 336) (by decide +kernel)⟩
def mX7_hasPlaces : nw_Mt := (yX7_hasPlaces, cX7_hasPlaces, 4, (some .boolean))
theorem kX7_hasPlaces : nw_ok mX7_hasPlaces 3 := ⟨tb_in (i := 341) (by decide +kernel), tb_in (i := 2) (by decide +kernel), by decide +kernel, by decide +kernel, by decide +kernel⟩
theorem vX7_hasPlaces : nw_iv mX7_hasPlaces := ⟨tb_in (i := 339) (by decide +kernel), tb_in (i := 340) (by decide +kernel)⟩
def mX7_put : nw_Mt := (yX7_put, cX7_put, 5, (some .int))
theorem kX7_put : nw_ok mX7_put 3 := ⟨tb_in (i := 345) (by decide +kernel), tb_in (i := 2) (by decide +kernel), by decide +kernel, by decide +kernel, by decide +kernel⟩
theorem vX7_put : nw_iv mX7_put := ⟨tb_in (i := 343) (by decide +kernel), tb_in (i := 344) (by decide +kernel)⟩
def mX9_copy : nw_Mt := (yX9_copy, cX9_copy, 6, (some .int))
theorem kX9_copy : nw_ok mX9_copy 5 := ⟨tb_in (i := 349) (by decide +kernel), tb_in (i := 1) (by decide +kernel), by decide +kernel, by decide +kernel, by decide +kernel⟩
theorem vX9_copy : nw_iv mX9_copy := ⟨tb_in (i := 347) (by decide +kernel), tb_in (i := 348) (by decide +kernel)⟩
def mX7_alike : nw_Mt := (yX7_alike, cX7_alike, 3, (some .boolean))
theorem kX7_alike : nw_ok mX7_alike 2 := ⟨tb_in (i := 353) (by decide +kernel), tb_in (i := 2) (by decide +kernel), by decide +kernel, by decide +kernel, by decide +kernel⟩
theorem vX7_alike : nw_iv mX7_alike := ⟨tb_in (i := 351) (by decide +kernel), tb_in (i := 352) (by decide +kernel)⟩
def mX7_move : nw_Mt := (yX7_move, cX7_move, 6, none)
theorem kX7_move : nw_ok mX7_move 5 := ⟨tb_in (i := 357) (by decide +kernel), tb_in (i := 2) (by decide +kernel), by decide +kernel, by decide +kernel, by decide +kernel⟩
theorem vX7_move : nw_iv mX7_move := ⟨tb_in (i := 355) (by decide +kernel), tb_in (i := 356) (by decide +kernel)⟩
def mX9_drop : nw_Mt := (yX9_drop, cX9_drop, 2, (some .int))
theorem kX9_drop : nw_ok mX9_drop 1 := ⟨tb_in (i := 364) (by decide +kernel), tb_in (i := 1) (by decide +kernel), by decide +kernel, by decide +kernel, by decide +kernel⟩
theorem vX9_drop : nw_iv mX9_drop := ⟨tb_in (i := 362) (by decide +kernel), tb_in (i := 363) (by decide +kernel)⟩
def mX7_lose : nw_Mt := (yX7_lose, cX7_lose, 3, (some .int))
theorem kX7_lose : nw_ok mX7_lose 1 := ⟨tb_in (i := 368) (by decide +kernel), tb_in (i := 2) (by decide +kernel), by decide +kernel, by decide +kernel, by decide +kernel⟩
theorem vX7_lose : nw_iv mX7_lose := ⟨tb_in (i := 366) (by decide +kernel), tb_in (i := 367) (by decide +kernel)⟩
def mX9_feed : nw_Mt := (yX9_feed, cX9_feed, 2, (some .int))
theorem kX9_feed : nw_ok mX9_feed 1 := ⟨tb_in (i := 372) (by decide +kernel), tb_in (i := 1) (by decide +kernel), by decide +kernel, by decide +kernel, by decide +kernel⟩
theorem vX9_feed : nw_iv mX9_feed := ⟨tb_in (i := 370) (by decide +kernel), tb_in (i := 371) (by decide +kernel)⟩
def mX6_isFull : nw_Mt := (yX6_isFull, cX6_isFull, 1, (some .boolean))
theorem kX6_isFull : nw_ok mX6_isFull 0 := ⟨tb_in (i := 376) (by decide +kernel), tb_in (i := 3) (by decide +kernel), by decide +kernel, by decide +kernel, by decide +kernel⟩
theorem vX6_isFull : nw_iv mX6_isFull := ⟨tb_in (i := 374) (by decide +kernel), tb_in (i := 375) (by decide +kernel)⟩
def mX6_append : nw_Mt := (yX6_append, cX6_append, 2, (some .int))
theorem kX6_append : nw_ok mX6_append 1 := ⟨tb_in (i := 381) (by decide +kernel), tb_in (i := 3) (by decide +kernel), by decide +kernel, by decide +kernel, by decide +kernel⟩
theorem vX6_append : nw_iv mX6_append := ⟨tb_in (i := 379) (by decide +kernel), tb_in (i := 380) (by decide +kernel)⟩
def mX9_sea : nw_Mt := (yX9_sea, cX9_sea, 2, (some .int))
theorem kX9_sea : nw_ok mX9_sea 0 := ⟨tb_in (i := 386) (by decide +kernel), tb_in (i := 1) (by decide +kernel), by decide +kernel, by decide +kernel, by decide +kernel⟩
theorem vX9_sea : nw_iv mX9_sea := ⟨tb_in (i := 384) (by decide +kernel), tb_in (i := 385) (by decide +kernel)⟩
def mX6_read : nw_Mt := (yX6_read, cX6_read, 3, (some .boolean))
theorem kX6_read : nw_ok mX6_read 2 := ⟨tb_in (i := 390) (by decide +kernel), tb_in (i := 3) (by decide +kernel), by decide +kernel, by decide +kernel, by decide +kernel⟩
theorem vX6_read : nw_iv mX6_read := ⟨tb_in (i := 388) (by decide +kernel), tb_in (i := 389) (by decide +kernel)⟩
def mX8_begin : nw_Mt := (yX8_begin, cX8_begin, 2, none)
theorem kX8_begin : nw_ok mX8_begin 0 := ⟨tb_in (i := 394) (by decide +kernel), tb_in (i := 5) (by decide +kernel), by decide +kernel, by decide +kernel, by decide +kernel⟩
theorem vX8_begin : nw_iv mX8_begin := ⟨tb_in (i := 392) (by decide +kernel), tb_in (i := 393) (by decide +kernel)⟩
def mX6_readBar : nw_Mt := (yX6_readBar, cX6_readBar, 2, (some .boolean))
theorem kX6_readBar : nw_ok mX6_readBar 1 := ⟨tb_in (i := 399) (by decide +kernel), tb_in (i := 3) (by decide +kernel), by decide +kernel, by decide +kernel, by decide +kernel⟩
theorem vX6_readBar : nw_iv mX6_readBar := ⟨tb_in (i := 398) (by decide +kernel), tp_in (i := 3) (by decide +kernel)⟩
def mX6_passes : nw_Mt := (yX6_passes, cX6_passes, 2, (some .boolean))
theorem kX6_passes : nw_ok mX6_passes 1 := ⟨tb_in (i := 403) (by decide +kernel), tb_in (i := 3) (by decide +kernel), by decide +kernel, by decide +kernel, by decide +kernel⟩
theorem vX6_passes : nw_iv mX6_passes := ⟨tb_in (i := 402) (by decide +kernel), tp_in (i := 4) (by decide +kernel)⟩
def mX6_at : nw_Mt := (yX6_at, cX6_at, 2, (some .int))
theorem kX6_at : nw_ok mX6_at 1 := ⟨tb_in (i := 407) (by decide +kernel), tb_in (i := 3) (by decide +kernel), by decide +kernel, by decide +kernel, by decide +kernel⟩
theorem vX6_at : nw_iv mX6_at := ⟨tb_in (i := 406) (by decide +kernel), tp_in (i := 5) (by decide +kernel)⟩
def mX6_fails : nw_Mt := (yX6_fails, cX6_fails, 2, (some .boolean))
theorem kX6_fails : nw_ok mX6_fails 1 := ⟨tb_in (i := 411) (by decide +kernel), tb_in (i := 3) (by decide +kernel), by decide +kernel, by decide +kernel, by decide +kernel⟩
theorem vX6_fails : nw_iv mX6_fails := ⟨tb_in (i := 410) (by decide +kernel), tp_in (i := 6) (by decide +kernel)⟩
def mX6_readPair : nw_Mt := (yX6_readPair, cX6_readPair, 3, (some .boolean))
theorem kX6_readPair : nw_ok mX6_readPair 2 := ⟨tb_in (i := 415) (by decide +kernel), tb_in (i := 3) (by decide +kernel), by decide +kernel, by decide +kernel, by decide +kernel⟩
theorem vX6_readPair : nw_iv mX6_readPair := ⟨tb_in (i := 414) (by decide +kernel), tp_in (i := 7) (by decide +kernel)⟩
def mX6_number : nw_Mt := (yX6_number, cX6_number, 4, (some .int))
theorem kX6_number : nw_ok mX6_number 1 := ⟨tb_in (i := 419) (by decide +kernel), tb_in (i := 3) (by decide +kernel), by decide +kernel, by decide +kernel, by decide +kernel⟩
theorem vX6_number : nw_iv mX6_number := ⟨tb_in (i := 418) (by decide +kernel), tp_in (i := 8) (by decide +kernel)⟩
def mX6_isFigure : nw_Mt := (yX6_isFigure, cX6_isFigure, 1, (some .boolean))
theorem kX6_isFigure : nw_ok mX6_isFigure 1 := ⟨tb_in (i := 422) (by decide +kernel), tb_in (i := 3) (by decide +kernel), by decide +kernel, by decide +kernel, by decide +kernel⟩
theorem sX6_isFigure : nw_ss mX6_isFigure := tb_in (i := 421) (by decide +kernel)
def mX6_readSwells : nw_Mt := (yX6_readSwells, cX6_readSwells, 3, (some .boolean))
theorem kX6_readSwells : nw_ok mX6_readSwells 1 := ⟨tb_in (i := 426) (by decide +kernel), tb_in (i := 3) (by decide +kernel), by decide +kernel, by decide +kernel, by decide +kernel⟩
theorem vX6_readSwells : nw_iv mX6_readSwells := ⟨tb_in (i := 425) (by decide +kernel), tp_in (i := 9) (by decide +kernel)⟩
def mX4_toldBy : nw_Mt := (yX4_toldBy, cX4_toldBy, 1, (some .int))
theorem kX4_toldBy : nw_ok mX4_toldBy 1 := ⟨tb_in (i := 429) (by decide +kernel), tb_in (i := 12) (by decide +kernel), by decide +kernel, by decide +kernel, by decide +kernel⟩
theorem sX4_toldBy : nw_ss mX4_toldBy := tb_in (i := 428) (by decide +kernel)
def mX6_readTowers : nw_Mt := (yX6_readTowers, cX6_readTowers, 4, (some .boolean))
theorem kX6_readTowers : nw_ok mX6_readTowers 2 := ⟨tb_in (i := 433) (by decide +kernel), tb_in (i := 3) (by decide +kernel), by decide +kernel, by decide +kernel, by decide +kernel⟩
theorem vX6_readTowers : nw_iv mX6_readTowers := ⟨tb_in (i := 432) (by decide +kernel), tp_in (i := 10) (by decide +kernel)⟩
def mX6_readShips : nw_Mt := (yX6_readShips, cX6_readShips, 4, (some .boolean))
theorem kX6_readShips : nw_ok mX6_readShips 2 := ⟨tb_in (i := 437) (by decide +kernel), tb_in (i := 3) (by decide +kernel), by decide +kernel, by decide +kernel, by decide +kernel⟩
theorem vX6_readShips : nw_iv mX6_readShips := ⟨tb_in (i := 436) (by decide +kernel), tp_in (i := 11) (by decide +kernel)⟩
def mX6_isAtEnd : nw_Mt := (yX6_isAtEnd, cX6_isAtEnd, 1, (some .boolean))
theorem kX6_isAtEnd : nw_ok mX6_isAtEnd 0 := ⟨tb_in (i := 441) (by decide +kernel), tb_in (i := 3) (by decide +kernel), by decide +kernel, by decide +kernel, by decide +kernel⟩
theorem vX6_isAtEnd : nw_iv mX6_isAtEnd := ⟨tb_in (i := 440) (by decide +kernel), tp_in (i := 12) (by decide +kernel)⟩
def mX6_empty : nw_Mt := (yX6_empty, cX6_empty, 1, none)
theorem kX6_empty : nw_ok mX6_empty 0 := ⟨tb_in (i := 445) (by decide +kernel), tb_in (i := 3) (by decide +kernel), by decide +kernel, by decide +kernel, by decide +kernel⟩
theorem vX6_empty : nw_iv mX6_empty := ⟨tb_in (i := 443) (by decide +kernel), tb_in (i := 444) (by decide +kernel)⟩
def mX6_faultNumber : nw_Mt := (yX6_faultNumber, cX6_faultNumber, 1, (some .int))
theorem kX6_faultNumber : nw_ok mX6_faultNumber 0 := ⟨tb_in (i := 449) (by decide +kernel), tb_in (i := 3) (by decide +kernel), by decide +kernel, by decide +kernel, by decide +kernel⟩
theorem vX6_faultNumber : nw_iv mX6_faultNumber := ⟨tb_in (i := 447) (by decide +kernel), tb_in (i := 448) (by decide +kernel)⟩
def mX6_faultPlace : nw_Mt := (yX6_faultPlace, cX6_faultPlace, 1, (some .int))
theorem kX6_faultPlace : nw_ok mX6_faultPlace 0 := ⟨tb_in (i := 454) (by decide +kernel), tb_in (i := 3) (by decide +kernel), by decide +kernel, by decide +kernel, by decide +kernel⟩
theorem vX6_faultPlace : nw_iv mX6_faultPlace := ⟨tb_in (i := 452) (by decide +kernel), tb_in (i := 453) (by decide +kernel)⟩
def mX2_become : nw_Mt := (yX2_become, cX2_become, 2, none)
theorem kX2_become : nw_ok mX2_become 1 := ⟨tb_in (i := 458) (by decide +kernel), tb_in (i := 4) (by decide +kernel), by decide +kernel, by decide +kernel, by decide +kernel⟩
theorem vX2_become : nw_iv mX2_become := ⟨tb_in (i := 456) (by decide +kernel), tb_in (i := 457) (by decide +kernel)⟩
def mX8_become : nw_Mt := (yX8_become, cX8_become, 2, none)
theorem kX8_become : nw_ok mX8_become 1 := ⟨tb_in (i := 463) (by decide +kernel), tb_in (i := 5) (by decide +kernel), by decide +kernel, by decide +kernel, by decide +kernel⟩
theorem vX8_become : nw_iv mX8_become := ⟨tb_in (i := 461) (by decide +kernel), tb_in (i := 462) (by decide +kernel)⟩
def mX0_forgetAll : nw_Mt := (yX0_forgetAll, cX0_forgetAll, 1, none)
theorem kX0_forgetAll : nw_ok mX0_forgetAll 0 := ⟨tb_in (i := 468) (by decide +kernel), tb_in (i := 6) (by decide +kernel), by decide +kernel, by decide +kernel, by decide +kernel⟩
theorem vX0_forgetAll : nw_iv mX0_forgetAll := ⟨tb_in (i := 466) (by decide +kernel), tb_in (i := 467) (by decide +kernel)⟩
def mX9_fault : nw_Mt := (yX9_fault, cX9_fault, 1, (some .int))
theorem kX9_fault : nw_ok mX9_fault 0 := ⟨tb_in (i := 472) (by decide +kernel), tb_in (i := 1) (by decide +kernel), by decide +kernel, by decide +kernel, by decide +kernel⟩
theorem vX9_fault : nw_iv mX9_fault := ⟨tb_in (i := 470) (by decide +kernel), tb_in (i := 471) (by decide +kernel)⟩
def mX9_waves : nw_Mt := (yX9_waves, cX9_waves, 3, (some .int))
theorem kX9_waves : nw_ok mX9_waves 1 := ⟨tb_in (i := 476) (by decide +kernel), tb_in (i := 1) (by decide +kernel), by decide +kernel, by decide +kernel, by decide +kernel⟩
theorem vX9_waves : nw_iv mX9_waves := ⟨tb_in (i := 474) (by decide +kernel), tb_in (i := 475) (by decide +kernel)⟩
def mX0_keep : nw_Mt := (yX0_keep, cX0_keep, 2, none)
theorem kX0_keep : nw_ok mX0_keep 1 := ⟨tb_in (i := 481) (by decide +kernel), tb_in (i := 6) (by decide +kernel), by decide +kernel, by decide +kernel, by decide +kernel⟩
theorem vX0_keep : nw_iv mX0_keep := ⟨tb_in (i := 479) (by decide +kernel), tb_in (i := 480) (by decide +kernel)⟩
def mX8_comeInBy : nw_Mt := (yX8_comeInBy, cX8_comeInBy, 2, (some .int))
theorem kX8_comeInBy : nw_ok mX8_comeInBy 1 := ⟨tb_in (i := 489) (by decide +kernel), tb_in (i := 5) (by decide +kernel), by decide +kernel, by decide +kernel, by decide +kernel⟩
theorem vX8_comeInBy : nw_iv mX8_comeInBy := ⟨tb_in (i := 487) (by decide +kernel), tb_in (i := 488) (by decide +kernel)⟩
def mX2_kindIn : nw_Mt := (yX2_kindIn, cX2_kindIn, 2, (some .int))
theorem kX2_kindIn : nw_ok mX2_kindIn 1 := ⟨tb_in (i := 493) (by decide +kernel), tb_in (i := 4) (by decide +kernel), by decide +kernel, by decide +kernel, by decide +kernel⟩
theorem vX2_kindIn : nw_iv mX2_kindIn := ⟨tb_in (i := 491) (by decide +kernel), tb_in (i := 492) (by decide +kernel)⟩
def mX2_swellOf : nw_Mt := (yX2_swellOf, cX2_swellOf, 2, (some .int))
theorem kX2_swellOf : nw_ok mX2_swellOf 1 := ⟨tb_in (i := 497) (by decide +kernel), tb_in (i := 4) (by decide +kernel), by decide +kernel, by decide +kernel, by decide +kernel⟩
theorem vX2_swellOf : nw_iv mX2_swellOf := ⟨tb_in (i := 495) (by decide +kernel), tb_in (i := 496) (by decide +kernel)⟩
def mX2_waterIn : nw_Mt := (yX2_waterIn, cX2_waterIn, 2, (some .int))
theorem kX2_waterIn : nw_ok mX2_waterIn 1 := ⟨tb_in (i := 501) (by decide +kernel), tb_in (i := 4) (by decide +kernel), by decide +kernel, by decide +kernel, by decide +kernel⟩
theorem vX2_waterIn : nw_iv mX2_waterIn := ⟨tb_in (i := 499) (by decide +kernel), tb_in (i := 500) (by decide +kernel)⟩
def mX2_depthIn : nw_Mt := (yX2_depthIn, cX2_depthIn, 2, (some .int))
theorem kX2_depthIn : nw_ok mX2_depthIn 1 := ⟨tb_in (i := 505) (by decide +kernel), tb_in (i := 4) (by decide +kernel), by decide +kernel, by decide +kernel, by decide +kernel⟩
theorem vX2_depthIn : nw_iv mX2_depthIn := ⟨tb_in (i := 503) (by decide +kernel), tb_in (i := 504) (by decide +kernel)⟩
def mX2_liftOfSwell : nw_Mt := (yX2_liftOfSwell, cX2_liftOfSwell, 2, (some .int))
theorem kX2_liftOfSwell : nw_ok mX2_liftOfSwell 1 := ⟨tb_in (i := 512) (by decide +kernel), tb_in (i := 4) (by decide +kernel), by decide +kernel, by decide +kernel, by decide +kernel⟩
theorem vX2_liftOfSwell : nw_iv mX2_liftOfSwell := ⟨tb_in (i := 510) (by decide +kernel), tb_in (i := 511) (by decide +kernel)⟩
def mX2_liftOf : nw_Mt := (yX2_liftOf, cX2_liftOf, 2, (some .int))
theorem kX2_liftOf : nw_ok mX2_liftOf 2 := ⟨tb_in (i := 515) (by decide +kernel), tb_in (i := 4) (by decide +kernel), by decide +kernel, by decide +kernel, by decide +kernel⟩
theorem sX2_liftOf : nw_ss mX2_liftOf := tb_in (i := 514) (by decide +kernel)
def mX8_comeIn : nw_Mt := (yX8_comeIn, cX8_comeIn, 7, (some .int))
theorem kX8_comeIn : nw_ok mX8_comeIn 3 := ⟨tb_in (i := 519) (by decide +kernel), tb_in (i := 5) (by decide +kernel), by decide +kernel, by decide +kernel, by decide +kernel⟩
theorem vX8_comeIn : nw_iv mX8_comeIn := ⟨tb_in (i := 517) (by decide +kernel), tb_in (i := 518) (by decide +kernel)⟩
def mX2_stepOf : nw_Mt := (yX2_stepOf, cX2_stepOf, 3, (some .int))
theorem kX2_stepOf : nw_ok mX2_stepOf 2 := ⟨tb_in (i := 523) (by decide +kernel), tb_in (i := 4) (by decide +kernel), by decide +kernel, by decide +kernel, by decide +kernel⟩
theorem vX2_stepOf : nw_iv mX2_stepOf := ⟨tb_in (i := 521) (by decide +kernel), tb_in (i := 522) (by decide +kernel)⟩
def mX4_stepOf : nw_Mt := (yX4_stepOf, cX4_stepOf, 2, (some .int))
theorem kX4_stepOf : nw_ok mX4_stepOf 2 := ⟨tb_in (i := 526) (by decide +kernel), tb_in (i := 12) (by decide +kernel), by decide +kernel, by decide +kernel, by decide +kernel⟩
theorem sX4_stepOf : nw_ss mX4_stepOf := tb_in (i := 525) (by decide +kernel)
def mX9_calls : nw_Mt := (yX9_calls, cX9_calls, 3, (some .boolean))
theorem kX9_calls : nw_ok mX9_calls 3 := ⟨tb_in (i := 529) (by decide +kernel), tb_in (i := 1) (by decide +kernel), by decide +kernel, by decide +kernel, by decide +kernel⟩
theorem sX9_calls : nw_ss mX9_calls := tb_in (i := 528) (by decide +kernel)
def mX8_cross : nw_Mt := (yX8_cross, cX8_cross, 6, none)
theorem kX8_cross : nw_ok mX8_cross 3 := ⟨tb_in (i := 533) (by decide +kernel), tb_in (i := 5) (by decide +kernel), by decide +kernel, by decide +kernel, by decide +kernel⟩
theorem vX8_cross : nw_iv mX8_cross := ⟨tb_in (i := 532) (by decide +kernel), tp_in (i := 13) (by decide +kernel)⟩
def mX9_slip : nw_Mt := (yX9_slip, cX9_slip, 3, (some .int))
theorem kX9_slip : nw_ok mX9_slip 2 := ⟨tb_in (i := 537) (by decide +kernel), tb_in (i := 1) (by decide +kernel), by decide +kernel, by decide +kernel, by decide +kernel⟩
theorem vX9_slip : nw_iv mX9_slip := ⟨tb_in (i := 535) (by decide +kernel), tb_in (i := 536) (by decide +kernel)⟩
def mX9_isTower : nw_Mt := (yX9_isTower, cX9_isTower, 2, (some .boolean))
theorem kX9_isTower : nw_ok mX9_isTower 1 := ⟨tb_in (i := 541) (by decide +kernel), tb_in (i := 1) (by decide +kernel), by decide +kernel, by decide +kernel, by decide +kernel⟩
theorem vX9_isTower : nw_iv mX9_isTower := ⟨tb_in (i := 540) (by decide +kernel), tp_in (i := 14) (by decide +kernel)⟩
def mX8_slipBy : nw_Mt := (yX8_slipBy, cX8_slipBy, 3, (some .int))
theorem kX8_slipBy : nw_ok mX8_slipBy 2 := ⟨tb_in (i := 545) (by decide +kernel), tb_in (i := 5) (by decide +kernel), by decide +kernel, by decide +kernel, by decide +kernel⟩
theorem vX8_slipBy : nw_iv mX8_slipBy := ⟨tb_in (i := 543) (by decide +kernel), tb_in (i := 544) (by decide +kernel)⟩
def mX9_law : nw_Mt := (yX9_law, cX9_law, 3, (some .int))
theorem kX9_law : nw_ok mX9_law 1 := ⟨tb_in (i := 550) (by decide +kernel), tb_in (i := 1) (by decide +kernel), by decide +kernel, by decide +kernel, by decide +kernel⟩
theorem vX9_law : nw_iv mX9_law := ⟨tb_in (i := 548) (by decide +kernel), tb_in (i := 549) (by decide +kernel)⟩
def mX9_change : nw_Mt := (yX9_change, cX9_change, 5, (some .int))
theorem kX9_change : nw_ok mX9_change 2 := ⟨tb_in (i := 554) (by decide +kernel), tb_in (i := 1) (by decide +kernel), by decide +kernel, by decide +kernel, by decide +kernel⟩
theorem vX9_change : nw_iv mX9_change := ⟨tb_in (i := 552) (by decide +kernel), tb_in (i := 553) (by decide +kernel)⟩
def mX9_isShip : nw_Mt := (yX9_isShip, cX9_isShip, 2, (some .boolean))
theorem kX9_isShip : nw_ok mX9_isShip 1 := ⟨tb_in (i := 558) (by decide +kernel), tb_in (i := 1) (by decide +kernel), by decide +kernel, by decide +kernel, by decide +kernel⟩
theorem vX9_isShip : nw_iv mX9_isShip := ⟨tb_in (i := 557) (by decide +kernel), tp_in (i := 15) (by decide +kernel)⟩
def mX8_placeOf : nw_Mt := (yX8_placeOf, cX8_placeOf, 3, (some .int))
theorem kX8_placeOf : nw_ok mX8_placeOf 1 := ⟨tb_in (i := 562) (by decide +kernel), tb_in (i := 5) (by decide +kernel), by decide +kernel, by decide +kernel, by decide +kernel⟩
theorem vX8_placeOf : nw_iv mX8_placeOf := ⟨tb_in (i := 560) (by decide +kernel), tb_in (i := 561) (by decide +kernel)⟩
def mX9_heeds : nw_Mt := (yX9_heeds, cX9_heeds, 4, (some .int))
theorem kX9_heeds : nw_ok mX9_heeds 2 := ⟨tb_in (i := 566) (by decide +kernel), tb_in (i := 1) (by decide +kernel), by decide +kernel, by decide +kernel, by decide +kernel⟩
theorem vX9_heeds : nw_iv mX9_heeds := ⟨tb_in (i := 564) (by decide +kernel), tb_in (i := 565) (by decide +kernel)⟩
def mX8_waits : nw_Mt := (yX8_waits, cX8_waits, 2, (some .boolean))
theorem kX8_waits : nw_ok mX8_waits 1 := ⟨tb_in (i := 570) (by decide +kernel), tb_in (i := 5) (by decide +kernel), by decide +kernel, by decide +kernel, by decide +kernel⟩
theorem vX8_waits : nw_iv mX8_waits := ⟨tb_in (i := 568) (by decide +kernel), tb_in (i := 569) (by decide +kernel)⟩
def mX9_undo : nw_Mt := (yX9_undo, cX9_undo, 1, (some .int))
theorem kX9_undo : nw_ok mX9_undo 0 := ⟨tb_in (i := 574) (by decide +kernel), tb_in (i := 1) (by decide +kernel), by decide +kernel, by decide +kernel, by decide +kernel⟩
theorem vX9_undo : nw_iv mX9_undo := ⟨tb_in (i := 572) (by decide +kernel), tb_in (i := 573) (by decide +kernel)⟩
def mX0_takeBack : nw_Mt := (yX0_takeBack, cX0_takeBack, 2, none)
theorem kX0_takeBack : nw_ok mX0_takeBack 1 := ⟨tb_in (i := 578) (by decide +kernel), tb_in (i := 6) (by decide +kernel), by decide +kernel, by decide +kernel, by decide +kernel⟩
theorem vX0_takeBack : nw_iv mX0_takeBack := ⟨tb_in (i := 576) (by decide +kernel), tb_in (i := 577) (by decide +kernel)⟩
def mX9_ship : nw_Mt := (yX9_ship, cX9_ship, 3, (some .int))
theorem kX9_ship : nw_ok mX9_ship 2 := ⟨tb_in (i := 582) (by decide +kernel), tb_in (i := 1) (by decide +kernel), by decide +kernel, by decide +kernel, by decide +kernel⟩
theorem vX9_ship : nw_iv mX9_ship := ⟨tb_in (i := 580) (by decide +kernel), tb_in (i := 581) (by decide +kernel)⟩
def mX9_tower : nw_Mt := (yX9_tower, cX9_tower, 3, (some .int))
theorem kX9_tower : nw_ok mX9_tower 2 := ⟨tb_in (i := 586) (by decide +kernel), tb_in (i := 1) (by decide +kernel), by decide +kernel, by decide +kernel, by decide +kernel⟩
theorem vX9_tower : nw_iv mX9_tower := ⟨tb_in (i := 584) (by decide +kernel), tb_in (i := 585) (by decide +kernel)⟩
def mX8_howManyWaitFor : nw_Mt := (yX8_howManyWaitFor, cX8_howManyWaitFor, 5, (some .int))
theorem kX8_howManyWaitFor : nw_ok mX8_howManyWaitFor 2 := ⟨tb_in (i := 590) (by decide +kernel), tb_in (i := 5) (by decide +kernel), by decide +kernel, by decide +kernel, by decide +kernel⟩
theorem vX8_howManyWaitFor : nw_iv mX8_howManyWaitFor := ⟨tb_in (i := 588) (by decide +kernel), tb_in (i := 589) (by decide +kernel)⟩
def mX9_wave : nw_Mt := (yX9_wave, cX9_wave, 4, (some .int))
theorem kX9_wave : nw_ok mX9_wave 2 := ⟨tb_in (i := 594) (by decide +kernel), tb_in (i := 1) (by decide +kernel), by decide +kernel, by decide +kernel, by decide +kernel⟩
theorem vX9_wave : nw_iv mX9_wave := ⟨tb_in (i := 592) (by decide +kernel), tb_in (i := 593) (by decide +kernel)⟩
def mX9_ahead : nw_Mt := (yX9_ahead, cX9_ahead, 3, (some .int))
theorem kX9_ahead : nw_ok mX9_ahead 2 := ⟨tb_in (i := 601) (by decide +kernel), tb_in (i := 1) (by decide +kernel), by decide +kernel, by decide +kernel, by decide +kernel⟩
theorem vX9_ahead : nw_iv mX9_ahead := ⟨tb_in (i := 599) (by decide +kernel), tb_in (i := 600) (by decide +kernel)⟩
def mX9_foretell : nw_Mt := (yX9_foretell, cX9_foretell, 2, none)
theorem kX9_foretell : nw_ok mX9_foretell 1 := ⟨tb_in (i := 605) (by decide +kernel), tb_in (i := 1) (by decide +kernel), by decide +kernel, by decide +kernel, by decide +kernel⟩
theorem vX9_foretell : nw_iv mX9_foretell := ⟨tb_in (i := 604) (by decide +kernel), tp_in (i := 16) (by decide +kernel)⟩
def mX8_pass : nw_Mt := (yX8_pass, cX8_pass, 4, none)
theorem kX8_pass : nw_ok mX8_pass 2 := ⟨tb_in (i := 609) (by decide +kernel), tb_in (i := 5) (by decide +kernel), by decide +kernel, by decide +kernel, by decide +kernel⟩
theorem vX8_pass : nw_iv mX8_pass := ⟨tb_in (i := 607) (by decide +kernel), tb_in (i := 608) (by decide +kernel)⟩
def mX8_howMany : nw_Mt := (yX8_howMany, cX8_howMany, 5, (some .int))
theorem kX8_howMany : nw_ok mX8_howMany 2 := ⟨tb_in (i := 614) (by decide +kernel), tb_in (i := 5) (by decide +kernel), by decide +kernel, by decide +kernel, by decide +kernel⟩
theorem vX8_howMany : nw_iv mX8_howMany := ⟨tb_in (i := 612) (by decide +kernel), tb_in (i := 613) (by decide +kernel)⟩
def mX9_shipAhead : nw_Mt := (yX9_shipAhead, cX9_shipAhead, 4, (some .int))
theorem kX9_shipAhead : nw_ok mX9_shipAhead 3 := ⟨tb_in (i := 618) (by decide +kernel), tb_in (i := 1) (by decide +kernel), by decide +kernel, by decide +kernel, by decide +kernel⟩
theorem vX9_shipAhead : nw_iv mX9_shipAhead := ⟨tb_in (i := 616) (by decide +kernel), tb_in (i := 617) (by decide +kernel)⟩
def mX9_towerAhead : nw_Mt := (yX9_towerAhead, cX9_towerAhead, 3, (some .int))
theorem kX9_towerAhead : nw_ok mX9_towerAhead 2 := ⟨tb_in (i := 622) (by decide +kernel), tb_in (i := 1) (by decide +kernel), by decide +kernel, by decide +kernel, by decide +kernel⟩
theorem vX9_towerAhead : nw_iv mX9_towerAhead := ⟨tb_in (i := 620) (by decide +kernel), tb_in (i := 621) (by decide +kernel)⟩
def mX9_called : nw_Mt := (yX9_called, cX9_called, 7, (some .int))
theorem kX9_called : nw_ok mX9_called 2 := ⟨tb_in (i := 626) (by decide +kernel), tb_in (i := 1) (by decide +kernel), by decide +kernel, by decide +kernel, by decide +kernel⟩
theorem vX9_called : nw_iv mX9_called := ⟨tb_in (i := 624) (by decide +kernel), tb_in (i := 625) (by decide +kernel)⟩
def mX9_fit : nw_Mt := (yX9_fit, cX9_fit, 5, (some .int))
theorem kX9_fit : nw_ok mX9_fit 2 := ⟨tb_in (i := 634) (by decide +kernel), tb_in (i := 1) (by decide +kernel), by decide +kernel, by decide +kernel, by decide +kernel⟩
theorem vX9_fit : nw_iv mX9_fit := ⟨tb_in (i := 632) (by decide +kernel), tb_in (i := 633) (by decide +kernel)⟩
def mX9_highest : nw_Mt := (yX9_highest, cX9_highest, 7, (some .int))
theorem kX9_highest : nw_ok mX9_highest 2 := ⟨tb_in (i := 638) (by decide +kernel), tb_in (i := 1) (by decide +kernel), by decide +kernel, by decide +kernel, by decide +kernel⟩
theorem vX9_highest : nw_iv mX9_highest := ⟨tb_in (i := 636) (by decide +kernel), tb_in (i := 637) (by decide +kernel)⟩
def mX9_order : nw_Mt := (yX9_order, cX9_order, 3, (some .int))
theorem kX9_order : nw_ok mX9_order 2 := ⟨tb_in (i := 642) (by decide +kernel), tb_in (i := 1) (by decide +kernel), by decide +kernel, by decide +kernel, by decide +kernel⟩
theorem vX9_order : nw_iv mX9_order := ⟨tb_in (i := 640) (by decide +kernel), tb_in (i := 641) (by decide +kernel)⟩
def mX5_listen : nw_Mt := (yX5_listen, cX5_listen, 8, none)
theorem kX5_listen : nw_ok mX5_listen 3 := ⟨tb_in (i := 646) (by decide +kernel), tb_in (i := 7) (by decide +kernel), by decide +kernel, by decide +kernel, by decide +kernel⟩
theorem vX5_listen : nw_iv mX5_listen := ⟨tb_in (i := 644) (by decide +kernel), tb_in (i := 645) (by decide +kernel)⟩
def mX5_search : nw_Mt := (yX5_search, cX5_search, 6, none)
theorem kX5_search : nw_ok mX5_search 2 := ⟨tb_in (i := 654) (by decide +kernel), tb_in (i := 7) (by decide +kernel), by decide +kernel, by decide +kernel, by decide +kernel⟩
theorem vX5_search : nw_iv mX5_search := ⟨tb_in (i := 652) (by decide +kernel), tb_in (i := 653) (by decide +kernel)⟩
def mX5_howManyCross : nw_Mt := (yX5_howManyCross, cX5_howManyCross, 7, (some .int))
theorem kX5_howManyCross : nw_ok mX5_howManyCross 2 := ⟨tb_in (i := 658) (by decide +kernel), tb_in (i := 7) (by decide +kernel), by decide +kernel, by decide +kernel, by decide +kernel⟩
theorem vX5_howManyCross : nw_iv mX5_howManyCross := ⟨tb_in (i := 657) (by decide +kernel), tp_in (i := 17) (by decide +kernel)⟩
def mX5_goOn : nw_Mt := (yX5_goOn, cX5_goOn, 6, (some .boolean))
theorem kX5_goOn : nw_ok mX5_goOn 1 := ⟨tb_in (i := 664) (by decide +kernel), tb_in (i := 7) (by decide +kernel), by decide +kernel, by decide +kernel, by decide +kernel⟩
theorem vX5_goOn : nw_iv mX5_goOn := ⟨tb_in (i := 663) (by decide +kernel), tp_in (i := 18) (by decide +kernel)⟩
def mX5_swap : nw_Mt := (yX5_swap, cX5_swap, 4, none)
theorem kX5_swap : nw_ok mX5_swap 2 := ⟨tb_in (i := 668) (by decide +kernel), tb_in (i := 7) (by decide +kernel), by decide +kernel, by decide +kernel, by decide +kernel⟩
theorem vX5_swap : nw_iv mX5_swap := ⟨tb_in (i := 667) (by decide +kernel), tp_in (i := 19) (by decide +kernel)⟩
def mX9_laws : nw_Mt := (yX9_laws, cX9_laws, 7, (some .int))
theorem kX9_laws : nw_ok mX9_laws 2 := ⟨tb_in (i := 672) (by decide +kernel), tb_in (i := 1) (by decide +kernel), by decide +kernel, by decide +kernel, by decide +kernel⟩
theorem vX9_laws : nw_iv mX9_laws := ⟨tb_in (i := 670) (by decide +kernel), tb_in (i := 671) (by decide +kernel)⟩
def mX9_bribe : nw_Mt := (yX9_bribe, cX9_bribe, 7, (some .int))
theorem kX9_bribe : nw_ok mX9_bribe 2 := ⟨tb_in (i := 676) (by decide +kernel), tb_in (i := 1) (by decide +kernel), by decide +kernel, by decide +kernel, by decide +kernel⟩
theorem vX9_bribe : nw_iv mX9_bribe := ⟨tb_in (i := 674) (by decide +kernel), tb_in (i := 675) (by decide +kernel)⟩
def mX8_isOverAheadOf : nw_Mt := (yX8_isOverAheadOf, cX8_isOverAheadOf, 3, (some .boolean))
theorem kX8_isOverAheadOf : nw_ok mX8_isOverAheadOf 2 := ⟨tb_in (i := 680) (by decide +kernel), tb_in (i := 5) (by decide +kernel), by decide +kernel, by decide +kernel, by decide +kernel⟩
theorem vX8_isOverAheadOf : nw_iv mX8_isOverAheadOf := ⟨tb_in (i := 678) (by decide +kernel), tb_in (i := 679) (by decide +kernel)⟩
def mX9_heed : nw_Mt := (yX9_heed, cX9_heed, 5, (some .int))
theorem kX9_heed : nw_ok mX9_heed 1 := ⟨tb_in (i := 684) (by decide +kernel), tb_in (i := 1) (by decide +kernel), by decide +kernel, by decide +kernel, by decide +kernel⟩
theorem vX9_heed : nw_iv mX9_heed := ⟨tb_in (i := 682) (by decide +kernel), tb_in (i := 683) (by decide +kernel)⟩
def mX9_agreed : nw_Mt := (yX9_agreed, cX9_agreed, 6, (some .int))
theorem kX9_agreed : nw_ok mX9_agreed 2 := ⟨tb_in (i := 688) (by decide +kernel), tb_in (i := 1) (by decide +kernel), by decide +kernel, by decide +kernel, by decide +kernel⟩
theorem vX9_agreed : nw_iv mX9_agreed := ⟨tb_in (i := 686) (by decide +kernel), tb_in (i := 687) (by decide +kernel)⟩
def mX9_log : nw_Mt := (yX9_log, cX9_log, 8, (some .int))
theorem kX9_log : nw_ok mX9_log 4 := ⟨tb_in (i := 692) (by decide +kernel), tb_in (i := 1) (by decide +kernel), by decide +kernel, by decide +kernel, by decide +kernel⟩
theorem vX9_log : nw_iv mX9_log := ⟨tb_in (i := 690) (by decide +kernel), tb_in (i := 691) (by decide +kernel)⟩
def mX7_rises : nw_Mt := (yX7_rises, cX7_rises, 8, (some .boolean))
theorem kX7_rises : nw_ok mX7_rises 4 := ⟨tb_in (i := 696) (by decide +kernel), tb_in (i := 2) (by decide +kernel), by decide +kernel, by decide +kernel, by decide +kernel⟩
theorem vX7_rises : nw_iv mX7_rises := ⟨tb_in (i := 694) (by decide +kernel), tb_in (i := 695) (by decide +kernel)⟩
def mX9_fitsLog : nw_Mt := (yX9_fitsLog, cX9_fitsLog, 12, (some .boolean))
theorem kX9_fitsLog : nw_ok mX9_fitsLog 4 := ⟨tb_in (i := 700) (by decide +kernel), tb_in (i := 1) (by decide +kernel), by decide +kernel, by decide +kernel, by decide +kernel⟩
theorem vX9_fitsLog : nw_iv mX9_fitsLog := ⟨tb_in (i := 699) (by decide +kernel), tp_in (i := 20) (by decide +kernel)⟩
def mX7_item : nw_Mt := (yX7_item, cX7_item, 3, (some .int))
theorem kX7_item : nw_ok mX7_item 2 := ⟨tb_in (i := 704) (by decide +kernel), tb_in (i := 2) (by decide +kernel), by decide +kernel, by decide +kernel, by decide +kernel⟩
theorem vX7_item : nw_iv mX7_item := ⟨tb_in (i := 702) (by decide +kernel), tb_in (i := 703) (by decide +kernel)⟩
def mX9_wreck : nw_Mt := (yX9_wreck, cX9_wreck, 8, (some .int))
theorem kX9_wreck : nw_ok mX9_wreck 4 := ⟨tb_in (i := 711) (by decide +kernel), tb_in (i := 1) (by decide +kernel), by decide +kernel, by decide +kernel, by decide +kernel⟩
theorem vX9_wreck : nw_iv mX9_wreck := ⟨tb_in (i := 709) (by decide +kernel), tb_in (i := 710) (by decide +kernel)⟩
def mX9_season : nw_Mt := (yX9_season, cX9_season, 9, (some .int))
theorem kX9_season : nw_ok mX9_season 3 := ⟨tb_in (i := 715) (by decide +kernel), tb_in (i := 1) (by decide +kernel), by decide +kernel, by decide +kernel, by decide +kernel⟩
theorem vX9_season : nw_iv mX9_season := ⟨tb_in (i := 713) (by decide +kernel), tb_in (i := 714) (by decide +kernel)⟩
def mX9_image : nw_Mt := (yX9_image, cX9_image, 2, (some .int))
theorem kX9_image : nw_ok mX9_image 1 := ⟨tb_in (i := 727) (by decide +kernel), tb_in (i := 1) (by decide +kernel), by decide +kernel, by decide +kernel, by decide +kernel⟩
theorem vX9_image : nw_iv mX9_image := ⟨tb_in (i := 725) (by decide +kernel), tb_in (i := 726) (by decide +kernel)⟩
def mX3_keep : nw_Mt := (yX3_keep, cX3_keep, 3, none)
theorem kX3_keep : nw_ok mX3_keep 2 := ⟨tb_in (i := 731) (by decide +kernel), tb_in (i := 9) (by decide +kernel), by decide +kernel, by decide +kernel, by decide +kernel⟩
theorem vX3_keep : nw_iv mX3_keep := ⟨tb_in (i := 729) (by decide +kernel), tb_in (i := 730) (by decide +kernel)⟩
def mX9_restore : nw_Mt := (yX9_restore, cX9_restore, 2, (some .int))
theorem kX9_restore : nw_ok mX9_restore 1 := ⟨tb_in (i := 737) (by decide +kernel), tb_in (i := 1) (by decide +kernel), by decide +kernel, by decide +kernel, by decide +kernel⟩
theorem vX9_restore : nw_iv mX9_restore := ⟨tb_in (i := 735) (by decide +kernel), tb_in (i := 736) (by decide +kernel)⟩
def mX9_kind : nw_Mt := (yX9_kind, cX9_kind, 2, (some .int))
theorem kX9_kind : nw_ok mX9_kind 1 := ⟨tb_in (i := 741) (by decide +kernel), tb_in (i := 1) (by decide +kernel), by decide +kernel, by decide +kernel, by decide +kernel⟩
theorem vX9_kind : nw_iv mX9_kind := ⟨tb_in (i := 739) (by decide +kernel), tb_in (i := 740) (by decide +kernel)⟩
def mX9_isSwell : nw_Mt := (yX9_isSwell, cX9_isSwell, 2, (some .boolean))
theorem kX9_isSwell : nw_ok mX9_isSwell 1 := ⟨tb_in (i := 745) (by decide +kernel), tb_in (i := 1) (by decide +kernel), by decide +kernel, by decide +kernel, by decide +kernel⟩
theorem vX9_isSwell : nw_iv mX9_isSwell := ⟨tb_in (i := 744) (by decide +kernel), tp_in (i := 21) (by decide +kernel)⟩
def mX9_as : nw_Mt := (yX9_as, cX9_as, 3, (some .int))
theorem kX9_as : nw_ok mX9_as 2 := ⟨tb_in (i := 749) (by decide +kernel), tb_in (i := 1) (by decide +kernel), by decide +kernel, by decide +kernel, by decide +kernel⟩
theorem vX9_as : nw_iv mX9_as := ⟨tb_in (i := 747) (by decide +kernel), tb_in (i := 748) (by decide +kernel)⟩
def mX4_isA : nw_Mt := (yX4_isA, cX4_isA, 4, (some .boolean))
theorem kX4_isA : nw_ok mX4_isA 2 := ⟨tb_in (i := 752) (by decide +kernel), tb_in (i := 12) (by decide +kernel), by decide +kernel, by decide +kernel, by decide +kernel⟩
theorem sX4_isA : nw_ss mX4_isA := tb_in (i := 751) (by decide +kernel)
def mX4_next : nw_Mt := (yX4_next, cX4_next, 1, (some .int))
theorem kX4_next : nw_ok mX4_next 1 := ⟨tb_in (i := 757) (by decide +kernel), tb_in (i := 12) (by decide +kernel), by decide +kernel, by decide +kernel, by decide +kernel⟩
theorem sX4_next : nw_ss mX4_next := tb_in (i := 756) (by decide +kernel)
def mX9_ask : nw_Mt := (yX9_ask, cX9_ask, 3, (some .int))
theorem kX9_ask : nw_ok mX9_ask 2 := ⟨tb_in (i := 761) (by decide +kernel), tb_in (i := 1) (by decide +kernel), by decide +kernel, by decide +kernel, by decide +kernel⟩
theorem vX9_ask : nw_iv mX9_ask := ⟨tb_in (i := 759) (by decide +kernel), tb_in (i := 760) (by decide +kernel)⟩
def mX1_answer : nw_Mt := (yX1_answer, cX1_answer, 4, (some .int))
theorem kX1_answer : nw_ok mX1_answer 3 := ⟨tb_in (i := 765) (by decide +kernel), tb_in (i := 8) (by decide +kernel), by decide +kernel, by decide +kernel, by decide +kernel⟩
theorem vX1_answer : nw_iv mX1_answer := ⟨tb_in (i := 763) (by decide +kernel), tb_in (i := 764) (by decide +kernel)⟩
def mX1_asked : nw_Mt := (yX1_asked, cX1_asked, 6, (some .int))
theorem kX1_asked : nw_ok mX1_asked 2 := ⟨tb_in (i := 770) (by decide +kernel), tb_in (i := 8) (by decide +kernel), by decide +kernel, by decide +kernel, by decide +kernel⟩
theorem vX1_asked : nw_iv mX1_asked := ⟨tb_in (i := 769) (by decide +kernel), tp_in (i := 22) (by decide +kernel)⟩
def mX1_given : nw_Mt := (yX1_given, cX1_given, 4, (some .int))
theorem kX1_given : nw_ok mX1_given 2 := ⟨tb_in (i := 776) (by decide +kernel), tb_in (i := 8) (by decide +kernel), by decide +kernel, by decide +kernel, by decide +kernel⟩
theorem vX1_given : nw_iv mX1_given := ⟨tb_in (i := 775) (by decide +kernel), tp_in (i := 23) (by decide +kernel)⟩
def mX1_leave : nw_Mt := (yX1_leave, cX1_leave, 2, none)
theorem kX1_leave : nw_ok mX1_leave 1 := ⟨tb_in (i := 780) (by decide +kernel), tb_in (i := 8) (by decide +kernel), by decide +kernel, by decide +kernel, by decide +kernel⟩
theorem vX1_leave : nw_iv mX1_leave := ⟨tb_in (i := 779) (by decide +kernel), tp_in (i := 24) (by decide +kernel)⟩
def mX9_trace : nw_Mt := (yX9_trace, cX9_trace, 2, (some .int))
theorem kX9_trace : nw_ok mX9_trace 1 := ⟨tb_in (i := 785) (by decide +kernel), tb_in (i := 1) (by decide +kernel), by decide +kernel, by decide +kernel, by decide +kernel⟩
theorem vX9_trace : nw_iv mX9_trace := ⟨tb_in (i := 783) (by decide +kernel), tb_in (i := 784) (by decide +kernel)⟩
def mX9_count : nw_Mt := (yX9_count, cX9_count, 2, (some .int))
theorem kX9_count : nw_ok mX9_count 1 := ⟨tb_in (i := 789) (by decide +kernel), tb_in (i := 1) (by decide +kernel), by decide +kernel, by decide +kernel, by decide +kernel⟩
theorem vX9_count : nw_iv mX9_count := ⟨tb_in (i := 787) (by decide +kernel), tb_in (i := 788) (by decide +kernel)⟩
def mX7_howManyThere : nw_Mt := (yX7_howManyThere, cX7_howManyThere, 3, (some .int))
theorem kX7_howManyThere : nw_ok mX7_howManyThere 0 := ⟨tb_in (i := 793) (by decide +kernel), tb_in (i := 2) (by decide +kernel), by decide +kernel, by decide +kernel, by decide +kernel⟩
theorem vX7_howManyThere : nw_iv mX7_howManyThere := ⟨tb_in (i := 791) (by decide +kernel), tb_in (i := 792) (by decide +kernel)⟩
def mX9_status : nw_Mt := (yX9_status, cX9_status, 1, (some .int))
theorem kX9_status : nw_ok mX9_status 0 := ⟨tb_in (i := 798) (by decide +kernel), tb_in (i := 1) (by decide +kernel), by decide +kernel, by decide +kernel, by decide +kernel⟩
theorem vX9_status : nw_iv mX9_status := ⟨tb_in (i := 796) (by decide +kernel), tb_in (i := 797) (by decide +kernel)⟩
def mX10_init : nw_Mt := (yX10_init, cX10_init, 2, none)
theorem kX10_init : nw_ok mX10_init 0 := ⟨tb_in (i := 803) (by decide +kernel), tb_in (i := 10) (by decide +kernel), by decide +kernel, by decide +kernel, by decide +kernel⟩
theorem iX10_init : nw_ii mX10_init := ⟨tb_in (i := 802) (by decide +kernel), rfl⟩
def mX10_row : nw_Mt := (yX10_row, cX10_row, 5, (some .int))
theorem kX10_row : nw_ok mX10_row 3 := ⟨tb_in (i := 897) (by decide +kernel), tb_in (i := 10) (by decide +kernel), by decide +kernel, by decide +kernel, by decide +kernel⟩
theorem vX10_row : nw_iv mX10_row := ⟨tb_in (i := 895) (by decide +kernel), tb_in (i := 896) (by decide +kernel)⟩
def mX10_isRow : nw_Mt := (yX10_isRow, cX10_isRow, 1, (some .boolean))
theorem kX10_isRow : nw_ok mX10_isRow 1 := ⟨tb_in (i := 900) (by decide +kernel), tb_in (i := 10) (by decide +kernel), by decide +kernel, by decide +kernel, by decide +kernel⟩
theorem sX10_isRow : nw_ss mX10_isRow := tb_in (i := 899) (by decide +kernel)
def mX10_in : nw_Mt := (yX10_in, cX10_in, 6, (some .boolean))
theorem kX10_in : nw_ok mX10_in 3 := ⟨tb_in (i := 904) (by decide +kernel), tb_in (i := 10) (by decide +kernel), by decide +kernel, by decide +kernel, by decide +kernel⟩
theorem sX10_in : nw_ss mX10_in := tb_in (i := 903) (by decide +kernel)
def mX10_finds : nw_Mt := (yX10_finds, cX10_finds, 2, (some .int))
theorem kX10_finds : nw_ok mX10_finds 1 := ⟨tb_in (i := 910) (by decide +kernel), tb_in (i := 10) (by decide +kernel), by decide +kernel, by decide +kernel, by decide +kernel⟩
theorem vX10_finds : nw_iv mX10_finds := ⟨tb_in (i := 909) (by decide +kernel), tp_in (i := 25) (by decide +kernel)⟩
def mX10_well : nw_Mt := (yX10_well, cX10_well, 2, (some .int))
theorem kX10_well : nw_ok mX10_well 1 := ⟨tb_in (i := 915) (by decide +kernel), tb_in (i := 10) (by decide +kernel), by decide +kernel, by decide +kernel, by decide +kernel⟩
theorem vX10_well : nw_iv mX10_well := ⟨tb_in (i := 914) (by decide +kernel), tp_in (i := 26) (by decide +kernel)⟩
def mX10_set : nw_Mt := (yX10_set, cX10_set, 5, (some .int))
theorem kX10_set : nw_ok mX10_set 3 := ⟨tb_in (i := 919) (by decide +kernel), tb_in (i := 10) (by decide +kernel), by decide +kernel, by decide +kernel, by decide +kernel⟩
theorem vX10_set : nw_iv mX10_set := ⟨tb_in (i := 917) (by decide +kernel), tb_in (i := 918) (by decide +kernel)⟩
def mX10_copy : nw_Mt := (yX10_copy, cX10_copy, 7, (some .int))
theorem kX10_copy : nw_ok mX10_copy 5 := ⟨tb_in (i := 923) (by decide +kernel), tb_in (i := 10) (by decide +kernel), by decide +kernel, by decide +kernel, by decide +kernel⟩
theorem vX10_copy : nw_iv mX10_copy := ⟨tb_in (i := 921) (by decide +kernel), tb_in (i := 922) (by decide +kernel)⟩
def mX10_drop : nw_Mt := (yX10_drop, cX10_drop, 2, (some .int))
theorem kX10_drop : nw_ok mX10_drop 1 := ⟨tb_in (i := 927) (by decide +kernel), tb_in (i := 10) (by decide +kernel), by decide +kernel, by decide +kernel, by decide +kernel⟩
theorem vX10_drop : nw_iv mX10_drop := ⟨tb_in (i := 925) (by decide +kernel), tb_in (i := 926) (by decide +kernel)⟩
def mX10_feed : nw_Mt := (yX10_feed, cX10_feed, 2, (some .int))
theorem kX10_feed : nw_ok mX10_feed 1 := ⟨tb_in (i := 931) (by decide +kernel), tb_in (i := 10) (by decide +kernel), by decide +kernel, by decide +kernel, by decide +kernel⟩
theorem vX10_feed : nw_iv mX10_feed := ⟨tb_in (i := 929) (by decide +kernel), tb_in (i := 930) (by decide +kernel)⟩
def mX10_sea : nw_Mt := (yX10_sea, cX10_sea, 3, (some .int))
theorem kX10_sea : nw_ok mX10_sea 0 := ⟨tb_in (i := 937) (by decide +kernel), tb_in (i := 10) (by decide +kernel), by decide +kernel, by decide +kernel, by decide +kernel⟩
theorem vX10_sea : nw_iv mX10_sea := ⟨tb_in (i := 935) (by decide +kernel), tb_in (i := 936) (by decide +kernel)⟩
def mX10_reads : nw_Mt := (yX10_reads, cX10_reads, 2, (some .boolean))
theorem kX10_reads : nw_ok mX10_reads 0 := ⟨tb_in (i := 941) (by decide +kernel), tb_in (i := 10) (by decide +kernel), by decide +kernel, by decide +kernel, by decide +kernel⟩
theorem vX10_reads : nw_iv mX10_reads := ⟨tb_in (i := 940) (by decide +kernel), tp_in (i := 27) (by decide +kernel)⟩
def mX10_scans : nw_Mt := (yX10_scans, cX10_scans, 1, none)
theorem kX10_scans : nw_ok mX10_scans 0 := ⟨tb_in (i := 945) (by decide +kernel), tb_in (i := 10) (by decide +kernel), by decide +kernel, by decide +kernel, by decide +kernel⟩
theorem vX10_scans : nw_iv mX10_scans := ⟨tb_in (i := 944) (by decide +kernel), tp_in (i := 28) (by decide +kernel)⟩
def mX10_isFigure : nw_Mt := (yX10_isFigure, cX10_isFigure, 1, (some .boolean))
theorem kX10_isFigure : nw_ok mX10_isFigure 0 := ⟨tb_in (i := 949) (by decide +kernel), tb_in (i := 10) (by decide +kernel), by decide +kernel, by decide +kernel, by decide +kernel⟩
theorem vX10_isFigure : nw_iv mX10_isFigure := ⟨tb_in (i := 948) (by decide +kernel), tp_in (i := 29) (by decide +kernel)⟩
def mX10_isLetter : nw_Mt := (yX10_isLetter, cX10_isLetter, 2, (some .boolean))
theorem kX10_isLetter : nw_ok mX10_isLetter 1 := ⟨tb_in (i := 957) (by decide +kernel), tb_in (i := 10) (by decide +kernel), by decide +kernel, by decide +kernel, by decide +kernel⟩
theorem vX10_isLetter : nw_iv mX10_isLetter := ⟨tb_in (i := 956) (by decide +kernel), tp_in (i := 30) (by decide +kernel)⟩
def mX10_faults : nw_Mt := (yX10_faults, cX10_faults, 2, (some .boolean))
theorem kX10_faults : nw_ok mX10_faults 1 := ⟨tb_in (i := 961) (by decide +kernel), tb_in (i := 10) (by decide +kernel), by decide +kernel, by decide +kernel, by decide +kernel⟩
theorem vX10_faults : nw_iv mX10_faults := ⟨tb_in (i := 960) (by decide +kernel), tp_in (i := 31) (by decide +kernel)⟩
def mX10_two : nw_Mt := (yX10_two, cX10_two, 4, (some .boolean))
theorem kX10_two : nw_ok mX10_two 3 := ⟨tb_in (i := 965) (by decide +kernel), tb_in (i := 10) (by decide +kernel), by decide +kernel, by decide +kernel, by decide +kernel⟩
theorem vX10_two : nw_iv mX10_two := ⟨tb_in (i := 964) (by decide +kernel), tp_in (i := 32) (by decide +kernel)⟩
def mX10_takes : nw_Mt := (yX10_takes, cX10_takes, 3, (some .boolean))
theorem kX10_takes : nw_ok mX10_takes 2 := ⟨tb_in (i := 969) (by decide +kernel), tb_in (i := 10) (by decide +kernel), by decide +kernel, by decide +kernel, by decide +kernel⟩
theorem vX10_takes : nw_iv mX10_takes := ⟨tb_in (i := 968) (by decide +kernel), tp_in (i := 33) (by decide +kernel)⟩
def mX10_signs : nw_Mt := (yX10_signs, cX10_signs, 2, (some .boolean))
theorem kX10_signs : nw_ok mX10_signs 1 := ⟨tb_in (i := 973) (by decide +kernel), tb_in (i := 10) (by decide +kernel), by decide +kernel, by decide +kernel, by decide +kernel⟩
theorem vX10_signs : nw_iv mX10_signs := ⟨tb_in (i := 972) (by decide +kernel), tp_in (i := 34) (by decide +kernel)⟩
def mX10_sortOf : nw_Mt := (yX10_sortOf, cX10_sortOf, 1, (some .int))
theorem kX10_sortOf : nw_ok mX10_sortOf 1 := ⟨tb_in (i := 976) (by decide +kernel), tb_in (i := 10) (by decide +kernel), by decide +kernel, by decide +kernel, by decide +kernel⟩
theorem sX10_sortOf : nw_ss mX10_sortOf := tb_in (i := 975) (by decide +kernel)
def mX10_swell : nw_Mt := (yX10_swell, cX10_swell, 1, (some .boolean))
theorem kX10_swell : nw_ok mX10_swell 0 := ⟨tb_in (i := 980) (by decide +kernel), tb_in (i := 10) (by decide +kernel), by decide +kernel, by decide +kernel, by decide +kernel⟩
theorem vX10_swell : nw_iv mX10_swell := ⟨tb_in (i := 979) (by decide +kernel), tp_in (i := 35) (by decide +kernel)⟩
def mX10_turret : nw_Mt := (yX10_turret, cX10_turret, 1, (some .boolean))
theorem kX10_turret : nw_ok mX10_turret 0 := ⟨tb_in (i := 984) (by decide +kernel), tb_in (i := 10) (by decide +kernel), by decide +kernel, by decide +kernel, by decide +kernel⟩
theorem vX10_turret : nw_iv mX10_turret := ⟨tb_in (i := 983) (by decide +kernel), tp_in (i := 36) (by decide +kernel)⟩
def mX10_vessel : nw_Mt := (yX10_vessel, cX10_vessel, 1, (some .boolean))
theorem kX10_vessel : nw_ok mX10_vessel 0 := ⟨tb_in (i := 988) (by decide +kernel), tb_in (i := 10) (by decide +kernel), by decide +kernel, by decide +kernel, by decide +kernel⟩
theorem vX10_vessel : nw_iv mX10_vessel := ⟨tb_in (i := 987) (by decide +kernel), tp_in (i := 37) (by decide +kernel)⟩
def mX10_fault : nw_Mt := (yX10_fault, cX10_fault, 1, (some .int))
theorem kX10_fault : nw_ok mX10_fault 0 := ⟨tb_in (i := 994) (by decide +kernel), tb_in (i := 10) (by decide +kernel), by decide +kernel, by decide +kernel, by decide +kernel⟩
theorem vX10_fault : nw_iv mX10_fault := ⟨tb_in (i := 992) (by decide +kernel), tb_in (i := 993) (by decide +kernel)⟩
def mX10_waves : nw_Mt := (yX10_waves, cX10_waves, 4, (some .int))
theorem kX10_waves : nw_ok mX10_waves 1 := ⟨tb_in (i := 998) (by decide +kernel), tb_in (i := 10) (by decide +kernel), by decide +kernel, by decide +kernel, by decide +kernel⟩
theorem vX10_waves : nw_iv mX10_waves := ⟨tb_in (i := 996) (by decide +kernel), tb_in (i := 997) (by decide +kernel)⟩
def mX10_isSea : nw_Mt := (yX10_isSea, cX10_isSea, 1, (some .boolean))
theorem kX10_isSea : nw_ok mX10_isSea 0 := ⟨tb_in (i := 1002) (by decide +kernel), tb_in (i := 10) (by decide +kernel), by decide +kernel, by decide +kernel, by decide +kernel⟩
theorem vX10_isSea : nw_iv mX10_isSea := ⟨tb_in (i := 1001) (by decide +kernel), tp_in (i := 38) (by decide +kernel)⟩
def mX10_remembers : nw_Mt := (yX10_remembers, cX10_remembers, 2, none)
theorem kX10_remembers : nw_ok mX10_remembers 0 := ⟨tb_in (i := 1008) (by decide +kernel), tb_in (i := 10) (by decide +kernel), by decide +kernel, by decide +kernel, by decide +kernel⟩
theorem vX10_remembers : nw_iv mX10_remembers := ⟨tb_in (i := 1007) (by decide +kernel), tp_in (i := 39) (by decide +kernel)⟩
def mX10_asNow : nw_Mt := (yX10_asNow, cX10_asNow, 2, none)
theorem kX10_asNow : nw_ok mX10_asNow 0 := ⟨tb_in (i := 1012) (by decide +kernel), tb_in (i := 10) (by decide +kernel), by decide +kernel, by decide +kernel, by decide +kernel⟩
theorem vX10_asNow : nw_iv mX10_asNow := ⟨tb_in (i := 1011) (by decide +kernel), tp_in (i := 40) (by decide +kernel)⟩
def mX10_waves0 : nw_Mt := (yX10_waves0, cX10_waves0, 3, none)
theorem kX10_waves0 : nw_ok mX10_waves0 1 := ⟨tb_in (i := 1016) (by decide +kernel), tb_in (i := 10) (by decide +kernel), by decide +kernel, by decide +kernel, by decide +kernel⟩
theorem vX10_waves0 : nw_iv mX10_waves0 := ⟨tb_in (i := 1015) (by decide +kernel), tp_in (i := 41) (by decide +kernel)⟩
def mX10_sortIn : nw_Mt := (yX10_sortIn, cX10_sortIn, 2, (some .int))
theorem kX10_sortIn : nw_ok mX10_sortIn 1 := ⟨tb_in (i := 1020) (by decide +kernel), tb_in (i := 10) (by decide +kernel), by decide +kernel, by decide +kernel, by decide +kernel⟩
theorem vX10_sortIn : nw_iv mX10_sortIn := ⟨tb_in (i := 1019) (by decide +kernel), tp_in (i := 42) (by decide +kernel)⟩
def mX10_heightIn : nw_Mt := (yX10_heightIn, cX10_heightIn, 2, (some .int))
theorem kX10_heightIn : nw_ok mX10_heightIn 1 := ⟨tb_in (i := 1024) (by decide +kernel), tb_in (i := 10) (by decide +kernel), by decide +kernel, by decide +kernel, by decide +kernel⟩
theorem vX10_heightIn : nw_iv mX10_heightIn := ⟨tb_in (i := 1023) (by decide +kernel), tp_in (i := 43) (by decide +kernel)⟩
def mX10_comes : nw_Mt := (yX10_comes, cX10_comes, 10, none)
theorem kX10_comes : nw_ok mX10_comes 2 := ⟨tb_in (i := 1028) (by decide +kernel), tb_in (i := 10) (by decide +kernel), by decide +kernel, by decide +kernel, by decide +kernel⟩
theorem vX10_comes : nw_iv mX10_comes := ⟨tb_in (i := 1027) (by decide +kernel), tp_in (i := 44) (by decide +kernel)⟩
def mX10_water : nw_Mt := (yX10_water, cX10_water, 4, (some .int))
theorem kX10_water : nw_ok mX10_water 3 := ⟨tb_in (i := 1032) (by decide +kernel), tb_in (i := 10) (by decide +kernel), by decide +kernel, by decide +kernel, by decide +kernel⟩
theorem vX10_water : nw_iv mX10_water := ⟨tb_in (i := 1031) (by decide +kernel), tp_in (i := 45) (by decide +kernel)⟩
def mX10_most : nw_Mt := (yX10_most, cX10_most, 2, (some .int))
theorem kX10_most : nw_ok mX10_most 2 := ⟨tb_in (i := 1035) (by decide +kernel), tb_in (i := 10) (by decide +kernel), by decide +kernel, by decide +kernel, by decide +kernel⟩
theorem sX10_most : nw_ss mX10_most := tb_in (i := 1034) (by decide +kernel)
def mX10_lift : nw_Mt := (yX10_lift, cX10_lift, 2, (some .int))
theorem kX10_lift : nw_ok mX10_lift 2 := ⟨tb_in (i := 1038) (by decide +kernel), tb_in (i := 10) (by decide +kernel), by decide +kernel, by decide +kernel, by decide +kernel⟩
theorem sX10_lift : nw_ss mX10_lift := tb_in (i := 1037) (by decide +kernel)
def mX10_counted : nw_Mt := (yX10_counted, cX10_counted, 2, (some .int))
theorem kX10_counted : nw_ok mX10_counted 2 := ⟨tb_in (i := 1041) (by decide +kernel), tb_in (i := 10) (by decide +kernel), by decide +kernel, by decide +kernel, by decide +kernel⟩
theorem sX10_counted : nw_ss mX10_counted := tb_in (i := 1040) (by decide +kernel)
def mX10_isCalled : nw_Mt := (yX10_isCalled, cX10_isCalled, 3, (some .boolean))
theorem kX10_isCalled : nw_ok mX10_isCalled 3 := ⟨tb_in (i := 1044) (by decide +kernel), tb_in (i := 10) (by decide +kernel), by decide +kernel, by decide +kernel, by decide +kernel⟩
theorem sX10_isCalled : nw_ss mX10_isCalled := tb_in (i := 1043) (by decide +kernel)
def mX10_slip : nw_Mt := (yX10_slip, cX10_slip, 3, (some .int))
theorem kX10_slip : nw_ok mX10_slip 2 := ⟨tb_in (i := 1048) (by decide +kernel), tb_in (i := 10) (by decide +kernel), by decide +kernel, by decide +kernel, by decide +kernel⟩
theorem vX10_slip : nw_iv mX10_slip := ⟨tb_in (i := 1046) (by decide +kernel), tb_in (i := 1047) (by decide +kernel)⟩
def mX10_isTower : nw_Mt := (yX10_isTower, cX10_isTower, 2, (some .boolean))
theorem kX10_isTower : nw_ok mX10_isTower 1 := ⟨tb_in (i := 1052) (by decide +kernel), tb_in (i := 10) (by decide +kernel), by decide +kernel, by decide +kernel, by decide +kernel⟩
theorem vX10_isTower : nw_iv mX10_isTower := ⟨tb_in (i := 1051) (by decide +kernel), tp_in (i := 46) (by decide +kernel)⟩
def mX10_law : nw_Mt := (yX10_law, cX10_law, 3, (some .int))
theorem kX10_law : nw_ok mX10_law 1 := ⟨tb_in (i := 1058) (by decide +kernel), tb_in (i := 10) (by decide +kernel), by decide +kernel, by decide +kernel, by decide +kernel⟩
theorem vX10_law : nw_iv mX10_law := ⟨tb_in (i := 1056) (by decide +kernel), tb_in (i := 1057) (by decide +kernel)⟩
def mX10_change : nw_Mt := (yX10_change, cX10_change, 5, (some .int))
theorem kX10_change : nw_ok mX10_change 2 := ⟨tb_in (i := 1063) (by decide +kernel), tb_in (i := 10) (by decide +kernel), by decide +kernel, by decide +kernel, by decide +kernel⟩
theorem vX10_change : nw_iv mX10_change := ⟨tb_in (i := 1061) (by decide +kernel), tb_in (i := 1062) (by decide +kernel)⟩
def mX10_isShip : nw_Mt := (yX10_isShip, cX10_isShip, 2, (some .boolean))
theorem kX10_isShip : nw_ok mX10_isShip 1 := ⟨tb_in (i := 1067) (by decide +kernel), tb_in (i := 10) (by decide +kernel), by decide +kernel, by decide +kernel, by decide +kernel⟩
theorem vX10_isShip : nw_iv mX10_isShip := ⟨tb_in (i := 1066) (by decide +kernel), tp_in (i := 47) (by decide +kernel)⟩
def mX10_placeOf : nw_Mt := (yX10_placeOf, cX10_placeOf, 4, (some .int))
theorem kX10_placeOf : nw_ok mX10_placeOf 1 := ⟨tb_in (i := 1071) (by decide +kernel), tb_in (i := 10) (by decide +kernel), by decide +kernel, by decide +kernel, by decide +kernel⟩
theorem vX10_placeOf : nw_iv mX10_placeOf := ⟨tb_in (i := 1070) (by decide +kernel), tp_in (i := 48) (by decide +kernel)⟩
def mX10_heeds : nw_Mt := (yX10_heeds, cX10_heeds, 4, (some .int))
theorem kX10_heeds : nw_ok mX10_heeds 2 := ⟨tb_in (i := 1075) (by decide +kernel), tb_in (i := 10) (by decide +kernel), by decide +kernel, by decide +kernel, by decide +kernel⟩
theorem vX10_heeds : nw_iv mX10_heeds := ⟨tb_in (i := 1073) (by decide +kernel), tb_in (i := 1074) (by decide +kernel)⟩
def mX10_undo : nw_Mt := (yX10_undo, cX10_undo, 2, (some .int))
theorem kX10_undo : nw_ok mX10_undo 0 := ⟨tb_in (i := 1079) (by decide +kernel), tb_in (i := 10) (by decide +kernel), by decide +kernel, by decide +kernel, by decide +kernel⟩
theorem vX10_undo : nw_iv mX10_undo := ⟨tb_in (i := 1077) (by decide +kernel), tb_in (i := 1078) (by decide +kernel)⟩
def mX10_ship : nw_Mt := (yX10_ship, cX10_ship, 4, (some .int))
theorem kX10_ship : nw_ok mX10_ship 2 := ⟨tb_in (i := 1083) (by decide +kernel), tb_in (i := 10) (by decide +kernel), by decide +kernel, by decide +kernel, by decide +kernel⟩
theorem vX10_ship : nw_iv mX10_ship := ⟨tb_in (i := 1081) (by decide +kernel), tb_in (i := 1082) (by decide +kernel)⟩
def mX10_tower : nw_Mt := (yX10_tower, cX10_tower, 5, (some .int))
theorem kX10_tower : nw_ok mX10_tower 2 := ⟨tb_in (i := 1088) (by decide +kernel), tb_in (i := 10) (by decide +kernel), by decide +kernel, by decide +kernel, by decide +kernel⟩
theorem vX10_tower : nw_iv mX10_tower := ⟨tb_in (i := 1086) (by decide +kernel), tb_in (i := 1087) (by decide +kernel)⟩
def mX10_wave : nw_Mt := (yX10_wave, cX10_wave, 3, (some .int))
theorem kX10_wave : nw_ok mX10_wave 2 := ⟨tb_in (i := 1092) (by decide +kernel), tb_in (i := 10) (by decide +kernel), by decide +kernel, by decide +kernel, by decide +kernel⟩
theorem vX10_wave : nw_iv mX10_wave := ⟨tb_in (i := 1090) (by decide +kernel), tb_in (i := 1091) (by decide +kernel)⟩
def mX10_waterIn : nw_Mt := (yX10_waterIn, cX10_waterIn, 2, (some .int))
theorem kX10_waterIn : nw_ok mX10_waterIn 1 := ⟨tb_in (i := 1098) (by decide +kernel), tb_in (i := 10) (by decide +kernel), by decide +kernel, by decide +kernel, by decide +kernel⟩
theorem vX10_waterIn : nw_iv mX10_waterIn := ⟨tb_in (i := 1097) (by decide +kernel), tp_in (i := 49) (by decide +kernel)⟩
def mX10_ahead : nw_Mt := (yX10_ahead, cX10_ahead, 3, (some .int))
theorem kX10_ahead : nw_ok mX10_ahead 2 := ⟨tb_in (i := 1102) (by decide +kernel), tb_in (i := 10) (by decide +kernel), by decide +kernel, by decide +kernel, by decide +kernel⟩
theorem vX10_ahead : nw_iv mX10_ahead := ⟨tb_in (i := 1100) (by decide +kernel), tb_in (i := 1101) (by decide +kernel)⟩
def mX10_many : nw_Mt := (yX10_many, cX10_many, 4, (some .int))
theorem kX10_many : nw_ok mX10_many 1 := ⟨tb_in (i := 1107) (by decide +kernel), tb_in (i := 10) (by decide +kernel), by decide +kernel, by decide +kernel, by decide +kernel⟩
theorem vX10_many : nw_iv mX10_many := ⟨tb_in (i := 1106) (by decide +kernel), tp_in (i := 50) (by decide +kernel)⟩
def mX10_shipAhead : nw_Mt := (yX10_shipAhead, cX10_shipAhead, 4, (some .int))
theorem kX10_shipAhead : nw_ok mX10_shipAhead 3 := ⟨tb_in (i := 1111) (by decide +kernel), tb_in (i := 10) (by decide +kernel), by decide +kernel, by decide +kernel, by decide +kernel⟩
theorem vX10_shipAhead : nw_iv mX10_shipAhead := ⟨tb_in (i := 1109) (by decide +kernel), tb_in (i := 1110) (by decide +kernel)⟩
def mX10_towerAhead : nw_Mt := (yX10_towerAhead, cX10_towerAhead, 3, (some .int))
theorem kX10_towerAhead : nw_ok mX10_towerAhead 2 := ⟨tb_in (i := 1115) (by decide +kernel), tb_in (i := 10) (by decide +kernel), by decide +kernel, by decide +kernel, by decide +kernel⟩
theorem vX10_towerAhead : nw_iv mX10_towerAhead := ⟨tb_in (i := 1113) (by decide +kernel), tb_in (i := 1114) (by decide +kernel)⟩
def mX10_called : nw_Mt := (yX10_called, cX10_called, 7, (some .int))
theorem kX10_called : nw_ok mX10_called 2 := ⟨tb_in (i := 1119) (by decide +kernel), tb_in (i := 10) (by decide +kernel), by decide +kernel, by decide +kernel, by decide +kernel⟩
theorem vX10_called : nw_iv mX10_called := ⟨tb_in (i := 1117) (by decide +kernel), tb_in (i := 1118) (by decide +kernel)⟩
def mX10_fit : nw_Mt := (yX10_fit, cX10_fit, 5, (some .int))
theorem kX10_fit : nw_ok mX10_fit 2 := ⟨tb_in (i := 1123) (by decide +kernel), tb_in (i := 10) (by decide +kernel), by decide +kernel, by decide +kernel, by decide +kernel⟩
theorem vX10_fit : nw_iv mX10_fit := ⟨tb_in (i := 1121) (by decide +kernel), tb_in (i := 1122) (by decide +kernel)⟩
def mX10_highest : nw_Mt := (yX10_highest, cX10_highest, 5, (some .int))
theorem kX10_highest : nw_ok mX10_highest 2 := ⟨tb_in (i := 1127) (by decide +kernel), tb_in (i := 10) (by decide +kernel), by decide +kernel, by decide +kernel, by decide +kernel⟩
theorem vX10_highest : nw_iv mX10_highest := ⟨tb_in (i := 1125) (by decide +kernel), tb_in (i := 1126) (by decide +kernel)⟩
def mX10_order : nw_Mt := (yX10_order, cX10_order, 9, (some .int))
theorem kX10_order : nw_ok mX10_order 2 := ⟨tb_in (i := 1132) (by decide +kernel), tb_in (i := 10) (by decide +kernel), by decide +kernel, by decide +kernel, by decide +kernel⟩
theorem vX10_order : nw_iv mX10_order := ⟨tb_in (i := 1130) (by decide +kernel), tb_in (i := 1131) (by decide +kernel)⟩
def mX10_lays : nw_Mt := (yX10_lays, cX10_lays, 6, (some .boolean))
theorem kX10_lays : nw_ok mX10_lays 2 := ⟨tb_in (i := 1138) (by decide +kernel), tb_in (i := 10) (by decide +kernel), by decide +kernel, by decide +kernel, by decide +kernel⟩
theorem vX10_lays : nw_iv mX10_lays := ⟨tb_in (i := 1137) (by decide +kernel), tp_in (i := 51) (by decide +kernel)⟩
def mX10_laws : nw_Mt := (yX10_laws, cX10_laws, 7, (some .int))
theorem kX10_laws : nw_ok mX10_laws 2 := ⟨tb_in (i := 1142) (by decide +kernel), tb_in (i := 10) (by decide +kernel), by decide +kernel, by decide +kernel, by decide +kernel⟩
theorem vX10_laws : nw_iv mX10_laws := ⟨tb_in (i := 1140) (by decide +kernel), tb_in (i := 1141) (by decide +kernel)⟩
def mX10_bribe : nw_Mt := (yX10_bribe, cX10_bribe, 8, (some .int))
theorem kX10_bribe : nw_ok mX10_bribe 2 := ⟨tb_in (i := 1146) (by decide +kernel), tb_in (i := 10) (by decide +kernel), by decide +kernel, by decide +kernel, by decide +kernel⟩
theorem vX10_bribe : nw_iv mX10_bribe := ⟨tb_in (i := 1144) (by decide +kernel), tb_in (i := 1145) (by decide +kernel)⟩
def mX10_heed : nw_Mt := (yX10_heed, cX10_heed, 5, (some .int))
theorem kX10_heed : nw_ok mX10_heed 1 := ⟨tb_in (i := 1150) (by decide +kernel), tb_in (i := 10) (by decide +kernel), by decide +kernel, by decide +kernel, by decide +kernel⟩
theorem vX10_heed : nw_iv mX10_heed := ⟨tb_in (i := 1148) (by decide +kernel), tb_in (i := 1149) (by decide +kernel)⟩
def mX10_agreed : nw_Mt := (yX10_agreed, cX10_agreed, 7, (some .int))
theorem kX10_agreed : nw_ok mX10_agreed 2 := ⟨tb_in (i := 1154) (by decide +kernel), tb_in (i := 10) (by decide +kernel), by decide +kernel, by decide +kernel, by decide +kernel⟩
theorem vX10_agreed : nw_iv mX10_agreed := ⟨tb_in (i := 1152) (by decide +kernel), tb_in (i := 1153) (by decide +kernel)⟩
def mX10_callers : nw_Mt := (yX10_callers, cX10_callers, 3, (some .int))
theorem kX10_callers : nw_ok mX10_callers 0 := ⟨tb_in (i := 1158) (by decide +kernel), tb_in (i := 10) (by decide +kernel), by decide +kernel, by decide +kernel, by decide +kernel⟩
theorem vX10_callers : nw_iv mX10_callers := ⟨tb_in (i := 1157) (by decide +kernel), tp_in (i := 52) (by decide +kernel)⟩
def mX10_log : nw_Mt := (yX10_log, cX10_log, 10, (some .int))
theorem kX10_log : nw_ok mX10_log 4 := ⟨tb_in (i := 1162) (by decide +kernel), tb_in (i := 10) (by decide +kernel), by decide +kernel, by decide +kernel, by decide +kernel⟩
theorem vX10_log : nw_iv mX10_log := ⟨tb_in (i := 1160) (by decide +kernel), tb_in (i := 1161) (by decide +kernel)⟩
def mX10_hasCalled : nw_Mt := (yX10_hasCalled, cX10_hasCalled, 12, (some .boolean))
theorem kX10_hasCalled : nw_ok mX10_hasCalled 4 := ⟨tb_in (i := 1168) (by decide +kernel), tb_in (i := 10) (by decide +kernel), by decide +kernel, by decide +kernel, by decide +kernel⟩
theorem vX10_hasCalled : nw_iv mX10_hasCalled := ⟨tb_in (i := 1167) (by decide +kernel), tp_in (i := 53) (by decide +kernel)⟩
def mX10_wreck : nw_Mt := (yX10_wreck, cX10_wreck, 9, (some .int))
theorem kX10_wreck : nw_ok mX10_wreck 4 := ⟨tb_in (i := 1172) (by decide +kernel), tb_in (i := 10) (by decide +kernel), by decide +kernel, by decide +kernel, by decide +kernel⟩
theorem vX10_wreck : nw_iv mX10_wreck := ⟨tb_in (i := 1170) (by decide +kernel), tb_in (i := 1171) (by decide +kernel)⟩
def mX10_season : nw_Mt := (yX10_season, cX10_season, 7, (some .int))
theorem kX10_season : nw_ok mX10_season 3 := ⟨tb_in (i := 1177) (by decide +kernel), tb_in (i := 10) (by decide +kernel), by decide +kernel, by decide +kernel, by decide +kernel⟩
theorem vX10_season : nw_iv mX10_season := ⟨tb_in (i := 1175) (by decide +kernel), tb_in (i := 1176) (by decide +kernel)⟩
def mX10_image : nw_Mt := (yX10_image, cX10_image, 3, (some .int))
theorem kX10_image : nw_ok mX10_image 1 := ⟨tb_in (i := 1186) (by decide +kernel), tb_in (i := 10) (by decide +kernel), by decide +kernel, by decide +kernel, by decide +kernel⟩
theorem vX10_image : nw_iv mX10_image := ⟨tb_in (i := 1184) (by decide +kernel), tb_in (i := 1185) (by decide +kernel)⟩
def mX10_restore : nw_Mt := (yX10_restore, cX10_restore, 3, (some .int))
theorem kX10_restore : nw_ok mX10_restore 1 := ⟨tb_in (i := 1190) (by decide +kernel), tb_in (i := 10) (by decide +kernel), by decide +kernel, by decide +kernel, by decide +kernel⟩
theorem vX10_restore : nw_iv mX10_restore := ⟨tb_in (i := 1188) (by decide +kernel), tb_in (i := 1189) (by decide +kernel)⟩
def mX10_kind : nw_Mt := (yX10_kind, cX10_kind, 2, (some .int))
theorem kX10_kind : nw_ok mX10_kind 1 := ⟨tb_in (i := 1194) (by decide +kernel), tb_in (i := 10) (by decide +kernel), by decide +kernel, by decide +kernel, by decide +kernel⟩
theorem vX10_kind : nw_iv mX10_kind := ⟨tb_in (i := 1192) (by decide +kernel), tb_in (i := 1193) (by decide +kernel)⟩
def mX10_isSwell : nw_Mt := (yX10_isSwell, cX10_isSwell, 2, (some .boolean))
theorem kX10_isSwell : nw_ok mX10_isSwell 1 := ⟨tb_in (i := 1198) (by decide +kernel), tb_in (i := 10) (by decide +kernel), by decide +kernel, by decide +kernel, by decide +kernel⟩
theorem vX10_isSwell : nw_iv mX10_isSwell := ⟨tb_in (i := 1197) (by decide +kernel), tp_in (i := 54) (by decide +kernel)⟩
def mX10_as : nw_Mt := (yX10_as, cX10_as, 6, (some .int))
theorem kX10_as : nw_ok mX10_as 2 := ⟨tb_in (i := 1202) (by decide +kernel), tb_in (i := 10) (by decide +kernel), by decide +kernel, by decide +kernel, by decide +kernel⟩
theorem vX10_as : nw_iv mX10_as := ⟨tb_in (i := 1200) (by decide +kernel), tb_in (i := 1201) (by decide +kernel)⟩
def mX10_ask : nw_Mt := (yX10_ask, cX10_ask, 3, (some .int))
theorem kX10_ask : nw_ok mX10_ask 2 := ⟨tb_in (i := 1206) (by decide +kernel), tb_in (i := 10) (by decide +kernel), by decide +kernel, by decide +kernel, by decide +kernel⟩
theorem vX10_ask : nw_iv mX10_ask := ⟨tb_in (i := 1204) (by decide +kernel), tb_in (i := 1205) (by decide +kernel)⟩
def mX10_sizeOf : nw_Mt := (yX10_sizeOf, cX10_sizeOf, 5, (some .int))
theorem kX10_sizeOf : nw_ok mX10_sizeOf 1 := ⟨tb_in (i := 1210) (by decide +kernel), tb_in (i := 10) (by decide +kernel), by decide +kernel, by decide +kernel, by decide +kernel⟩
theorem vX10_sizeOf : nw_iv mX10_sizeOf := ⟨tb_in (i := 1209) (by decide +kernel), tp_in (i := 55) (by decide +kernel)⟩
def mX10_leaves : nw_Mt := (yX10_leaves, cX10_leaves, 2, none)
theorem kX10_leaves : nw_ok mX10_leaves 1 := ⟨tb_in (i := 1214) (by decide +kernel), tb_in (i := 10) (by decide +kernel), by decide +kernel, by decide +kernel, by decide +kernel⟩
theorem vX10_leaves : nw_iv mX10_leaves := ⟨tb_in (i := 1213) (by decide +kernel), tp_in (i := 56) (by decide +kernel)⟩
def mX10_plainMark : nw_Mt := (yX10_plainMark, cX10_plainMark, 4, (some .int))
theorem kX10_plainMark : nw_ok mX10_plainMark 1 := ⟨tb_in (i := 1218) (by decide +kernel), tb_in (i := 10) (by decide +kernel), by decide +kernel, by decide +kernel, by decide +kernel⟩
theorem vX10_plainMark : nw_iv mX10_plainMark := ⟨tb_in (i := 1217) (by decide +kernel), tp_in (i := 57) (by decide +kernel)⟩
def mX10_markOf : nw_Mt := (yX10_markOf, cX10_markOf, 2, (some .int))
theorem kX10_markOf : nw_ok mX10_markOf 1 := ⟨tb_in (i := 1222) (by decide +kernel), tb_in (i := 10) (by decide +kernel), by decide +kernel, by decide +kernel, by decide +kernel⟩
theorem vX10_markOf : nw_iv mX10_markOf := ⟨tb_in (i := 1221) (by decide +kernel), tp_in (i := 58) (by decide +kernel)⟩
def mX10_trace : nw_Mt := (yX10_trace, cX10_trace, 2, (some .int))
theorem kX10_trace : nw_ok mX10_trace 1 := ⟨tb_in (i := 1226) (by decide +kernel), tb_in (i := 10) (by decide +kernel), by decide +kernel, by decide +kernel, by decide +kernel⟩
theorem vX10_trace : nw_iv mX10_trace := ⟨tb_in (i := 1224) (by decide +kernel), tb_in (i := 1225) (by decide +kernel)⟩
def mX10_count : nw_Mt := (yX10_count, cX10_count, 5, (some .int))
theorem kX10_count : nw_ok mX10_count 1 := ⟨tb_in (i := 1230) (by decide +kernel), tb_in (i := 10) (by decide +kernel), by decide +kernel, by decide +kernel, by decide +kernel⟩
theorem vX10_count : nw_iv mX10_count := ⟨tb_in (i := 1228) (by decide +kernel), tb_in (i := 1229) (by decide +kernel)⟩
def mX10_status : nw_Mt := (yX10_status, cX10_status, 1, (some .int))
theorem kX10_status : nw_ok mX10_status 0 := ⟨tb_in (i := 1235) (by decide +kernel), tb_in (i := 10) (by decide +kernel), by decide +kernel, by decide +kernel, by decide +kernel⟩
theorem vX10_status : nw_iv mX10_status := ⟨tb_in (i := 1233) (by decide +kernel), tb_in (i := 1234) (by decide +kernel)⟩
theorem lL_9 : nw_ml RL 9 mX9_init := tb_in (i := 16) (by decide +kernel)
theorem lX9_9 : nw_ml RX9 9 mX7_init := tb_in (i := 24) (by decide +kernel)
theorem lX9_45 : nw_ml RX9 45 mX0_init := tb_in (i := 168) (by decide +kernel)
theorem lL_13 : nw_ml RL 13 mX9_row := tb_in (i := 305) (by decide +kernel)
theorem lX9_71 : nw_ml RX9 71 mX9_isRow := tb_in (i := 309) (by decide +kernel)
theorem lX9_75 : nw_ml RX9 75 mX9_within := tb_in (i := 313) (by decide +kernel)
theorem lX9_80 : nw_ml RX9 80 mX9_found := tb_in (i := 317) (by decide +kernel)
theorem lX9_84 : nw_ml RX9 84 mX7_make := tb_in (i := 322) (by decide +kernel)
theorem lX9_88 : nw_ml RX9 88 mX9_fine := tb_in (i := 326) (by decide +kernel)
theorem lL_18 : nw_ml RL 18 mX9_set := tb_in (i := 330) (by decide +kernel)
theorem lX9_91 : nw_ml RX9 91 mX7_isMissing := tb_in (i := 334) (by decide +kernel)
theorem lX9_94 : nw_ml RX9 94 mX7_hasPlaces := tb_in (i := 338) (by decide +kernel)
theorem lX9_97 : nw_ml RX9 97 mX7_put := tb_in (i := 342) (by decide +kernel)
theorem lL_22 : nw_ml RL 22 mX9_copy := tb_in (i := 346) (by decide +kernel)
theorem lX9_101 : nw_ml RX9 101 mX7_alike := tb_in (i := 350) (by decide +kernel)
theorem lX9_105 : nw_ml RX9 105 mX7_move := tb_in (i := 354) (by decide +kernel)
theorem lL_27 : nw_ml RL 27 mX9_drop := tb_in (i := 361) (by decide +kernel)
theorem lX9_109 : nw_ml RX9 109 mX7_lose := tb_in (i := 365) (by decide +kernel)
theorem lL_32 : nw_ml RL 32 mX9_feed := tb_in (i := 369) (by decide +kernel)
theorem lX9_112 : nw_ml RX9 112 mX6_isFull := tb_in (i := 373) (by decide +kernel)
theorem lX9_117 : nw_ml RX9 117 mX6_append := tb_in (i := 378) (by decide +kernel)
theorem lX6_17 : nw_ml RX6 17 mX6_isFull := tb_in (i := 382) (by decide +kernel)
theorem lL_36 : nw_ml RL 36 mX9_sea := tb_in (i := 383) (by decide +kernel)
theorem lX9_120 : nw_ml RX9 120 mX6_read := tb_in (i := 387) (by decide +kernel)
theorem lX6_38 : nw_ml RX6 38 mX8_begin := tb_in (i := 391) (by decide +kernel)
theorem lX6_43 : nw_ml RX6 43 mX6_readBar := tb_in (i := 396) (by decide +kernel)
theorem lX6_60 : nw_ml RX6 60 mX6_passes := tb_in (i := 400) (by decide +kernel)
theorem lX6_80 : nw_ml RX6 80 mX6_at := tb_in (i := 404) (by decide +kernel)
theorem lX6_89 : nw_ml RX6 89 mX6_fails := tb_in (i := 408) (by decide +kernel)
theorem lX6_64 : nw_ml RX6 64 mX6_readPair := tb_in (i := 412) (by decide +kernel)
theorem lX6_98 : nw_ml RX6 98 mX6_number := tb_in (i := 416) (by decide +kernel)
theorem lX6_113 : nw_ml RX6 113 mX6_isFigure := tb_in (i := 420) (by decide +kernel)
theorem lX6_47 : nw_ml RX6 47 mX6_readSwells := tb_in (i := 423) (by decide +kernel)
theorem lX6_84 : nw_ml RX6 84 mX4_toldBy := tb_in (i := 427) (by decide +kernel)
theorem lX6_50 : nw_ml RX6 50 mX6_readTowers := tb_in (i := 430) (by decide +kernel)
theorem lX6_54 : nw_ml RX6 54 mX6_readShips := tb_in (i := 434) (by decide +kernel)
theorem lX6_57 : nw_ml RX6 57 mX6_isAtEnd := tb_in (i := 438) (by decide +kernel)
theorem lX9_124 : nw_ml RX9 124 mX6_empty := tb_in (i := 442) (by decide +kernel)
theorem lX9_127 : nw_ml RX9 127 mX6_faultNumber := tb_in (i := 446) (by decide +kernel)
theorem lX9_136 : nw_ml RX9 136 mX6_faultPlace := tb_in (i := 451) (by decide +kernel)
theorem lX9_139 : nw_ml RX9 139 mX2_become := tb_in (i := 455) (by decide +kernel)
theorem lX9_143 : nw_ml RX9 143 mX8_become := tb_in (i := 460) (by decide +kernel)
theorem lX9_146 : nw_ml RX9 146 mX0_forgetAll := tb_in (i := 465) (by decide +kernel)
theorem lL_41 : nw_ml RL 41 mX9_fault := tb_in (i := 469) (by decide +kernel)
theorem lL_45 : nw_ml RL 45 mX9_waves := tb_in (i := 473) (by decide +kernel)
theorem lX9_160 : nw_ml RX9 160 mX0_keep := tb_in (i := 478) (by decide +kernel)
theorem lX0_20 : nw_ml RX0 20 mX8_become := tb_in (i := 482) (by decide +kernel)
theorem lX9_163 : nw_ml RX9 163 mX8_comeInBy := tb_in (i := 486) (by decide +kernel)
theorem lX8_47 : nw_ml RX8 47 mX2_kindIn := tb_in (i := 490) (by decide +kernel)
theorem lX2_44 : nw_ml RX2 44 mX2_swellOf := tb_in (i := 494) (by decide +kernel)
theorem lX8_51 : nw_ml RX8 51 mX2_waterIn := tb_in (i := 498) (by decide +kernel)
theorem lX2_62 : nw_ml RX2 62 mX2_depthIn := tb_in (i := 502) (by decide +kernel)
theorem lX2_65 : nw_ml RX2 65 mX2_liftOfSwell := tb_in (i := 509) (by decide +kernel)
theorem lX2_59 : nw_ml RX2 59 mX2_liftOf := tb_in (i := 513) (by decide +kernel)
theorem lX8_54 : nw_ml RX8 54 mX8_comeIn := tb_in (i := 516) (by decide +kernel)
theorem lX8_61 : nw_ml RX8 61 mX2_stepOf := tb_in (i := 520) (by decide +kernel)
theorem lX2_48 : nw_ml RX2 48 mX4_stepOf := tb_in (i := 524) (by decide +kernel)
theorem lX8_69 : nw_ml RX8 69 mX8_cross := tb_in (i := 530) (by decide +kernel)
theorem lL_49 : nw_ml RL 49 mX9_slip := tb_in (i := 534) (by decide +kernel)
theorem lX9_167 : nw_ml RX9 167 mX9_isTower := tb_in (i := 538) (by decide +kernel)
theorem lX9_170 : nw_ml RX9 170 mX8_slipBy := tb_in (i := 542) (by decide +kernel)
theorem lL_54 : nw_ml RL 54 mX9_law := tb_in (i := 547) (by decide +kernel)
theorem lL_58 : nw_ml RL 58 mX9_change := tb_in (i := 551) (by decide +kernel)
theorem lX9_177 : nw_ml RX9 177 mX9_isShip := tb_in (i := 555) (by decide +kernel)
theorem lX9_180 : nw_ml RX9 180 mX8_placeOf := tb_in (i := 559) (by decide +kernel)
theorem lL_62 : nw_ml RL 62 mX9_heeds := tb_in (i := 563) (by decide +kernel)
theorem lX9_187 : nw_ml RX9 187 mX8_waits := tb_in (i := 567) (by decide +kernel)
theorem lL_66 : nw_ml RL 66 mX9_undo := tb_in (i := 571) (by decide +kernel)
theorem lX9_196 : nw_ml RX9 196 mX0_takeBack := tb_in (i := 575) (by decide +kernel)
theorem lL_70 : nw_ml RL 70 mX9_ship := tb_in (i := 579) (by decide +kernel)
theorem lL_74 : nw_ml RL 74 mX9_tower := tb_in (i := 583) (by decide +kernel)
theorem lX9_214 : nw_ml RX9 214 mX8_howManyWaitFor := tb_in (i := 587) (by decide +kernel)
theorem lL_78 : nw_ml RL 78 mX9_wave := tb_in (i := 591) (by decide +kernel)
theorem lX9_218 : nw_ml RX9 218 mX2_swellOf := tb_in (i := 595) (by decide +kernel)
theorem lX9_224 : nw_ml RX9 224 mX2_liftOfSwell := tb_in (i := 596) (by decide +kernel)
theorem lX9_227 : nw_ml RX9 227 mX2_waterIn := tb_in (i := 597) (by decide +kernel)
theorem lL_82 : nw_ml RL 82 mX9_ahead := tb_in (i := 598) (by decide +kernel)
theorem lX9_233 : nw_ml RX9 233 mX9_foretell := tb_in (i := 602) (by decide +kernel)
theorem lX9_267 : nw_ml RX9 267 mX8_pass := tb_in (i := 606) (by decide +kernel)
theorem lX8_43 : nw_ml RX8 43 mX8_comeInBy := tb_in (i := 610) (by decide +kernel)
theorem lX9_237 : nw_ml RX9 237 mX8_howMany := tb_in (i := 611) (by decide +kernel)
theorem lL_86 : nw_ml RL 86 mX9_shipAhead := tb_in (i := 615) (by decide +kernel)
theorem lL_90 : nw_ml RL 90 mX9_towerAhead := tb_in (i := 619) (by decide +kernel)
theorem lL_94 : nw_ml RL 94 mX9_called := tb_in (i := 623) (by decide +kernel)
theorem lX9_240 : nw_ml RX9 240 mX2_kindIn := tb_in (i := 627) (by decide +kernel)
theorem lX9_243 : nw_ml RX9 243 mX2_stepOf := tb_in (i := 628) (by decide +kernel)
theorem lX9_246 : nw_ml RX9 246 mX9_calls := tb_in (i := 629) (by decide +kernel)
theorem lL_98 : nw_ml RL 98 mX9_fit := tb_in (i := 631) (by decide +kernel)
theorem lL_102 : nw_ml RL 102 mX9_highest := tb_in (i := 635) (by decide +kernel)
theorem lL_106 : nw_ml RL 106 mX9_order := tb_in (i := 639) (by decide +kernel)
theorem lX9_253 : nw_ml RX9 253 mX5_listen := tb_in (i := 643) (by decide +kernel)
theorem lX5_41 : nw_ml RX5 41 mX2_kindIn := tb_in (i := 647) (by decide +kernel)
theorem lX5_45 : nw_ml RX5 45 mX2_stepOf := tb_in (i := 648) (by decide +kernel)
theorem lX5_58 : nw_ml RX5 58 mX2_waterIn := tb_in (i := 650) (by decide +kernel)
theorem lX9_257 : nw_ml RX9 257 mX5_search := tb_in (i := 651) (by decide +kernel)
theorem lX5_67 : nw_ml RX5 67 mX5_howManyCross := tb_in (i := 655) (by decide +kernel)
theorem lX5_84 : nw_ml RX5 84 mX8_waits := tb_in (i := 659) (by decide +kernel)
theorem lX5_77 : nw_ml RX5 77 mX5_goOn := tb_in (i := 661) (by decide +kernel)
theorem lX5_90 : nw_ml RX5 90 mX5_swap := tb_in (i := 665) (by decide +kernel)
theorem lL_110 : nw_ml RL 110 mX9_laws := tb_in (i := 669) (by decide +kernel)
theorem lL_114 : nw_ml RL 114 mX9_bribe := tb_in (i := 673) (by decide +kernel)
theorem lX9_271 : nw_ml RX9 271 mX8_isOverAheadOf := tb_in (i := 677) (by decide +kernel)
theorem lL_118 : nw_ml RL 118 mX9_heed := tb_in (i := 681) (by decide +kernel)
theorem lL_122 : nw_ml RL 122 mX9_agreed := tb_in (i := 685) (by decide +kernel)
theorem lL_126 : nw_ml RL 126 mX9_log := tb_in (i := 689) (by decide +kernel)
theorem lX9_277 : nw_ml RX9 277 mX7_rises := tb_in (i := 693) (by decide +kernel)
theorem lX9_281 : nw_ml RX9 281 mX9_fitsLog := tb_in (i := 697) (by decide +kernel)
theorem lX9_339 : nw_ml RX9 339 mX7_item := tb_in (i := 701) (by decide +kernel)
theorem lX7_29 : nw_ml RX7 29 mX7_hasPlaces := tb_in (i := 705) (by decide +kernel)
theorem lX9_342 : nw_ml RX9 342 mX4_stepOf := tb_in (i := 707) (by decide +kernel)
theorem lL_131 : nw_ml RL 131 mX9_wreck := tb_in (i := 708) (by decide +kernel)
theorem lL_135 : nw_ml RL 135 mX9_season := tb_in (i := 712) (by decide +kernel)
theorem lX9_293 : nw_ml RX9 293 mX2_depthIn := tb_in (i := 721) (by decide +kernel)
theorem lX9_296 : nw_ml RX9 296 mX2_liftOf := tb_in (i := 722) (by decide +kernel)
theorem lX9_299 : nw_ml RX9 299 mX8_comeIn := tb_in (i := 723) (by decide +kernel)
theorem lL_139 : nw_ml RL 139 mX9_image := tb_in (i := 724) (by decide +kernel)
theorem lX9_303 : nw_ml RX9 303 mX3_keep := tb_in (i := 728) (by decide +kernel)
theorem lX3_23 : nw_ml RX3 23 mX2_become := tb_in (i := 732) (by decide +kernel)
theorem lX3_27 : nw_ml RX3 27 mX8_become := tb_in (i := 733) (by decide +kernel)
theorem lL_143 : nw_ml RL 143 mX9_restore := tb_in (i := 734) (by decide +kernel)
theorem lL_147 : nw_ml RL 147 mX9_kind := tb_in (i := 738) (by decide +kernel)
theorem lX9_312 : nw_ml RX9 312 mX9_isSwell := tb_in (i := 742) (by decide +kernel)
theorem lL_151 : nw_ml RL 151 mX9_as := tb_in (i := 746) (by decide +kernel)
theorem lX9_317 : nw_ml RX9 317 mX4_isA := tb_in (i := 750) (by decide +kernel)
theorem lX4_13 : nw_ml RX4 13 mX4_next := tb_in (i := 755) (by decide +kernel)
theorem lL_155 : nw_ml RL 155 mX9_ask := tb_in (i := 758) (by decide +kernel)
theorem lX9_320 : nw_ml RX9 320 mX1_answer := tb_in (i := 762) (by decide +kernel)
theorem lX1_31 : nw_ml RX1 31 mX2_liftOfSwell := tb_in (i := 766) (by decide +kernel)
theorem lX1_41 : nw_ml RX1 41 mX1_asked := tb_in (i := 767) (by decide +kernel)
theorem lX1_50 : nw_ml RX1 50 mX1_given := tb_in (i := 773) (by decide +kernel)
theorem lX1_56 : nw_ml RX1 56 mX1_leave := tb_in (i := 777) (by decide +kernel)
theorem lX1_53 : nw_ml RX1 53 mX4_next := tb_in (i := 781) (by decide +kernel)
theorem lL_159 : nw_ml RL 159 mX9_trace := tb_in (i := 782) (by decide +kernel)
theorem lL_163 : nw_ml RL 163 mX9_count := tb_in (i := 786) (by decide +kernel)
theorem lX9_329 : nw_ml RX9 329 mX7_howManyThere := tb_in (i := 790) (by decide +kernel)
theorem lX7_34 : nw_ml RX7 34 mX7_isMissing := tb_in (i := 794) (by decide +kernel)
theorem lL_167 : nw_ml RL 167 mX9_status := tb_in (i := 795) (by decide +kernel)
theorem lL_12 : nw_ml RL 12 mX10_init := tb_in (i := 801) (by decide +kernel)
theorem lL_17 : nw_ml RL 17 mX10_row := tb_in (i := 894) (by decide +kernel)
theorem lX10_73 : nw_ml RX10 73 mX10_isRow := tb_in (i := 898) (by decide +kernel)
theorem lX10_64 : nw_ml RX10 64 mX10_in := tb_in (i := 902) (by decide +kernel)
theorem lX10_80 : nw_ml RX10 80 mX10_finds := tb_in (i := 907) (by decide +kernel)
theorem lX10_84 : nw_ml RX10 84 mX10_well := tb_in (i := 912) (by decide +kernel)
theorem lL_21 : nw_ml RL 21 mX10_set := tb_in (i := 916) (by decide +kernel)
theorem lL_26 : nw_ml RL 26 mX10_copy := tb_in (i := 920) (by decide +kernel)
theorem lL_31 : nw_ml RL 31 mX10_drop := tb_in (i := 924) (by decide +kernel)
theorem lL_35 : nw_ml RL 35 mX10_feed := tb_in (i := 928) (by decide +kernel)
theorem lL_40 : nw_ml RL 40 mX10_sea := tb_in (i := 934) (by decide +kernel)
theorem lX10_158 : nw_ml RX10 158 mX10_reads := tb_in (i := 938) (by decide +kernel)
theorem lX10_126 : nw_ml RX10 126 mX10_scans := tb_in (i := 942) (by decide +kernel)
theorem lX10_109 : nw_ml RX10 109 mX10_isFigure := tb_in (i := 946) (by decide +kernel)
theorem lX10_146 : nw_ml RX10 146 mX10_isLetter := tb_in (i := 954) (by decide +kernel)
theorem lX10_120 : nw_ml RX10 120 mX10_faults := tb_in (i := 958) (by decide +kernel)
theorem lX10_142 : nw_ml RX10 142 mX10_two := tb_in (i := 962) (by decide +kernel)
theorem lX10_129 : nw_ml RX10 129 mX10_takes := tb_in (i := 966) (by decide +kernel)
theorem lX10_133 : nw_ml RX10 133 mX10_signs := tb_in (i := 970) (by decide +kernel)
theorem lX10_139 : nw_ml RX10 139 mX10_sortOf := tb_in (i := 974) (by decide +kernel)
theorem lX10_149 : nw_ml RX10 149 mX10_swell := tb_in (i := 977) (by decide +kernel)
theorem lX10_152 : nw_ml RX10 152 mX10_turret := tb_in (i := 981) (by decide +kernel)
theorem lX10_155 : nw_ml RX10 155 mX10_vessel := tb_in (i := 985) (by decide +kernel)
theorem lL_44 : nw_ml RL 44 mX10_fault := tb_in (i := 991) (by decide +kernel)
theorem lL_48 : nw_ml RL 48 mX10_waves := tb_in (i := 995) (by decide +kernel)
theorem lX10_196 : nw_ml RX10 196 mX10_isSea := tb_in (i := 999) (by decide +kernel)
theorem lX10_202 : nw_ml RX10 202 mX10_remembers := tb_in (i := 1005) (by decide +kernel)
theorem lX10_205 : nw_ml RX10 205 mX10_asNow := tb_in (i := 1009) (by decide +kernel)
theorem lX10_208 : nw_ml RX10 208 mX10_waves0 := tb_in (i := 1013) (by decide +kernel)
theorem lX10_176 : nw_ml RX10 176 mX10_sortIn := tb_in (i := 1017) (by decide +kernel)
theorem lX10_179 : nw_ml RX10 179 mX10_heightIn := tb_in (i := 1021) (by decide +kernel)
theorem lX10_192 : nw_ml RX10 192 mX10_comes := tb_in (i := 1025) (by decide +kernel)
theorem lX10_182 : nw_ml RX10 182 mX10_water := tb_in (i := 1029) (by decide +kernel)
theorem lX10_169 : nw_ml RX10 169 mX10_most := tb_in (i := 1033) (by decide +kernel)
theorem lX10_173 : nw_ml RX10 173 mX10_lift := tb_in (i := 1036) (by decide +kernel)
theorem lX10_186 : nw_ml RX10 186 mX10_counted := tb_in (i := 1039) (by decide +kernel)
theorem lX10_189 : nw_ml RX10 189 mX10_isCalled := tb_in (i := 1042) (by decide +kernel)
theorem lL_53 : nw_ml RL 53 mX10_slip := tb_in (i := 1045) (by decide +kernel)
theorem lX10_212 : nw_ml RX10 212 mX10_isTower := tb_in (i := 1049) (by decide +kernel)
theorem lL_57 : nw_ml RL 57 mX10_law := tb_in (i := 1055) (by decide +kernel)
theorem lL_61 : nw_ml RL 61 mX10_change := tb_in (i := 1060) (by decide +kernel)
theorem lX10_221 : nw_ml RX10 221 mX10_isShip := tb_in (i := 1064) (by decide +kernel)
theorem lX10_224 : nw_ml RX10 224 mX10_placeOf := tb_in (i := 1068) (by decide +kernel)
theorem lL_65 : nw_ml RL 65 mX10_heeds := tb_in (i := 1072) (by decide +kernel)
theorem lL_69 : nw_ml RL 69 mX10_undo := tb_in (i := 1076) (by decide +kernel)
theorem lL_73 : nw_ml RL 73 mX10_ship := tb_in (i := 1080) (by decide +kernel)
theorem lL_77 : nw_ml RL 77 mX10_tower := tb_in (i := 1085) (by decide +kernel)
theorem lL_81 : nw_ml RL 81 mX10_wave := tb_in (i := 1089) (by decide +kernel)
theorem lX10_233 : nw_ml RX10 233 mX10_waterIn := tb_in (i := 1095) (by decide +kernel)
theorem lL_85 : nw_ml RL 85 mX10_ahead := tb_in (i := 1099) (by decide +kernel)
theorem lX10_238 : nw_ml RX10 238 mX10_many := tb_in (i := 1104) (by decide +kernel)
theorem lL_89 : nw_ml RL 89 mX10_shipAhead := tb_in (i := 1108) (by decide +kernel)
theorem lL_93 : nw_ml RL 93 mX10_towerAhead := tb_in (i := 1112) (by decide +kernel)
theorem lL_97 : nw_ml RL 97 mX10_called := tb_in (i := 1116) (by decide +kernel)
theorem lL_101 : nw_ml RL 101 mX10_fit := tb_in (i := 1120) (by decide +kernel)
theorem lL_105 : nw_ml RL 105 mX10_highest := tb_in (i := 1124) (by decide +kernel)
theorem lL_109 : nw_ml RL 109 mX10_order := tb_in (i := 1129) (by decide +kernel)
theorem lX10_247 : nw_ml RX10 247 mX10_lays := tb_in (i := 1135) (by decide +kernel)
theorem lL_113 : nw_ml RL 113 mX10_laws := tb_in (i := 1139) (by decide +kernel)
theorem lL_117 : nw_ml RL 117 mX10_bribe := tb_in (i := 1143) (by decide +kernel)
theorem lL_121 : nw_ml RL 121 mX10_heed := tb_in (i := 1147) (by decide +kernel)
theorem lL_125 : nw_ml RL 125 mX10_agreed := tb_in (i := 1151) (by decide +kernel)
theorem lX10_250 : nw_ml RX10 250 mX10_callers := tb_in (i := 1155) (by decide +kernel)
theorem lL_130 : nw_ml RL 130 mX10_log := tb_in (i := 1159) (by decide +kernel)
theorem lX10_258 : nw_ml RX10 258 mX10_hasCalled := tb_in (i := 1165) (by decide +kernel)
theorem lL_134 : nw_ml RL 134 mX10_wreck := tb_in (i := 1169) (by decide +kernel)
theorem lL_138 : nw_ml RL 138 mX10_season := tb_in (i := 1174) (by decide +kernel)
theorem lL_142 : nw_ml RL 142 mX10_image := tb_in (i := 1183) (by decide +kernel)
theorem lL_146 : nw_ml RL 146 mX10_restore := tb_in (i := 1187) (by decide +kernel)
theorem lL_150 : nw_ml RL 150 mX10_kind := tb_in (i := 1191) (by decide +kernel)
theorem lX10_274 : nw_ml RX10 274 mX10_isSwell := tb_in (i := 1195) (by decide +kernel)
theorem lL_154 : nw_ml RL 154 mX10_as := tb_in (i := 1199) (by decide +kernel)
theorem lL_158 : nw_ml RL 158 mX10_ask := tb_in (i := 1203) (by decide +kernel)
theorem lX10_286 : nw_ml RX10 286 mX10_sizeOf := tb_in (i := 1207) (by decide +kernel)
theorem lX10_280 : nw_ml RX10 280 mX10_leaves := tb_in (i := 1211) (by decide +kernel)
theorem lX10_283 : nw_ml RX10 283 mX10_plainMark := tb_in (i := 1215) (by decide +kernel)
theorem lX10_289 : nw_ml RX10 289 mX10_markOf := tb_in (i := 1219) (by decide +kernel)
theorem lL_162 : nw_ml RL 162 mX10_trace := tb_in (i := 1223) (by decide +kernel)
theorem lL_166 : nw_ml RL 166 mX10_count := tb_in (i := 1227) (by decide +kernel)
theorem lL_170 : nw_ml RL 170 mX10_status := tb_in (i := 1232) (by decide +kernel)
theorem lX9_18 : nw_mn RX9 18 mX6_init := ⟨"NinthWave", List.mem_of_getElem? (i := 0) rfl⟩
theorem lX9_25 : nw_mn RX9 25 mX2_init := ⟨"NinthWave", List.mem_of_getElem? (i := 1) rfl⟩
theorem lX9_35 : nw_mn RX9 35 mX8_init := ⟨"NinthWave", List.mem_of_getElem? (i := 2) rfl⟩
theorem lX0_15 : nw_mn RX0 15 mX8_init := ⟨"NinthWave", List.mem_of_getElem? (i := 3) rfl⟩
theorem lX9_52 : nw_mn RX9 52 mX5_init := ⟨"NinthWave", List.mem_of_getElem? (i := 4) rfl⟩
theorem lX9_59 : nw_mn RX9 59 mX1_init := ⟨"NinthWave", List.mem_of_getElem? (i := 5) rfl⟩
theorem lX9_70 : nw_mn RX9 70 mX3_init := ⟨"NinthWave", List.mem_of_getElem? (i := 6) rfl⟩
theorem lX3_9 : nw_mn RX3 9 mX2_init := ⟨"NinthWave", List.mem_of_getElem? (i := 7) rfl⟩
theorem lX3_18 : nw_mn RX3 18 mX8_init := ⟨"NinthWave", List.mem_of_getElem? (i := 8) rfl⟩
theorem lX8_65 : nw_mn RX8 65 mX9_calls := ⟨"NinthWave", List.mem_of_getElem? (i := 9) rfl⟩
theorem lX5_52 : nw_mn RX5 52 mX9_calls := ⟨"NinthWave", List.mem_of_getElem? (i := 10) rfl⟩
abbrev nw_cl : List vw_C := [(RX0, TX0, 3), (RX1, TX1, 6), (RX2, TX2, 9), (RX3, TX3, 3), (RX5, TX5, 6), (RX6, TX6, 6), (RX7, TX7, 3), (RX8, TX8, 7), (RX9, TX9, 13), (RX10, TX10, 29)]
/-- field k of the class of number ci, by entry i of own's table -/
def nw_fl (own : String) (i ci k : Nat) : Prop := ∃ (C : String) (T : u_T) (N : Nat), nw_cl[ci]? = some (C, T, N) ∧ k < N ∧ (T k).1 = C ∧ Cond.fieldLink own i C (T k).2.1 (T k).2.2.1 ∈ nw_gw
theorem fX7_11 : nw_fl RX7 11 6 0 := ⟨RX7, TX7, 3, rfl, by decide, rfl, tb_in (i := 30) (by decide +kernel)⟩
theorem fX7_15 : nw_fl RX7 15 6 1 := ⟨RX7, TX7, 3, rfl, by decide, rfl, tb_in (i := 31) (by decide +kernel)⟩
theorem fX7_20 : nw_fl RX7 20 6 2 := ⟨RX7, TX7, 3, rfl, by decide, rfl, tb_in (i := 32) (by decide +kernel)⟩
theorem fX6_9 : nw_fl RX6 9 5 0 := ⟨RX6, TX6, 6, rfl, by decide, rfl, tb_in (i := 47) (by decide +kernel)⟩
theorem fX6_13 : nw_fl RX6 13 5 1 := ⟨RX6, TX6, 6, rfl, by decide, rfl, tb_in (i := 48) (by decide +kernel)⟩
theorem fX9_332 : nw_fl RX9 332 5 1 := ⟨RX6, TX6, 6, rfl, by decide, rfl, tb_in (i := 49) (by decide +kernel)⟩
theorem fX6_24 : nw_fl RX6 24 5 2 := ⟨RX6, TX6, 6, rfl, by decide, rfl, tb_in (i := 50) (by decide +kernel)⟩
theorem fX6_21 : nw_fl RX6 21 5 3 := ⟨RX6, TX6, 6, rfl, by decide, rfl, tb_in (i := 51) (by decide +kernel)⟩
theorem fX6_68 : nw_fl RX6 68 5 4 := ⟨RX6, TX6, 6, rfl, by decide, rfl, tb_in (i := 52) (by decide +kernel)⟩
theorem fX6_74 : nw_fl RX6 74 5 5 := ⟨RX6, TX6, 6, rfl, by decide, rfl, tb_in (i := 53) (by decide +kernel)⟩
theorem fX2_22 : nw_fl RX2 22 2 0 := ⟨RX2, TX2, 9, rfl, by decide, rfl, tb_in (i := 73) (by decide +kernel)⟩
theorem fX6_71 : nw_fl RX6 71 2 0 := ⟨RX2, TX2, 9, rfl, by decide, rfl, tb_in (i := 74) (by decide +kernel)⟩
theorem fX2_26 : nw_fl RX2 26 2 1 := ⟨RX2, TX2, 9, rfl, by decide, rfl, tb_in (i := 75) (by decide +kernel)⟩
theorem fX6_77 : nw_fl RX6 77 2 1 := ⟨RX2, TX2, 9, rfl, by decide, rfl, tb_in (i := 76) (by decide +kernel)⟩
theorem fX2_29 : nw_fl RX2 29 2 2 := ⟨RX2, TX2, 9, rfl, by decide, rfl, tb_in (i := 77) (by decide +kernel)⟩
theorem fX6_27 : nw_fl RX6 27 2 2 := ⟨RX2, TX2, 9, rfl, by decide, rfl, tb_in (i := 78) (by decide +kernel)⟩
theorem fX9_153 : nw_fl RX9 153 2 2 := ⟨RX2, TX2, 9, rfl, by decide, rfl, tb_in (i := 79) (by decide +kernel)⟩
theorem fX5_29 : nw_fl RX5 29 2 3 := ⟨RX2, TX2, 9, rfl, by decide, rfl, tb_in (i := 80) (by decide +kernel)⟩
theorem fX2_32 : nw_fl RX2 32 2 3 := ⟨RX2, TX2, 9, rfl, by decide, rfl, tb_in (i := 81) (by decide +kernel)⟩
theorem fX8_58 : nw_fl RX8 58 2 3 := ⟨RX2, TX2, 9, rfl, by decide, rfl, tb_in (i := 82) (by decide +kernel)⟩
theorem fX6_32 : nw_fl RX6 32 2 3 := ⟨RX2, TX2, 9, rfl, by decide, rfl, tb_in (i := 83) (by decide +kernel)⟩
theorem fX9_274 : nw_fl RX9 274 2 3 := ⟨RX2, TX2, 9, rfl, by decide, rfl, tb_in (i := 84) (by decide +kernel)⟩
theorem fX2_35 : nw_fl RX2 35 2 4 := ⟨RX2, TX2, 9, rfl, by decide, rfl, tb_in (i := 85) (by decide +kernel)⟩
theorem fX5_64 : nw_fl RX5 64 2 4 := ⟨RX2, TX2, 9, rfl, by decide, rfl, tb_in (i := 86) (by decide +kernel)⟩
theorem fX8_73 : nw_fl RX8 73 2 4 := ⟨RX2, TX2, 9, rfl, by decide, rfl, tb_in (i := 87) (by decide +kernel)⟩
theorem fX6_35 : nw_fl RX6 35 2 4 := ⟨RX2, TX2, 9, rfl, by decide, rfl, tb_in (i := 88) (by decide +kernel)⟩
theorem fX9_250 : nw_fl RX9 250 2 4 := ⟨RX2, TX2, 9, rfl, by decide, rfl, tb_in (i := 89) (by decide +kernel)⟩
theorem fX2_9 : nw_fl RX2 9 2 5 := ⟨RX2, TX2, 9, rfl, by decide, rfl, tb_in (i := 90) (by decide +kernel)⟩
theorem fX1_17 : nw_fl RX1 17 2 5 := ⟨RX2, TX2, 9, rfl, by decide, rfl, tb_in (i := 91) (by decide +kernel)⟩
theorem fX6_92 : nw_fl RX6 92 2 5 := ⟨RX2, TX2, 9, rfl, by decide, rfl, tb_in (i := 92) (by decide +kernel)⟩
theorem fX9_230 : nw_fl RX9 230 2 5 := ⟨RX2, TX2, 9, rfl, by decide, rfl, tb_in (i := 93) (by decide +kernel)⟩
theorem fX2_13 : nw_fl RX2 13 2 6 := ⟨RX2, TX2, 9, rfl, by decide, rfl, tb_in (i := 94) (by decide +kernel)⟩
theorem fX1_25 : nw_fl RX1 25 2 6 := ⟨RX2, TX2, 9, rfl, by decide, rfl, tb_in (i := 95) (by decide +kernel)⟩
theorem fX6_95 : nw_fl RX6 95 2 6 := ⟨RX2, TX2, 9, rfl, by decide, rfl, tb_in (i := 96) (by decide +kernel)⟩
theorem fX9_221 : nw_fl RX9 221 2 6 := ⟨RX2, TX2, 9, rfl, by decide, rfl, tb_in (i := 97) (by decide +kernel)⟩
theorem fX2_16 : nw_fl RX2 16 2 7 := ⟨RX2, TX2, 9, rfl, by decide, rfl, tb_in (i := 98) (by decide +kernel)⟩
theorem fX6_101 : nw_fl RX6 101 2 7 := ⟨RX2, TX2, 9, rfl, by decide, rfl, tb_in (i := 99) (by decide +kernel)⟩
theorem fX9_208 : nw_fl RX9 208 2 7 := ⟨RX2, TX2, 9, rfl, by decide, rfl, tb_in (i := 100) (by decide +kernel)⟩
theorem fX2_19 : nw_fl RX2 19 2 8 := ⟨RX2, TX2, 9, rfl, by decide, rfl, tb_in (i := 101) (by decide +kernel)⟩
theorem fX5_87 : nw_fl RX5 87 2 8 := ⟨RX2, TX2, 9, rfl, by decide, rfl, tb_in (i := 102) (by decide +kernel)⟩
theorem fX8_76 : nw_fl RX8 76 2 8 := ⟨RX2, TX2, 9, rfl, by decide, rfl, tb_in (i := 103) (by decide +kernel)⟩
theorem fX6_107 : nw_fl RX6 107 2 8 := ⟨RX2, TX2, 9, rfl, by decide, rfl, tb_in (i := 104) (by decide +kernel)⟩
theorem fX9_199 : nw_fl RX9 199 2 8 := ⟨RX2, TX2, 9, rfl, by decide, rfl, tb_in (i := 105) (by decide +kernel)⟩
theorem fX8_33 : nw_fl RX8 33 7 0 := ⟨RX8, TX8, 7, rfl, by decide, rfl, tb_in (i := 131) (by decide +kernel)⟩
theorem fX5_38 : nw_fl RX5 38 7 0 := ⟨RX8, TX8, 7, rfl, by decide, rfl, tb_in (i := 132) (by decide +kernel)⟩
theorem fX9_157 : nw_fl RX9 157 7 0 := ⟨RX8, TX8, 7, rfl, by decide, rfl, tb_in (i := 133) (by decide +kernel)⟩
theorem fX8_9 : nw_fl RX8 9 7 1 := ⟨RX8, TX8, 7, rfl, by decide, rfl, tb_in (i := 134) (by decide +kernel)⟩
theorem fX5_49 : nw_fl RX5 49 7 1 := ⟨RX8, TX8, 7, rfl, by decide, rfl, tb_in (i := 135) (by decide +kernel)⟩
theorem fX9_174 : nw_fl RX9 174 7 1 := ⟨RX8, TX8, 7, rfl, by decide, rfl, tb_in (i := 136) (by decide +kernel)⟩
theorem fX8_17 : nw_fl RX8 17 7 2 := ⟨RX8, TX8, 7, rfl, by decide, rfl, tb_in (i := 137) (by decide +kernel)⟩
theorem fX5_33 : nw_fl RX5 33 7 2 := ⟨RX8, TX8, 7, rfl, by decide, rfl, tb_in (i := 138) (by decide +kernel)⟩
theorem fX6_104 : nw_fl RX6 104 7 2 := ⟨RX8, TX8, 7, rfl, by decide, rfl, tb_in (i := 139) (by decide +kernel)⟩
theorem fX9_211 : nw_fl RX9 211 7 2 := ⟨RX8, TX8, 7, rfl, by decide, rfl, tb_in (i := 140) (by decide +kernel)⟩
theorem fX8_21 : nw_fl RX8 21 7 3 := ⟨RX8, TX8, 7, rfl, by decide, rfl, tb_in (i := 141) (by decide +kernel)⟩
theorem fX9_183 : nw_fl RX9 183 7 3 := ⟨RX8, TX8, 7, rfl, by decide, rfl, tb_in (i := 142) (by decide +kernel)⟩
theorem fX8_24 : nw_fl RX8 24 7 4 := ⟨RX8, TX8, 7, rfl, by decide, rfl, tb_in (i := 143) (by decide +kernel)⟩
theorem fX5_81 : nw_fl RX5 81 7 4 := ⟨RX8, TX8, 7, rfl, by decide, rfl, tb_in (i := 144) (by decide +kernel)⟩
theorem fX6_110 : nw_fl RX6 110 7 4 := ⟨RX8, TX8, 7, rfl, by decide, rfl, tb_in (i := 145) (by decide +kernel)⟩
theorem fX9_190 : nw_fl RX9 190 7 4 := ⟨RX8, TX8, 7, rfl, by decide, rfl, tb_in (i := 146) (by decide +kernel)⟩
theorem fX8_27 : nw_fl RX8 27 7 5 := ⟨RX8, TX8, 7, rfl, by decide, rfl, tb_in (i := 147) (by decide +kernel)⟩
theorem fX9_202 : nw_fl RX9 202 7 5 := ⟨RX8, TX8, 7, rfl, by decide, rfl, tb_in (i := 148) (by decide +kernel)⟩
theorem fX8_30 : nw_fl RX8 30 7 6 := ⟨RX8, TX8, 7, rfl, by decide, rfl, tb_in (i := 149) (by decide +kernel)⟩
theorem fX9_205 : nw_fl RX9 205 7 6 := ⟨RX8, TX8, 7, rfl, by decide, rfl, tb_in (i := 150) (by decide +kernel)⟩
theorem fX0_11 : nw_fl RX0 11 0 0 := ⟨RX0, TX0, 3, rfl, by decide, rfl, tb_in (i := 175) (by decide +kernel)⟩
theorem fX0_16 : nw_fl RX0 16 0 1 := ⟨RX0, TX0, 3, rfl, by decide, rfl, tb_in (i := 176) (by decide +kernel)⟩
theorem fX0_24 : nw_fl RX0 24 0 2 := ⟨RX0, TX0, 3, rfl, by decide, rfl, tb_in (i := 177) (by decide +kernel)⟩
theorem fX9_193 : nw_fl RX9 193 0 2 := ⟨RX0, TX0, 3, rfl, by decide, rfl, tb_in (i := 178) (by decide +kernel)⟩
theorem fX5_11 : nw_fl RX5 11 4 0 := ⟨RX5, TX5, 6, rfl, by decide, rfl, tb_in (i := 193) (by decide +kernel)⟩
theorem fX5_16 : nw_fl RX5 16 4 1 := ⟨RX5, TX5, 6, rfl, by decide, rfl, tb_in (i := 194) (by decide +kernel)⟩
theorem fX5_20 : nw_fl RX5 20 4 2 := ⟨RX5, TX5, 6, rfl, by decide, rfl, tb_in (i := 195) (by decide +kernel)⟩
theorem fX5_23 : nw_fl RX5 23 4 3 := ⟨RX5, TX5, 6, rfl, by decide, rfl, tb_in (i := 196) (by decide +kernel)⟩
theorem fX5_26 : nw_fl RX5 26 4 4 := ⟨RX5, TX5, 6, rfl, by decide, rfl, tb_in (i := 197) (by decide +kernel)⟩
theorem fX9_261 : nw_fl RX9 261 4 4 := ⟨RX5, TX5, 6, rfl, by decide, rfl, tb_in (i := 198) (by decide +kernel)⟩
theorem fX5_61 : nw_fl RX5 61 4 5 := ⟨RX5, TX5, 6, rfl, by decide, rfl, tb_in (i := 199) (by decide +kernel)⟩
theorem fX9_264 : nw_fl RX9 264 4 5 := ⟨RX5, TX5, 6, rfl, by decide, rfl, tb_in (i := 200) (by decide +kernel)⟩
theorem fX1_9 : nw_fl RX1 9 1 0 := ⟨RX1, TX1, 6, rfl, by decide, rfl, tb_in (i := 220) (by decide +kernel)⟩
theorem fX9_326 : nw_fl RX9 326 1 0 := ⟨RX1, TX1, 6, rfl, by decide, rfl, tb_in (i := 221) (by decide +kernel)⟩
theorem fX1_13 : nw_fl RX1 13 1 1 := ⟨RX1, TX1, 6, rfl, by decide, rfl, tb_in (i := 222) (by decide +kernel)⟩
theorem fX9_323 : nw_fl RX9 323 1 1 := ⟨RX1, TX1, 6, rfl, by decide, rfl, tb_in (i := 223) (by decide +kernel)⟩
theorem fX1_22 : nw_fl RX1 22 1 2 := ⟨RX1, TX1, 6, rfl, by decide, rfl, tb_in (i := 224) (by decide +kernel)⟩
theorem fX1_28 : nw_fl RX1 28 1 3 := ⟨RX1, TX1, 6, rfl, by decide, rfl, tb_in (i := 225) (by decide +kernel)⟩
theorem fX1_35 : nw_fl RX1 35 1 4 := ⟨RX1, TX1, 6, rfl, by decide, rfl, tb_in (i := 226) (by decide +kernel)⟩
theorem fX1_38 : nw_fl RX1 38 1 5 := ⟨RX1, TX1, 6, rfl, by decide, rfl, tb_in (i := 227) (by decide +kernel)⟩
theorem fX3_10 : nw_fl RX3 10 3 0 := ⟨RX3, TX3, 3, rfl, by decide, rfl, tb_in (i := 252) (by decide +kernel)⟩
theorem fX9_308 : nw_fl RX9 308 3 0 := ⟨RX3, TX3, 3, rfl, by decide, rfl, tb_in (i := 253) (by decide +kernel)⟩
theorem fX3_19 : nw_fl RX3 19 3 1 := ⟨RX3, TX3, 3, rfl, by decide, rfl, tb_in (i := 254) (by decide +kernel)⟩
theorem fX9_309 : nw_fl RX9 309 3 1 := ⟨RX3, TX3, 3, rfl, by decide, rfl, tb_in (i := 255) (by decide +kernel)⟩
theorem fX3_30 : nw_fl RX3 30 3 2 := ⟨RX3, TX3, 3, rfl, by decide, rfl, tb_in (i := 256) (by decide +kernel)⟩
theorem fX9_305 : nw_fl RX9 305 3 2 := ⟨RX3, TX3, 3, rfl, by decide, rfl, tb_in (i := 257) (by decide +kernel)⟩
theorem fX9_10 : nw_fl RX9 10 8 0 := ⟨RX9, TX9, 13, rfl, by decide, rfl, tb_in (i := 265) (by decide +kernel)⟩
theorem fX9_19 : nw_fl RX9 19 8 1 := ⟨RX9, TX9, 13, rfl, by decide, rfl, tb_in (i := 266) (by decide +kernel)⟩
theorem fX9_26 : nw_fl RX9 26 8 2 := ⟨RX9, TX9, 13, rfl, by decide, rfl, tb_in (i := 267) (by decide +kernel)⟩
theorem fX9_30 : nw_fl RX9 30 8 3 := ⟨RX9, TX9, 13, rfl, by decide, rfl, tb_in (i := 268) (by decide +kernel)⟩
theorem fX9_36 : nw_fl RX9 36 8 4 := ⟨RX9, TX9, 13, rfl, by decide, rfl, tb_in (i := 269) (by decide +kernel)⟩
theorem fX9_40 : nw_fl RX9 40 8 5 := ⟨RX9, TX9, 13, rfl, by decide, rfl, tb_in (i := 270) (by decide +kernel)⟩
theorem fX9_46 : nw_fl RX9 46 8 6 := ⟨RX9, TX9, 13, rfl, by decide, rfl, tb_in (i := 271) (by decide +kernel)⟩
theorem fX9_53 : nw_fl RX9 53 8 7 := ⟨RX9, TX9, 13, rfl, by decide, rfl, tb_in (i := 272) (by decide +kernel)⟩
theorem fX9_60 : nw_fl RX9 60 8 8 := ⟨RX9, TX9, 13, rfl, by decide, rfl, tb_in (i := 273) (by decide +kernel)⟩
theorem fX9_66 : nw_fl RX9 66 8 9 := ⟨RX9, TX9, 13, rfl, by decide, rfl, tb_in (i := 274) (by decide +kernel)⟩
theorem fX9_149 : nw_fl RX9 149 8 10 := ⟨RX9, TX9, 13, rfl, by decide, rfl, tb_in (i := 275) (by decide +kernel)⟩
theorem fX9_131 : nw_fl RX9 131 8 11 := ⟨RX9, TX9, 13, rfl, by decide, rfl, tb_in (i := 276) (by decide +kernel)⟩
theorem fX9_335 : nw_fl RX9 335 8 12 := ⟨RX9, TX9, 13, rfl, by decide, rfl, tb_in (i := 277) (by decide +kernel)⟩
theorem fX10_7 : nw_fl RX10 7 9 0 := ⟨RX10, TX10, 29, rfl, by decide, rfl, tb_in (i := 805) (by decide +kernel)⟩
theorem fX10_13 : nw_fl RX10 13 9 1 := ⟨RX10, TX10, 29, rfl, by decide, rfl, tb_in (i := 806) (by decide +kernel)⟩
theorem fX10_16 : nw_fl RX10 16 9 2 := ⟨RX10, TX10, 29, rfl, by decide, rfl, tb_in (i := 807) (by decide +kernel)⟩
theorem fX10_68 : nw_fl RX10 68 9 3 := ⟨RX10, TX10, 29, rfl, by decide, rfl, tb_in (i := 808) (by decide +kernel)⟩
theorem fX10_19 : nw_fl RX10 19 9 4 := ⟨RX10, TX10, 29, rfl, by decide, rfl, tb_in (i := 809) (by decide +kernel)⟩
theorem fX10_22 : nw_fl RX10 22 9 5 := ⟨RX10, TX10, 29, rfl, by decide, rfl, tb_in (i := 810) (by decide +kernel)⟩
theorem fX10_89 : nw_fl RX10 89 9 6 := ⟨RX10, TX10, 29, rfl, by decide, rfl, tb_in (i := 811) (by decide +kernel)⟩
theorem fX10_161 : nw_fl RX10 161 9 7 := ⟨RX10, TX10, 29, rfl, by decide, rfl, tb_in (i := 812) (by decide +kernel)⟩
theorem fX10_25 : nw_fl RX10 25 9 8 := ⟨RX10, TX10, 29, rfl, by decide, rfl, tb_in (i := 813) (by decide +kernel)⟩
theorem fX10_28 : nw_fl RX10 28 9 9 := ⟨RX10, TX10, 29, rfl, by decide, rfl, tb_in (i := 814) (by decide +kernel)⟩
theorem fX10_31 : nw_fl RX10 31 9 10 := ⟨RX10, TX10, 29, rfl, by decide, rfl, tb_in (i := 815) (by decide +kernel)⟩
theorem fX10_34 : nw_fl RX10 34 9 11 := ⟨RX10, TX10, 29, rfl, by decide, rfl, tb_in (i := 816) (by decide +kernel)⟩
theorem fX10_37 : nw_fl RX10 37 9 12 := ⟨RX10, TX10, 29, rfl, by decide, rfl, tb_in (i := 817) (by decide +kernel)⟩
theorem fX10_41 : nw_fl RX10 41 9 13 := ⟨RX10, TX10, 29, rfl, by decide, rfl, tb_in (i := 818) (by decide +kernel)⟩
theorem fX10_166 : nw_fl RX10 166 9 14 := ⟨RX10, TX10, 29, rfl, by decide, rfl, tb_in (i := 819) (by decide +kernel)⟩
theorem fX10_93 : nw_fl RX10 93 9 15 := ⟨RX10, TX10, 29, rfl, by decide, rfl, tb_in (i := 820) (by decide +kernel)⟩
theorem fX10_100 : nw_fl RX10 100 9 16 := ⟨RX10, TX10, 29, rfl, by decide, rfl, tb_in (i := 821) (by decide +kernel)⟩
theorem fX10_103 : nw_fl RX10 103 9 17 := ⟨RX10, TX10, 29, rfl, by decide, rfl, tb_in (i := 822) (by decide +kernel)⟩
theorem fX10_106 : nw_fl RX10 106 9 18 := ⟨RX10, TX10, 29, rfl, by decide, rfl, tb_in (i := 823) (by decide +kernel)⟩
theorem fX10_117 : nw_fl RX10 117 9 19 := ⟨RX10, TX10, 29, rfl, by decide, rfl, tb_in (i := 824) (by decide +kernel)⟩
theorem fX10_123 : nw_fl RX10 123 9 20 := ⟨RX10, TX10, 29, rfl, by decide, rfl, tb_in (i := 825) (by decide +kernel)⟩
theorem fX10_136 : nw_fl RX10 136 9 21 := ⟨RX10, TX10, 29, rfl, by decide, rfl, tb_in (i := 826) (by decide +kernel)⟩
theorem fX10_44 : nw_fl RX10 44 9 22 := ⟨RX10, TX10, 29, rfl, by decide, rfl, tb_in (i := 827) (by decide +kernel)⟩
theorem fX10_47 : nw_fl RX10 47 9 23 := ⟨RX10, TX10, 29, rfl, by decide, rfl, tb_in (i := 828) (by decide +kernel)⟩
theorem fX10_50 : nw_fl RX10 50 9 24 := ⟨RX10, TX10, 29, rfl, by decide, rfl, tb_in (i := 829) (by decide +kernel)⟩
theorem fX10_53 : nw_fl RX10 53 9 25 := ⟨RX10, TX10, 29, rfl, by decide, rfl, tb_in (i := 830) (by decide +kernel)⟩
theorem fX10_56 : nw_fl RX10 56 9 26 := ⟨RX10, TX10, 29, rfl, by decide, rfl, tb_in (i := 831) (by decide +kernel)⟩
theorem fX10_59 : nw_fl RX10 59 9 27 := ⟨RX10, TX10, 29, rfl, by decide, rfl, tb_in (i := 832) (by decide +kernel)⟩
theorem fX10_277 : nw_fl RX10 277 9 28 := ⟨RX10, TX10, 29, rfl, by decide, rfl, tb_in (i := 833) (by decide +kernel)⟩
theorem qX9_79 : Cond.constant RX9 79 (-1000001) ∈ nw_gw := tb_in (i := 316) (by decide +kernel)
theorem qX9_338 : Cond.constant RX9 338 (-1000010) ∈ nw_gw := tb_in (i := 321) (by decide +kernel)
theorem qX9_116 : Cond.constant RX9 116 (-1000003) ∈ nw_gw := tb_in (i := 377) (by decide +kernel)
theorem qX8_36 : Cond.constant RX8 36 (-1000000) ∈ nw_gw := tb_in (i := 395) (by decide +kernel)
theorem qX9_135 : Cond.constant RX9 135 (-1000100) ∈ nw_gw := tb_in (i := 450) (by decide +kernel)
theorem qX9_156 : Cond.constant RX9 156 (-1000002) ∈ nw_gw := tb_in (i := 477) (by decide +kernel)
theorem qX9_249 : Cond.constant RX9 249 (-1000000) ∈ nw_gw := tb_in (i := 630) (by decide +kernel)
theorem qX7_33 : Cond.constant RX7 33 (-1000000) ∈ nw_gw := tb_in (i := 706) (by decide +kernel)
theorem qX9_284 : Cond.constant RX9 284 (999999) ∈ nw_gw := tb_in (i := 716) (by decide +kernel)
theorem qX10_79 : Cond.constant RX10 79 (-1000001) ∈ nw_gw := tb_in (i := 906) (by decide +kernel)
theorem qX10_72 : Cond.constant RX10 72 (-1000010) ∈ nw_gw := tb_in (i := 911) (by decide +kernel)
theorem qX10_92 : Cond.constant RX10 92 (-1000003) ∈ nw_gw := tb_in (i := 933) (by decide +kernel)
theorem qX10_164 : Cond.constant RX10 164 (-1000100) ∈ nw_gw := tb_in (i := 989) (by decide +kernel)
theorem qX10_165 : Cond.constant RX10 165 (-1000000) ∈ nw_gw := tb_in (i := 990) (by decide +kernel)
theorem qX10_199 : Cond.constant RX10 199 (-1000002) ∈ nw_gw := tb_in (i := 1003) (by decide +kernel)
theorem qX9_285 : Cond.constantLong RX9 285 (16807) ∈ nw_gw := tb_in (i := 717) (by decide +kernel)
theorem qX9_287 : Cond.constantLong RX9 287 (2147483647) ∈ nw_gw := tb_in (i := 718) (by decide +kernel)
theorem qX9_289 : Cond.constantLong RX9 289 (5) ∈ nw_gw := tb_in (i := 719) (by decide +kernel)
theorem qX9_291 : Cond.constantLong RX9 291 (31) ∈ nw_gw := tb_in (i := 720) (by decide +kernel)
theorem qX10_62 : Cond.constantLong RX10 62 (7) ∈ nw_gw := tb_in (i := 901) (by decide +kernel)
theorem qX10_77 : Cond.constantLong RX10 77 (2) ∈ nw_gw := tb_in (i := 905) (by decide +kernel)
theorem qX10_87 : Cond.constantLong RX10 87 (255) ∈ nw_gw := tb_in (i := 932) (by decide +kernel)
theorem qX10_96 : Cond.constantLong RX10 96 (48) ∈ nw_gw := tb_in (i := 950) (by decide +kernel)
theorem qX10_98 : Cond.constantLong RX10 98 (57) ∈ nw_gw := tb_in (i := 951) (by decide +kernel)
theorem qX10_113 : Cond.constantLong RX10 113 (97) ∈ nw_gw := tb_in (i := 952) (by decide +kernel)
theorem qX10_115 : Cond.constantLong RX10 115 (122) ∈ nw_gw := tb_in (i := 953) (by decide +kernel)
theorem qX10_200 : Cond.constantLong RX10 200 (24) ∈ nw_gw := tb_in (i := 1004) (by decide +kernel)
theorem qX10_215 : Cond.constantLong RX10 215 (-9) ∈ nw_gw := tb_in (i := 1053) (by decide +kernel)
theorem qX10_217 : Cond.constantLong RX10 217 (9) ∈ nw_gw := tb_in (i := 1054) (by decide +kernel)
theorem qX10_219 : Cond.constantLong RX10 219 (12) ∈ nw_gw := tb_in (i := 1059) (by decide +kernel)
theorem qX10_227 : Cond.constantLong RX10 227 (4) ∈ nw_gw := tb_in (i := 1084) (by decide +kernel)
theorem qX10_229 : Cond.constantLong RX10 229 (1199) ∈ nw_gw := tb_in (i := 1093) (by decide +kernel)
theorem qX10_231 : Cond.constantLong RX10 231 (3) ∈ nw_gw := tb_in (i := 1094) (by decide +kernel)
theorem qX10_236 : Cond.constantLong RX10 236 (200) ∈ nw_gw := tb_in (i := 1103) (by decide +kernel)
theorem qX10_241 : Cond.constantLong RX10 241 (100) ∈ nw_gw := tb_in (i := 1128) (by decide +kernel)
theorem qX10_243 : Cond.constantLong RX10 243 (60) ∈ nw_gw := tb_in (i := 1133) (by decide +kernel)
theorem qX10_245 : Cond.constantLong RX10 245 (-1) ∈ nw_gw := tb_in (i := 1134) (by decide +kernel)
theorem qX10_254 : Cond.constantLong RX10 254 (20) ∈ nw_gw := tb_in (i := 1163) (by decide +kernel)
theorem qX10_256 : Cond.constantLong RX10 256 (399) ∈ nw_gw := tb_in (i := 1164) (by decide +kernel)
theorem qX10_262 : Cond.constantLong RX10 262 (99) ∈ nw_gw := tb_in (i := 1173) (by decide +kernel)
theorem qX10_264 : Cond.constantLong RX10 264 (999999) ∈ nw_gw := tb_in (i := 1178) (by decide +kernel)
theorem qX10_266 : Cond.constantLong RX10 266 (16807) ∈ nw_gw := tb_in (i := 1179) (by decide +kernel)
theorem qX10_268 : Cond.constantLong RX10 268 (2147483647) ∈ nw_gw := tb_in (i := 1180) (by decide +kernel)
theorem qX10_270 : Cond.constantLong RX10 270 (5) ∈ nw_gw := tb_in (i := 1181) (by decide +kernel)
theorem qX10_272 : Cond.constantLong RX10 272 (31) ∈ nw_gw := tb_in (i := 1182) (by decide +kernel)
theorem qX10_292 : Cond.constantLong RX10 292 (8) ∈ nw_gw := tb_in (i := 1231) (by decide +kernel)
end
section
/-! A light judgement over the kit's W: the cells that the law makes lie at first + k, in the order of their making; their shapes are a list, all their ints one function of cell and place. -/
abbrev nw_Sh : Type := (Nat × Nat) ⊕ (Nat × List (Option (Option Nat)))
abbrev nw_Me : Type := Nat → Nat → Int32
/-- classes and slots; classes of arrays; first address; the script's, NEXT's, TOLD's address; the script's length; the script -/
abbrev nw_G : Type := va_G × (Nat → ClassId) × Nat × Nat × Nat × Nat × Nat × (Nat → Int32)
abbrev nw_D (g : nw_G) : va_G := g.1
abbrev nw_ca (g : nw_G) : Nat → ClassId := g.2.1
abbrev nw_b (g : nw_G) : Nat := g.2.2.1
abbrev nw_sc (g : nw_G) : Nat := g.2.2.2.1
abbrev nw_nx (g : nw_G) : Nat := g.2.2.2.2.1
abbrev nw_td (g : nw_G) : Nat := g.2.2.2.2.2.1
abbrev nw_L (g : nw_G) : Nat := g.2.2.2.2.2.2.1
abbrev nw_xs (g : nw_G) : Nat → Int32 := g.2.2.2.2.2.2.2
def nw_a (g : nw_G) (k : Nat) : Nat := nw_b g + k
def nw_A (g : nw_G) : Nat → Prop := fun q => nw_b g ≤ q
abbrev nw_ty (g : nw_G) : List (ClassId × FieldType) := [(nw_ca g 0, .int), (nw_ca g 1, .boolean), (nw_ca g 2, .object "NinthWave$Scene"), (nw_ca g 3, .object "NinthWave$Image"), (nw_ca g 4, .array .int)]
def nw_fv (g : nw_G) (I : nw_Me) (k i : Nat) (o : Option (Option Nat)) : Value := match o with
  | none => .int (I k i)
  | some none => .null
  | some (some j) => .ref (nw_a g j)
def nw_fs (g : nw_G) (I : nw_Me) (k : Nat) : Nat → List (Option (Option Nat)) → List Value
  | _, [] => []
  | i, o :: r => nw_fv g I k i o :: nw_fs g I k (i + 1) r
def nw_rf (g : nw_G) (fs : List (Option (Option Nat))) (i : Nat) : Option Nat := match fs[i]? with
  | some (some (some j)) => some (nw_a g j)
  | _ => none
def nw_e (g : nw_G) (I : nw_Me) (k : Nat) (c : nw_Sh) : va_E := match c with
  | .inl (t, n) => .inl (nw_ca g t, n, .inl (I k))
  | .inr (ci, fs) => if ci < 100 then .inr (ci, nw_fs g I k 0 fs) else .inl (nw_ca g (ci - 100), fs.length, .inr (.inr (.inr (.inr (nw_rf g fs)))))
def nw_NEXT : Nat → Int32 := fun k => ([-1, 0, 1, 1, 0, 4] : List Int32).getD k 0
def nw_TOLD : Nat → Int32 := fun k => ([10, 11, 12, 0, 13, 14, 20, 21, 24, 22, 23, 0] : List Int32).getD k 0
/-- the machine and the method -/
def nw_Cx (p : Program) (R : Room) (s : State) (m : MethodId) (args : Array Value) (meth : Method) (c : Code) (d : Nat) (M : nw_Mt) : Prop :=
  p.tables.exec = Jvm.exec ∧ c.code = M.2.1 ∧ c.maxLocals = M.2.2.1 ∧ s.vm.findClass M.1.cls = some m.cls ∧ (∀ w ∈ nw_gw, w.before args s = true) ∧ meth.name = M.1.name ∧ d + 1 ≤ R.frames ∧ 60 * (d + 1) ≤ R.locals
def nw_AA (U : State) : Prop := (Cond.arrayOver (.array .int)).before #[] U = true
theorem nw_AA_spec {args : Array Value} {s : State} (h : (Cond.arrayOver (.array .int)).before args s = true) :
    ∃ comp c k, s.vm.findClass (FieldType.array .int).toString = some comp ∧ (s.vm.classes.findIdx? fun x => match x.kind with | .array component _ => component == comp | _ => false) = some c ∧ s.vm.classes[c]? = some k ∧ k.kind = .array comp (.array .int) ∧
      s.vm.findClass ("[" ++ (FieldType.array .int).toString) = some c := by
  simp only [Cond.before, Cond.holds, Cond.value, beq_iff_eq] at h
  cases hc : s.vm.findClass (FieldType.array .int).toString with
  | none => simp [hc] at h
  | some comp =>
    simp only [hc, Option.bind_some, Option.bind_eq_some_iff, Option.map_eq_some_iff] at h
    obtain ⟨c, hi, k, hk, hb⟩ := h
    obtain ⟨hlt, hp, -⟩ := Array.findIdx?_eq_some_iff_getElem.mp hi
    have hkk : s.vm.classes[c] = k := (Array.getElem?_eq_some_iff.mp hk).2
    rw [hkk] at hp
    cases hkind : k.kind with
    | array component ty =>
      rw [hkind] at hb hp
      simp at hb hp
      exact ⟨comp, c, k, rfl, hi, hk, by rw [hkind, hp, hb.1], hb.2⟩
    | _ => rw [hkind] at hb; simp at hb
theorem nw_AA.moved {u U : State} (hvm : u.vm.Alike U.vm) (h : nw_AA u) : nw_AA U := by
  obtain ⟨comp, c, k, h1, h2, h3, h4, h5⟩ := nw_AA_spec h
  obtain ⟨k', hk', he⟩ := hvm.2.2 _ _ h3
  have hi : (U.vm.classes.findIdx? fun (x : Class) => match x.kind with | .array component _ => component == comp | _ => false) = some c := by
    have e1 := va_idx_bare u.vm comp
    have e2 := va_idx_bare U.vm comp
    have e3 : u.vm.bare = U.vm.bare := by first | exact hvm.bare_eq | exact hvm.bare_eq.symm
    rw [e3] at e1
    exact (e2.symm.trans e1).trans h2
  have hkind : k'.kind = .array comp (.array .int) := by rw [he]; exact h4
  have f1 : U.vm.findClass (FieldType.array .int).toString = some comp := by rw [hvm.findClass]; exact h1
  have f2 : U.vm.findClass ("[" ++ (FieldType.array .int).toString) = some c := by rw [hvm.findClass]; exact h5
  unfold nw_AA Cond.before Cond.holds
  simp only [Cond.value]
  rw [f1, Option.bind_some]
  refine (congrArg (fun o : Option Nat => (o.bind (fun c => (U.vm.classes[c]?).map fun (k : Class) => match k.kind with | .array _ ty => decide (ty = FieldType.array .int) && decide (U.vm.findClass ("[" ++ (FieldType.array .int).toString) = some c) | _ => false) == some true)) hi).trans ?_
  simp [hk', hkind, f2]
theorem nw_ne_nest : ∀ w ∈ nw_ne, ∃ a i x h, w = Cond.methodLinkNest a i x h := by
  intro w hw
  simp only [nw_ne, List.mem_cons, List.not_mem_nil, or_false] at hw
  rcases hw with rfl | rfl | rfl | rfl | rfl | rfl | rfl | rfl | rfl | rfl | rfl <;> exact ⟨_, _, _, _, rfl⟩
/-- what stands at the method's start -/
def nw_Ws (g : nw_G) (s : State) : Prop := nw_b g ≤ s.heap.size ∧ va_K (nw_D g) nw_cl (nw_ty g) s ∧ va_X (nw_sc g) (nw_L g) (nw_xs g) s s.heap ∧ va_X (nw_nx g) 6 nw_NEXT s s.heap ∧ va_X (nw_td g) 12 nw_TOLD s s.heap ∧
  va_Z RX4 "NEXT" "[I" (.ref (nw_nx g)) (nw_A g) s s.heap ∧ va_Z RX1 "TOLD" "[I" (.ref (nw_td g)) (nw_A g) s s.heap ∧ nw_sc g < nw_b g ∧ nw_nx g < nw_b g ∧ nw_td g < nw_b g ∧ (∀ w ∈ nw_ne, va_Nw w s) ∧ va_AO "NinthWave$Scene" s ∧ va_AO "NinthWave$Image" s ∧ nw_AA s
/-- the heap holds the cells -/
def nw_Wh (g : nw_G) (sh : List nw_Sh) (I : nw_Me) (H : Heap) : Prop := H.size = nw_b g + sh.length ∧ ∀ (k : Nat) (c : nw_Sh), sh[k]? = some c → va_at (nw_D g) nw_cl (nw_a g k, nw_e g I k c) H
def nw_Lr (ls : List (Option Value)) (la : Array Slot) (n : Nat) : Prop := la.size = n ∧ lv_wf la ∧ ∀ (i : Nat) (v : Value), ls[i]? = some (some v) → la[i]? = some (.val v)
def nw_Rt (p : Program) (l : Launch) (e : Env) (R : Room) (s : State) (m : MethodId) (args : Array Value) (below : List Frame) (meth : Method) (c : Code) (H : Heap) (locs : List Loc) (cells slots : Nat) (Q : State → Prop) (M : nw_Mt) (v : Option Int32) : Prop := match v with
  | some x => ∀ (pc : Nat) (la : Array Slot), decode M.2.1 pc = .ok (.ireturn, 1) → W p l e R s m args below meth c H locs cells slots Q (F0 m pc la [.int x])
  | none => ∀ (pc : Nat) (la : Array Slot), decode M.2.1 pc = .ok (.return_, 1) → W p l e R s m args below meth c H locs cells slots Q (F0 m pc la [])
/-- from this frame and these cells the method returns, with Post; it makes kc cells of ks slots -/
def nw_Ev (l : Launch) (g : nw_G) (d : Nat) (M : nw_Mt) (pc : Nat) (ls : List (Option Value)) (st : List Value) (sh : List nw_Sh) (I : nw_Me) (kc ks : Nat) (Post : Option Int32 → List nw_Sh → nw_Me → Prop) : Prop :=
  ∀ (p : Program) (e : Env) (R : Room) (s : State) (m : MethodId) (args : Array Value) (below : List Frame) (meth : Method) (c : Code) (H : Heap) (locs : List Loc) (cells slots : Nat) (Q : State → Prop) (la : Array Slot),
    nw_Cx p R s m args meth c d M → nw_Ws g s → nw_Wh g sh I H → va_S (nw_A g) s.heap H locs → nw_Lr ls la M.2.2.1 → cells + kc ≤ R.cells → slots + ks ≤ R.slots →
    (∀ (v : Option Int32) (sh' : List nw_Sh) (I' : nw_Me) (H' : Heap) (locs' : List Loc), Post v sh' I' → nw_Wh g sh' I' H' → va_S (nw_A g) s.heap H' locs' → nw_Rt p l e R s m args below meth c H' locs' (cells + kc) (slots + ks) Q M v) →
    W p l e R s m args below meth c H locs cells slots Q (F0 m pc la st)
/-- a method from its entry -/
def nw_lo (vs : List Value) : List (Option Value) := vs.flatMap fun v => if v.category = 2 then [some v, none] else [some v]
def nw_in (M : nw_Mt) (vs : List Value) : List (Option Value) := nw_lo vs ++ List.replicate (M.2.2.1 - (nw_lo vs).length) none
def nw_EM (l : Launch) (g : nw_G) (d : Nat) (M : nw_Mt) (av : List Value) (sh : List nw_Sh) (I : nw_Me) (kc ks : Nat) (Post : Option Int32 → List nw_Sh → nw_Me → Prop) : Prop := nw_Ev l g d M 0 (nw_in M av) [] sh I kc ks Post
-- locals
def nw_al : Nat → List (Option Value) → List (Nat × Value)
  | _, [] => []
  | i, some v :: r => (i, v) :: nw_al (i + 1) r
  | i, none :: r => nw_al (i + 1) r
theorem nw_al_mem : ∀ (ls : List (Option Value)) (i j : Nat) (v : Value), (j, v) ∈ nw_al i ls ↔ ∃ k, j = i + k ∧ ls[k]? = some (some v) := by
  intro ls
  induction ls with
  | nil => intro i j v; simp [nw_al]
  | cons a r ih =>
    intro i j v
    cases a with
    | none =>
      simp only [nw_al, ih]
      constructor
      · rintro ⟨k, rfl, h⟩
        exact ⟨k + 1, by omega, by simpa using h⟩
      · rintro ⟨k, rfl, h⟩
        cases k with
        | zero => simp at h
        | succ k => exact ⟨k, by omega, by simpa using h⟩
    | some w =>
      simp only [nw_al, List.mem_cons, ih, Prod.mk.injEq]
      constructor
      · rintro (⟨rfl, rfl⟩ | ⟨k, rfl, h⟩)
        · exact ⟨0, by omega, by simp⟩
        · exact ⟨k + 1, by omega, by simpa using h⟩
      · rintro ⟨k, rfl, h⟩
        cases k with
        | zero => left; simp at h; exact ⟨by omega, h.symm⟩
        | succ k => right; exact ⟨k, by omega, by simpa using h⟩
theorem nw_al_has {ls : List (Option Value)} {la : Array Slot} {n : Nat} (h : nw_Lr ls la n) : lv_has la n (nw_al 0 ls) := by
  refine ⟨h.1, h.2.1, fun q hq => ?_⟩
  obtain ⟨j, v⟩ := q
  obtain ⟨k, hk, hv⟩ := (nw_al_mem ls 0 j v).mp hq
  rw [show j = k by omega]
  exact h.2.2 k v hv
def nw_nl (ls : List (Option Value)) (i : Nat) : Bool := match i with
  | 0 => true
  | i + 1 => match ls[i]? with
    | some (some v) => !(v.category == 2)
    | _ => true
theorem nw_put1 {ls : List (Option Value)} {la : Array Slot} {n i : Nat} {v : Value} (hn : nw_nl ls i = true) (h : lv_has la n ((i, v) :: (nw_al 0 ls).filter (fun q => !(q.1 == i) && !(q.1 + 1 == i && q.2.category == 2)))) : nw_Lr (ls.set i (some v)) la n := by
  refine ⟨h.1, h.2.1, fun j w hw => ?_⟩
  rw [List.getElem?_set] at hw
  by_cases hj : i = j
  · subst hj
    rw [if_pos rfl] at hw
    split at hw
    · cases hw
      exact h.2.2 (i, v) List.mem_cons_self
    · cases hw
  · rw [if_neg hj] at hw
    refine h.2.2 (j, w) (List.mem_cons_of_mem _ (List.mem_filter.mpr ⟨(nw_al_mem ls 0 j w).mpr ⟨j, by omega, hw⟩, ?_⟩))
    have h1 : (j == i) = false := by simpa using fun e => hj e.symm
    simp only [h1, Bool.not_false, Bool.true_and]
    cases hb : (j + 1 == i && w.category == 2) with
    | false => rfl
    | true =>
      exfalso
      simp only [Bool.and_eq_true, beq_iff_eq] at hb
      obtain ⟨e, hc⟩ := hb
      subst e
      simp [nw_nl, hw, hc] at hn
theorem nw_put2 {ls : List (Option Value)} {la : Array Slot} {n i : Nat} {v : Value} (hn : nw_nl ls i = true) (h : lv_has la n ((i, v) :: (nw_al 0 ls).filter (fun q => !(q.1 == i) && (!(q.1 == i + 1) && !(q.1 + 1 == i && q.2.category == 2))))) : nw_Lr ((ls.set i (some v)).set (i + 1) none) la n := by
  refine ⟨h.1, h.2.1, fun j w hw => ?_⟩
  rw [List.getElem?_set] at hw
  by_cases hj1 : i + 1 = j
  · rw [if_pos hj1] at hw
    split at hw <;> cases hw
  · rw [if_neg hj1, List.getElem?_set] at hw
    by_cases hj : i = j
    · subst hj
      rw [if_pos rfl] at hw
      split at hw
      · cases hw
        exact h.2.2 (i, v) List.mem_cons_self
      · cases hw
    · rw [if_neg hj] at hw
      refine h.2.2 (j, w) (List.mem_cons_of_mem _ (List.mem_filter.mpr ⟨(nw_al_mem ls 0 j w).mpr ⟨j, by omega, hw⟩, ?_⟩))
      have h1 : (j == i) = false := by simpa using fun e => hj e.symm
      have h2 : (j == i + 1) = false := by simpa using fun e => hj1 e.symm
      simp only [h1, h2, Bool.not_false, Bool.true_and]
      cases hb : (j + 1 == i && w.category == 2) with
      | false => rfl
      | true =>
        exfalso
        simp only [Bool.and_eq_true, beq_iff_eq] at hb
        obtain ⟨e, hc⟩ := hb
        subst e
        simp [nw_nl, hw, hc] at hn
theorem nw_lo_args : ∀ (vs : List Value) (i j : Nat) (v : Value), (nw_lo vs)[j]? = some (some v) → (i + j, v) ∈ lv_args i vs := by
  intro vs
  induction vs with
  | nil => intro i j v h; simp [nw_lo] at h
  | cons a r ih =>
    intro i j v h
    have e : nw_lo (a :: r) = (if a.category = 2 then [some a, none] else [some a]) ++ nw_lo r := rfl
    rw [e] at h
    unfold lv_args
    by_cases hc : a.category = 2
    · rw [if_pos hc] at h ⊢
      match j, h with
      | 0, h => simp at h; subst h; exact List.mem_cons_self
      | 1, h => simp at h
      | j + 2, h =>
        have := ih (i + 2) j v (by simpa using h)
        rw [show i + (j + 2) = i + 2 + j by omega]
        exact List.mem_cons_of_mem _ this
    · rw [if_neg hc] at h ⊢
      match j, h with
      | 0, h => simp at h; subst h; exact List.mem_cons_self
      | j + 1, h =>
        have := ih (i + 1) j v (by simpa using h)
        rw [show i + (j + 1) = i + 1 + j by omega]
        exact List.mem_cons_of_mem _ this
theorem nw_lo_len (vs : List Value) : (nw_lo vs).length = (lg_sl vs).length := by
  induction vs with
  | nil => rfl
  | cons a r ih =>
    have e1 : nw_lo (a :: r) = (if a.category = 2 then [some a, none] else [some a]) ++ nw_lo r := rfl
    have e2 : lg_sl (a :: r) = (if a.category = 2 then [.val a, .second] else [.val a]) ++ lg_sl r := rfl
    rw [e1, e2, List.length_append, List.length_append, ih]
    by_cases hc : a.category = 2
    · simp [hc]
    · simp [hc]
theorem nw_entry (M : nw_Mt) (vs : List Value) (h : (nw_lo vs).length ≤ M.2.2.1) : nw_Lr (nw_in M vs) ((lg_sl vs ++ List.replicate (M.2.2.1 - (lg_sl vs).length) Slot.unset).toArray) M.2.2.1 := by
  have h1 := lv_entry vs (n := M.2.2.1) (by rw [← nw_lo_len]; exact h)
  refine ⟨h1.1, h1.2.1, fun j v hv => ?_⟩
  unfold nw_in at hv
  by_cases hj : j < (nw_lo vs).length
  · rw [List.getElem?_append_left hj] at hv
    have := h1.2.2 (0 + j, v) (nw_lo_args vs 0 j v hv)
    simpa using this
  · rw [List.getElem?_append_right (by omega), List.getElem?_replicate] at hv
    split at hv <;> cases hv
-- cells
theorem nw_fs_get (g : nw_G) (I : nw_Me) (k : Nat) : ∀ (fs : List (Option (Option Nat))) (i j : Nat), (nw_fs g I k i fs)[j]? = (fs[j]?).map (nw_fv g I k (i + j)) := by
  intro fs
  induction fs with
  | nil => intro i j; simp [nw_fs]
  | cons a r ih =>
    intro i j
    cases j with
    | zero => simp [nw_fs]
    | succ j =>
      simp only [nw_fs, List.getElem?_cons_succ, ih]
      rw [show i + 1 + j = i + (j + 1) by omega]
theorem nw_fs_len (g : nw_G) (I : nw_Me) (k : Nat) : ∀ (fs : List (Option (Option Nat))) (i : Nat), (nw_fs g I k i fs).length = fs.length := by
  intro fs
  induction fs with
  | nil => intro i; rfl
  | cons a r ih => intro i; simp [nw_fs, ih]
/-- the int at place i of cell k becomes v -/
def nw_up (I : nw_Me) (k i : Nat) (v : Int32) : nw_Me := fun a j => if a = k then (if j = i then v else I a j) else I a j
theorem nw_up_ne {I : nw_Me} {k i a : Nat} {v : Int32} (h : a ≠ k) : nw_up I k i v a = I a := by funext j; simp [nw_up, h]
theorem nw_up_self (I : nw_Me) (k i : Nat) (v : Int32) : nw_up I k i v k = upd (I k) i v := by funext j; simp [nw_up, upd]
theorem nw_fs_ext (g : nw_G) {I I' : nw_Me} {k : Nat} (h : I k = I' k) (fs : List (Option (Option Nat))) (i : Nat) : nw_fs g I k i fs = nw_fs g I' k i fs := by
  apply List.ext_getElem?
  intro j
  rw [nw_fs_get, nw_fs_get]
  cases fs[j]? with
  | none => rfl
  | some o => cases o with
    | none => simp [nw_fv, h]
    | some o => cases o <;> rfl
theorem nw_e_ext (g : nw_G) {I I' : nw_Me} {k : Nat} (h : I k = I' k) (c : nw_Sh) : nw_e g I k c = nw_e g I' k c := by
  cases c with
  | inl x => obtain ⟨t, n⟩ := x; simp [nw_e, h]
  | inr x => obtain ⟨ci, fs⟩ := x; simp [nw_e, nw_fs_ext g h]
theorem nw_fs_up (g : nw_G) (I : nw_Me) (k i : Nat) (v : Int32) {fs : List (Option (Option Nat))} (h : fs[i]? = some none) : nw_fs g (nw_up I k i v) k 0 fs = (nw_fs g I k 0 fs).set i (.int v) := by
  apply List.ext_getElem?
  intro j
  have hi : i < fs.length := (List.getElem?_eq_some_iff.mp h).1
  rw [nw_fs_get, List.getElem?_set, nw_fs_get, nw_fs_len]
  by_cases hj : i = j
  · subst hj
    rw [if_pos rfl, if_pos hi, h]
    simp [nw_fv, nw_up]
  · rw [if_neg hj]
    cases fs[j]? with
    | none => rfl
    | some o => cases o with
      | none => simp [nw_fv, nw_up, Ne.symm hj]
      | some o => cases o <;> rfl
theorem nw_at_lt {g : nw_G} {sh : List nw_Sh} {I : nw_Me} {H : Heap} (h : nw_Wh g sh I H) {k : Nat} {c : nw_Sh} (hk : sh[k]? = some c) : nw_a g k < H.size := (h.2 k c hk).lt
theorem nw_a_inj {g : nw_G} {j k : Nat} (h : nw_a g j = nw_a g k) : j = k := by unfold nw_a at h; omega
theorem nw_A_a (g : nw_G) (k : Nat) : nw_A g (nw_a g k) := by unfold nw_A nw_a; omega
/-- one cell is written -/
theorem nw_Wh.set {g : nw_G} {sh sh' : List nw_Sh} {I I' : nw_Me} {H H1 : Heap} (h : nw_Wh g sh I H) {k : Nat} {c' : nw_Sh} (hsh : sh' = sh.set k c') (hI : ∀ j, j ≠ k → I' j = I j) (z : H1.size = H.size) (oq : ∀ q, q ≠ nw_a g k → H1[q]? = H[q]?) (hk : k < sh.length) (hc : va_at (nw_D g) nw_cl (nw_a g k, nw_e g I' k c') H1) : nw_Wh g sh' I' H1 := by
  subst hsh
  refine ⟨by rw [z, h.1, List.length_set], fun j c hj => ?_⟩
  rw [List.getElem?_set] at hj
  by_cases e : k = j
  · subst e
    rw [if_pos rfl, if_pos hk] at hj
    cases hj
    exact hc
  · rw [if_neg e] at hj
    have h1 := h.2 j c hj
    rw [nw_e_ext g (hI j (fun q => e q.symm))]
    exact h1.kept (oq _ (fun q => e (nw_a_inj q).symm))
theorem nw_set_self {α : Type} {l : List α} {k : Nat} {c : α} (h : l[k]? = some c) : l = l.set k c := by
  apply List.ext_getElem?
  intro j
  rw [List.getElem?_set]
  by_cases e : k = j
  · subst e
    rw [if_pos rfl, if_pos (List.getElem?_eq_some_iff.mp h).1, h]
  · rw [if_neg e]
/-- one cell is made -/
theorem nw_Wh.push {g : nw_G} {sh : List nw_Sh} {I I' : nw_Me} {H H1 : Heap} (h : nw_Wh g sh I H) {c' : nw_Sh} (hI : ∀ j, j < sh.length → I' j = I j) (z : H1.size = H.size + 1) (oq : ∀ q, q < H.size → H1[q]? = H[q]?) (hc : va_at (nw_D g) nw_cl (nw_a g sh.length, nw_e g I' sh.length c') H1) : nw_Wh g (sh ++ [c']) I' H1 := by
  refine ⟨by rw [z, h.1, List.length_append, List.length_singleton]; omega, fun j c hj => ?_⟩
  by_cases hl : j < sh.length
  · rw [List.getElem?_append_left hl] at hj
    rw [nw_e_ext g (hI j hl)]
    exact (h.2 j c hj).kept (oq _ (nw_at_lt h hj))
  · rw [List.getElem?_append_right (by omega)] at hj
    have hz : j - sh.length < 1 := (List.getElem?_eq_some_iff.mp hj).1
    have : j = sh.length := by omega
    subst this
    simp at hj
    subst hj
    exact hc
theorem nw_S_push {A : Nat → Prop} {H0 H H1 : Heap} {locs : List Loc} (hS : va_S A H0 H locs) (z : H.size ≤ H1.size) (oq : ∀ q, q < H.size → H1[q]? = H[q]?) : va_S A H0 H1 locs := ⟨Nat.le_trans hS.1 z, fun x h1 h2 => (oq x (Nat.lt_of_lt_of_le h1 hS.1)).trans (hS.2.1 x h1 h2), hS.2.2⟩
/-- what stood at the caller's start stands at the callee's -/
theorem nw_X_kept {b L : Nat} {xs : Nat → Int32} {U : State} {H H1 : Heap} (h : va_X b L xs U H) (e : H1[b]? = H[b]?) : va_X b L xs U H1 := by
  obtain ⟨scr, h1, h2⟩ := h
  exact ⟨scr, by rw [e]; exact h1, h2⟩
theorem nw_X_lt {b L : Nat} {xs : Nat → Int32} {U : State} {H : Heap} (h : va_X b L xs U H) : b < H.size := by
  obtain ⟨scr, h1, -⟩ := h
  exact (Array.getElem?_eq_some_iff.mp h1).1
theorem nw_Ws.go {g : nw_G} {s U : State} {H : Heap} {locs : List Loc} (h : nw_Ws g s) (hS : va_S (nw_A g) s.heap H locs) (hU : U.heap = H) (hW : s.WarmedH U.vm) : nw_Ws g U := by
  have hvm := hW.alike
  obtain ⟨h1, h2, h3, h4, h5, h6, h7, h8, h9, h10, h11, h12, h13, h14⟩ := h
  have ho : ∀ a : Nat, a < s.heap.size → ¬ nw_A g a → U.heap[a]? = s.heap[a]? := fun a q1 q2 => by rw [hU]; exact hS.2.1 a q1 q2
  have hn : ∀ a, a < nw_b g → ¬ nw_A g a := fun a q h => by unfold nw_A at h; omega
  exact ⟨by rw [hU]; exact Nat.le_trans h1 hS.1, h2.moved hvm, nw_X_kept (h3.moved hvm) (ho _ (nw_X_lt h3) (hn _ h8)), nw_X_kept (h4.moved hvm) (ho _ (nw_X_lt h4) (hn _ h9)), nw_X_kept (h5.moved hvm) (ho _ (nw_X_lt h5) (hn _ h10)), (h6.moved hvm).kept ho, (h7.moved hvm).kept ho, h8, h9, h10, fun w hw => by
    obtain ⟨a, i, x, hh, rfl⟩ := nw_ne_nest w hw
    exact va_Nw.warmM hW (h11 _ hw), h12.moved hvm, h13.moved hvm, h14.moved hvm⟩
end
section
theorem nw_in0 : ∀ w ∈ u_ws RX0 TX0 3, w ∈ nw_gw := by decide +kernel
theorem nw_in1 : ∀ w ∈ u_ws RX1 TX1 6, w ∈ nw_gw := by decide +kernel
theorem nw_in2 : ∀ w ∈ u_ws RX2 TX2 9, w ∈ nw_gw := by decide +kernel
theorem nw_in3 : ∀ w ∈ u_ws RX3 TX3 3, w ∈ nw_gw := by decide +kernel
theorem nw_in4 : ∀ w ∈ u_ws RX5 TX5 6, w ∈ nw_gw := by decide +kernel
theorem nw_in5 : ∀ w ∈ u_ws RX6 TX6 6, w ∈ nw_gw := by decide +kernel
theorem nw_in6 : ∀ w ∈ u_ws RX7 TX7 3, w ∈ nw_gw := by decide +kernel
theorem nw_in7 : ∀ w ∈ u_ws RX8 TX8 7, w ∈ nw_gw := by decide +kernel
theorem nw_in8 : ∀ w ∈ u_ws RX9 TX9 13, w ∈ nw_gw := by decide +kernel
theorem nw_in9 : ∀ w ∈ u_ws RX10 TX10 29, w ∈ nw_gw := by decide +kernel
section
variable {l : Launch} {g : nw_G} {d : Nat} {M : nw_Mt} {pc : Nat} {ls : List (Option Value)} {st : List Value} {sh : List nw_Sh} {I : nw_Me} {kc ks : Nat} {Post : Option Int32 → List nw_Sh → nw_Me → Prop}
/-- an instruction that touches neither cells nor locals -/
theorem ev_st {pc' : Nat} {st' : List Value} (k : nw_Ev l g d M pc' ls st' sh I kc ks Post) (h : ∀ (p : Program) (l : Launch) (e : Env) (R : Room) (s : State) (m : MethodId) (args : Array Value) (below : List Frame) (meth : Method) (c : Code) (H : Heap) (locs : List Loc) (cells slots : Nat) (Q : State → Prop) (la : Array Slot), p.tables.exec = Jvm.exec → c.code = M.2.1 → nw_Lr ls la M.2.2.1 →
    W p l e R s m args below meth c H locs cells slots Q (F0 m pc' la st') → W p l e R s m args below meth c H locs cells slots Q (F0 m pc la st)) : nw_Ev l g d M pc ls st sh I kc ks Post :=
  fun p e R s m args below meth c H locs cells slots Q la cx ws wh hs hl h1 h2 hr => h p l e R s m args below meth c H locs cells slots Q la cx.1 cx.2.1 hl (k p e R s m args below meth c H locs cells slots Q la cx ws wh hs hl h1 h2 hr)

theorem ev_iconst {n : Int} {v : Int32} (hd : decode M.2.1 pc = .ok (.iconst n, 1)) (hv : Int32.ofInt n = v) (k : nw_Ev l g d M (pc + 1) ls (.int v :: st) sh I kc ks Post) : nw_Ev l g d M pc ls st sh I kc ks Post := ev_st k (fun _ _ _ _ _ _ _ _ _ _ _ _ _ _ _ _ hx hb hl w => lv_iconst hx hb hd hv w)
theorem ev_bipush {n : Int} {v : Int32} (hd : decode M.2.1 pc = .ok (.bipush n, 2)) (hv : (Int8.ofInt n).toInt32 = v) (k : nw_Ev l g d M (pc + 2) ls (.int v :: st) sh I kc ks Post) : nw_Ev l g d M pc ls st sh I kc ks Post := ev_st k (fun _ _ _ _ _ _ _ _ _ _ _ _ _ _ _ _ hx hb hl w => lv_bipush hx hb hd hv w)
theorem ev_sipush {n : Int} {v : Int32} (hd : decode M.2.1 pc = .ok (.sipush n, 3)) (hv : (Int16.ofInt n).toInt32 = v) (k : nw_Ev l g d M (pc + 3) ls (.int v :: st) sh I kc ks Post) : nw_Ev l g d M pc ls st sh I kc ks Post := ev_st k (fun _ _ _ _ _ _ _ _ _ _ _ _ _ _ _ _ hx hb hl w => lv_sipush hx hb hd hv w)
theorem ev_lconst {n : Fin 2} {v : Int64} (hd : decode M.2.1 pc = .ok (.lconst n, 1)) (hv : Int64.ofNat (n : Nat) = v) (k : nw_Ev l g d M (pc + 1) ls (.long v :: st) sh I kc ks Post) : nw_Ev l g d M pc ls st sh I kc ks Post := ev_st k (fun _ _ _ _ _ _ _ _ _ _ _ _ _ _ _ _ hx hb hl w => lv_lconst hx hb hd hv w)
theorem ev_iload_n {k4 : Fin 4} {i : Nat} {x : Int32} (hd : decode M.2.1 pc = .ok (.iload_n k4, 1)) (hi : (k4 : Nat) = i) (hv : ls[i]? = some (some (.int x))) (k : nw_Ev l g d M (pc + 1) ls (.int x :: st) sh I kc ks Post) : nw_Ev l g d M pc ls st sh I kc ks Post := ev_st k (fun _ _ _ _ _ _ _ _ _ _ _ _ _ _ _ _ hx hb hl w => lv_iload_n hx hb hd hi (hl.2.2 _ _ hv) w)
theorem ev_iload {i : Nat} {x : Int32} (hd : decode M.2.1 pc = .ok (.iload i, 2)) (hv : ls[i]? = some (some (.int x))) (k : nw_Ev l g d M (pc + 2) ls (.int x :: st) sh I kc ks Post) : nw_Ev l g d M pc ls st sh I kc ks Post := ev_st k (fun _ _ _ _ _ _ _ _ _ _ _ _ _ _ _ _ hx hb hl w => lv_iload hx hb hd (hl.2.2 _ _ hv) w)
theorem ev_aload_n {k4 : Fin 4} {i : Nat} {x : Nat} (hd : decode M.2.1 pc = .ok (.aload_n k4, 1)) (hi : (k4 : Nat) = i) (hv : ls[i]? = some (some (.ref x))) (k : nw_Ev l g d M (pc + 1) ls (.ref x :: st) sh I kc ks Post) : nw_Ev l g d M pc ls st sh I kc ks Post := ev_st k (fun _ _ _ _ _ _ _ _ _ _ _ _ _ _ _ _ hx hb hl w => lv_aload_n hx hb hd hi (hl.2.2 _ _ hv) w)
theorem ev_aload {i : Nat} {x : Nat} (hd : decode M.2.1 pc = .ok (.aload i, 2)) (hv : ls[i]? = some (some (.ref x))) (k : nw_Ev l g d M (pc + 2) ls (.ref x :: st) sh I kc ks Post) : nw_Ev l g d M pc ls st sh I kc ks Post := ev_st k (fun _ _ _ _ _ _ _ _ _ _ _ _ _ _ _ _ hx hb hl w => lv_aload hx hb hd (hl.2.2 _ _ hv) w)
theorem ev_lload_n {k4 : Fin 4} {i : Nat} {x : Int64} (hd : decode M.2.1 pc = .ok (.lload_n k4, 1)) (hi : (k4 : Nat) = i) (hv : ls[i]? = some (some (.long x))) (k : nw_Ev l g d M (pc + 1) ls (.long x :: st) sh I kc ks Post) : nw_Ev l g d M pc ls st sh I kc ks Post := ev_st k (fun _ _ _ _ _ _ _ _ _ _ _ _ _ _ _ _ hx hb hl w => lv_lload_n hx hb hd hi (hl.2.2 _ _ hv) w)
theorem ev_lload {i : Nat} {x : Int64} (hd : decode M.2.1 pc = .ok (.lload i, 2)) (hv : ls[i]? = some (some (.long x))) (k : nw_Ev l g d M (pc + 2) ls (.long x :: st) sh I kc ks Post) : nw_Ev l g d M pc ls st sh I kc ks Post := ev_st k (fun _ _ _ _ _ _ _ _ _ _ _ _ _ _ _ _ hx hb hl w => lv_lload hx hb hd (hl.2.2 _ _ hv) w)
theorem ev_iadd {x y : Int32} (hd : decode M.2.1 pc = .ok (.iadd, 1)) (k : nw_Ev l g d M (pc + 1) ls (.int (x + y) :: st) sh I kc ks Post) : nw_Ev l g d M pc ls (.int y :: .int x :: st) sh I kc ks Post := ev_st k (fun _ _ _ _ _ _ _ _ _ _ _ _ _ _ _ _ hx hb hl w => lv_iadd hx hb hd w)
theorem ev_isub {x y : Int32} (hd : decode M.2.1 pc = .ok (.isub, 1)) (k : nw_Ev l g d M (pc + 1) ls (.int (x - y) :: st) sh I kc ks Post) : nw_Ev l g d M pc ls (.int y :: .int x :: st) sh I kc ks Post := ev_st k (fun _ _ _ _ _ _ _ _ _ _ _ _ _ _ _ _ hx hb hl w => lv_isub hx hb hd w)
theorem ev_imul {x y : Int32} (hd : decode M.2.1 pc = .ok (.imul, 1)) (k : nw_Ev l g d M (pc + 1) ls (.int (x * y) :: st) sh I kc ks Post) : nw_Ev l g d M pc ls (.int y :: .int x :: st) sh I kc ks Post := ev_st k (fun _ _ _ _ _ _ _ _ _ _ _ _ _ _ _ _ hx hb hl w => lv_imul hx hb hd w)
theorem ev_iand {x y : Int32} (hd : decode M.2.1 pc = .ok (.iand, 1)) (k : nw_Ev l g d M (pc + 1) ls (.int (x &&& y) :: st) sh I kc ks Post) : nw_Ev l g d M pc ls (.int y :: .int x :: st) sh I kc ks Post := ev_st k (fun _ _ _ _ _ _ _ _ _ _ _ _ _ _ _ _ hx hb hl w => lv_iand hx hb hd w)
theorem ev_ior {x y : Int32} (hd : decode M.2.1 pc = .ok (.ior, 1)) (k : nw_Ev l g d M (pc + 1) ls (.int (x ||| y) :: st) sh I kc ks Post) : nw_Ev l g d M pc ls (.int y :: .int x :: st) sh I kc ks Post := ev_st k (fun _ _ _ _ _ _ _ _ _ _ _ _ _ _ _ _ hx hb hl w => lv_ior hx hb hd w)
theorem ev_ishl {x y : Int32} (hd : decode M.2.1 pc = .ok (.ishl, 1)) (k : nw_Ev l g d M (pc + 1) ls (.int (x <<< (y &&& 31)) :: st) sh I kc ks Post) : nw_Ev l g d M pc ls (.int y :: .int x :: st) sh I kc ks Post := ev_st k (fun _ _ _ _ _ _ _ _ _ _ _ _ _ _ _ _ hx hb hl w => lv_ishl hx hb hd w)
theorem ev_ishr {x y : Int32} (hd : decode M.2.1 pc = .ok (.ishr, 1)) (k : nw_Ev l g d M (pc + 1) ls (.int (x >>> (y &&& 31)) :: st) sh I kc ks Post) : nw_Ev l g d M pc ls (.int y :: .int x :: st) sh I kc ks Post := ev_st k (fun _ _ _ _ _ _ _ _ _ _ _ _ _ _ _ _ hx hb hl w => lv_ishr hx hb hd w)
theorem ev_idiv {x y : Int32} (hd : decode M.2.1 pc = .ok (.idiv, 1)) (hne : ¬ y = 0) (k : nw_Ev l g d M (pc + 1) ls (.int (x / y) :: st) sh I kc ks Post) : nw_Ev l g d M pc ls (.int y :: .int x :: st) sh I kc ks Post := ev_st k (fun _ _ _ _ _ _ _ _ _ _ _ _ _ _ _ _ hx hb hl w => lv_idiv hx hb hd hne w)
theorem ev_irem {x y : Int32} (hd : decode M.2.1 pc = .ok (.irem, 1)) (hne : ¬ y = 0) (k : nw_Ev l g d M (pc + 1) ls (.int (x - x / y * y) :: st) sh I kc ks Post) : nw_Ev l g d M pc ls (.int y :: .int x :: st) sh I kc ks Post := ev_st k (fun _ _ _ _ _ _ _ _ _ _ _ _ _ _ _ _ hx hb hl w => lv_irem hx hb hd hne w)
theorem ev_ladd {x y : Int64} (hd : decode M.2.1 pc = .ok (.ladd, 1)) (k : nw_Ev l g d M (pc + 1) ls (.long (x + y) :: st) sh I kc ks Post) : nw_Ev l g d M pc ls (.long y :: .long x :: st) sh I kc ks Post := ev_st k (fun _ _ _ _ _ _ _ _ _ _ _ _ _ _ _ _ hx hb hl w => lv_ladd hx hb hd w)
theorem ev_lmul {x y : Int64} (hd : decode M.2.1 pc = .ok (.lmul, 1)) (k : nw_Ev l g d M (pc + 1) ls (.long (x * y) :: st) sh I kc ks Post) : nw_Ev l g d M pc ls (.long y :: .long x :: st) sh I kc ks Post := ev_st k (fun _ _ _ _ _ _ _ _ _ _ _ _ _ _ _ _ hx hb hl w => lv_lmul hx hb hd w)
theorem ev_ldiv {x y : Int64} (hd : decode M.2.1 pc = .ok (.ldiv, 1)) (hne : ¬ y = 0) (k : nw_Ev l g d M (pc + 1) ls (.long (x / y) :: st) sh I kc ks Post) : nw_Ev l g d M pc ls (.long y :: .long x :: st) sh I kc ks Post := ev_st k (fun _ _ _ _ _ _ _ _ _ _ _ _ _ _ _ _ hx hb hl w => lv_ldiv hx hb hd hne w)
theorem ev_lrem {x y : Int64} (hd : decode M.2.1 pc = .ok (.lrem, 1)) (hne : ¬ y = 0) (k : nw_Ev l g d M (pc + 1) ls (.long (x - x / y * y) :: st) sh I kc ks Post) : nw_Ev l g d M pc ls (.long y :: .long x :: st) sh I kc ks Post := ev_st k (fun _ _ _ _ _ _ _ _ _ _ _ _ _ _ _ _ hx hb hl w => lv_lrem hx hb hd hne w)
theorem ev_lcmp {x y : Int64} (hd : decode M.2.1 pc = .ok (.lcmp, 1)) (k : nw_Ev l g d M (pc + 1) ls (.int (lg_cmp x y) :: st) sh I kc ks Post) : nw_Ev l g d M pc ls (.long y :: .long x :: st) sh I kc ks Post := ev_st k (fun _ _ _ _ _ _ _ _ _ _ _ _ _ _ _ _ hx hb hl w => W.lcmp hx hb hd w)
theorem ev_ineg {x : Int32} (hd : decode M.2.1 pc = .ok (.ineg, 1)) (k : nw_Ev l g d M (pc + 1) ls (.int (-x) :: st) sh I kc ks Post) : nw_Ev l g d M pc ls (.int x :: st) sh I kc ks Post := ev_st k (fun _ _ _ _ _ _ _ _ _ _ _ _ _ _ _ _ hx hb hl w => lv_ineg hx hb hd w)
theorem ev_i2l {x : Int32} (hd : decode M.2.1 pc = .ok (.i2l, 1)) (k : nw_Ev l g d M (pc + 1) ls (.long x.toInt64 :: st) sh I kc ks Post) : nw_Ev l g d M pc ls (.int x :: st) sh I kc ks Post := ev_st k (fun _ _ _ _ _ _ _ _ _ _ _ _ _ _ _ _ hx hb hl w => lv_i2l hx hb hd rfl w)
theorem ev_l2i {x : Int64} (hd : decode M.2.1 pc = .ok (.l2i, 1)) (k : nw_Ev l g d M (pc + 1) ls (.int x.toInt32 :: st) sh I kc ks Post) : nw_Ev l g d M pc ls (.long x :: st) sh I kc ks Post := ev_st k (fun _ _ _ _ _ _ _ _ _ _ _ _ _ _ _ _ hx hb hl w => lv_l2i hx hb hd rfl w)
theorem ev_i2b {x : Int32} (hd : decode M.2.1 pc = .ok (.i2b, 1)) (k : nw_Ev l g d M (pc + 1) ls (.int x.toInt8.toInt32 :: st) sh I kc ks Post) : nw_Ev l g d M pc ls (.int x :: st) sh I kc ks Post := ev_st k (fun _ _ _ _ _ _ _ _ _ _ _ _ _ _ _ _ hx hb hl w => lv_i2b hx hb hd rfl w)
theorem ev_i2s {x : Int32} (hd : decode M.2.1 pc = .ok (.i2s, 1)) (k : nw_Ev l g d M (pc + 1) ls (.int x.toInt16.toInt32 :: st) sh I kc ks Post) : nw_Ev l g d M pc ls (.int x :: st) sh I kc ks Post := ev_st k (fun _ _ _ _ _ _ _ _ _ _ _ _ _ _ _ _ hx hb hl w => lv_i2s hx hb hd rfl w)
theorem ev_dup {va : Value} (hd : decode M.2.1 pc = .ok (.dup, 1)) (hva : va.category = 1) (k : nw_Ev l g d M (pc + 1) ls (va :: va :: st) sh I kc ks Post) : nw_Ev l g d M pc ls (va :: st) sh I kc ks Post := ev_st k (fun _ _ _ _ _ _ _ _ _ _ _ _ _ _ _ _ hx hb hl w => lv_dup hx hb hd hva w)
theorem ev_pop {va : Value} (hd : decode M.2.1 pc = .ok (.pop, 1)) (hva : va.category = 1) (k : nw_Ev l g d M (pc + 1) ls st sh I kc ks Post) : nw_Ev l g d M pc ls (va :: st) sh I kc ks Post := ev_st k (fun _ _ _ _ _ _ _ _ _ _ _ _ _ _ _ _ hx hb hl w => lv_pop hx hb hd hva w)
theorem ev_dup2 {va vb : Value} (hd : decode M.2.1 pc = .ok (.dup2, 1)) (hva : va.category = 1) (hvb : vb.category = 1) (k : nw_Ev l g d M (pc + 1) ls (va :: vb :: va :: vb :: st) sh I kc ks Post) : nw_Ev l g d M pc ls (va :: vb :: st) sh I kc ks Post := ev_st k (fun _ _ _ _ _ _ _ _ _ _ _ _ _ _ _ _ hx hb hl w => lv_dup2_11 hx hb hd hva hvb w)
theorem ev_goto {off : Int} {tgt : Nat} (hd : decode M.2.1 pc = .ok (.goto off, 3)) (ht : (pc : Int) + off = (tgt : Int)) (k : nw_Ev l g d M tgt ls st sh I kc ks Post) : nw_Ev l g d M pc ls st sh I kc ks Post := ev_st k (fun _ _ _ _ _ _ _ _ _ _ _ _ _ _ _ _ hx hb hl w => lv_goto hx hb hd ht w)
theorem ev_if_eq {x : Int32} {off : Int} {tgt : Nat} (hd : decode M.2.1 pc = .ok (.ifCond .eq off, 3)) (ht : (pc : Int) + off = (tgt : Int)) (kt : x = 0 → nw_Ev l g d M tgt ls st sh I kc ks Post) (kf : ¬ x = 0 → nw_Ev l g d M (pc + 3) ls st sh I kc ks Post) : nw_Ev l g d M pc ls (.int x :: st) sh I kc ks Post := fun p e R s m args below meth c H locs cells slots Q la cx ws wh hs hl h1 h2 hr => lv_if_eq cx.1 cx.2.1 hd ht (fun q => kt q p e R s m args below meth c H locs cells slots Q la cx ws wh hs hl h1 h2 hr) (fun q => kf q p e R s m args below meth c H locs cells slots Q la cx ws wh hs hl h1 h2 hr)
theorem ev_icmp_eq {x y : Int32} {off : Int} {tgt : Nat} (hd : decode M.2.1 pc = .ok (.if_icmp .eq off, 3)) (ht : (pc : Int) + off = (tgt : Int)) (kt : x = y → nw_Ev l g d M tgt ls st sh I kc ks Post) (kf : ¬ x = y → nw_Ev l g d M (pc + 3) ls st sh I kc ks Post) : nw_Ev l g d M pc ls (.int y :: .int x :: st) sh I kc ks Post := fun p e R s m args below meth c H locs cells slots Q la cx ws wh hs hl h1 h2 hr => lv_icmp_eq cx.1 cx.2.1 hd ht (fun q => kt q p e R s m args below meth c H locs cells slots Q la cx ws wh hs hl h1 h2 hr) (fun q => kf q p e R s m args below meth c H locs cells slots Q la cx ws wh hs hl h1 h2 hr)
theorem ev_if_ne {x : Int32} {off : Int} {tgt : Nat} (hd : decode M.2.1 pc = .ok (.ifCond .ne off, 3)) (ht : (pc : Int) + off = (tgt : Int)) (kt : ¬ x = 0 → nw_Ev l g d M tgt ls st sh I kc ks Post) (kf : x = 0 → nw_Ev l g d M (pc + 3) ls st sh I kc ks Post) : nw_Ev l g d M pc ls (.int x :: st) sh I kc ks Post := fun p e R s m args below meth c H locs cells slots Q la cx ws wh hs hl h1 h2 hr => lv_if_ne cx.1 cx.2.1 hd ht (fun q => kt q p e R s m args below meth c H locs cells slots Q la cx ws wh hs hl h1 h2 hr) (fun q => kf q p e R s m args below meth c H locs cells slots Q la cx ws wh hs hl h1 h2 hr)
theorem ev_icmp_ne {x y : Int32} {off : Int} {tgt : Nat} (hd : decode M.2.1 pc = .ok (.if_icmp .ne off, 3)) (ht : (pc : Int) + off = (tgt : Int)) (kt : ¬ x = y → nw_Ev l g d M tgt ls st sh I kc ks Post) (kf : x = y → nw_Ev l g d M (pc + 3) ls st sh I kc ks Post) : nw_Ev l g d M pc ls (.int y :: .int x :: st) sh I kc ks Post := fun p e R s m args below meth c H locs cells slots Q la cx ws wh hs hl h1 h2 hr => lv_icmp_ne cx.1 cx.2.1 hd ht (fun q => kt q p e R s m args below meth c H locs cells slots Q la cx ws wh hs hl h1 h2 hr) (fun q => kf q p e R s m args below meth c H locs cells slots Q la cx ws wh hs hl h1 h2 hr)
theorem ev_if_lt {x : Int32} {off : Int} {tgt : Nat} (hd : decode M.2.1 pc = .ok (.ifCond .lt off, 3)) (ht : (pc : Int) + off = (tgt : Int)) (kt : x < 0 → nw_Ev l g d M tgt ls st sh I kc ks Post) (kf : ¬ x < 0 → nw_Ev l g d M (pc + 3) ls st sh I kc ks Post) : nw_Ev l g d M pc ls (.int x :: st) sh I kc ks Post := fun p e R s m args below meth c H locs cells slots Q la cx ws wh hs hl h1 h2 hr => lv_if_lt cx.1 cx.2.1 hd ht (fun q => kt q p e R s m args below meth c H locs cells slots Q la cx ws wh hs hl h1 h2 hr) (fun q => kf q p e R s m args below meth c H locs cells slots Q la cx ws wh hs hl h1 h2 hr)
theorem ev_icmp_lt {x y : Int32} {off : Int} {tgt : Nat} (hd : decode M.2.1 pc = .ok (.if_icmp .lt off, 3)) (ht : (pc : Int) + off = (tgt : Int)) (kt : x < y → nw_Ev l g d M tgt ls st sh I kc ks Post) (kf : ¬ x < y → nw_Ev l g d M (pc + 3) ls st sh I kc ks Post) : nw_Ev l g d M pc ls (.int y :: .int x :: st) sh I kc ks Post := fun p e R s m args below meth c H locs cells slots Q la cx ws wh hs hl h1 h2 hr => lv_icmp_lt cx.1 cx.2.1 hd ht (fun q => kt q p e R s m args below meth c H locs cells slots Q la cx ws wh hs hl h1 h2 hr) (fun q => kf q p e R s m args below meth c H locs cells slots Q la cx ws wh hs hl h1 h2 hr)
theorem ev_if_ge {x : Int32} {off : Int} {tgt : Nat} (hd : decode M.2.1 pc = .ok (.ifCond .ge off, 3)) (ht : (pc : Int) + off = (tgt : Int)) (kt : 0 ≤ x → nw_Ev l g d M tgt ls st sh I kc ks Post) (kf : ¬ 0 ≤ x → nw_Ev l g d M (pc + 3) ls st sh I kc ks Post) : nw_Ev l g d M pc ls (.int x :: st) sh I kc ks Post := fun p e R s m args below meth c H locs cells slots Q la cx ws wh hs hl h1 h2 hr => lv_if_ge cx.1 cx.2.1 hd ht (fun q => kt q p e R s m args below meth c H locs cells slots Q la cx ws wh hs hl h1 h2 hr) (fun q => kf q p e R s m args below meth c H locs cells slots Q la cx ws wh hs hl h1 h2 hr)
theorem ev_icmp_ge {x y : Int32} {off : Int} {tgt : Nat} (hd : decode M.2.1 pc = .ok (.if_icmp .ge off, 3)) (ht : (pc : Int) + off = (tgt : Int)) (kt : y ≤ x → nw_Ev l g d M tgt ls st sh I kc ks Post) (kf : ¬ y ≤ x → nw_Ev l g d M (pc + 3) ls st sh I kc ks Post) : nw_Ev l g d M pc ls (.int y :: .int x :: st) sh I kc ks Post := fun p e R s m args below meth c H locs cells slots Q la cx ws wh hs hl h1 h2 hr => lv_icmp_ge cx.1 cx.2.1 hd ht (fun q => kt q p e R s m args below meth c H locs cells slots Q la cx ws wh hs hl h1 h2 hr) (fun q => kf q p e R s m args below meth c H locs cells slots Q la cx ws wh hs hl h1 h2 hr)
theorem ev_if_gt {x : Int32} {off : Int} {tgt : Nat} (hd : decode M.2.1 pc = .ok (.ifCond .gt off, 3)) (ht : (pc : Int) + off = (tgt : Int)) (kt : 0 < x → nw_Ev l g d M tgt ls st sh I kc ks Post) (kf : ¬ 0 < x → nw_Ev l g d M (pc + 3) ls st sh I kc ks Post) : nw_Ev l g d M pc ls (.int x :: st) sh I kc ks Post := fun p e R s m args below meth c H locs cells slots Q la cx ws wh hs hl h1 h2 hr => lv_if_gt cx.1 cx.2.1 hd ht (fun q => kt q p e R s m args below meth c H locs cells slots Q la cx ws wh hs hl h1 h2 hr) (fun q => kf q p e R s m args below meth c H locs cells slots Q la cx ws wh hs hl h1 h2 hr)
theorem ev_icmp_gt {x y : Int32} {off : Int} {tgt : Nat} (hd : decode M.2.1 pc = .ok (.if_icmp .gt off, 3)) (ht : (pc : Int) + off = (tgt : Int)) (kt : y < x → nw_Ev l g d M tgt ls st sh I kc ks Post) (kf : ¬ y < x → nw_Ev l g d M (pc + 3) ls st sh I kc ks Post) : nw_Ev l g d M pc ls (.int y :: .int x :: st) sh I kc ks Post := fun p e R s m args below meth c H locs cells slots Q la cx ws wh hs hl h1 h2 hr => lv_icmp_gt cx.1 cx.2.1 hd ht (fun q => kt q p e R s m args below meth c H locs cells slots Q la cx ws wh hs hl h1 h2 hr) (fun q => kf q p e R s m args below meth c H locs cells slots Q la cx ws wh hs hl h1 h2 hr)
theorem ev_if_le {x : Int32} {off : Int} {tgt : Nat} (hd : decode M.2.1 pc = .ok (.ifCond .le off, 3)) (ht : (pc : Int) + off = (tgt : Int)) (kt : x ≤ 0 → nw_Ev l g d M tgt ls st sh I kc ks Post) (kf : ¬ x ≤ 0 → nw_Ev l g d M (pc + 3) ls st sh I kc ks Post) : nw_Ev l g d M pc ls (.int x :: st) sh I kc ks Post := fun p e R s m args below meth c H locs cells slots Q la cx ws wh hs hl h1 h2 hr => lv_if_le cx.1 cx.2.1 hd ht (fun q => kt q p e R s m args below meth c H locs cells slots Q la cx ws wh hs hl h1 h2 hr) (fun q => kf q p e R s m args below meth c H locs cells slots Q la cx ws wh hs hl h1 h2 hr)
theorem ev_icmp_le {x y : Int32} {off : Int} {tgt : Nat} (hd : decode M.2.1 pc = .ok (.if_icmp .le off, 3)) (ht : (pc : Int) + off = (tgt : Int)) (kt : x ≤ y → nw_Ev l g d M tgt ls st sh I kc ks Post) (kf : ¬ x ≤ y → nw_Ev l g d M (pc + 3) ls st sh I kc ks Post) : nw_Ev l g d M pc ls (.int y :: .int x :: st) sh I kc ks Post := fun p e R s m args below meth c H locs cells slots Q la cx ws wh hs hl h1 h2 hr => lv_icmp_le cx.1 cx.2.1 hd ht (fun q => kt q p e R s m args below meth c H locs cells slots Q la cx ws wh hs hl h1 h2 hr) (fun q => kf q p e R s m args below meth c H locs cells slots Q la cx ws wh hs hl h1 h2 hr)
theorem ev_tableIn {dflt lo hi : Int} {offs : Array Int} {len : Nat} {x : Int32} {off : Int} {tgt : Nat} (hd : decode M.2.1 pc = .ok (.tableswitch dflt lo hi offs, len)) (h1 : ¬ x.toInt < lo) (h2 : ¬ hi < x.toInt) (ho : offs[(x.toInt - lo).toNat]? = some off) (ht : (pc : Int) + off = (tgt : Int)) (k : nw_Ev l g d M tgt ls st sh I kc ks Post) : nw_Ev l g d M pc ls (.int x :: st) sh I kc ks Post := ev_st k (fun _ _ _ _ _ _ _ _ _ _ _ _ _ _ _ _ hx hb hl w => lv_tableIn hx hb hd h1 h2 ho ht w)
theorem ev_tableOut {dflt lo hi : Int} {offs : Array Int} {len : Nat} {x : Int32} {tgt : Nat} (hd : decode M.2.1 pc = .ok (.tableswitch dflt lo hi offs, len)) (h : x.toInt < lo ∨ hi < x.toInt) (ht : (pc : Int) + dflt = (tgt : Int)) (k : nw_Ev l g d M tgt ls st sh I kc ks Post) : nw_Ev l g d M pc ls (.int x :: st) sh I kc ks Post := ev_st k (fun _ _ _ _ _ _ _ _ _ _ _ _ _ _ _ _ hx hb hl w => lv_tableOut hx hb hd h ht w)
theorem ev_lookup {dflt : Int} {ps : Array (Int × Int)} {len : Nat} {x : Int32} {off : Int} {tgt : Nat} (hd : decode M.2.1 pc = .ok (.lookupswitch dflt ps, len)) (hp : (ps.toList.zip (ps.toList.drop 1)).all (fun (a, next) => a.1 < next.1) = true) (ho : Op.lookupswitch.offset ps.toList dflt x.toInt = off) (ht : (pc : Int) + off = (tgt : Int)) (k : nw_Ev l g d M tgt ls st sh I kc ks Post) : nw_Ev l g d M pc ls (.int x :: st) sh I kc ks Post := ev_st k (fun _ _ _ _ _ _ _ _ _ _ _ _ _ _ _ _ hx hb hl w => lv_lookup hx hb hd hp ho ht w)
theorem ev_istore {i : Nat} {x : Int32} (hd : decode M.2.1 pc = .ok (.istore i, 2)) (hn : i < M.2.2.1) (hnl : nw_nl ls i = true) (k : nw_Ev l g d M (pc + 2) (ls.set i (some (.int x))) st sh I kc ks Post) : nw_Ev l g d M pc ls (.int x :: st) sh I kc ks Post := fun p e R s m args below meth c H locs cells slots Q la cx ws wh hs hl h1 h2 hr => lv_istore cx.1 cx.2.1 hd (nw_al_has hl) hn rfl (fun la1 hh => have hl1 := nw_put1 hnl hh; k p e R s m args below meth c H locs cells slots Q la1 cx ws wh hs hl1 h1 h2 hr)
theorem ev_istore_n {k4 : Fin 4} {i : Nat} {x : Int32} (hd : decode M.2.1 pc = .ok (.istore_n k4, 1)) (hi : (k4 : Nat) = i) (hn : i < M.2.2.1) (hnl : nw_nl ls i = true) (k : nw_Ev l g d M (pc + 1) (ls.set i (some (.int x))) st sh I kc ks Post) : nw_Ev l g d M pc ls (.int x :: st) sh I kc ks Post := fun p e R s m args below meth c H locs cells slots Q la cx ws wh hs hl h1 h2 hr => lv_istore_n cx.1 cx.2.1 hd hi (nw_al_has hl) hn rfl (fun la1 hh => have hl1 := nw_put1 hnl hh; k p e R s m args below meth c H locs cells slots Q la1 cx ws wh hs hl1 h1 h2 hr)
theorem ev_astore {i : Nat} {x : Nat} (hd : decode M.2.1 pc = .ok (.astore i, 2)) (hn : i < M.2.2.1) (hnl : nw_nl ls i = true) (k : nw_Ev l g d M (pc + 2) (ls.set i (some (.ref x))) st sh I kc ks Post) : nw_Ev l g d M pc ls (.ref x :: st) sh I kc ks Post := fun p e R s m args below meth c H locs cells slots Q la cx ws wh hs hl h1 h2 hr => lv_astore cx.1 cx.2.1 hd (nw_al_has hl) hn rfl (fun la1 hh => have hl1 := nw_put1 hnl hh; k p e R s m args below meth c H locs cells slots Q la1 cx ws wh hs hl1 h1 h2 hr)
theorem ev_astore_n {k4 : Fin 4} {i : Nat} {x : Nat} (hd : decode M.2.1 pc = .ok (.astore_n k4, 1)) (hi : (k4 : Nat) = i) (hn : i < M.2.2.1) (hnl : nw_nl ls i = true) (k : nw_Ev l g d M (pc + 1) (ls.set i (some (.ref x))) st sh I kc ks Post) : nw_Ev l g d M pc ls (.ref x :: st) sh I kc ks Post := fun p e R s m args below meth c H locs cells slots Q la cx ws wh hs hl h1 h2 hr => lv_astore_n cx.1 cx.2.1 hd hi (nw_al_has hl) hn rfl (fun la1 hh => have hl1 := nw_put1 hnl hh; k p e R s m args below meth c H locs cells slots Q la1 cx ws wh hs hl1 h1 h2 hr)
theorem ev_lstore {i : Nat} {x : Int64} (hd : decode M.2.1 pc = .ok (.lstore i, 2)) (hn : i + 1 < M.2.2.1) (hnl : nw_nl ls i = true) (k : nw_Ev l g d M (pc + 2) ((ls.set i (some (.long x))).set (i + 1) none) st sh I kc ks Post) : nw_Ev l g d M pc ls (.long x :: st) sh I kc ks Post := fun p e R s m args below meth c H locs cells slots Q la cx ws wh hs hl h1 h2 hr => lv_lstore cx.1 cx.2.1 hd (nw_al_has hl) hn rfl (fun la1 hh => have hl1 := nw_put2 hnl hh; k p e R s m args below meth c H locs cells slots Q la1 cx ws wh hs hl1 h1 h2 hr)
theorem ev_iinc {i : Nat} {n : Int} {x : Int32} (hd : decode M.2.1 pc = .ok (.iinc i n, 3)) (hv : ls[i]? = some (some (.int x))) (hn : i < M.2.2.1) (hnl : nw_nl ls i = true) (k : nw_Ev l g d M (pc + 3) (ls.set i (some (.int (x + Int32.ofInt n)))) st sh I kc ks Post) : nw_Ev l g d M pc ls st sh I kc ks Post := fun p e R s m args below meth c H locs cells slots Q la cx ws wh hs hl h1 h2 hr => by
  obtain ⟨j, hj⟩ := List.getElem?_of_mem ((nw_al_mem ls 0 i (.int x)).mpr ⟨i, by omega, hv⟩)
  exact lv_iinc cx.1 cx.2.1 hd (nw_al_has hl) hj rfl hn rfl (fun la1 hh => have hl1 := nw_put1 hnl hh; k p e R s m args below meth c H locs cells slots Q la1 cx ws wh hs hl1 h1 h2 hr)
theorem ev_ldc {i : Nat} {v : Int32} (hq : Cond.constant M.1.cls i v ∈ nw_gw) (hd : decode M.2.1 pc = .ok (.ldc i, 2)) (k : nw_Ev l g d M (pc + 2) ls (.int v :: st) sh I kc ks Post) : nw_Ev l g d M pc ls st sh I kc ks Post := fun p e R s m args below meth c H locs cells slots Q la cx ws wh hs hl h1 h2 hr => lv_ldc cx.1 cx.2.1 cx.2.2.2.1 (cx.2.2.2.2.1 _ hq) hd (k p e R s m args below meth c H locs cells slots Q la cx ws wh hs hl h1 h2 hr)
theorem ev_ldcw {i : Nat} {v : Int32} (hq : Cond.constant M.1.cls i v ∈ nw_gw) (hd : decode M.2.1 pc = .ok (.ldc_w i, 3)) (k : nw_Ev l g d M (pc + 3) ls (.int v :: st) sh I kc ks Post) : nw_Ev l g d M pc ls st sh I kc ks Post := fun p e R s m args below meth c H locs cells slots Q la cx ws wh hs hl h1 h2 hr => lv_ldcw cx.1 cx.2.1 cx.2.2.2.1 (cx.2.2.2.2.1 _ hq) hd (k p e R s m args below meth c H locs cells slots Q la cx ws wh hs hl h1 h2 hr)
theorem ev_ldc2 {i : Nat} {v : Int64} (hq : Cond.constantLong M.1.cls i v ∈ nw_gw) (hd : decode M.2.1 pc = .ok (.ldc2_w i, 3)) (k : nw_Ev l g d M (pc + 3) ls (.long v :: st) sh I kc ks Post) : nw_Ev l g d M pc ls st sh I kc ks Post := fun p e R s m args below meth c H locs cells slots Q la cx ws wh hs hl h1 h2 hr => lv_ldc2 cx.1 cx.2.1 cx.2.2.2.1 (cx.2.2.2.2.1 _ hq) hd (k p e R s m args below meth c H locs cells slots Q la cx ws wh hs hl h1 h2 hr)
theorem ev_ireturn {x : Int32} (hd : decode M.2.1 pc = .ok (.ireturn, 1)) (hp : Post (some x) sh I) : nw_Ev l g d M pc ls [.int x] sh I 0 0 Post := fun p e R s m args below meth c H locs cells slots Q la cx ws wh hs hl h1 h2 hr => hr (some x) sh I H locs hp wh hs pc la hd
theorem ev_return (hd : decode M.2.1 pc = .ok (.return_, 1)) (hp : Post none sh I) : nw_Ev l g d M pc ls [] sh I 0 0 Post := fun p e R s m args below meth c H locs cells slots Q la cx ws wh hs hl h1 h2 hr => hr none sh I H locs hp wh hs pc la hd
theorem ev_post {Post1 : Option Int32 → List nw_Sh → nw_Me → Prop} (h : ∀ v sh1 I1, Post1 v sh1 I1 → Post v sh1 I1) (k : nw_Ev l g d M pc ls st sh I kc ks Post1) : nw_Ev l g d M pc ls st sh I kc ks Post := fun p e R s m args below meth c H locs cells slots Q la cx ws wh hs hl h1 h2 hr => k p e R s m args below meth c H locs cells slots Q la cx ws wh hs hl h1 h2 (fun v sh1 I1 H1 locs1 hp => hr v sh1 I1 H1 locs1 (h v sh1 I1 hp))
theorem ev_deep {d1 : Nat} (h : d ≤ d1) (k : nw_Ev l g d M pc ls st sh I kc ks Post) : nw_Ev l g d1 M pc ls st sh I kc ks Post := fun p e R s m args below meth c H locs cells slots Q la cx ws wh hs hl h1 h2 hr => k p e R s m args below meth c H locs cells slots Q la ⟨cx.1, cx.2.1, cx.2.2.1, cx.2.2.2.1, cx.2.2.2.2.1, cx.2.2.2.2.2.1, by have := cx.2.2.2.2.2.2.1; omega, by have := cx.2.2.2.2.2.2.2; omega⟩ ws wh hs hl h1 h2 hr

theorem nw_Wh.obj {H : Heap} (h : nw_Wh g sh I H) {k ci : Nat} {fs : List (Option (Option Nat))} (hk : sh[k]? = some (.inr (ci, fs))) (hci : ci < 100) : va_P (nw_D g) nw_cl [(nw_a g k, .inr (ci, nw_fs g I k 0 fs))] H := by
  intro j q hq
  have hj : j < 1 := (List.getElem?_eq_some_iff.mp hq).1
  rw [show j = 0 by omega] at hq
  cases hq
  have := h.2 k _ hk
  simpa only [nw_e, if_pos hci] using this
theorem nw_Wh.arr {H : Heap} (h : nw_Wh g sh I H) {k t n : Nat} (hk : sh[k]? = some (.inl (t, n))) : va_P (nw_D g) nw_cl [(nw_a g k, .inl (nw_ca g t, n, .inl (I k)))] H := by
  intro j q hq
  have hj : j < 1 := (List.getElem?_eq_some_iff.mp hq).1
  rw [show j = 0 by omega] at hq
  cases hq
  exact h.2 k _ hk
theorem nw_Wh.row {H : Heap} (h : nw_Wh g sh I H) {k t : Nat} {fs : List (Option (Option Nat))} (hk : sh[k]? = some (.inr (100 + t, fs))) : va_P (nw_D g) nw_cl [(nw_a g k, .inl (nw_ca g t, fs.length, .inr (.inr (.inr (.inr (nw_rf g fs))))))] H := by
  intro j q hq
  have hj : j < 1 := (List.getElem?_eq_some_iff.mp hq).1
  rw [show j = 0 by omega] at hq
  cases hq
  have := h.2 k _ hk
  simpa only [nw_e, if_neg (show ¬ 100 + t < 100 by omega), Nat.add_sub_cancel_left] using this
/-- every class's fields are laid as the tables say -/
theorem nw_lays {ci : Nat} {C : String} {T : u_T} {N : Nat} (h : nw_cl[ci]? = some (C, T, N)) : ∀ w ∈ u_ws C T N, w ∈ nw_gw := by
  match ci, h with
  | 0, h => cases h; exact nw_in0
  | 1, h => cases h; exact nw_in1
  | 2, h => cases h; exact nw_in2
  | 3, h => cases h; exact nw_in3
  | 4, h => cases h; exact nw_in4
  | 5, h => cases h; exact nw_in5
  | 6, h => cases h; exact nw_in6
  | 7, h => cases h; exact nw_in7
  | 8, h => cases h; exact nw_in8
  | 9, h => cases h; exact nw_in9
  | k + 10, h => simp [nw_cl] at h
def nw_tyf (ci : Nat) : Nat → FieldType := match ci with
  | 0 => tyX0
  | 1 => tyX1
  | 2 => tyX2
  | 3 => tyX3
  | 4 => tyX5
  | 5 => tyX6
  | 6 => tyX7
  | 7 => tyX8
  | 8 => tyX9
  | _ => tyX10
theorem nw_tyf_ok {ci : Nat} {C : String} {T : u_T} {N : Nat} (h : nw_cl[ci]? = some (C, T, N)) : ∀ k, k < N → parseFieldDescriptor (T k).2.2.1 = some (nw_tyf ci k) := by
  match ci, h with
  | 0, h => cases h; exact tyX0_ok
  | 1, h => cases h; exact tyX1_ok
  | 2, h => cases h; exact tyX2_ok
  | 3, h => cases h; exact tyX3_ok
  | 4, h => cases h; exact tyX5_ok
  | 5, h => cases h; exact tyX6_ok
  | 6, h => cases h; exact tyX7_ok
  | 7, h => cases h; exact tyX8_ok
  | 8, h => cases h; exact tyX9_ok
  | 9, h => cases h; exact tyX10_ok
  | k + 10, h => simp [nw_cl] at h
theorem nw_nmf {ci : Nat} {C : String} {T : u_T} {N : Nat} (h : nw_cl[ci]? = some (C, T, N)) : ∀ a, a < N → ∀ b, b < N → a ≠ b → (T a).2.1 ≠ (T b).2.1 := by
  match ci, h with
  | 0, h => cases h; exact nmX0
  | 1, h => cases h; exact nmX1
  | 2, h => cases h; exact nmX2
  | 3, h => cases h; exact nmX3
  | 4, h => cases h; exact nmX5
  | 5, h => cases h; exact nmX6
  | 6, h => cases h; exact nmX7
  | 7, h => cases h; exact nmX8
  | 8, h => cases h; exact nmX9
  | 9, h => cases h; exact nmX10
  | k + 10, h => simp [nw_cl] at h
theorem ev_get {i ci k f : Nat} {fs : List (Option (Option Nat))} {o : Option (Option Nat)} {v : Value} (hf : nw_fl M.1.cls i ci f) (hd : decode M.2.1 pc = .ok (.getfield i, 3)) (hk : sh[k]? = some (.inr (ci, fs))) (ho : fs[f]? = some o) (hv : nw_fv g I k f o = v) (hci : ci < 100)
    (kk : nw_Ev l g d M (pc + 3) ls (v :: st) sh I kc ks Post) : nw_Ev l g d M pc ls (.ref (nw_a g k) :: st) sh I kc ks Post := by
  intro p e R s m args below meth c H locs cells slots Q la cx ws wh hs hl h1 h2 hr
  obtain ⟨C, T, N, q1, q2, q3, q4⟩ := hf
  refine va_get (ref := C) (q0 := 0) (k := f) (v := v) cx.1 cx.2.1 cx.2.2.2.2.1 (nw_lays q1) cx.2.2.2.1 ws.2.1 (wh.obj hk hci) rfl q1 q2 (cx.2.2.2.2.1 _ q4) (fun x hx => by rw [← q3]; exact hx) ?_ hd (kk p e R s m args below meth c H locs cells slots Q la cx ws wh hs hl h1 h2 hr)
  rw [nw_fs_get, ho, ← hv, Nat.zero_add]
  rfl
theorem ev_getI {i ci k f : Nat} {fs : List (Option (Option Nat))} (hf : nw_fl M.1.cls i ci f) (hd : decode M.2.1 pc = .ok (.getfield i, 3)) (hk : sh[k]? = some (.inr (ci, fs))) (ho : fs[f]? = some none) (hci : ci < 100)
    (kk : nw_Ev l g d M (pc + 3) ls (.int (I k f) :: st) sh I kc ks Post) : nw_Ev l g d M pc ls (.ref (nw_a g k) :: st) sh I kc ks Post := ev_get hf hd hk ho rfl hci kk
theorem ev_getR {i ci k f j : Nat} {fs : List (Option (Option Nat))} (hf : nw_fl M.1.cls i ci f) (hd : decode M.2.1 pc = .ok (.getfield i, 3)) (hk : sh[k]? = some (.inr (ci, fs))) (ho : fs[f]? = some (some (some j))) (hci : ci < 100)
    (kk : nw_Ev l g d M (pc + 3) ls (.ref (nw_a g j) :: st) sh I kc ks Post) : nw_Ev l g d M pc ls (.ref (nw_a g k) :: st) sh I kc ks Post := ev_get hf hd hk ho rfl hci kk
/-- an int (or boolean) field that is not final -/
theorem ev_putI {i ci k f : Nat} {fs : List (Option (Option Nat))} {v : Int32} {T : u_T} {N : Nat} {C : String} (hf : nw_fl M.1.cls i ci f) (hd : decode M.2.1 pc = .ok (.putfield i, 3)) (hk : sh[k]? = some (.inr (ci, fs))) (ho : fs[f]? = some none) (hci : ci < 100) (hcl : nw_cl[ci]? = some (C, T, N)) (hfin : (T f).2.2.2 = false) (hn : narrow (nw_tyf ci f) (.int v) = .int v) (hfit : fits (nw_tyf ci f) (.int v) = true)
    (kk : nw_Ev l g d M (pc + 3) ls st sh (nw_up I k f v) kc ks Post) : nw_Ev l g d M pc ls (.int v :: .ref (nw_a g k) :: st) sh I kc ks Post := by
  intro p e R s m args below meth c H locs cells slots Q la cx ws wh hs hl h1 h2 hr
  obtain ⟨C', T', N', q1, q2, q3, q4⟩ := hf
  cases q1.symm.trans hcl
  have hts := cx.2.2.2.2.1
  have hP := wh.obj hk hci
  have hin := nw_lays hcl
  have hap := va_apart (own := M.1.cls) hts hin _ (nw_tyf_ok hcl) (nw_nmf hcl) ws.2.1 hcl
  obtain ⟨r, g1, cell, c1, c2, c3, c4⟩ := hP 0 _ rfl
  have hrr : r = (C, T, N) := Option.some.inj (g1.symm.trans hcl)
  subst hrr
  obtain ⟨hS, hfc, kC, hkC, hkind⟩ := ws.2.1.1 ci _ hcl
  obtain ⟨cf, kf, fi, fd, hi, hsl⟩ := hS f q2
  have hlay := hts _ (hin _ (u_in_lay q2))
  unfold u_lay at hlay
  rw [if_neg (by rw [hfin]; decide)] at hlay
  have hst := (u_facts hfc hkC (u_lays hts hin q2) hi).1
  have h6 := u_store hfc hkC hkind hlay hi (nw_tyf_ok hcl f q2) hn hfit
  have hi' : s.fieldFound? C (T f).2.1 (T f).2.2.1 = some (cf, kf, fi, fd) := by rw [← q3]; exact hi
  refine W.putK cx.1 cx.2.1 (f := fd) ⟨cx.2.2.2.1, hts _ q4, ⟨_, _, _, hi'⟩, hst⟩ (by rw [c2]; exact h6) c1 c3 (by rw [hsl]; exact k2_hasslot (c4 f q2)) rfl rfl hd fun H' e1 e2 e3 => ?_
  rw [hsl] at e1 ⊢
  have hlen : k < sh.length := (List.getElem?_eq_some_iff.mp hk).1
  have wh' : nw_Wh g sh (nw_up I k f v) H' := by
    refine wh.set (c' := .inr (ci, fs)) (nw_set_self hk) (fun j hj => nw_up_ne hj) e2 e3 hlen ?_
    simp only [nw_e, if_pos hci]
    rw [nw_fs_up g I k f v ho]
    exact ⟨_, hcl, t_OB.to (V := updV (vp_V (nw_fs g I k 0 fs)) f (.int v)) ⟨_, e1, c2, c3, t_set c4 hap q2 _⟩ (fun j _ => vp_updV_set (by rw [nw_fs_len]; exact (List.getElem?_eq_some_iff.mp ho).1) _ j)⟩
  exact kk p e R s m args below meth c H' _ cells slots Q la cx ws wh' (hs.put e2 e3 (nw_A_a g k)) hl h1 h2 hr

theorem ev_iald {k n : Nat} {i : Int32} (hd : decode M.2.1 pc = .ok (.iaload, 1)) (hk : sh[k]? = some (.inl (0, n))) (hin : vp_in i n)
    (kk : nw_Ev l g d M (pc + 1) ls (.int (I k i.toNatClampNeg) :: st) sh I kc ks Post) : nw_Ev l g d M pc ls (.int i :: .ref (nw_a g k) :: st) sh I kc ks Post :=
  fun p e R s m args below meth c H locs cells slots Q la cx ws wh hs hl h1 h2 hr => va_iald (q0 := 0) (t0 := 0) cx.1 cx.2.1 ws.2.1 (wh.arr hk) rfl rfl hin hd (kk p e R s m args below meth c H locs cells slots Q la cx ws wh hs hl h1 h2 hr)
theorem ev_zald {k n : Nat} {i : Int32} (hd : decode M.2.1 pc = .ok (.baload, 1)) (hk : sh[k]? = some (.inl (1, n))) (hin : vp_in i n)
    (kk : nw_Ev l g d M (pc + 1) ls (.int (I k i.toNatClampNeg) :: st) sh I kc ks Post) : nw_Ev l g d M pc ls (.int i :: .ref (nw_a g k) :: st) sh I kc ks Post :=
  fun p e R s m args below meth c H locs cells slots Q la cx ws wh hs hl h1 h2 hr => va_zald (q0 := 0) (t0 := 1) cx.1 cx.2.1 ws.2.1 (wh.arr hk) rfl rfl hin hd (kk p e R s m args below meth c H locs cells slots Q la cx ws wh hs hl h1 h2 hr)
theorem nw_ast {H H' : Heap} (wh : nw_Wh g sh I H) {k t n : Nat} {i : Nat} {x : Int32} (hk : sh[k]? = some (.inl (t, n))) (e : H'[nw_a g k]? = some ((vp_cell (nw_ca g t) (n, .inl (I k))).setSlot i (.int x))) (e2 : H'.size = H.size) (e3 : ∀ q, q ≠ nw_a g k → H'[q]? = H[q]?) : nw_Wh g sh (nw_up I k i x) H' := by
  refine wh.set (c' := .inl (t, n)) (nw_set_self hk) (fun j hj => nw_up_ne hj) e2 e3 (List.getElem?_eq_some_iff.mp hk).1 ?_
  show H'[nw_a g k]? = some (vp_cell (nw_ca g t) (n, .inl (nw_up I k i x k)))
  rw [e, nw_up_self, vp_cell_i, vp_cell_i, arrV_store]
  congr 2
  funext q
  by_cases hq : q = i
  · subst hq
    simp [updV, upd]
  · simp [updV, upd, hq]
theorem ev_iast {k n : Nat} {i x : Int32} (hd : decode M.2.1 pc = .ok (.iastore, 1)) (hk : sh[k]? = some (.inl (0, n))) (hin : vp_in i n)
    (kk : nw_Ev l g d M (pc + 1) ls st sh (nw_up I k i.toNatClampNeg x) kc ks Post) : nw_Ev l g d M pc ls (.int x :: .int i :: .ref (nw_a g k) :: st) sh I kc ks Post := by
  intro p e R s m args below meth c H locs cells slots Q la cx ws wh hs hl h1 h2 hr
  refine W.iast cx.1 cx.2.1 (wh.arr hk 0 _ rfl) ((ws.2.1.2 0 _ rfl).1 n (fun j => .int (I k j))) (fun q => by cases q) (by show ¬ (i < 0 ∨ (arrV _ _ _).slots.size ≤ _); rw [arrV_size]; exact hin) rfl rfl hd fun H1 e1 e2 e3 => ?_
  exact kk p e R s m args below meth c H1 _ cells slots Q la cx ws (nw_ast wh hk e1 e2 e3) (hs.put e2 e3 (nw_A_a g k)) hl h1 h2 hr
theorem ev_zast {k n : Nat} {i x : Int32} (hd : decode M.2.1 pc = .ok (.bastore, 1)) (hk : sh[k]? = some (.inl (1, n))) (hin : vp_in i n) (hx : narrow .boolean (.int x) = .int x)
    (kk : nw_Ev l g d M (pc + 1) ls st sh (nw_up I k i.toNatClampNeg x) kc ks Post) : nw_Ev l g d M pc ls (.int x :: .int i :: .ref (nw_a g k) :: st) sh I kc ks Post := by
  intro p e R s m args below meth c H locs cells slots Q la cx ws wh hs hl h1 h2 hr
  refine W.zast cx.1 cx.2.1 (wh.arr hk 0 _ rfl) ((ws.2.1.2 1 _ rfl).1 n (fun j => .int (I k j))) (fun q => by cases q) (by show ¬ (i < 0 ∨ (arrV _ _ _).slots.size ≤ _); rw [arrV_size]; exact hin) rfl rfl hd fun H1 e1 e2 e3 => ?_
  rw [hx] at e1
  exact kk p e R s m args below meth c H1 _ cells slots Q la cx ws (nw_ast wh hk e1 e2 e3) (hs.put e2 e3 (nw_A_a g k)) hl h1 h2 hr
theorem nw_aald {t k : Nat} {ty : FieldType} {i : Int32} {j : Nat} {fs : List (Option (Option Nat))} (hty : (nw_ty g)[t]? = some (nw_ca g t, ty)) (href : ty.isReference = true) (hd : decode M.2.1 pc = .ok (.aaload, 1)) (hk : sh[k]? = some (.inr (100 + t, fs))) (hin : vp_in i fs.length) (hj : fs[i.toNatClampNeg]? = some (some (some j)))
    (kk : nw_Ev l g d M (pc + 1) ls (.ref (nw_a g j) :: st) sh I kc ks Post) : nw_Ev l g d M pc ls (.int i :: .ref (nw_a g k) :: st) sh I kc ks Post := by
  intro p e R s m args below meth c H locs cells slots Q la cx ws wh hs hl h1 h2 hr
  have hlt : i.toNatClampNeg < fs.length := Nat.not_le.mp fun q => hin (Or.inr q)
  refine W.aald (v := .ref (nw_a g j)) (ty := ty) cx.1 cx.2.1 (wh.row hk 0 _ rfl) ((ws.2.1.2 t _ hty).1 fs.length (fun j => va_rf (nw_rf g fs j))) href (fun q => by cases q) (by show ¬ (i < 0 ∨ (arrV _ _ _).slots.size ≤ _); rw [arrV_size]; exact hin) (by show (arrV _ _ _).slots[_]? = _; rw [arrV_read _ _ hlt]; simp [nw_rf, hj, va_rf]) rfl rfl hd (kk p e R s m args below meth c H locs cells slots Q la cx ws wh hs hl h1 h2 hr)
/-- the script, NEXT, TOLD -/
theorem ev_sld {i : Int32} (hd : decode M.2.1 pc = .ok (.iaload, 1)) (hin : vp_in i (nw_L g)) (kk : nw_Ev l g d M (pc + 1) ls (.int (nw_xs g i.toNatClampNeg) :: st) sh I kc ks Post) : nw_Ev l g d M pc ls (.int i :: .ref (nw_sc g) :: st) sh I kc ks Post :=
  fun p e R s m args below meth c H locs cells slots Q la cx ws wh hs hl h1 h2 hr => va_sld cx.1 cx.2.1 ws.2.2.1 (nw_X_lt ws.2.2.1) (fun h => by unfold nw_A at h; have := ws.2.2.2.2.2.2.2.1; omega) hs hin hd (kk p e R s m args below meth c H locs cells slots Q la cx ws wh hs hl h1 h2 hr)
theorem ev_slen (hd : decode M.2.1 pc = .ok (.arraylength, 1)) (kk : nw_Ev l g d M (pc + 1) ls (.int (Int32.ofNat (nw_L g)) :: st) sh I kc ks Post) : nw_Ev l g d M pc ls (.ref (nw_sc g) :: st) sh I kc ks Post :=
  fun p e R s m args below meth c H locs cells slots Q la cx ws wh hs hl h1 h2 hr => va_slen cx.1 cx.2.1 ws.2.2.1 (nw_X_lt ws.2.2.1) (fun h => by unfold nw_A at h; have := ws.2.2.2.2.2.2.2.1; omega) hs hd (kk p e R s m args below meth c H locs cells slots Q la cx ws wh hs hl h1 h2 hr)
theorem ev_nld {i : Int32} (hd : decode M.2.1 pc = .ok (.iaload, 1)) (hin : vp_in i 6) (kk : nw_Ev l g d M (pc + 1) ls (.int (nw_NEXT i.toNatClampNeg) :: st) sh I kc ks Post) : nw_Ev l g d M pc ls (.int i :: .ref (nw_nx g) :: st) sh I kc ks Post :=
  fun p e R s m args below meth c H locs cells slots Q la cx ws wh hs hl h1 h2 hr => va_sld cx.1 cx.2.1 ws.2.2.2.1 (nw_X_lt ws.2.2.2.1) (fun h => by unfold nw_A at h; have := ws.2.2.2.2.2.2.2.2.1; omega) hs hin hd (kk p e R s m args below meth c H locs cells slots Q la cx ws wh hs hl h1 h2 hr)
theorem ev_nlen (hd : decode M.2.1 pc = .ok (.arraylength, 1)) (kk : nw_Ev l g d M (pc + 1) ls (.int 6 :: st) sh I kc ks Post) : nw_Ev l g d M pc ls (.ref (nw_nx g) :: st) sh I kc ks Post :=
  fun p e R s m args below meth c H locs cells slots Q la cx ws wh hs hl h1 h2 hr => va_slen cx.1 cx.2.1 ws.2.2.2.1 (nw_X_lt ws.2.2.2.1) (fun h => by unfold nw_A at h; have := ws.2.2.2.2.2.2.2.2.1; omega) hs hd (kk p e R s m args below meth c H locs cells slots Q la cx ws wh hs hl h1 h2 hr)
theorem ev_tld {i : Int32} (hd : decode M.2.1 pc = .ok (.iaload, 1)) (hin : vp_in i 12) (kk : nw_Ev l g d M (pc + 1) ls (.int (nw_TOLD i.toNatClampNeg) :: st) sh I kc ks Post) : nw_Ev l g d M pc ls (.int i :: .ref (nw_td g) :: st) sh I kc ks Post :=
  fun p e R s m args below meth c H locs cells slots Q la cx ws wh hs hl h1 h2 hr => va_sld cx.1 cx.2.1 ws.2.2.2.2.1 (nw_X_lt ws.2.2.2.2.1) (fun h => by unfold nw_A at h; have := ws.2.2.2.2.2.2.2.2.2.1; omega) hs hin hd (kk p e R s m args below meth c H locs cells slots Q la cx ws wh hs hl h1 h2 hr)
theorem ev_gets_next {i : Nat} (hq : Cond.fieldLink M.1.cls i RX4 "NEXT" "[I" ∈ nw_gw) (hd : decode M.2.1 pc = .ok (.getstatic i, 3)) (kk : nw_Ev l g d M (pc + 3) ls (.ref (nw_nx g) :: st) sh I kc ks Post) : nw_Ev l g d M pc ls st sh I kc ks Post :=
  fun p e R s m args below meth c H locs cells slots Q la cx ws wh hs hl h1 h2 hr => va_gets cx.1 cx.2.1 ws.2.2.2.2.2.1 hs cx.2.2.2.1 (cx.2.2.2.2.1 _ hq) (fun _ h => h) hd (kk p e R s m args below meth c H locs cells slots Q la cx ws wh hs hl h1 h2 hr)
theorem ev_gets_told {i : Nat} (hq : Cond.fieldLink M.1.cls i RX1 "TOLD" "[I" ∈ nw_gw) (hd : decode M.2.1 pc = .ok (.getstatic i, 3)) (kk : nw_Ev l g d M (pc + 3) ls (.ref (nw_td g) :: st) sh I kc ks Post) : nw_Ev l g d M pc ls st sh I kc ks Post :=
  fun p e R s m args below meth c H locs cells slots Q la cx ws wh hs hl h1 h2 hr => va_gets cx.1 cx.2.1 ws.2.2.2.2.2.2.1 hs cx.2.2.2.1 (cx.2.2.2.2.1 _ hq) (fun _ h => h) hd (kk p e R s m args below meth c H locs cells slots Q la cx ws wh hs hl h1 h2 hr)

end
end
section
/-! Calls, makings, copies. -/
theorem nw_good : GoodIn nw_gw nw_gw := fun w hw => ⟨hw, good_of_word (List.mem_filter.mp hw).2⟩
def nw_rm (d kc ks : Nat) : Room := { frames := d + 1, cells := kc, slots := ks, locals := 60 * (d + 1) }
def nw_wsM (M : nw_Mt) : List Cond := Cond.code M.1 M.2.1 M.2.2.1 M.2.2.2 :: nw_gw
theorem nw_goodM {M : nw_Mt} {n : Nat} (hk : nw_ok M n) : GoodIn nw_gw (nw_wsM M) := fun w h => (List.mem_cons.mp h).elim (fun e => by rw [e]; exact nw_good _ hk.1) (fun h => nw_good w h)
def nw_Pc (g : nw_G) (sh : List nw_Sh) (I : nw_Me) (av : List Value) : Array Value → State → Prop := va_Pc av (fun U => nw_Ws g U ∧ nw_Wh g sh I U.heap)
theorem nw_blind (g : nw_G) (sh : List nw_Sh) (I : nw_Me) (av : List Value) : FrameBlind (nw_Pc g sh I av) := fun a U g' mk q => ⟨q.1, q.2.1.go (H := U.heap) (locs := []) va_S.rf rfl (State.WarmedH.refl U), q.2.2⟩
theorem nw_sys_i : Cond.initialized "java/lang/System" ∈ nw_gw := tb_in (i := 11) (by decide +kernel)
theorem nw_math_i : Cond.initialized "java/lang/Math" ∈ nw_gw := tb_in (i := 13) (by decide +kernel)
theorem nw_cpy_s : Cond.static arraycopyName ∈ nw_gw := tb_in (i := 359) (by decide +kernel)
theorem nw_cpy_n : Cond.native arraycopyName ∈ nw_gw := tb_in (i := 360) (by decide +kernel)
theorem nw_min_s : Cond.static Lib.Math.min.name ∈ nw_gw := tb_in (i := 484) (by decide +kernel)
theorem nw_min_c : Cond.code Lib.Math.min.name Lib.Math.min.code 2 (some .int) ∈ nw_gw := tb_in (i := 485) (by decide +kernel)
theorem nw_max_s : Cond.static Lib.Math.max.name ∈ nw_gw := tb_in (i := 507) (by decide +kernel)
theorem nw_max_c : Cond.code Lib.Math.max.name Lib.Math.max.code 2 (some .int) ∈ nw_gw := tb_in (i := 508) (by decide +kernel)
theorem jX7_23 : Cond.methodLink RX7 23 arraycopyName ∈ nw_gw := tb_in (i := 358) (by decide +kernel)
theorem jX2_38 : Cond.methodLink RX2 38 arraycopyName ∈ nw_gw := tb_in (i := 459) (by decide +kernel)
theorem jX8_37 : Cond.methodLink RX8 37 arraycopyName ∈ nw_gw := tb_in (i := 464) (by decide +kernel)
theorem jX5_71 : Cond.methodLink RX5 71 arraycopyName ∈ nw_gw := tb_in (i := 660) (by decide +kernel)
theorem jX0_27 : Cond.methodLink RX0 27 Lib.Math.min.name ∈ nw_gw := tb_in (i := 483) (by decide +kernel)
theorem jX2_54 : Cond.methodLink RX2 54 Lib.Math.max.name ∈ nw_gw := tb_in (i := 506) (by decide +kernel)
theorem jX8_79 : Cond.methodLink RX8 79 Lib.Math.max.name ∈ nw_gw := tb_in (i := 546) (by decide +kernel)
theorem jX9_1 : Cond.methodLink RX9 1 objectInit ∈ nw_gw := tb_in (i := 19) (by decide +kernel)
theorem jX7_3 : Cond.methodLink RX7 3 objectInit ∈ nw_gw := tb_in (i := 27) (by decide +kernel)
theorem jX6_1 : Cond.methodLink RX6 1 objectInit ∈ nw_gw := tb_in (i := 46) (by decide +kernel)
theorem jX2_1 : Cond.methodLink RX2 1 objectInit ∈ nw_gw := tb_in (i := 72) (by decide +kernel)
theorem jX8_3 : Cond.methodLink RX8 3 objectInit ∈ nw_gw := tb_in (i := 130) (by decide +kernel)
theorem jX0_1 : Cond.methodLink RX0 1 objectInit ∈ nw_gw := tb_in (i := 171) (by decide +kernel)
theorem jX5_1 : Cond.methodLink RX5 1 objectInit ∈ nw_gw := tb_in (i := 191) (by decide +kernel)
theorem jX1_1 : Cond.methodLink RX1 1 objectInit ∈ nw_gw := tb_in (i := 219) (by decide +kernel)
theorem jX3_1 : Cond.methodLink RX3 1 objectInit ∈ nw_gw := tb_in (i := 247) (by decide +kernel)
theorem jX10_1 : Cond.methodLink RX10 1 objectInit ∈ nw_gw := tb_in (i := 804) (by decide +kernel)
section
variable {l : Launch} {g : nw_G} {d : Nat} {M M' : nw_Mt} {pc n : Nat} {ls : List (Option Value)} {st av : List Value} {sh : List nw_Sh} {I : nw_Me} {kc ks kc1 ks1 : Nat} {Post Post1 : Option Int32 → List nw_Sh → nw_Me → Prop}
theorem nw_metI {ty : FieldType} (h : nw_EM l g d M av sh I kc ks Post) (hk : nw_ok M n) (hret : M.2.2.2 = some ty) (hnar : ∀ v sh' I', Post v sh' I' → ∃ x, v = some x ∧ narrow ty (.int x) = .int x) (hlen : (nw_lo av).length ≤ M.2.2.1) :
    Met l M.1 (nw_wsM M) (nw_rm d kc ks) (nw_Pc g sh I av) (va_Qi (S := List nw_Sh × nw_Me) (fun r u => Post (some r) u.1 u.2) (fun u t => nw_Wh g u.1 u.2 t.heap) (nw_A g)) kc ks (nw_A g) := by
  refine Met.ofW (cc := M.2.1) (maxL := M.2.2.1) (ret := M.2.2.2) hk.2.2.2.1 rfl ?_
  intro p e s m args below meth c s₁ B hml hv
  obtain ⟨rfl, hWs, hWh⟩ := hv
  have hts := atoms_spec (ws := nw_wsM M) B.pre
  rw [lg_entry_eq]
  refine h p e _ s m _ below meth c s.heap [] 0 0 _ _ ⟨B.exec, B.bytes, hml, findClass_of_methodNamed B.named, fun w hw => hts w (List.mem_cons_of_mem _ hw), (name_of_methodNamed B.named B.method).1, Nat.le_refl _, Nat.le_refl _⟩ hWs hWh va_S.rf (nw_entry M av hlen) (by show 0 + kc ≤ kc; omega) (by show 0 + ks ≤ ks; omega) ?_
  intro v sh' I' H' locs' hp wh' hs'
  obtain ⟨x, rfl, hx⟩ := hnar v sh' I' hp
  intro pc la hd
  rw [Nat.zero_add, Nat.zero_add]
  exact W.zret B.exec B.bytes (B.returns.trans hret) hx (fun t ht hW => ⟨⟨x, (sh', I'), rfl, hp, by show nw_Wh g sh' I' t.heap; rw [ht]; exact wh'⟩, hs'.F ht⟩) (fun q hq => hs'.2.2 q hq) hd B.notSynchronized
theorem nw_metV (h : nw_EM l g d M av sh I kc ks Post) (hk : nw_ok M n) (hret : M.2.2.2 = none) (hnar : ∀ v sh' I', Post v sh' I' → v = none) (hlen : (nw_lo av).length ≤ M.2.2.1) :
    Met l M.1 (nw_wsM M) (nw_rm d kc ks) (nw_Pc g sh I av) (va_Qv (S := List nw_Sh × nw_Me) (fun u => Post none u.1 u.2) (fun u t => nw_Wh g u.1 u.2 t.heap) (nw_A g)) kc ks (nw_A g) := by
  refine Met.ofW (cc := M.2.1) (maxL := M.2.2.1) (ret := M.2.2.2) hk.2.2.2.1 rfl ?_
  intro p e s m args below meth c s₁ B hml hv
  obtain ⟨rfl, hWs, hWh⟩ := hv
  have hts := atoms_spec (ws := nw_wsM M) B.pre
  rw [lg_entry_eq]
  refine h p e _ s m _ below meth c s.heap [] 0 0 _ _ ⟨B.exec, B.bytes, hml, findClass_of_methodNamed B.named, fun w hw => hts w (List.mem_cons_of_mem _ hw), (name_of_methodNamed B.named B.method).1, Nat.le_refl _, Nat.le_refl _⟩ hWs hWh va_S.rf (nw_entry M av hlen) (by show 0 + kc ≤ kc; omega) (by show 0 + ks ≤ ks; omega) ?_
  intro v sh' I' H' locs' hp wh' hs'
  have := hnar v sh' I' hp
  subst this
  intro pc la hd
  rw [Nat.zero_add, Nat.zero_add]
  exact W.vret B.exec B.bytes (B.returns.trans hret) (fun t ht hW => ⟨⟨(sh', I'), rfl, hp, by show nw_Wh g sh' I' t.heap; rw [ht]; exact wh'⟩, hs'.F ht⟩) (fun q hq => hs'.2.2 q hq) hd B.notSynchronized
theorem nw_callB {p : Program} {R : Room} {s : State} {m : MethodId} {args : Array Value} {meth : Method} {c : Code} {i : Nat} (cx : nw_Cx p R s m args meth c (d + 1) M) (hk : nw_ok M' n) (hl : nw_ml M.1.cls i M') : CallB R s args M.1.cls i M'.1 M'.2.1 M'.2.2.1 M'.2.2.2 (nw_wsM M') (nw_rm d kc ks) kc ks n :=
  callB_of n cx.2.2.2.2.1 (nw_goodM hk) rfl rfl rfl (cx.2.2.2.2.1 _ hk.2.1) (cx.2.2.2.2.1 _ hl) hk.2.2.1 ⟨cx.2.2.2.2.2.2.1, by have h1 := cx.2.2.2.2.2.2.2; have h2 := hk.2.2.2.2; show 8 + (M'.2.2.1 + 11) + 60 * (d + 1) ≤ R.locals; omega⟩
theorem nw_callN {p : Program} {R : Room} {s : State} {m : MethodId} {args : Array Value} {meth : Method} {c : Code} {i : Nat} {host : String} (cx : nw_Cx p R s m args meth c (d + 1) M) (hk : nw_ok M' n) (hl : va_Nw (.methodLinkNest M.1.cls i M'.1 host) s) : va_CN R s args M.1.cls i M'.1 host M'.2.1 M'.2.2.1 M'.2.2.2 (nw_wsM M') (nw_rm d kc ks) kc ks n :=
  va_cnB n cx.2.2.2.2.1 (nw_goodM hk) rfl rfl rfl hl (cx.2.2.2.2.1 _ hk.2.1) hk.2.2.1 ⟨cx.2.2.2.2.2.2.1, by have h1 := cx.2.2.2.2.2.2.2; have h2 := hk.2.2.2.2; show 8 + (M'.2.2.1 + 11) + 60 * (d + 1) ≤ R.locals; omega⟩
theorem nw_pre {s U : State} {H : Heap} {locs : List Loc} (ws : nw_Ws g s) (wh : nw_Wh g sh I H) (hs : va_S (nw_A g) s.heap H locs) (av : List Value) : PreS s H (nw_Pc g sh I av) av := ⟨nw_blind g sh I av, fun U hU hW => ⟨rfl, ws.go hs hU hW, by rw [hU]; exact wh⟩⟩
/-- a virtual call that answers an int or a boolean -/
theorem ev_callVi {ty : FieldType} {i k ci N : Nat} {T : u_T} {fs : List (Option (Option Nat))} {As : List Value} (h : nw_EM l g d M' (.ref (nw_a g k) :: As) sh I kc1 ks1 Post1) (hl : nw_ml M.1.cls i M') (hk : nw_ok M' n) (hv : nw_iv M') (hd : decode M.2.1 pc = .ok (.invokevirtual i, 3)) (hret : M'.2.2.2 = some ty) (hnar : ∀ v sh' I', Post1 v sh' I' → ∃ x, v = some x ∧ narrow ty (.int x) = .int x) (hlen : (nw_lo (.ref (nw_a g k) :: As)).length ≤ M'.2.2.1) (hn : As.length = n)
    (hsh : sh[k]? = some (.inr (ci, fs))) (hci : ci < 100) (hcl : nw_cl[ci]? = some (M'.1.cls, T, N)) (hst : (st.map fun v => v.category).sum ≤ 8)
    (kk : ∀ r sh' I', Post1 (some r) sh' I' → nw_Ev l g (d + 1) M (pc + 3) ls (.int r :: st) sh' I' kc ks Post) : nw_Ev l g (d + 1) M pc ls (As.reverse ++ .ref (nw_a g k) :: st) sh I (kc1 + kc) (ks1 + ks) Post := by
  intro p e R s m args below meth c H locs cells slots Q la cx ws wh hs hlr h1 h2 hr
  have hpre := nw_pre (U := s) ws wh hs (.ref (nw_a g k) :: As)
  refine va_calli (va_runV (As := As) (rest := st) (C := M'.1.cls) ⟨cx.1, cx.2.1, cx.2.2.1, cx.2.2.2.1, cx.2.2.2.2.1⟩ (nw_metI h hk hret hnar hlen) ⟨nw_callB cx hk hl, cx.2.2.2.2.1 _ hv.1, cx.2.2.2.2.1 _ hv.2⟩ ⟨hpre.1, va_recv ws.2.1 (wh.obj hsh hci) hcl (q0 := 0) rfl, hpre.2⟩ rfl hn hlr.1 rfl (lv_room hst) hd ⟨by omega, by omega⟩) hs (fun q _ h => h) (fun q h => h) (fun r u t H1 locs1 ht hvm hw hB hz1 hk1 hS => ?_)
  rw [ht] at hB
  refine kk r u.1 u.2 hw p e R s m args below meth c H1 locs1 (cells + kc1) (slots + ks1) Q la cx ws hB hS hlr (by omega) (by omega) ?_
  intro v sh' I' H' locs' q1 q2 q3
  rw [Nat.add_assoc, Nat.add_assoc]
  exact hr v sh' I' H' locs' q1 q2 q3
theorem ev_callVv {i k ci N : Nat} {T : u_T} {fs : List (Option (Option Nat))} {As : List Value} (h : nw_EM l g d M' (.ref (nw_a g k) :: As) sh I kc1 ks1 Post1) (hl : nw_ml M.1.cls i M') (hk : nw_ok M' n) (hv : nw_iv M') (hd : decode M.2.1 pc = .ok (.invokevirtual i, 3)) (hret : M'.2.2.2 = none) (hnar : ∀ v sh' I', Post1 v sh' I' → v = none) (hlen : (nw_lo (.ref (nw_a g k) :: As)).length ≤ M'.2.2.1) (hn : As.length = n)
    (hsh : sh[k]? = some (.inr (ci, fs))) (hci : ci < 100) (hcl : nw_cl[ci]? = some (M'.1.cls, T, N)) (hst : (st.map fun v => v.category).sum ≤ 8)
    (kk : ∀ sh' I', Post1 none sh' I' → nw_Ev l g (d + 1) M (pc + 3) ls st sh' I' kc ks Post) : nw_Ev l g (d + 1) M pc ls (As.reverse ++ .ref (nw_a g k) :: st) sh I (kc1 + kc) (ks1 + ks) Post := by
  intro p e R s m args below meth c H locs cells slots Q la cx ws wh hs hlr h1 h2 hr
  have hpre := nw_pre (U := s) ws wh hs (.ref (nw_a g k) :: As)
  refine va_callv (va_runV (As := As) (rest := st) (C := M'.1.cls) ⟨cx.1, cx.2.1, cx.2.2.1, cx.2.2.2.1, cx.2.2.2.2.1⟩ (nw_metV h hk hret hnar hlen) ⟨nw_callB cx hk hl, cx.2.2.2.2.1 _ hv.1, cx.2.2.2.2.1 _ hv.2⟩ ⟨hpre.1, va_recv ws.2.1 (wh.obj hsh hci) hcl (q0 := 0) rfl, hpre.2⟩ rfl hn hlr.1 rfl (lv_room hst) hd ⟨by omega, by omega⟩) hs (fun q _ h => h) (fun q h => h) (fun u t H1 locs1 ht hvm hw hB hz1 hk1 hS => ?_)
  rw [ht] at hB
  refine kk u.1 u.2 hw p e R s m args below meth c H1 locs1 (cells + kc1) (slots + ks1) Q la cx ws hB hS hlr (by omega) (by omega) ?_
  intro v sh' I' H' locs' q1 q2 q3
  rw [Nat.add_assoc, Nat.add_assoc]
  exact hr v sh' I' H' locs' q1 q2 q3
/-- a static call that answers an int or a boolean -/
theorem ev_callSi {ty : FieldType} {i : Nat} {As : List Value} (h : nw_EM l g d M' As sh I kc1 ks1 Post1) (hl : nw_ml M.1.cls i M') (hk : nw_ok M' n) (hv : nw_ss M') (hd : decode M.2.1 pc = .ok (.invokestatic i, 3)) (hret : M'.2.2.2 = some ty) (hnar : ∀ v sh' I', Post1 v sh' I' → ∃ x, v = some x ∧ narrow ty (.int x) = .int x) (hlen : (nw_lo As).length ≤ M'.2.2.1) (hn : As.length = n) (hst : (st.map fun v => v.category).sum ≤ 8)
    (kk : ∀ r sh' I', Post1 (some r) sh' I' → nw_Ev l g (d + 1) M (pc + 3) ls (.int r :: st) sh' I' kc ks Post) : nw_Ev l g (d + 1) M pc ls (As.reverse ++ st) sh I (kc1 + kc) (ks1 + ks) Post := by
  intro p e R s m args below meth c H locs cells slots Q la cx ws wh hs hlr h1 h2 hr
  refine va_calli (va_runS (As := As) (rest := st) ⟨cx.1, cx.2.1, cx.2.2.1, cx.2.2.2.1, cx.2.2.2.2.1⟩ (nw_metI h hk hret hnar hlen) ⟨nw_callB cx hk hl, cx.2.2.2.2.1 _ hv⟩ (nw_pre (U := s) ws wh hs As) rfl hn hlr.1 rfl (lv_room hst) hd ⟨by omega, by omega⟩) hs (fun q _ h => h) (fun q h => h) (fun r u t H1 locs1 ht hvm hw hB hz1 hk1 hS => ?_)
  rw [ht] at hB
  refine kk r u.1 u.2 hw p e R s m args below meth c H1 locs1 (cells + kc1) (slots + ks1) Q la cx ws hB hS hlr (by omega) (by omega) ?_
  intro v sh' I' H' locs' q1 q2 q3
  rw [Nat.add_assoc, Nat.add_assoc]
  exact hr v sh' I' H' locs' q1 q2 q3
theorem ev_callSN {ty : FieldType} {i : Nat} {As : List Value} (h : nw_EM l g d M' As sh I kc1 ks1 Post1) (hl : nw_mn M.1.cls i M') (hk : nw_ok M' n) (hv : nw_ss M') (hd : decode M.2.1 pc = .ok (.invokestatic i, 3)) (hret : M'.2.2.2 = some ty) (hnar : ∀ v sh' I', Post1 v sh' I' → ∃ x, v = some x ∧ narrow ty (.int x) = .int x) (hlen : (nw_lo As).length ≤ M'.2.2.1) (hn : As.length = n) (hst : (st.map fun v => v.category).sum ≤ 8)
    (kk : ∀ r sh' I', Post1 (some r) sh' I' → nw_Ev l g (d + 1) M (pc + 3) ls (.int r :: st) sh' I' kc ks Post) : nw_Ev l g (d + 1) M pc ls (As.reverse ++ st) sh I (kc1 + kc) (ks1 + ks) Post := by
  intro p e R s m args below meth c H locs cells slots Q la cx ws wh hs hlr h1 h2 hr
  obtain ⟨host, hl⟩ := hl
  refine va_calli (va_runSN (As := As) (rest := st) ⟨cx.1, cx.2.1, cx.2.2.1, cx.2.2.2.1, cx.2.2.2.2.1⟩ (nw_metI h hk hret hnar hlen) ⟨nw_callN cx hk (ws.2.2.2.2.2.2.2.2.2.2.1 _ hl), cx.2.2.2.2.1 _ hv, trivial⟩ (nw_pre (U := s) ws wh hs As) rfl hn hlr.1 rfl (lv_room hst) hd ⟨by omega, by omega⟩) hs (fun q _ h => h) (fun q h => h) (fun r u t H1 locs1 ht hvm hw hB hz1 hk1 hS => ?_)
  rw [ht] at hB
  refine kk r u.1 u.2 hw p e R s m args below meth c H1 locs1 (cells + kc1) (slots + ks1) Q la cx ws hB hS hlr (by omega) (by omega) ?_
  intro v sh' I' H' locs' q1 q2 q3
  rw [Nat.add_assoc, Nat.add_assoc]
  exact hr v sh' I' H' locs' q1 q2 q3
/-- a constructor -/
theorem ev_callI {i b : Nat} (h : nw_EM l g d M' [.ref b] sh I kc1 ks1 Post1) (hl : nw_ml M.1.cls i M') (hk : nw_ok M' 0) (hv : nw_ii M') (hd : decode M.2.1 pc = .ok (.invokespecial i, 3)) (hret : M'.2.2.2 = none) (hnar : ∀ v sh' I', Post1 v sh' I' → v = none) (hlen : 1 ≤ M'.2.2.1) (hst : (st.map fun v => v.category).sum ≤ 8)
    (kk : ∀ sh' I', Post1 none sh' I' → nw_Ev l g (d + 1) M (pc + 3) ls st sh' I' kc ks Post) : nw_Ev l g (d + 1) M pc ls (.ref b :: st) sh I (kc1 + kc) (ks1 + ks) Post := by
  intro p e R s m args below meth c H locs cells slots Q la cx ws wh hs hlr h1 h2 hr
  have hB := nw_callB (kc := kc1) (ks := ks1) cx hk hl
  rw [hret] at hB
  refine va_callv (va_runI (As := []) (rest := st) (b := b) ⟨cx.1, cx.2.1, cx.2.2.1, cx.2.2.2.1, cx.2.2.2.2.1⟩ (nw_metV h hk hret hnar hlen) ⟨hB, hv.2, cx.2.2.2.2.1 _ hv.1⟩ (nw_pre (U := s) ws wh hs [.ref b]) rfl rfl hlr.1 rfl (lv_room hst) hd ⟨by omega, by omega⟩) hs (fun q _ h => h) (fun q h => h) (fun u t H1 locs1 ht hvm hw hB hz1 hk1 hS => ?_)
  rw [ht] at hB
  refine kk u.1 u.2 hw p e R s m args below meth c H1 locs1 (cells + kc1) (slots + ks1) Q la cx ws hB hS hlr (by omega) (by omega) ?_
  intro v sh' I' H' locs' q1 q2 q3
  rw [Nat.add_assoc, Nat.add_assoc]
  exact hr v sh' I' H' locs' q1 q2 q3
theorem ev_callIN {i b : Nat} (h : nw_EM l g d M' [.ref b] sh I kc1 ks1 Post1) (hl : nw_mn M.1.cls i M') (hk : nw_ok M' 0) (hv : nw_ii M') (hd : decode M.2.1 pc = .ok (.invokespecial i, 3)) (hret : M'.2.2.2 = none) (hnar : ∀ v sh' I', Post1 v sh' I' → v = none) (hlen : 1 ≤ M'.2.2.1) (hst : (st.map fun v => v.category).sum ≤ 8)
    (kk : ∀ sh' I', Post1 none sh' I' → nw_Ev l g (d + 1) M (pc + 3) ls st sh' I' kc ks Post) : nw_Ev l g (d + 1) M pc ls (.ref b :: st) sh I (kc1 + kc) (ks1 + ks) Post := by
  intro p e R s m args below meth c H locs cells slots Q la cx ws wh hs hlr h1 h2 hr
  obtain ⟨host, hl⟩ := hl
  have hB := nw_callN (kc := kc1) (ks := ks1) cx hk (ws.2.2.2.2.2.2.2.2.2.2.1 _ hl)
  rw [hret] at hB
  refine va_callv (va_runIN (As := []) (rest := st) (b := b) ⟨cx.1, cx.2.1, cx.2.2.1, cx.2.2.2.1, cx.2.2.2.2.1⟩ (nw_metV h hk hret hnar hlen) ⟨hB, hv.2, cx.2.2.2.2.1 _ hv.1⟩ (nw_pre (U := s) ws wh hs [.ref b]) rfl rfl hlr.1 rfl (lv_room hst) hd ⟨by omega, by omega⟩) hs (fun q _ h => h) (fun q h => h) (fun u t H1 locs1 ht hvm hw hB hz1 hk1 hS => ?_)
  rw [ht] at hB
  refine kk u.1 u.2 hw p e R s m args below meth c H1 locs1 (cells + kc1) (slots + ks1) Q la cx ws hB hS hlr (by omega) (by omega) ?_
  intro v sh' I' H' locs' q1 q2 q3
  rw [Nat.add_assoc, Nat.add_assoc]
  exact hr v sh' I' H' locs' q1 q2 q3
theorem ev_objInit {i b : Nat} (hl : Cond.methodLink M.1.cls i objectInit ∈ nw_gw) (hd : decode M.2.1 pc = .ok (.invokespecial i, 3)) (hst : (st.map fun v => v.category).sum ≤ 8) (k : nw_Ev l g d M (pc + 3) ls st sh I kc ks Post) : nw_Ev l g d M pc ls (.ref b :: st) sh I kc ks Post := by
  intro p e R s m args below meth c H locs cells slots Q la cx ws wh hs hlr h1 h2 hr
  refine W.objInit cx.1 cx.2.1 cx.2.2.2.1 (cx.2.2.2.2.1 _ hl) (cx.2.2.2.2.1 (.instanceMethod objectInit) (tb_in (i := 20) (by decide +kernel))) (cx.2.2.2.2.1 (.code objectInit ⟨#[0xb1]⟩ 1 none) (tb_in (i := 21) (by decide +kernel))) rfl (hlr.1.trans cx.2.2.1.symm) rfl hd (by have := cx.2.2.2.2.2.2.1; omega) ?_ (k p e R s m args below meth c H locs cells slots Q la cx ws wh hs hlr h1 h2 hr)
  have := cx.2.2.2.2.2.2.2
  show 2 * 0 + _ + 12 ≤ _
  omega
theorem ev_mmax {i : Nat} {x y : Int32} (hl : Cond.methodLink M.1.cls i Lib.Math.max.name ∈ nw_gw) (hd : decode M.2.1 pc = .ok (.invokestatic i, 3)) (hst : (st.map fun v => v.category).sum ≤ 8) (k : nw_Ev l g d M (pc + 3) ls (.int (if x < y then y else x) :: st) sh I kc ks Post) : nw_Ev l g d M pc ls (.int y :: .int x :: st) sh I kc ks Post := by
  intro p e R s m args below meth c H locs cells slots Q la cx ws wh hs hlr h1 h2 hr
  exact va_mmax cx.1 cx.2.1 (cx.2.2.1.trans hlr.1.symm) cx.2.2.2.1 (cx.2.2.2.2.1 _ hl) (cx.2.2.2.2.1 _ nw_max_s) (cx.2.2.2.2.1 _ nw_math_i) (cx.2.2.2.2.1 _ nw_max_c) (by have := cx.2.2.2.2.2.2.1; omega) (by have := cx.2.2.2.2.2.2.2; omega) (by omega) (by omega) hd (k p e R s m args below meth c H locs cells slots Q la cx ws wh hs hlr h1 h2 hr)
theorem ev_mmin {i : Nat} {x y : Int32} (hl : Cond.methodLink M.1.cls i Lib.Math.min.name ∈ nw_gw) (hd : decode M.2.1 pc = .ok (.invokestatic i, 3)) (hst : (st.map fun v => v.category).sum ≤ 8) (k : nw_Ev l g d M (pc + 3) ls (.int (if y < x then y else x) :: st) sh I kc ks Post) : nw_Ev l g d M pc ls (.int y :: .int x :: st) sh I kc ks Post := by
  intro p e R s m args below meth c H locs cells slots Q la cx ws wh hs hlr h1 h2 hr
  exact va_mmin cx.1 cx.2.1 (cx.2.2.1.trans hlr.1.symm) cx.2.2.2.1 (cx.2.2.2.2.1 _ hl) (cx.2.2.2.2.1 _ nw_min_s) (cx.2.2.2.2.1 _ nw_math_i) (cx.2.2.2.2.1 _ nw_min_c) (by have := cx.2.2.2.2.2.2.1; omega) (by have := cx.2.2.2.2.2.2.2; omega) (by omega) (by omega) hd (k p e R s m args below meth c H locs cells slots Q la cx ws wh hs hlr h1 h2 hr)
/-- n ints from place sp of cell j to place dp of cell k -/
def nw_cp (I : nw_Me) (j sp k dp n : Nat) : nw_Me := fun a => if a = k then va_cpy (I j) (I k) sp dp n else I a
theorem ev_copy {i j k n0 n1 : Nat} {sp dp n : Int32} (hl : Cond.methodLink M.1.cls i arraycopyName ∈ nw_gw) (hd : decode M.2.1 pc = .ok (.invokestatic i, 3)) (hj : sh[j]? = some (.inl (0, n0))) (hk : sh[k]? = some (.inl (0, n1))) (g1 : ¬ sp < 0) (g2 : ¬ dp < 0) (g3 : ¬ n < 0) (g4 : sp.toNatClampNeg + n.toNatClampNeg ≤ n0) (g5 : dp.toNatClampNeg + n.toNatClampNeg ≤ n1) (hst : (st.map fun v => v.category).sum ≤ 8)
    (kk : nw_Ev l g d M (pc + 3) ls st sh (nw_cp I j sp.toNatClampNeg k dp.toNatClampNeg n.toNatClampNeg) kc ks Post) : nw_Ev l g d M pc ls (.int n :: .int dp :: .ref (nw_a g k) :: .int sp :: .ref (nw_a g j) :: st) sh I kc ks Post := by
  intro p e R s m args below meth c H locs cells slots Q la cx ws wh hs hlr h1 h2 hr
  have nn : ∀ z : Int32, ¬ z < 0 → z.toInt = (z.toNatClampNeg : Int) := by
    intro z hz
    have hz0 : (0 : Int) ≤ z.toInt := by
      have := Int32.not_lt.mp hz
      simpa using Int32.le_iff_toInt_le.mp this
    show z.toInt = ((z.toInt.toNat : Nat) : Int)
    omega
  intro T hT X
  have hc0 : H[nw_a g j]? = some (vp_cell (nw_ca g 0) (n0, .inl (I j))) := wh.arr hj 0 _ rfl
  have hc1 : H[nw_a g k]? = some (vp_cell (nw_ca g 0) (n1, .inl (I k))) := wh.arr hk 0 _ rfl
  obtain ⟨-, k0, hk0, cm0, hkk0⟩ := (ws.2.1.2 0 _ rfl).1 n0 (fun q => .int (I j q))
  obtain ⟨-, k1, hk1, cm1, hkk1⟩ := (ws.2.1.2 0 _ rfl).1 n1 (fun q => .int (I k q))
  obtain ⟨vm', X', step⟩ := X.arraycopy cx.1 cx.2.2.2.1 (cx.2.2.2.2.1 _ hl) (cx.2.2.2.2.1 _ nw_cpy_n) (cx.2.2.2.2.1 _ nw_cpy_s) (cx.2.2.2.2.1 _ nw_sys_i) (src := nw_a g j) (dst := nw_a g k) (cs := vp_cell (nw_ca g 0) (n0, .inl (I j))) (cd := vp_cell (nw_ca g 0) (n1, .inl (I k))) (srcPos := sp) (destPos := dp) (n := n) (by rw [hT]; exact hc0) (by rw [hT]; exact hc1)
    (fun _ h => by cases h) (fun _ h => by cases h) (fun h => by cases h) (fun h => by cases h) hk0 hk1 hkk0 hkk1 (by simp [refKind]) g1 g2 g3
    (by rw [nn sp g1, nn n g3]; show ¬ _ > ((arrV (nw_ca g 0) n0 (fun q => .int (I j q))).slots.size : Int); rw [arrV_size]; omega)
    (by rw [nn dp g2, nn n g3]; show ¬ _ > ((arrV (nw_ca g 0) n1 (fun q => .int (I k q))).slots.size : Int); rw [arrV_size]; omega)
    (fun vm₁ _ i hi => by
      have e : (vp_cell (nw_ca g 0) (n0, .inl (I j))).slots.getD (sp.toNatClampNeg + i) .null = .int (I j (sp.toNatClampNeg + i)) := by
        show (arrV (nw_ca g 0) n0 (fun q => .int (I j q))).slots.getD _ _ = _
        rw [Array.getD_eq_getD_getElem?, arrV_read _ _ (by omega)]
        rfl
      refine ⟨?_, ?_⟩
      · rw [e]
        rfl
      · rw [e]
        exact trivial)
    (g := F0 m pc la (.int n :: .int dp :: .ref (nw_a g k) :: .int sp :: .ref (nw_a g j) :: st)) rfl (by rw [cx.2.2.1]; exact hlr.1) (rest := st) rfl (by rw [cx.2.1]; exact hd) (by have := cx.2.2.2.2.2.2.1; omega) (by
      have := cx.2.2.2.2.2.2.2
      show 2 * 0 + _ + _ ≤ _
      have e : nativeFrameWords "java/lang/System" "arraycopy" 5 + 11 = 18 := by decide +kernel
      omega)
  have e1 : copied (vp_cell (nw_ca g 0) (n0, .inl (I j))) (vp_cell (nw_ca g 0) (n1, .inl (I k))) sp dp n = vp_cell (nw_ca g 0) (n1, .inl (va_cpy (I j) (I k) sp.toNatClampNeg dp.toNatClampNeg n.toNatClampNeg)) := va_copied (fun z => .int z) _ _ (I j) (I k) g4
  rw [e1] at X' step
  have hlt : nw_a g k < H.size := (Array.getElem?_eq_some_iff.mp hc1).1
  have hheap : ((T.setVm vm').setCell (nw_a g k) (vp_cell (nw_ca g 0) (n1, .inl (va_cpy (I j) (I k) sp.toNatClampNeg dp.toNatClampNeg n.toNatClampNeg)))).heap = H.setIfInBounds (nw_a g k) (vp_cell (nw_ca g 0) (n1, .inl (va_cpy (I j) (I k) sp.toNatClampNeg dp.toNatClampNeg n.toNatClampNeg))) := by rw [← hT]; rfl
  have oq : ∀ q : Nat, q ≠ nw_a g k → (H.setIfInBounds (nw_a g k) (vp_cell (nw_ca g 0) (n1, .inl (va_cpy (I j) (I k) sp.toNatClampNeg dp.toNatClampNeg n.toNatClampNeg))))[q]? = H[q]? := fun q hq => by simp [Array.getElem?_setIfInBounds, Ne.symm hq]
  have wh' : nw_Wh g sh (nw_cp I j sp.toNatClampNeg k dp.toNatClampNeg n.toNatClampNeg) (H.setIfInBounds (nw_a g k) (vp_cell (nw_ca g 0) (n1, .inl (va_cpy (I j) (I k) sp.toNatClampNeg dp.toNatClampNeg n.toNatClampNeg)))) := by
    refine wh.set (c' := .inl (0, n1)) (nw_set_self hk) (fun q hq => by simp [nw_cp, hq]) (by simp) oq (List.getElem?_eq_some_iff.mp hk).1 ?_
    show (H.setIfInBounds (nw_a g k) _)[nw_a g k]? = some (vp_cell (nw_ca g 0) (n1, .inl (nw_cp I j _ k _ _ k)))
    simp [Array.getElem?_setIfInBounds, hlt, nw_cp]
  obtain ⟨t, a1, b1⟩ := kk p e R s m args below meth c _ _ cells slots Q la cx ws wh' ⟨by simp; exact hs.1, fun q z1 z2 => by
      rw [oq q (fun e => z2 (by rw [e]; exact nw_A_a g k))]
      exact hs.2.1 q z1 z2, fun q hq => by
      rcases List.mem_append.mp hq with h | h
      · exact hs.2.2 q h
      · obtain ⟨z, -, hz⟩ := List.mem_map.mp h
        rw [← hz]
        exact nw_A_a g k⟩ hlr h1 h2 hr _ hheap X'
  exact ⟨t, step t a1, b1⟩
end
end
section
/-! Cells that are made. -/
/-- cell k holds zeros -/
def nw_z (I : nw_Me) (k : Nat) : nw_Me := fun a => if a = k then fun _ => 0 else I a
theorem nw_z_ne {I : nw_Me} {k a : Nat} (h : a ≠ k) : nw_z I k a = I a := if_neg h
theorem nw_z_self (I : nw_Me) (k : Nat) : nw_z I k k = fun _ => 0 := if_pos rfl
theorem nw_cells {cells kc a : Nat} : cells + a + kc = cells + (kc + a) := by omega
section
variable {l : Launch} {g : nw_G} {d : Nat} {M : nw_Mt} {pc : Nat} {ls : List (Option Value)} {st : List Value} {sh : List nw_Sh} {I : nw_Me} {kc ks : Nat} {Post : Option Int32 → List nw_Sh → nw_Me → Prop}
theorem nw_fs_V (k : Nat) {fs : List (Option (Option Nat))} {ci N : Nat} (hfs : ∀ j, j < N → fs[j]? = some none ∧ defaultValue (nw_tyf ci j) = .int 0 ∨ fs[j]? = some (some none) ∧ defaultValue (nw_tyf ci j) = .null) : ∀ j, j < N → defaultValue (nw_tyf ci j) = vp_V (nw_fs g (nw_z I k) k 0 fs) j := by
  intro j hj
  unfold vp_V
  rw [List.getD_eq_getElem?_getD, nw_fs_get]
  rcases hfs j hj with ⟨h1, h2⟩ | ⟨h1, h2⟩
  · rw [h1, h2]
    simp [nw_fv, nw_z]
  · rw [h1, h2]
    simp [nw_fv]
theorem ev_new {i ci N : Nat} {C : String} {T : u_T} {fs : List (Option (Option Nat))} (hl : Cond.classLink M.1.cls i C ∈ nw_gw) (hcl : nw_cl[ci]? = some (C, T, N)) (hi : Cond.instantiable C N ∈ nw_gw) (hini : Cond.initialized C ∈ nw_gw) (hd : decode M.2.1 pc = .ok (.new i, 3)) (hci : ci < 100) (hfs : ∀ j, j < N → fs[j]? = some none ∧ defaultValue (nw_tyf ci j) = .int 0 ∨ fs[j]? = some (some none) ∧ defaultValue (nw_tyf ci j) = .null)
    (k : nw_Ev l g d M (pc + 3) ls (.ref (nw_a g sh.length) :: st) (sh ++ [.inr (ci, fs)]) (nw_z I sh.length) kc ks Post) : nw_Ev l g d M pc ls st sh I (kc + 1) (ks + N) Post := by
  intro p e R s m args below meth c H locs cells slots Q la cx ws wh hs hlr h1 h2 hr
  have hts := cx.2.2.2.2.1
  have hKn := ws.2.1.1 ci _ hcl
  refine W.newcK cx.1 cx.2.1 cx.2.2.2.1 (hts _ hl) (hts _ hi) (hts _ hini) rfl hd (by omega) (by omega) hKn.2.1 (h := nw_a g sh.length) wh.1 fun H1 kC hkC e1 z1 o1 => ?_
  have hsz : nw_a g sh.length = H.size := wh.1.symm
  have wh' : nw_Wh g (sh ++ [.inr (ci, fs)]) (nw_z I sh.length) H1 := by
    refine wh.push (fun j hj => nw_z_ne (by omega)) (by rw [z1, hsz]) (fun q hq => o1 q (by rw [hsz]; exact hq)) ?_
    simp only [nw_e, if_pos hci]
    exact ⟨_, hcl, (u_born (nw_tyf ci) hts (nw_lays hcl) hKn hkC e1 (nw_tyf_ok hcl)).to (nw_fs_V _ hfs)⟩
  refine k p e R s m args below meth c H1 locs (cells + 1) (slots + N) Q la cx ws wh' (nw_S_push hs (by omega) (fun q hq => o1 q (by rw [hsz]; exact hq))) hlr (by omega) (by omega) ?_
  intro v sh' I' H' locs' q1 q2 q3
  rw [nw_cells, nw_cells]
  exact hr v sh' I' H' locs' q1 q2 q3
theorem ev_newarr {t N : Nat} {atype : ArrayType} {ty : FieldType} {n : Int32} (ha : Cond.arrayClass (newarray.typeOf atype) ∈ nw_gw) (hty : newarray.typeOf atype = ty) (htt : (nw_ty g)[t]? = some (nw_ca g t, ty)) (hR : ∀ (s : State), va_RA s (nw_ca g t) ty → s.vm.findClass ("[" ++ ty.toString) = some (nw_ca g t)) (hdf : defaultValue ty = .int 0) (hd : decode M.2.1 pc = .ok (.newarray atype, 2)) (hn : ¬ n < 0) (hN : n.toNatClampNeg = N) (hby : N * componentBytes ty ≤ 536870912)
    (k : nw_Ev l g d M (pc + 2) ls (.ref (nw_a g sh.length) :: st) (sh ++ [.inl (t, N)]) (nw_z I sh.length) kc ks Post) : nw_Ev l g d M pc ls (.int n :: st) sh I (kc + 1) (ks + N) Post := by
  subst hty
  intro p e R s m args below meth c H locs cells slots Q la cx ws wh hs hlr h1 h2 hr
  refine va_newaK cx.1 cx.2.1 (cx.2.2.2.2.1 _ ha) rfl hd rfl hn hN hby (by omega) (by omega) (h := nw_a g sh.length) wh.1 fun H1 cA e1 z1 o1 hAr hNm => ?_
  have hcA : cA = nw_ca g t := Option.some.inj (hNm.symm.trans (hR s (ws.2.1.2 t _ htt).2))
  subst hcA
  have hsz : nw_a g sh.length = H.size := wh.1.symm
  have wh' : nw_Wh g (sh ++ [.inl (t, N)]) (nw_z I sh.length) H1 := by
    refine wh.push (fun j hj => nw_z_ne (by omega)) (by rw [z1, hsz]) (fun q hq => o1 q (by rw [hsz]; exact hq)) ?_
    show H1[nw_a g sh.length]? = some (vp_cell (nw_ca g t) (N, .inl (nw_z I sh.length sh.length)))
    rw [nw_z_self, vp_cell_i, e1, hdf]
  refine k p e R s m args below meth c H1 locs (cells + 1) (slots + N) Q la cx ws wh' (nw_S_push hs (by omega) (fun q hq => o1 q (by rw [hsz]; exact hq))) hlr (by omega) (by omega) ?_
  intro v sh' I' H' locs' q1 q2 q3
  rw [nw_cells, nw_cells]
  exact hr v sh' I' H' locs' q1 q2 q3
theorem ev_newI {N : Nat} {n : Int32} (hd : decode M.2.1 pc = .ok (.newarray .int, 2)) (hn : ¬ n < 0) (hN : n.toNatClampNeg = N) (hby : N * 4 ≤ 536870912)
    (k : nw_Ev l g d M (pc + 2) ls (.ref (nw_a g sh.length) :: st) (sh ++ [.inl (0, N)]) (nw_z I sh.length) kc ks Post) : nw_Ev l g d M pc ls (.int n :: st) sh I (kc + 1) (ks + N) Post :=
  ev_newarr (t := 0) (ty := .int) (tb_in (i := 40) (by decide +kernel)) rfl rfl (fun _ h => h) rfl hd hn hN hby k
theorem ev_newZ {N : Nat} {n : Int32} (hd : decode M.2.1 pc = .ok (.newarray .boolean, 2)) (hn : ¬ n < 0) (hN : n.toNatClampNeg = N) (hby : N * 1 ≤ 536870912)
    (k : nw_Ev l g d M (pc + 2) ls (.ref (nw_a g sh.length) :: st) (sh ++ [.inl (1, N)]) (nw_z I sh.length) kc ks Post) : nw_Ev l g d M pc ls (.int n :: st) sh I (kc + 1) (ks + N) Post :=
  ev_newarr (t := 1) (ty := .boolean) (tb_in (i := 893) (by decide +kernel)) rfl rfl (fun _ h => h) rfl hd hn hN hby k
theorem ev_anew {i t N : Nat} {C : String} {n : Int32} (hl : Cond.classLink M.1.cls i C ∈ nw_gw) (hao : ∀ s, nw_Ws g s → va_AO C s) (htt : (nw_ty g)[t]? = some (nw_ca g t, .object C)) (hd : decode M.2.1 pc = .ok (.anewarray i, 3)) (hn : ¬ n < 0) (hN : n.toNatClampNeg = N) (hby : N * 4 ≤ 536870912)
    (k : nw_Ev l g d M (pc + 3) ls (.ref (nw_a g sh.length) :: st) (sh ++ [.inr (100 + t, List.replicate N (some none))]) (nw_z I sh.length) kc ks Post) : nw_Ev l g d M pc ls (.int n :: st) sh I (kc + 1) (ks + N) Post := by
  subst hN
  intro p e R s m args below meth c H locs cells slots Q la cx ws wh hs hlr h1 h2 hr
  refine W.anew cx.1 cx.2.1 cx.2.2.2.1 (cx.2.2.2.2.1 _ hl) (va_AO.use (hao s ws)) rfl hd rfl hn hby (by omega) (by omega) fun cA kA comp f1 f2 f3 f4 => ?_
  generalize hH1 : H.push ({ cls := cA, slots := Array.replicate n.toNatClampNeg .null, vm := .none } : Cell) = H1
  have z1 : H1.size = H.size + 1 := by rw [← hH1, Array.size_push]
  have e1 : H1[H.size]? = some (arrV cA n.toNatClampNeg (fun _ => .null)) := by rw [← hH1, Array.getElem?_push_size, ← arrV_new]
  have o1 : ∀ q : Nat, q < H.size → H1[q]? = H[q]? := fun q hq => by rw [← hH1, Array.getElem?_push, if_neg (Nat.ne_of_lt hq)]
  obtain ⟨kB, cB, -, -, -, g4⟩ := (ws.2.1.2 t _ htt).2
  have hcA : cA = nw_ca g t := Option.some.inj (f1.symm.trans g4)
  subst hcA
  have hsz : H.size = nw_a g sh.length := wh.1
  have wh' : nw_Wh g (sh ++ [.inr (100 + t, List.replicate n.toNatClampNeg (some none))]) (nw_z I sh.length) H1 := by
    refine wh.push (fun j hj => nw_z_ne (by omega)) z1 o1 ?_
    simp only [nw_e, if_neg (show ¬ 100 + t < 100 by omega), Nat.add_sub_cancel_left, List.length_replicate]
    show H1[nw_a g sh.length]? = some (vp_cell (nw_ca g t) (n.toNatClampNeg, _))
    rw [vp_cell_q, ← hsz, e1]
    congr 2
    funext j
    simp only [nw_rf, List.getElem?_replicate]
    split <;> rename_i hj
    · split at hj <;> simp at hj
    · rfl
  rw [hsz]
  refine k p e R s m args below meth c H1 locs (cells + 1) (slots + n.toNatClampNeg) Q la cx ws wh' (nw_S_push hs (by omega) o1) hlr (by omega) (by omega) ?_
  intro v sh' I' H' locs' q1 q2 q3
  rw [nw_cells, nw_cells]
  exact hr v sh' I' H' locs' q1 q2 q3
theorem nw_fs_putR (g : nw_G) (I : nw_Me) (k i j : Nat) {fs : List (Option (Option Nat))} (hi : i < fs.length) : nw_fs g I k 0 (fs.set i (some (some j))) = (nw_fs g I k 0 fs).set i (.ref (nw_a g j)) := by
  apply List.ext_getElem?
  intro q
  rw [nw_fs_get, List.getElem?_set, List.getElem?_set, nw_fs_get, nw_fs_len]
  by_cases hq : i = q
  · subst hq
    rw [if_pos rfl, if_pos hi, if_pos rfl, if_pos hi]
    rfl
  · rw [if_neg hq, if_neg hq]
/-- a final field of references, in its own class's constructor -/
theorem ev_putR {i ci k f j : Nat} {fs : List (Option (Option Nat))} {T : u_T} {N : Nat} {C : String} (hf : nw_fl M.1.cls i ci f) (hd : decode M.2.1 pc = .ok (.putfield i, 3)) (hk : sh[k]? = some (.inr (ci, fs))) (hlf : f < fs.length) (hci : ci < 100) (hcl : nw_cl[ci]? = some (C, T, N)) (hC : C = M.1.cls) (hfin : (T f).2.2.2 = true) (hini : M.1.name = "<init>") (hn : narrow (nw_tyf ci f) (.ref (nw_a g j)) = .ref (nw_a g j)) (hfit : fits (nw_tyf ci f) (.ref (nw_a g j)) = true)
    (kk : nw_Ev l g d M (pc + 3) ls st (sh.set k (.inr (ci, fs.set f (some (some j))))) I kc ks Post) : nw_Ev l g d M pc ls (.ref (nw_a g j) :: .ref (nw_a g k) :: st) sh I kc ks Post := by
  intro p e R s m args below meth c H locs cells slots Q la cx ws wh hs hl h1 h2 hr
  obtain ⟨C', T', N', q1, q2, q3, q4⟩ := hf
  cases q1.symm.trans hcl
  have hts := cx.2.2.2.2.1
  have hown := cx.2.2.2.1
  have hP := wh.obj hk hci
  have hin := nw_lays hcl
  have hap := va_apart (own := M.1.cls) hts hin _ (nw_tyf_ok hcl) (nw_nmf hcl) ws.2.1 hcl
  obtain ⟨r, g1, cell, c1, c2, c3, c4⟩ := hP 0 _ rfl
  have hrr : r = (C, T, N) := Option.some.inj (g1.symm.trans hcl)
  subst hrr
  obtain ⟨hS, hfc, kC, hkC, hkind⟩ := ws.2.1.1 ci _ hcl
  obtain ⟨cf, kf, fi, fd, hi, hsl⟩ := hS f q2
  have hlay := hts _ (hin _ (u_in_lay q2))
  unfold u_lay at hlay
  rw [if_pos hfin] at hlay
  have hst := (u_facts hfc hkC (u_lays hts hin q2) hi).1
  have hcf : m.cls = cf := by
    obtain ⟨_, _, c', _, _, _, -, -, hf', -, -, -, hown2, -⟩ := Cond.laysFinal_spec hlay
    have e1 : c' = cf := by have := hi.symm.trans hf'; simp at this; exact this.1.symm
    rw [q3, hC] at hown2
    rw [← e1]; exact Option.some.inj (hown.symm.trans hown2)
  have h6 := u_fits hfc hkC hkind (Or.inr hlay) hi (nw_tyf_ok hcl f q2) hn hfit
  have hi' : s.fieldFound? C (T f).2.1 (T f).2.2.1 = some (cf, kf, fi, fd) := by rw [← q3]; exact hi
  refine W.putFinK cx.1 cx.2.1 hown (hts _ q4) hi' hst hcf (cx.2.2.2.2.2.1.trans hini) (by rw [c2]; exact h6) c1 c3 (by rw [hsl]; exact k2_hasslot (c4 f q2)) rfl rfl hd fun H' e1 e2 e3 => ?_
  rw [hsl] at e1 ⊢
  have hlen : k < sh.length := (List.getElem?_eq_some_iff.mp hk).1
  have wh' : nw_Wh g (sh.set k (.inr (ci, fs.set f (some (some j))))) I H' := by
    refine wh.set (c' := .inr (ci, fs.set f (some (some j)))) rfl (fun j hj => rfl) e2 e3 hlen ?_
    simp only [nw_e, if_pos hci]
    rw [nw_fs_putR g I k f j hlf]
    exact ⟨_, hcl, t_OB.to (V := updV (vp_V (nw_fs g I k 0 fs)) f (.ref (nw_a g j))) ⟨_, e1, c2, c3, t_set c4 hap q2 _⟩ (fun j _ => vp_updV_set (by rw [nw_fs_len]; exact hlf) _ j)⟩
  exact kk p e R s m args below meth c H' _ cells slots Q la cx ws wh' (hs.put e2 e3 (nw_A_a g k)) hl h1 h2 hr
theorem ev_aast {k t v ci N : Nat} {i : Int32} {C : String} {T : u_T} {fs vs : List (Option (Option Nat))} (hd : decode M.2.1 pc = .ok (.aastore, 1)) (hk : sh[k]? = some (.inr (100 + t, fs))) (htt : (nw_ty g)[t]? = some (nw_ca g t, .object C)) (hv : sh[v]? = some (.inr (ci, vs))) (hci : ci < 100) (hcl : nw_cl[ci]? = some (C, T, N)) (hin : vp_in i fs.length)
    (kk : nw_Ev l g d M (pc + 1) ls st (sh.set k (.inr (100 + t, fs.set i.toNatClampNeg (some (some v))))) I kc ks Post) : nw_Ev l g d M pc ls (.ref (nw_a g v) :: .int i :: .ref (nw_a g k) :: st) sh I kc ks Post := by
  intro p e R s m args below meth c H locs cells slots Q la cx ws wh hs hl h1 h2 hr
  have hlt : i.toNatClampNeg < fs.length := Nat.not_le.mp fun q => hin (Or.inr q)
  have h0 : ¬ i < 0 := fun q => hin (Or.inl q)
  obtain ⟨r', hr', cellV, g1, g2, g3, -⟩ := wh.obj hv hci 0 _ rfl
  have hcls := (ws.2.1.1 ci _ hcl).2
  obtain ⟨kA, comp, k1, k2, k3, -⟩ := (ws.2.1.2 t _ htt).2
  have hcomp : comp = (nw_D g).1 ci := Option.some.inj (k3.symm.trans hcls.1)
  subst hcomp
  obtain ⟨kC, hkC, -⟩ := hcls.2
  refine W.aast cx.1 cx.2.1 (wh.row hk 0 _ rfl) (fun q h => by cases h) (fun h => by cases h) k1 k2 rfl hkC ⟨h0, by show _ < (arrV _ _ _).slots.size; rw [arrV_size]; exact hlt⟩ g1 (fun q h => by rw [g3] at h; cases h) (by rw [g2]; exact hkC) (by rw [g2]; exact va_assign hcls) rfl rfl hd fun H1 e1 e2 e3 => ?_
  have wh' : nw_Wh g (sh.set k (.inr (100 + t, fs.set i.toNatClampNeg (some (some v))))) I H1 := by
    refine wh.set (c' := .inr (100 + t, fs.set i.toNatClampNeg (some (some v)))) rfl (fun j hj => rfl) e2 e3 (List.getElem?_eq_some_iff.mp hk).1 ?_
    simp only [nw_e, if_neg (show ¬ 100 + t < 100 by omega), Nat.add_sub_cancel_left, List.length_set]
    show H1[nw_a g k]? = some (vp_cell (nw_ca g t) (fs.length, _))
    rw [e1, vp_cell_q, vp_cell_q, arrV_store]
    congr 2
    funext q
    by_cases hq : q = i.toNatClampNeg
    · subst hq
      simp [updV, nw_rf, va_rf, hlt]
    · simp [updV, nw_rf, hq, List.getElem?_set, Ne.symm hq]
  exact kk p e R s m args below meth c H1 _ cells slots Q la cx ws wh' (hs.put e2 e3 (nw_A_a g k)) hl h1 h2 hr
end
end
section
/-! Behind the constructors: the shapes stand; only ints change. -/
abbrev nw_sI (n : Nat) : nw_Sh := .inl (0, n)
abbrev nw_rr (k : Nat) : Option (Option Nat) := some (some k)
abbrev nw_nn : Option (Option Nat) := none
abbrev nw_sSc (a : Nat) : List nw_Sh := [.inr (7, [nw_nn, nw_nn, nw_rr (a + 1), nw_rr (a + 2), nw_rr (a + 3), nw_rr (a + 4), nw_rr (a + 5)]), nw_sI 3, nw_sI 6, nw_sI 6, nw_sI 6, nw_sI 6]
abbrev nw_sCh (a : Nat) : List nw_Sh := [.inr (2, [nw_nn, nw_nn, nw_nn, nw_nn, nw_nn, nw_rr (a + 1), nw_rr (a + 2), nw_rr (a + 3), nw_rr (a + 4)]), nw_sI 20, nw_sI 20, nw_sI 3, nw_sI 6]
def nw_SH : List nw_Sh := [
  .inr (8, [nw_rr 1, nw_rr 13, nw_rr 15, nw_rr 20, nw_rr 25, nw_rr 31, nw_rr 37, nw_rr 183, nw_rr 192, nw_rr 194, nw_nn, nw_nn, nw_nn]),
  .inr (6, [nw_rr 2, nw_rr 3, nw_rr 4]),
  nw_sI 8,
  nw_sI 8,
  .inr (104, [nw_rr 5, nw_rr 6, nw_rr 7, nw_rr 8, nw_rr 9, nw_rr 10, nw_rr 11, nw_rr 12]),
  nw_sI 40,
  nw_sI 40,
  nw_sI 40,
  nw_sI 40,
  nw_sI 40,
  nw_sI 40,
  nw_sI 40,
  nw_sI 40,
  .inr (5, [nw_rr 14, nw_nn, nw_nn, nw_nn, nw_nn, nw_nn]),
  nw_sI 160,
  .inr (2, [nw_nn, nw_nn, nw_nn, nw_nn, nw_nn, nw_rr 16, nw_rr 17, nw_rr 18, nw_rr 19]),
  nw_sI 20,
  nw_sI 20,
  nw_sI 3,
  nw_sI 6,
  .inr (2, [nw_nn, nw_nn, nw_nn, nw_nn, nw_nn, nw_rr 21, nw_rr 22, nw_rr 23, nw_rr 24]),
  nw_sI 20,
  nw_sI 20,
  nw_sI 3,
  nw_sI 6,
  .inr (7, [nw_nn, nw_nn, nw_rr 26, nw_rr 27, nw_rr 28, nw_rr 29, nw_rr 30]),
  nw_sI 3,
  nw_sI 6,
  nw_sI 6,
  nw_sI 6,
  nw_sI 6,
  .inr (7, [nw_nn, nw_nn, nw_rr 32, nw_rr 33, nw_rr 34, nw_rr 35, nw_rr 36]),
  nw_sI 3,
  nw_sI 6,
  nw_sI 6,
  nw_sI 6,
  nw_sI 6,
  .inr (0, [nw_rr 38, nw_nn, nw_nn]),
  .inr (102, [nw_rr 39, nw_rr 45, nw_rr 51, nw_rr 57, nw_rr 63, nw_rr 69, nw_rr 75, nw_rr 81, nw_rr 87, nw_rr 93, nw_rr 99, nw_rr 105, nw_rr 111, nw_rr 117, nw_rr 123, nw_rr 129, nw_rr 135, nw_rr 141, nw_rr 147, nw_rr 153, nw_rr 159, nw_rr 165, nw_rr 171, nw_rr 177]),
  .inr (7, [nw_nn, nw_nn, nw_rr 40, nw_rr 41, nw_rr 42, nw_rr 43, nw_rr 44]),
  nw_sI 3,
  nw_sI 6,
  nw_sI 6,
  nw_sI 6,
  nw_sI 6,
  .inr (7, [nw_nn, nw_nn, nw_rr 46, nw_rr 47, nw_rr 48, nw_rr 49, nw_rr 50]),
  nw_sI 3,
  nw_sI 6,
  nw_sI 6,
  nw_sI 6,
  nw_sI 6,
  .inr (7, [nw_nn, nw_nn, nw_rr 52, nw_rr 53, nw_rr 54, nw_rr 55, nw_rr 56]),
  nw_sI 3,
  nw_sI 6,
  nw_sI 6,
  nw_sI 6,
  nw_sI 6,
  .inr (7, [nw_nn, nw_nn, nw_rr 58, nw_rr 59, nw_rr 60, nw_rr 61, nw_rr 62]),
  nw_sI 3,
  nw_sI 6,
  nw_sI 6,
  nw_sI 6,
  nw_sI 6,
  .inr (7, [nw_nn, nw_nn, nw_rr 64, nw_rr 65, nw_rr 66, nw_rr 67, nw_rr 68]),
  nw_sI 3,
  nw_sI 6,
  nw_sI 6,
  nw_sI 6,
  nw_sI 6,
  .inr (7, [nw_nn, nw_nn, nw_rr 70, nw_rr 71, nw_rr 72, nw_rr 73, nw_rr 74]),
  nw_sI 3,
  nw_sI 6,
  nw_sI 6,
  nw_sI 6,
  nw_sI 6,
  .inr (7, [nw_nn, nw_nn, nw_rr 76, nw_rr 77, nw_rr 78, nw_rr 79, nw_rr 80]),
  nw_sI 3,
  nw_sI 6,
  nw_sI 6,
  nw_sI 6,
  nw_sI 6,
  .inr (7, [nw_nn, nw_nn, nw_rr 82, nw_rr 83, nw_rr 84, nw_rr 85, nw_rr 86]),
  nw_sI 3,
  nw_sI 6,
  nw_sI 6,
  nw_sI 6,
  nw_sI 6,
  .inr (7, [nw_nn, nw_nn, nw_rr 88, nw_rr 89, nw_rr 90, nw_rr 91, nw_rr 92]),
  nw_sI 3,
  nw_sI 6,
  nw_sI 6,
  nw_sI 6,
  nw_sI 6,
  .inr (7, [nw_nn, nw_nn, nw_rr 94, nw_rr 95, nw_rr 96, nw_rr 97, nw_rr 98]),
  nw_sI 3,
  nw_sI 6,
  nw_sI 6,
  nw_sI 6,
  nw_sI 6,
  .inr (7, [nw_nn, nw_nn, nw_rr 100, nw_rr 101, nw_rr 102, nw_rr 103, nw_rr 104]),
  nw_sI 3,
  nw_sI 6,
  nw_sI 6,
  nw_sI 6,
  nw_sI 6,
  .inr (7, [nw_nn, nw_nn, nw_rr 106, nw_rr 107, nw_rr 108, nw_rr 109, nw_rr 110]),
  nw_sI 3,
  nw_sI 6,
  nw_sI 6,
  nw_sI 6,
  nw_sI 6,
  .inr (7, [nw_nn, nw_nn, nw_rr 112, nw_rr 113, nw_rr 114, nw_rr 115, nw_rr 116]),
  nw_sI 3,
  nw_sI 6,
  nw_sI 6,
  nw_sI 6,
  nw_sI 6,
  .inr (7, [nw_nn, nw_nn, nw_rr 118, nw_rr 119, nw_rr 120, nw_rr 121, nw_rr 122]),
  nw_sI 3,
  nw_sI 6,
  nw_sI 6,
  nw_sI 6,
  nw_sI 6,
  .inr (7, [nw_nn, nw_nn, nw_rr 124, nw_rr 125, nw_rr 126, nw_rr 127, nw_rr 128]),
  nw_sI 3,
  nw_sI 6,
  nw_sI 6,
  nw_sI 6,
  nw_sI 6,
  .inr (7, [nw_nn, nw_nn, nw_rr 130, nw_rr 131, nw_rr 132, nw_rr 133, nw_rr 134]),
  nw_sI 3,
  nw_sI 6,
  nw_sI 6,
  nw_sI 6,
  nw_sI 6,
  .inr (7, [nw_nn, nw_nn, nw_rr 136, nw_rr 137, nw_rr 138, nw_rr 139, nw_rr 140]),
  nw_sI 3,
  nw_sI 6,
  nw_sI 6,
  nw_sI 6,
  nw_sI 6,
  .inr (7, [nw_nn, nw_nn, nw_rr 142, nw_rr 143, nw_rr 144, nw_rr 145, nw_rr 146]),
  nw_sI 3,
  nw_sI 6,
  nw_sI 6,
  nw_sI 6,
  nw_sI 6,
  .inr (7, [nw_nn, nw_nn, nw_rr 148, nw_rr 149, nw_rr 150, nw_rr 151, nw_rr 152]),
  nw_sI 3,
  nw_sI 6,
  nw_sI 6,
  nw_sI 6,
  nw_sI 6,
  .inr (7, [nw_nn, nw_nn, nw_rr 154, nw_rr 155, nw_rr 156, nw_rr 157, nw_rr 158]),
  nw_sI 3,
  nw_sI 6,
  nw_sI 6,
  nw_sI 6,
  nw_sI 6,
  .inr (7, [nw_nn, nw_nn, nw_rr 160, nw_rr 161, nw_rr 162, nw_rr 163, nw_rr 164]),
  nw_sI 3,
  nw_sI 6,
  nw_sI 6,
  nw_sI 6,
  nw_sI 6,
  .inr (7, [nw_nn, nw_nn, nw_rr 166, nw_rr 167, nw_rr 168, nw_rr 169, nw_rr 170]),
  nw_sI 3,
  nw_sI 6,
  nw_sI 6,
  nw_sI 6,
  nw_sI 6,
  .inr (7, [nw_nn, nw_nn, nw_rr 172, nw_rr 173, nw_rr 174, nw_rr 175, nw_rr 176]),
  nw_sI 3,
  nw_sI 6,
  nw_sI 6,
  nw_sI 6,
  nw_sI 6,
  .inr (7, [nw_nn, nw_nn, nw_rr 178, nw_rr 179, nw_rr 180, nw_rr 181, nw_rr 182]),
  nw_sI 3,
  nw_sI 6,
  nw_sI 6,
  nw_sI 6,
  nw_sI 6,
  .inr (4, [nw_rr 184, nw_rr 188, nw_rr 189, nw_rr 190, nw_rr 191, nw_nn]),
  .inr (104, [nw_rr 185, nw_rr 186, nw_rr 187]),
  nw_sI 6,
  nw_sI 6,
  nw_sI 6,
  nw_sI 3,
  nw_sI 3,
  nw_sI 6,
  nw_sI 6,
  .inr (1, [nw_rr 193, nw_nn, nw_nn, nw_nn, nw_nn, nw_nn]),
  nw_sI 16,
  .inr (103, [nw_rr 195, nw_rr 207]),
  .inr (3, [nw_rr 196, nw_rr 201, nw_nn]),
  .inr (2, [nw_nn, nw_nn, nw_nn, nw_nn, nw_nn, nw_rr 197, nw_rr 198, nw_rr 199, nw_rr 200]),
  nw_sI 20,
  nw_sI 20,
  nw_sI 3,
  nw_sI 6,
  .inr (7, [nw_nn, nw_nn, nw_rr 202, nw_rr 203, nw_rr 204, nw_rr 205, nw_rr 206]),
  nw_sI 3,
  nw_sI 6,
  nw_sI 6,
  nw_sI 6,
  nw_sI 6,
  .inr (3, [nw_rr 208, nw_rr 213, nw_nn]),
  .inr (2, [nw_nn, nw_nn, nw_nn, nw_nn, nw_nn, nw_rr 209, nw_rr 210, nw_rr 211, nw_rr 212]),
  nw_sI 20,
  nw_sI 20,
  nw_sI 3,
  nw_sI 6,
  .inr (7, [nw_nn, nw_nn, nw_rr 214, nw_rr 215, nw_rr 216, nw_rr 217, nw_rr 218]),
  nw_sI 3,
  nw_sI 6,
  nw_sI 6,
  nw_sI 6,
  nw_sI 6,
  .inr (9, [nw_rr 220, nw_rr 221, nw_rr 222, nw_nn, nw_rr 223, nw_rr 224, nw_nn, nw_nn, nw_rr 225, nw_rr 226, nw_rr 227, nw_rr 228, nw_rr 229, nw_rr 230, nw_nn, nw_nn, nw_nn, nw_nn, nw_nn, nw_nn, nw_nn, nw_nn, nw_rr 231, nw_rr 232, nw_rr 233, nw_rr 234, nw_rr 235, nw_rr 236, nw_nn]),
  nw_sI 8,
  nw_sI 8,
  nw_sI 320,
  nw_sI 40,
  nw_sI 160,
  nw_sI 55,
  nw_sI 29,
  nw_sI 55,
  nw_sI 168,
  .inl (1, 2),
  nw_sI 696,
  nw_sI 3,
  nw_sI 6,
  nw_sI 29,
  nw_sI 6,
  nw_sI 6,
  nw_sI 16]
/-- a scene's cells, a chart's cells -/
def nw_iSc (a : Nat) : Prop := nw_SH[a]? = some (.inr (7, [nw_nn, nw_nn, nw_rr (a + 1), nw_rr (a + 2), nw_rr (a + 3), nw_rr (a + 4), nw_rr (a + 5)])) ∧ nw_SH[a + 1]? = some (nw_sI 3) ∧ nw_SH[a + 2]? = some (nw_sI 6) ∧ nw_SH[a + 3]? = some (nw_sI 6) ∧ nw_SH[a + 4]? = some (nw_sI 6) ∧ nw_SH[a + 5]? = some (nw_sI 6)
def nw_iCh (a : Nat) : Prop := nw_SH[a]? = some (.inr (2, [nw_nn, nw_nn, nw_nn, nw_nn, nw_nn, nw_rr (a + 1), nw_rr (a + 2), nw_rr (a + 3), nw_rr (a + 4)])) ∧ nw_SH[a + 1]? = some (nw_sI 20) ∧ nw_SH[a + 2]? = some (nw_sI 20) ∧ nw_SH[a + 3]? = some (nw_sI 3) ∧ nw_SH[a + 4]? = some (nw_sI 6)
/-- a boolean as an int -/
def nw_bi (b : Bool) : Int32 := if b then 1 else 0
theorem nw_bi_t : nw_bi true = 1 := rfl
theorem nw_bi_f : nw_bi false = 0 := rfl
theorem nw_bi_0 {b : Bool} : nw_bi b = 0 ↔ b = false := by cases b <;> decide
theorem nw_bi_nar (b : Bool) : narrow .boolean (.int (nw_bi b)) = .int (nw_bi b) := by cases b <;> decide +kernel
/-- contracts: an int, a boolean, nothing -/
def nw_qI (P : Int32 → nw_Me → Prop) : Option Int32 → List nw_Sh → nw_Me → Prop := fun v sh I => sh = nw_SH ∧ ∃ r, v = some r ∧ P r I
def nw_qZ (P : Bool → nw_Me → Prop) : Option Int32 → List nw_Sh → nw_Me → Prop := fun v sh I => sh = nw_SH ∧ ∃ b, v = some (nw_bi b) ∧ P b I
def nw_qV (P : nw_Me → Prop) : Option Int32 → List nw_Sh → nw_Me → Prop := fun v sh I => sh = nw_SH ∧ v = none ∧ P I
abbrev nw_S (l : Launch) (g : nw_G) (d : Nat) (M : nw_Mt) (pc : Nat) (ls : List (Option Value)) (st : List Value) (I : nw_Me) (Post : Option Int32 → List nw_Sh → nw_Me → Prop) : Prop := nw_Ev l g d M pc ls st nw_SH I 0 0 Post
def nw_cI (l : Launch) (g : nw_G) (d : Nat) (M : nw_Mt) (av : List Value) (I : nw_Me) (P : Int32 → nw_Me → Prop) : Prop := (nw_lo av).length ≤ M.2.2.1 ∧ nw_S l g d M 0 (nw_in M av) [] I (nw_qI P)
def nw_cZ (l : Launch) (g : nw_G) (d : Nat) (M : nw_Mt) (av : List Value) (I : nw_Me) (P : Bool → nw_Me → Prop) : Prop := (nw_lo av).length ≤ M.2.2.1 ∧ nw_S l g d M 0 (nw_in M av) [] I (nw_qZ P)
def nw_cV (l : Launch) (g : nw_G) (d : Nat) (M : nw_Mt) (av : List Value) (I : nw_Me) (P : nw_Me → Prop) : Prop := (nw_lo av).length ≤ M.2.2.1 ∧ nw_S l g d M 0 (nw_in M av) [] I (nw_qV P)
section
variable {l : Launch} {g : nw_G} {d d0 : Nat} {M M' : nw_Mt} {pc n : Nat} {ls : List (Option Value)} {st : List Value} {I : nw_Me} {Post : Option Int32 → List nw_Sh → nw_Me → Prop}
theorem nw_cI.mono {av : List Value} {P P' : Int32 → nw_Me → Prop} (h : nw_cI l g d M av I P) (hp : ∀ r I', P r I' → P' r I') : nw_cI l g d M av I P' := ⟨h.1, ev_post (fun v sh1 I1 q => ⟨q.1, by obtain ⟨-, r, e, q⟩ := q; exact ⟨r, e, hp _ _ q⟩⟩) h.2⟩
theorem nw_cZ.mono {av : List Value} {P P' : Bool → nw_Me → Prop} (h : nw_cZ l g d M av I P) (hp : ∀ r I', P r I' → P' r I') : nw_cZ l g d M av I P' := ⟨h.1, ev_post (fun v sh1 I1 q => ⟨q.1, by obtain ⟨-, r, e, q⟩ := q; exact ⟨r, e, hp _ _ q⟩⟩) h.2⟩
theorem nw_cV.mono {av : List Value} {P P' : nw_Me → Prop} (h : nw_cV l g d M av I P) (hp : ∀ I', P I' → P' I') : nw_cV l g d M av I P' := ⟨h.1, ev_post (fun v sh1 I1 q => ⟨q.1, q.2.1, hp _ q.2.2⟩) h.2⟩
theorem nw_cI.deep {av : List Value} {P : Int32 → nw_Me → Prop} (h : nw_cI l g d0 M av I P) (hd : d0 ≤ d) : nw_cI l g d M av I P := ⟨h.1, ev_deep hd h.2⟩
theorem nw_cZ.deep {av : List Value} {P : Bool → nw_Me → Prop} (h : nw_cZ l g d0 M av I P) (hd : d0 ≤ d) : nw_cZ l g d M av I P := ⟨h.1, ev_deep hd h.2⟩
theorem nw_cV.deep {av : List Value} {P : nw_Me → Prop} (h : nw_cV l g d0 M av I P) (hd : d0 ≤ d) : nw_cV l g d M av I P := ⟨h.1, ev_deep hd h.2⟩
theorem s_retI {x : Int32} {P : Int32 → nw_Me → Prop} (hd : decode M.2.1 pc = .ok (.ireturn, 1)) (hp : P x I) : nw_S l g d M pc ls [.int x] I (nw_qI P) := ev_ireturn hd ⟨rfl, x, rfl, hp⟩
theorem s_retZ {b : Bool} {P : Bool → nw_Me → Prop} (hd : decode M.2.1 pc = .ok (.ireturn, 1)) (hp : P b I) : nw_S l g d M pc ls [.int (nw_bi b)] I (nw_qZ P) := ev_ireturn hd ⟨rfl, b, rfl, hp⟩
theorem s_ret1 {P : Bool → nw_Me → Prop} (hd : decode M.2.1 pc = .ok (.ireturn, 1)) (hp : P true I) : nw_S l g d M pc ls [.int 1] I (nw_qZ P) := ev_ireturn hd ⟨rfl, true, rfl, hp⟩
theorem s_ret0 {P : Bool → nw_Me → Prop} (hd : decode M.2.1 pc = .ok (.ireturn, 1)) (hp : P false I) : nw_S l g d M pc ls [.int 0] I (nw_qZ P) := ev_ireturn hd ⟨rfl, false, rfl, hp⟩
theorem s_retV {P : nw_Me → Prop} (hd : decode M.2.1 pc = .ok (.return_, 1)) (hp : P I) : nw_S l g d M pc ls [] I (nw_qV P) := ev_return hd ⟨rfl, rfl, hp⟩
theorem s_ifZ_eq {b : Bool} {off : Int} {tgt : Nat} (hd : decode M.2.1 pc = .ok (.ifCond .eq off, 3)) (ht : (pc : Int) + off = (tgt : Int)) (kt : b = false → nw_S l g d M tgt ls st I Post) (kf : b = true → nw_S l g d M (pc + 3) ls st I Post) : nw_S l g d M pc ls (.int (nw_bi b) :: st) I Post := ev_if_eq hd ht (fun h => kt (nw_bi_0.mp h)) (fun h => kf (by cases b; exact absurd rfl h; rfl))
theorem s_ifZ_ne {b : Bool} {off : Int} {tgt : Nat} (hd : decode M.2.1 pc = .ok (.ifCond .ne off, 3)) (ht : (pc : Int) + off = (tgt : Int)) (kt : b = true → nw_S l g d M tgt ls st I Post) (kf : b = false → nw_S l g d M (pc + 3) ls st I Post) : nw_S l g d M pc ls (.int (nw_bi b) :: st) I Post := ev_if_ne hd ht (fun h => kt (by cases b; exact absurd rfl h; rfl)) (fun h => kf (nw_bi_0.mp h))
/-- calls: V of an object, S static, N static of a nest mate; i, z, v: what is answered -/
theorem s_callVi {i k ci N : Nat} {T : u_T} {fs : List (Option (Option Nat))} {As : List Value} {P : Int32 → nw_Me → Prop} (h : nw_cI l g d0 M' (.ref (nw_a g k) :: As) I P) (hdd : d0 ≤ d) (hl : nw_ml M.1.cls i M') (hk : nw_ok M' n) (hv : nw_iv M') (hd : decode M.2.1 pc = .ok (.invokevirtual i, 3)) (hret : M'.2.2.2 = some .int) (hn : As.length = n) (hsh : nw_SH[k]? = some (.inr (ci, fs))) (hci : ci < 100) (hcl : nw_cl[ci]? = some (M'.1.cls, T, N)) (hst : (st.map fun v => v.category).sum ≤ 8)
    (kk : ∀ r I', P r I' → nw_S l g (d + 1) M (pc + 3) ls (.int r :: st) I' Post) : nw_S l g (d + 1) M pc ls (As.reverse ++ .ref (nw_a g k) :: st) I Post :=
  ev_callVi (kc := 0) (ks := 0) (kc1 := 0) (ks1 := 0) (h.deep hdd).2 hl hk hv hd hret (fun v sh' I' q => by obtain ⟨-, r, e, -⟩ := q; exact ⟨r, e, rfl⟩) h.1 hn hsh hci hcl hst (fun r sh' I' q => by obtain ⟨rfl, r', e, hp⟩ := q; cases e; exact kk _ _ hp)
theorem s_callVz {i k ci N : Nat} {T : u_T} {fs : List (Option (Option Nat))} {As : List Value} {P : Bool → nw_Me → Prop} (h : nw_cZ l g d0 M' (.ref (nw_a g k) :: As) I P) (hdd : d0 ≤ d) (hl : nw_ml M.1.cls i M') (hk : nw_ok M' n) (hv : nw_iv M') (hd : decode M.2.1 pc = .ok (.invokevirtual i, 3)) (hret : M'.2.2.2 = some .boolean) (hn : As.length = n) (hsh : nw_SH[k]? = some (.inr (ci, fs))) (hci : ci < 100) (hcl : nw_cl[ci]? = some (M'.1.cls, T, N)) (hst : (st.map fun v => v.category).sum ≤ 8)
    (kk : ∀ r I', P r I' → nw_S l g (d + 1) M (pc + 3) ls (.int (nw_bi r) :: st) I' Post) : nw_S l g (d + 1) M pc ls (As.reverse ++ .ref (nw_a g k) :: st) I Post :=
  ev_callVi (kc := 0) (ks := 0) (kc1 := 0) (ks1 := 0) (h.deep hdd).2 hl hk hv hd hret (fun v sh' I' q => by obtain ⟨-, r, e, -⟩ := q; exact ⟨_, e, nw_bi_nar r⟩) h.1 hn hsh hci hcl hst (fun r sh' I' q => by obtain ⟨rfl, r', e, hp⟩ := q; cases e; exact kk _ _ hp)
theorem s_callVv {i k ci N : Nat} {T : u_T} {fs : List (Option (Option Nat))} {As : List Value} {P : nw_Me → Prop} (h : nw_cV l g d0 M' (.ref (nw_a g k) :: As) I P) (hdd : d0 ≤ d) (hl : nw_ml M.1.cls i M') (hk : nw_ok M' n) (hv : nw_iv M') (hd : decode M.2.1 pc = .ok (.invokevirtual i, 3)) (hret : M'.2.2.2 = none) (hn : As.length = n) (hsh : nw_SH[k]? = some (.inr (ci, fs))) (hci : ci < 100) (hcl : nw_cl[ci]? = some (M'.1.cls, T, N)) (hst : (st.map fun v => v.category).sum ≤ 8)
    (kk : ∀ I', P I' → nw_S l g (d + 1) M (pc + 3) ls st I' Post) : nw_S l g (d + 1) M pc ls (As.reverse ++ .ref (nw_a g k) :: st) I Post :=
  ev_callVv (kc := 0) (ks := 0) (kc1 := 0) (ks1 := 0) (h.deep hdd).2 hl hk hv hd hret (fun v sh' I' q => q.2.1) h.1 hn hsh hci hcl hst (fun sh' I' q => by obtain ⟨rfl, -, hp⟩ := q; exact kk _ hp)
theorem s_callSi {i : Nat} {As : List Value} {P : Int32 → nw_Me → Prop} (h : nw_cI l g d0 M' As I P) (hdd : d0 ≤ d) (hl : nw_ml M.1.cls i M') (hk : nw_ok M' n) (hv : nw_ss M') (hd : decode M.2.1 pc = .ok (.invokestatic i, 3)) (hret : M'.2.2.2 = some .int) (hn : As.length = n) (hst : (st.map fun v => v.category).sum ≤ 8)
    (kk : ∀ r I', P r I' → nw_S l g (d + 1) M (pc + 3) ls (.int r :: st) I' Post) : nw_S l g (d + 1) M pc ls (As.reverse ++ st) I Post :=
  ev_callSi (kc := 0) (ks := 0) (kc1 := 0) (ks1 := 0) (h.deep hdd).2 hl hk hv hd hret (fun v sh' I' q => by obtain ⟨-, r, e, -⟩ := q; exact ⟨r, e, rfl⟩) h.1 hn hst (fun r sh' I' q => by obtain ⟨rfl, r', e, hp⟩ := q; cases e; exact kk _ _ hp)
theorem s_callSz {i : Nat} {As : List Value} {P : Bool → nw_Me → Prop} (h : nw_cZ l g d0 M' As I P) (hdd : d0 ≤ d) (hl : nw_ml M.1.cls i M') (hk : nw_ok M' n) (hv : nw_ss M') (hd : decode M.2.1 pc = .ok (.invokestatic i, 3)) (hret : M'.2.2.2 = some .boolean) (hn : As.length = n) (hst : (st.map fun v => v.category).sum ≤ 8)
    (kk : ∀ r I', P r I' → nw_S l g (d + 1) M (pc + 3) ls (.int (nw_bi r) :: st) I' Post) : nw_S l g (d + 1) M pc ls (As.reverse ++ st) I Post :=
  ev_callSi (kc := 0) (ks := 0) (kc1 := 0) (ks1 := 0) (h.deep hdd).2 hl hk hv hd hret (fun v sh' I' q => by obtain ⟨-, r, e, -⟩ := q; exact ⟨_, e, nw_bi_nar r⟩) h.1 hn hst (fun r sh' I' q => by obtain ⟨rfl, r', e, hp⟩ := q; cases e; exact kk _ _ hp)
theorem s_callNz {i : Nat} {As : List Value} {P : Bool → nw_Me → Prop} (h : nw_cZ l g d0 M' As I P) (hdd : d0 ≤ d) (hl : nw_mn M.1.cls i M') (hk : nw_ok M' n) (hv : nw_ss M') (hd : decode M.2.1 pc = .ok (.invokestatic i, 3)) (hret : M'.2.2.2 = some .boolean) (hn : As.length = n) (hst : (st.map fun v => v.category).sum ≤ 8)
    (kk : ∀ r I', P r I' → nw_S l g (d + 1) M (pc + 3) ls (.int (nw_bi r) :: st) I' Post) : nw_S l g (d + 1) M pc ls (As.reverse ++ st) I Post :=
  ev_callSN (kc := 0) (ks := 0) (kc1 := 0) (ks1 := 0) (h.deep hdd).2 hl hk hv hd hret (fun v sh' I' q => by obtain ⟨-, r, e, -⟩ := q; exact ⟨_, e, nw_bi_nar r⟩) h.1 hn hst (fun r sh' I' q => by obtain ⟨rfl, r', e, hp⟩ := q; cases e; exact kk _ _ hp)
end
end
