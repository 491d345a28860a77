/-- the words on private members of nest mates -/
def nw_ne : List Cond := [Cond.methodLinkNest RX9 18 yX6_init "NinthWave", Cond.methodLinkNest RX9 25 yX2_init "NinthWave", Cond.methodLinkNest RX9 35 yX8_init "NinthWave", Cond.methodLinkNest RX0 15 yX8_init "NinthWave", Cond.methodLinkNest RX9 52 yX5_init "NinthWave", Cond.methodLinkNest RX9 59 yX1_init "NinthWave", Cond.methodLinkNest RX9 70 yX3_init "NinthWave", Cond.methodLinkNest RX3 9 yX2_init "NinthWave", Cond.methodLinkNest RX3 18 yX8_init "NinthWave", Cond.methodLinkNest RX8 65 yX9_calls "NinthWave", Cond.methodLinkNest RX5 52 yX9_calls "NinthWave"]
/-- a method: its name, its bytes, its locals, its answer's type -/
abbrev nw_Mt : Type := MethodName × ByteArray × Nat × Option FieldType
def nw_ok (M : nw_Mt) (n : Nat) : Prop := Cond.code M.1 M.2.1 M.2.2.1 M.2.2.2 ∈ nw_gw ∧ Cond.initialized M.1.cls ∈ nw_gw ∧ (M.1.cls ≠ "java/lang/invoke/MethodHandle" ∧ M.1.cls ≠ "java/lang/invoke/VarHandle" ∧ (parseMethodDescriptor M.1.desc).map (fun d => d.parameters.length) = some n) ∧ plainName M.1.cls = true ∧ M.2.2.1 ≤ 30
def nw_iv (M : nw_Mt) : Prop := Cond.instanceMethod M.1 ∈ nw_gw ∧ Cond.selects M.1.cls M.1 M.1 ∈ nw_gw
def nw_ss (M : nw_Mt) : Prop := Cond.static M.1 ∈ nw_gw
def nw_ii (M : nw_Mt) : Prop := Cond.instanceMethod M.1 ∈ nw_gw ∧ M.1.name = "<init>"
def nw_ml (own : String) (i : Nat) (M : nw_Mt) : Prop := Cond.methodLink own i M.1 ∈ nw_gw
def nw_mn (own : String) (i : Nat) (M : nw_Mt) : Prop := ∃ host, Cond.methodLinkNest own i M.1 host ∈ nw_ne
def mX9_init : nw_Mt := (yX9_init, cX9_init, 2, none)
theorem kX9_init : nw_ok mX9_init 0 := ⟨tb_in (i := 18) (by decide +kernel), tb_in (i := 1) (by decide +kernel), by decide +kernel, by decide +kernel, by decide +kernel⟩
theorem iX9_init : nw_ii mX9_init := ⟨tb_in (i := 17) (by decide +kernel), rfl⟩
def mX7_init : nw_Mt := (yX7_init, cX7_init, 2, none)
theorem kX7_init : nw_ok mX7_init 0 := ⟨tb_in (i := 26) (by decide +kernel), tb_in (i := 2) (by decide +kernel), by decide +kernel, by decide +kernel, by decide +kernel⟩
theorem iX7_init : nw_ii mX7_init := ⟨tb_in (i := 25) (by decide +kernel), rfl⟩
def mX6_init : nw_Mt := (yX6_init, cX6_init, 1, none)
theorem kX6_init : nw_ok mX6_init 0 := ⟨tb_in (i := 45) (by decide +kernel), tb_in (i := 3) (by decide +kernel), by decide +kernel, by decide +kernel, by decide +kernel⟩
theorem iX6_init : nw_ii mX6_init := ⟨tb_in (i := 44) (by decide +kernel), rfl⟩
def mX2_init : nw_Mt := (yX2_init, cX2_init, 1, none)
theorem kX2_init : nw_ok mX2_init 0 := ⟨tb_in (i := 71) (by decide +kernel), tb_in (i := 4) (by decide +kernel), by decide +kernel, by decide +kernel, by decide +kernel⟩
theorem iX2_init : nw_ii mX2_init := ⟨tb_in (i := 70) (by decide +kernel), rfl⟩
def mX8_init : nw_Mt := (yX8_init, cX8_init, 1, none)
theorem kX8_init : nw_ok mX8_init 0 := ⟨tb_in (i := 129) (by decide +kernel), tb_in (i := 5) (by decide +kernel), by decide +kernel, by decide +kernel, by decide +kernel⟩
theorem iX8_init : nw_ii mX8_init := ⟨tb_in (i := 128) (by decide +kernel), rfl⟩
def mX0_init : nw_Mt := (yX0_init, cX0_init, 2, none)
theorem kX0_init : nw_ok mX0_init 0 := ⟨tb_in (i := 170) (by decide +kernel), tb_in (i := 6) (by decide +kernel), by decide +kernel, by decide +kernel, by decide +kernel⟩
theorem iX0_init : nw_ii mX0_init := ⟨tb_in (i := 169) (by decide +kernel), rfl⟩
def mX5_init : nw_Mt := (yX5_init, cX5_init, 1, none)
theorem kX5_init : nw_ok mX5_init 0 := ⟨tb_in (i := 190) (by decide +kernel), tb_in (i := 7) (by decide +kernel), by decide +kernel, by decide +kernel, by decide +kernel⟩
theorem iX5_init : nw_ii mX5_init := ⟨tb_in (i := 189) (by decide +kernel), rfl⟩
def mX1_init : nw_Mt := (yX1_init, cX1_init, 1, none)
theorem kX1_init : nw_ok mX1_init 0 := ⟨tb_in (i := 218) (by decide +kernel), tb_in (i := 8) (by decide +kernel), by decide +kernel, by decide +kernel, by decide +kernel⟩
theorem iX1_init : nw_ii mX1_init := ⟨tb_in (i := 217) (by decide +kernel), rfl⟩
def mX3_init : nw_Mt := (yX3_init, cX3_init, 1, none)
theorem kX3_init : nw_ok mX3_init 0 := ⟨tb_in (i := 246) (by decide +kernel), tb_in (i := 9) (by decide +kernel), by decide +kernel, by decide +kernel, by decide +kernel⟩
theorem iX3_init : nw_ii mX3_init := ⟨tb_in (i := 245) (by decide +kernel), rfl⟩
def mX9_row : nw_Mt := (yX9_row, cX9_row, 4, (some .int))
theorem kX9_row : nw_ok mX9_row 3 := ⟨tb_in (i := 308) (by decide +kernel), tb_in (i := 1) (by decide +kernel), by decide +kernel, by decide +kernel, by decide +kernel⟩
theorem vX9_row : nw_iv mX9_row := ⟨tb_in (i := 306) (by decide +kernel), tb_in (i := 307) (by decide +kernel)⟩
def mX9_isRow : nw_Mt := (yX9_isRow, cX9_isRow, 2, (some .boolean))
theorem kX9_isRow : nw_ok mX9_isRow 1 := ⟨tb_in (i := 312) (by decide +kernel), tb_in (i := 1) (by decide +kernel), by decide +kernel, by decide +kernel, by decide +kernel⟩
theorem vX9_isRow : nw_iv mX9_isRow := ⟨tb_in (i := 311) (by decide +kernel), tp_in (i := 0) (by decide +kernel)⟩
def mX9_within : nw_Mt := (yX9_within, cX9_within, 3, (some .boolean))
theorem kX9_within : nw_ok mX9_within 3 := ⟨tb_in (i := 315) (by decide +kernel), tb_in (i := 1) (by decide +kernel), by decide +kernel, by decide +kernel, by decide +kernel⟩
theorem sX9_within : nw_ss mX9_within := tb_in (i := 314) (by decide +kernel)
def mX9_found : nw_Mt := (yX9_found, cX9_found, 2, (some .int))
theorem kX9_found : nw_ok mX9_found 1 := ⟨tb_in (i := 320) (by decide +kernel), tb_in (i := 1) (by decide +kernel), by decide +kernel, by decide +kernel, by decide +kernel⟩
theorem vX9_found : nw_iv mX9_found := ⟨tb_in (i := 319) (by decide +kernel), tp_in (i := 1) (by decide +kernel)⟩
def mX7_make : nw_Mt := (yX7_make, cX7_make, 5, none)
theorem kX7_make : nw_ok mX7_make 3 := ⟨tb_in (i := 325) (by decide +kernel), tb_in (i := 2) (by decide +kernel), by decide +kernel, by decide +kernel, by decide +kernel⟩
theorem vX7_make : nw_iv mX7_make := ⟨tb_in (i := 323) (by decide +kernel), tb_in (i := 324) (by decide +kernel)⟩
def mX9_fine : nw_Mt := (yX9_fine, cX9_fine, 2, (some .int))
theorem kX9_fine : nw_ok mX9_fine 1 := ⟨tb_in (i := 329) (by decide +kernel), tb_in (i := 1) (by decide +kernel), by decide +kernel, by decide +kernel, by decide +kernel⟩
theorem vX9_fine : nw_iv mX9_fine := ⟨tb_in (i := 328) (by decide +kernel), tp_in (i := 2) (by decide +kernel)⟩
def mX9_set : nw_Mt := (yX9_set, cX9_set, 4, (some .int))
theorem kX9_set : nw_ok mX9_set 3 := ⟨tb_in (i := 333) (by decide +kernel), tb_in (i := 1) (by decide +kernel), by decide +kernel, by decide +kernel, by decide +kernel⟩
theorem vX9_set : nw_iv mX9_set := ⟨tb_in (i := 331) (by decide +kernel), tb_in (i := 332) (by decide +kernel)⟩
def mX7_isMissing : nw_Mt := (yX7_isMissing, cX7_isMissing, 2, (some .boolean))
theorem kX7_isMissing : nw_ok mX7_isMissing 1 := ⟨tb_in (i := 337) (by decide +kernel), tb_in (i := 2) (by decide +kernel), by decide +kernel, by decide +kernel, by decide +kernel⟩
theorem vX7_isMissing : nw_iv mX7_isMissing := ⟨tb_in (i := 335) (by decide +kernel), tb_in (i := 336) (by decide +kernel)⟩
def mX7_hasPlaces : nw_Mt := (yX7_hasPlaces, cX7_hasPlaces, 4, (some .boolean))
theorem kX7_hasPlaces : nw_ok mX7_hasPlaces 3 := ⟨tb_in (i := 341) (by decide +kernel), tb_in (i := 2) (by decide +kernel), by decide +kernel, by decide +kernel, by decide +kernel⟩
theorem vX7_hasPlaces : nw_iv mX7_hasPlaces := ⟨tb_in (i := 339) (by decide +kernel), tb_in (i := 340) (by decide +kernel)⟩
def mX7_put : nw_Mt := (yX7_put, cX7_put, 5, (some .int))
theorem kX7_put : nw_ok mX7_put 3 := ⟨tb_in (i := 345) (by decide +kernel), tb_in (i := 2) (by decide +kernel), by decide +kernel, by decide +kernel, by decide +kernel⟩
theorem vX7_put : nw_iv mX7_put := ⟨tb_in (i := 343) (by decide +kernel), tb_in (i := 344) (by decide +kernel)⟩
def mX9_copy : nw_Mt := (yX9_copy, cX9_copy, 6, (some .int))
theorem kX9_copy : nw_ok mX9_copy 5 := ⟨tb_in (i := 349) (by decide +kernel), tb_in (i := 1) (by decide +kernel), by decide +kernel, by decide +kernel, by decide +kernel⟩
theorem vX9_copy : nw_iv mX9_copy := ⟨tb_in (i := 347) (by decide +kernel), tb_in (i := 348) (by decide +kernel)⟩
def mX7_alike : nw_Mt := (yX7_alike, cX7_alike, 3, (some .boolean))
theorem kX7_alike : nw_ok mX7_alike 2 := ⟨tb_in (i := 353) (by decide +kernel), tb_in (i := 2) (by decide +kernel), by decide +kernel, by decide +kernel, by decide +kernel⟩
theorem vX7_alike : nw_iv mX7_alike := ⟨tb_in (i := 351) (by decide +kernel), tb_in (i := 352) (by decide +kernel)⟩
def mX7_move : nw_Mt := (yX7_move, cX7_move, 6, none)
theorem kX7_move : nw_ok mX7_move 5 := ⟨tb_in (i := 357) (by decide +kernel), tb_in (i := 2) (by decide +kernel), by decide +kernel, by decide +kernel, by decide +kernel⟩
theorem vX7_move : nw_iv mX7_move := ⟨tb_in (i := 355) (by decide +kernel), tb_in (i := 356) (by decide +kernel)⟩
def mX9_drop : nw_Mt := (yX9_drop, cX9_drop, 2, (some .int))
theorem kX9_drop : nw_ok mX9_drop 1 := ⟨tb_in (i := 364) (by decide +kernel), tb_in (i := 1) (by decide +kernel), by decide +kernel, by decide +kernel, by decide +kernel⟩
theorem vX9_drop : nw_iv mX9_drop := ⟨tb_in (i := 362) (by decide +kernel), tb_in (i := 363) (by decide +kernel)⟩
def mX7_lose : nw_Mt := (yX7_lose, cX7_lose, 3, (some .int))
theorem kX7_lose : nw_ok mX7_lose 1 := ⟨tb_in (i := 368) (by decide +kernel), tb_in (i := 2) (by decide +kernel), by decide +kernel, by decide +kernel, by decide +kernel⟩
theorem vX7_lose : nw_iv mX7_lose := ⟨tb_in (i := 366) (by decide +kernel), tb_in (i := 367) (by decide +kernel)⟩
def mX9_feed : nw_Mt := (yX9_feed, cX9_feed, 2, (some .int))
theorem kX9_feed : nw_ok mX9_feed 1 := ⟨tb_in (i := 372) (by decide +kernel), tb_in (i := 1) (by decide +kernel), by decide +kernel, by decide +kernel, by decide +kernel⟩
theorem vX9_feed : nw_iv mX9_feed := ⟨tb_in (i := 370) (by decide +kernel), tb_in (i := 371) (by decide +kernel)⟩
def mX6_isFull : nw_Mt := (yX6_isFull, cX6_isFull, 1, (some .boolean))
theorem kX6_isFull : nw_ok mX6_isFull 0 := ⟨tb_in (i := 376) (by decide +kernel), tb_in (i := 3) (by decide +kernel), by decide +kernel, by decide +kernel, by decide +kernel⟩
theorem vX6_isFull : nw_iv mX6_isFull := ⟨tb_in (i := 374) (by decide +kernel), tb_in (i := 375) (by decide +kernel)⟩
def mX6_append : nw_Mt := (yX6_append, cX6_append, 2, (some .int))
theorem kX6_append : nw_ok mX6_append 1 := ⟨tb_in (i := 381) (by decide +kernel), tb_in (i := 3) (by decide +kernel), by decide +kernel, by decide +kernel, by decide +kernel⟩
theorem vX6_append : nw_iv mX6_append := ⟨tb_in (i := 379) (by decide +kernel), tb_in (i := 380) (by decide +kernel)⟩
def mX9_sea : nw_Mt := (yX9_sea, cX9_sea, 2, (some .int))
theorem kX9_sea : nw_ok mX9_sea 0 := ⟨tb_in (i := 386) (by decide +kernel), tb_in (i := 1) (by decide +kernel), by decide +kernel, by decide +kernel, by decide +kernel⟩
theorem vX9_sea : nw_iv mX9_sea := ⟨tb_in (i := 384) (by decide +kernel), tb_in (i := 385) (by decide +kernel)⟩
def mX6_read : nw_Mt := (yX6_read, cX6_read, 3, (some .boolean))
theorem kX6_read : nw_ok mX6_read 2 := ⟨tb_in (i := 390) (by decide +kernel), tb_in (i := 3) (by decide +kernel), by decide +kernel, by decide +kernel, by decide +kernel⟩
theorem vX6_read : nw_iv mX6_read := ⟨tb_in (i := 388) (by decide +kernel), tb_in (i := 389) (by decide +kernel)⟩
def mX8_begin : nw_Mt := (yX8_begin, cX8_begin, 2, none)
theorem kX8_begin : nw_ok mX8_begin 0 := ⟨tb_in (i := 394) (by decide +kernel), tb_in (i := 5) (by decide +kernel), by decide +kernel, by decide +kernel, by decide +kernel⟩
theorem vX8_begin : nw_iv mX8_begin := ⟨tb_in (i := 392) (by decide +kernel), tb_in (i := 393) (by decide +kernel)⟩
def mX6_readBar : nw_Mt := (yX6_readBar, cX6_readBar, 2, (some .boolean))
theorem kX6_readBar : nw_ok mX6_readBar 1 := ⟨tb_in (i := 399) (by decide +kernel), tb_in (i := 3) (by decide +kernel), by decide +kernel, by decide +kernel, by decide +kernel⟩
theorem vX6_readBar : nw_iv mX6_readBar := ⟨tb_in (i := 398) (by decide +kernel), tp_in (i := 3) (by decide +kernel)⟩
def mX6_passes : nw_Mt := (yX6_passes, cX6_passes, 2, (some .boolean))
theorem kX6_passes : nw_ok mX6_passes 1 := ⟨tb_in (i := 403) (by decide +kernel), tb_in (i := 3) (by decide +kernel), by decide +kernel, by decide +kernel, by decide +kernel⟩
theorem vX6_passes : nw_iv mX6_passes := ⟨tb_in (i := 402) (by decide +kernel), tp_in (i := 4) (by decide +kernel)⟩
def mX6_at : nw_Mt := (yX6_at, cX6_at, 2, (some .int))
theorem kX6_at : nw_ok mX6_at 1 := ⟨tb_in (i := 407) (by decide +kernel), tb_in (i := 3) (by decide +kernel), by decide +kernel, by decide +kernel, by decide +kernel⟩
theorem vX6_at : nw_iv mX6_at := ⟨tb_in (i := 406) (by decide +kernel), tp_in (i := 5) (by decide +kernel)⟩
def mX6_fails : nw_Mt := (yX6_fails, cX6_fails, 2, (some .boolean))
theorem kX6_fails : nw_ok mX6_fails 1 := ⟨tb_in (i := 411) (by decide +kernel), tb_in (i := 3) (by decide +kernel), by decide +kernel, by decide +kernel, by decide +kernel⟩
theorem vX6_fails : nw_iv mX6_fails := ⟨tb_in (i := 410) (by decide +kernel), tp_in (i := 6) (by decide +kernel)⟩
def mX6_readPair : nw_Mt := (yX6_readPair, cX6_readPair, 3, (some .boolean))
theorem kX6_readPair : nw_ok mX6_readPair 2 := ⟨tb_in (i := 415) (by decide +kernel), tb_in (i := 3) (by decide +kernel), by decide +kernel, by decide +kernel, by decide +kernel⟩
theorem vX6_readPair : nw_iv mX6_readPair := ⟨tb_in (i := 414) (by decide +kernel), tp_in (i := 7) (by decide +kernel)⟩
def mX6_number : nw_Mt := (yX6_number, cX6_number, 4, (some .int))
theorem kX6_number : nw_ok mX6_number 1 := ⟨tb_in (i := 419) (by decide +kernel), tb_in (i := 3) (by decide +kernel), by decide +kernel, by decide +kernel, by decide +kernel⟩
theorem vX6_number : nw_iv mX6_number := ⟨tb_in (i := 418) (by decide +kernel), tp_in (i := 8) (by decide +kernel)⟩
def mX6_isFigure : nw_Mt := (yX6_isFigure, cX6_isFigure, 1, (some .boolean))
theorem kX6_isFigure : nw_ok mX6_isFigure 1 := ⟨tb_in (i := 422) (by decide +kernel), tb_in (i := 3) (by decide +kernel), by decide +kernel, by decide +kernel, by decide +kernel⟩
theorem sX6_isFigure : nw_ss mX6_isFigure := tb_in (i := 421) (by decide +kernel)
def mX6_readSwells : nw_Mt := (yX6_readSwells, cX6_readSwells, 3, (some .boolean))
theorem kX6_readSwells : nw_ok mX6_readSwells 1 := ⟨tb_in (i := 426) (by decide +kernel), tb_in (i := 3) (by decide +kernel), by decide +kernel, by decide +kernel, by decide +kernel⟩
theorem vX6_readSwells : nw_iv mX6_readSwells := ⟨tb_in (i := 425) (by decide +kernel), tp_in (i := 9) (by decide +kernel)⟩
def mX4_toldBy : nw_Mt := (yX4_toldBy, cX4_toldBy, 1, (some .int))
theorem kX4_toldBy : nw_ok mX4_toldBy 1 := ⟨tb_in (i := 429) (by decide +kernel), tb_in (i := 12) (by decide +kernel), by decide +kernel, by decide +kernel, by decide +kernel⟩
theorem sX4_toldBy : nw_ss mX4_toldBy := tb_in (i := 428) (by decide +kernel)
def mX6_readTowers : nw_Mt := (yX6_readTowers, cX6_readTowers, 4, (some .boolean))
theorem kX6_readTowers : nw_ok mX6_readTowers 2 := ⟨tb_in (i := 433) (by decide +kernel), tb_in (i := 3) (by decide +kernel), by decide +kernel, by decide +kernel, by decide +kernel⟩
theorem vX6_readTowers : nw_iv mX6_readTowers := ⟨tb_in (i := 432) (by decide +kernel), tp_in (i := 10) (by decide +kernel)⟩
def mX6_readShips : nw_Mt := (yX6_readShips, cX6_readShips, 4, (some .boolean))
theorem kX6_readShips : nw_ok mX6_readShips 2 := ⟨tb_in (i := 437) (by decide +kernel), tb_in (i := 3) (by decide +kernel), by decide +kernel, by decide +kernel, by decide +kernel⟩
theorem vX6_readShips : nw_iv mX6_readShips := ⟨tb_in (i := 436) (by decide +kernel), tp_in (i := 11) (by decide +kernel)⟩
def mX6_isAtEnd : nw_Mt := (yX6_isAtEnd, cX6_isAtEnd, 1, (some .boolean))
theorem kX6_isAtEnd : nw_ok mX6_isAtEnd 0 := ⟨tb_in (i := 441) (by decide +kernel), tb_in (i := 3) (by decide +kernel), by decide +kernel, by decide +kernel, by decide +kernel⟩
theorem vX6_isAtEnd : nw_iv mX6_isAtEnd := ⟨tb_in (i := 440) (by decide +kernel), tp_in (i := 12) (by decide +kernel)⟩
def mX6_empty : nw_Mt := (yX6_empty, cX6_empty, 1, none)
theorem kX6_empty : nw_ok mX6_empty 0 := ⟨tb_in (i := 445) (by decide +kernel), tb_in (i := 3) (by decide +kernel), by decide +kernel, by decide +kernel, by decide +kernel⟩
theorem vX6_empty : nw_iv mX6_empty := ⟨tb_in (i := 443) (by decide +kernel), tb_in (i := 444) (by decide +kernel)⟩
def mX6_faultNumber : nw_Mt := (yX6_faultNumber, cX6_faultNumber, 1, (some .int))
theorem kX6_faultNumber : nw_ok mX6_faultNumber 0 := ⟨tb_in (i := 449) (by decide +kernel), tb_in (i := 3) (by decide +kernel), by decide +kernel, by decide +kernel, by decide +kernel⟩
theorem vX6_faultNumber : nw_iv mX6_faultNumber := ⟨tb_in (i := 447) (by decide +kernel), tb_in (i := 448) (by decide +kernel)⟩
def mX6_faultPlace : nw_Mt := (yX6_faultPlace, cX6_faultPlace, 1, (some .int))
theorem kX6_faultPlace : nw_ok mX6_faultPlace 0 := ⟨tb_in (i := 454) (by decide +kernel), tb_in (i := 3) (by decide +kernel), by decide +kernel, by decide +kernel, by decide +kernel⟩
theorem vX6_faultPlace : nw_iv mX6_faultPlace := ⟨tb_in (i := 452) (by decide +kernel), tb_in (i := 453) (by decide +kernel)⟩
def mX2_become : nw_Mt := (yX2_become, cX2_become, 2, none)
theorem kX2_become : nw_ok mX2_become 1 := ⟨tb_in (i := 458) (by decide +kernel), tb_in (i := 4) (by decide +kernel), by decide +kernel, by decide +kernel, by decide +kernel⟩
theorem vX2_become : nw_iv mX2_become := ⟨tb_in (i := 456) (by decide +kernel), tb_in (i := 457) (by decide +kernel)⟩
def mX8_become : nw_Mt := (yX8_become, cX8_become, 2, none)
theorem kX8_become : nw_ok mX8_become 1 := ⟨tb_in (i := 463) (by decide +kernel), tb_in (i := 5) (by decide +kernel), by decide +kernel, by decide +kernel, by decide +kernel⟩
theorem vX8_become : nw_iv mX8_become := ⟨tb_in (i := 461) (by decide +kernel), tb_in (i := 462) (by decide +kernel)⟩
def mX0_forgetAll : nw_Mt := (yX0_forgetAll, cX0_forgetAll, 1, none)
theorem kX0_forgetAll : nw_ok mX0_forgetAll 0 := ⟨tb_in (i := 468) (by decide +kernel), tb_in (i := 6) (by decide +kernel), by decide +kernel, by decide +kernel, by decide +kernel⟩
theorem vX0_forgetAll : nw_iv mX0_forgetAll := ⟨tb_in (i := 466) (by decide +kernel), tb_in (i := 467) (by decide +kernel)⟩
def mX9_fault : nw_Mt := (yX9_fault, cX9_fault, 1, (some .int))
theorem kX9_fault : nw_ok mX9_fault 0 := ⟨tb_in (i := 472) (by decide +kernel), tb_in (i := 1) (by decide +kernel), by decide +kernel, by decide +kernel, by decide +kernel⟩
theorem vX9_fault : nw_iv mX9_fault := ⟨tb_in (i := 470) (by decide +kernel), tb_in (i := 471) (by decide +kernel)⟩
def mX9_waves : nw_Mt := (yX9_waves, cX9_waves, 3, (some .int))
theorem kX9_waves : nw_ok mX9_waves 1 := ⟨tb_in (i := 476) (by decide +kernel), tb_in (i := 1) (by decide +kernel), by decide +kernel, by decide +kernel, by decide +kernel⟩
theorem vX9_waves : nw_iv mX9_waves := ⟨tb_in (i := 474) (by decide +kernel), tb_in (i := 475) (by decide +kernel)⟩
def mX0_keep : nw_Mt := (yX0_keep, cX0_keep, 2, none)
theorem kX0_keep : nw_ok mX0_keep 1 := ⟨tb_in (i := 481) (by decide +kernel), tb_in (i := 6) (by decide +kernel), by decide +kernel, by decide +kernel, by decide +kernel⟩
theorem vX0_keep : nw_iv mX0_keep := ⟨tb_in (i := 479) (by decide +kernel), tb_in (i := 480) (by decide +kernel)⟩
def mX8_comeInBy : nw_Mt := (yX8_comeInBy, cX8_comeInBy, 2, (some .int))
theorem kX8_comeInBy : nw_ok mX8_comeInBy 1 := ⟨tb_in (i := 489) (by decide +kernel), tb_in (i := 5) (by decide +kernel), by decide +kernel, by decide +kernel, by decide +kernel⟩
theorem vX8_comeInBy : nw_iv mX8_comeInBy := ⟨tb_in (i := 487) (by decide +kernel), tb_in (i := 488) (by decide +kernel)⟩
def mX2_kindIn : nw_Mt := (yX2_kindIn, cX2_kindIn, 2, (some .int))
theorem kX2_kindIn : nw_ok mX2_kindIn 1 := ⟨tb_in (i := 493) (by decide +kernel), tb_in (i := 4) (by decide +kernel), by decide +kernel, by decide +kernel, by decide +kernel⟩
theorem vX2_kindIn : nw_iv mX2_kindIn := ⟨tb_in (i := 491) (by decide +kernel), tb_in (i := 492) (by decide +kernel)⟩
def mX2_swellOf : nw_Mt := (yX2_swellOf, cX2_swellOf, 2, (some .int))
theorem kX2_swellOf : nw_ok mX2_swellOf 1 := ⟨tb_in (i := 497) (by decide +kernel), tb_in (i := 4) (by decide +kernel), by decide +kernel, by decide +kernel, by decide +kernel⟩
theorem vX2_swellOf : nw_iv mX2_swellOf := ⟨tb_in (i := 495) (by decide +kernel), tb_in (i := 496) (by decide +kernel)⟩
def mX2_waterIn : nw_Mt := (yX2_waterIn, cX2_waterIn, 2, (some .int))
theorem kX2_waterIn : nw_ok mX2_waterIn 1 := ⟨tb_in (i := 501) (by decide +kernel), tb_in (i := 4) (by decide +kernel), by decide +kernel, by decide +kernel, by decide +kernel⟩
theorem vX2_waterIn : nw_iv mX2_waterIn := ⟨tb_in (i := 499) (by decide +kernel), tb_in (i := 500) (by decide +kernel)⟩
def mX2_depthIn : nw_Mt := (yX2_depthIn, cX2_depthIn, 2, (some .int))
theorem kX2_depthIn : nw_ok mX2_depthIn 1 := ⟨tb_in (i := 505) (by decide +kernel), tb_in (i := 4) (by decide +kernel), by decide +kernel, by decide +kernel, by decide +kernel⟩
theorem vX2_depthIn : nw_iv mX2_depthIn := ⟨tb_in (i := 503) (by decide +kernel), tb_in (i := 504) (by decide +kernel)⟩
def mX2_liftOfSwell : nw_Mt := (yX2_liftOfSwell, cX2_liftOfSwell, 2, (some .int))
theorem kX2_liftOfSwell : nw_ok mX2_liftOfSwell 1 := ⟨tb_in (i := 512) (by decide +kernel), tb_in (i := 4) (by decide +kernel), by decide +kernel, by decide +kernel, by decide +kernel⟩
theorem vX2_liftOfSwell : nw_iv mX2_liftOfSwell := ⟨tb_in (i := 510) (by decide +kernel), tb_in (i := 511) (by decide +kernel)⟩
def mX2_liftOf : nw_Mt := (yX2_liftOf, cX2_liftOf, 2, (some .int))
theorem kX2_liftOf : nw_ok mX2_liftOf 2 := ⟨tb_in (i := 515) (by decide +kernel), tb_in (i := 4) (by decide +kernel), by decide +kernel, by decide +kernel, by decide +kernel⟩
theorem sX2_liftOf : nw_ss mX2_liftOf := tb_in (i := 514) (by decide +kernel)
def mX8_comeIn : nw_Mt := (yX8_comeIn, cX8_comeIn, 7, (some .int))
theorem kX8_comeIn : nw_ok mX8_comeIn 3 := ⟨tb_in (i := 519) (by decide +kernel), tb_in (i := 5) (by decide +kernel), by decide +kernel, by decide +kernel, by decide +kernel⟩
theorem vX8_comeIn : nw_iv mX8_comeIn := ⟨tb_in (i := 517) (by decide +kernel), tb_in (i := 518) (by decide +kernel)⟩
def mX2_stepOf : nw_Mt := (yX2_stepOf, cX2_stepOf, 3, (some .int))
theorem kX2_stepOf : nw_ok mX2_stepOf 2 := ⟨tb_in (i := 523) (by decide +kernel), tb_in (i := 4) (by decide +kernel), by decide +kernel, by decide +kernel, by decide +kernel⟩
theorem vX2_stepOf : nw_iv mX2_stepOf := ⟨tb_in (i := 521) (by decide +kernel), tb_in (i := 522) (by decide +kernel)⟩
def mX4_stepOf : nw_Mt := (yX4_stepOf, cX4_stepOf, 2, (some .int))
theorem kX4_stepOf : nw_ok mX4_stepOf 2 := ⟨tb_in (i := 526) (by decide +kernel), tb_in (i := 12) (by decide +kernel), by decide +kernel, by decide +kernel, by decide +kernel⟩
theorem sX4_stepOf : nw_ss mX4_stepOf := tb_in (i := 525) (by decide +kernel)
def mX9_calls : nw_Mt := (yX9_calls, cX9_calls, 3, (some .boolean))
theorem kX9_calls : nw_ok mX9_calls 3 := ⟨tb_in (i := 529) (by decide +kernel), tb_in (i := 1) (by decide +kernel), by decide +kernel, by decide +kernel, by decide +kernel⟩
theorem sX9_calls : nw_ss mX9_calls := tb_in (i := 528) (by decide +kernel)
def mX8_cross : nw_Mt := (yX8_cross, cX8_cross, 6, none)
theorem kX8_cross : nw_ok mX8_cross 3 := ⟨tb_in (i := 533) (by decide +kernel), tb_in (i := 5) (by decide +kernel), by decide +kernel, by decide +kernel, by decide +kernel⟩
theorem vX8_cross : nw_iv mX8_cross := ⟨tb_in (i := 532) (by decide +kernel), tp_in (i := 13) (by decide +kernel)⟩
def mX9_slip : nw_Mt := (yX9_slip, cX9_slip, 3, (some .int))
theorem kX9_slip : nw_ok mX9_slip 2 := ⟨tb_in (i := 537) (by decide +kernel), tb_in (i := 1) (by decide +kernel), by decide +kernel, by decide +kernel, by decide +kernel⟩
theorem vX9_slip : nw_iv mX9_slip := ⟨tb_in (i := 535) (by decide +kernel), tb_in (i := 536) (by decide +kernel)⟩
def mX9_isTower : nw_Mt := (yX9_isTower, cX9_isTower, 2, (some .boolean))
theorem kX9_isTower : nw_ok mX9_isTower 1 := ⟨tb_in (i := 541) (by decide +kernel), tb_in (i := 1) (by decide +kernel), by decide +kernel, by decide +kernel, by decide +kernel⟩
theorem vX9_isTower : nw_iv mX9_isTower := ⟨tb_in (i := 540) (by decide +kernel), tp_in (i := 14) (by decide +kernel)⟩
def mX8_slipBy : nw_Mt := (yX8_slipBy, cX8_slipBy, 3, (some .int))
theorem kX8_slipBy : nw_ok mX8_slipBy 2 := ⟨tb_in (i := 545) (by decide +kernel), tb_in (i := 5) (by decide +kernel), by decide +kernel, by decide +kernel, by decide +kernel⟩
theorem vX8_slipBy : nw_iv mX8_slipBy := ⟨tb_in (i := 543) (by decide +kernel), tb_in (i := 544) (by decide +kernel)⟩
def mX9_law : nw_Mt := (yX9_law, cX9_law, 3, (some .int))
theorem kX9_law : nw_ok mX9_law 1 := ⟨tb_in (i := 550) (by decide +kernel), tb_in (i := 1) (by decide +kernel), by decide +kernel, by decide +kernel, by decide +kernel⟩
theorem vX9_law : nw_iv mX9_law := ⟨tb_in (i := 548) (by decide +kernel), tb_in (i := 549) (by decide +kernel)⟩
def mX9_change : nw_Mt := (yX9_change, cX9_change, 5, (some .int))
theorem kX9_change : nw_ok mX9_change 2 := ⟨tb_in (i := 554) (by decide +kernel), tb_in (i := 1) (by decide +kernel), by decide +kernel, by decide +kernel, by decide +kernel⟩
theorem vX9_change : nw_iv mX9_change := ⟨tb_in (i := 552) (by decide +kernel), tb_in (i := 553) (by decide +kernel)⟩
def mX9_isShip : nw_Mt := (yX9_isShip, cX9_isShip, 2, (some .boolean))
theorem kX9_isShip : nw_ok mX9_isShip 1 := ⟨tb_in (i := 558) (by decide +kernel), tb_in (i := 1) (by decide +kernel), by decide +kernel, by decide +kernel, by decide +kernel⟩
theorem vX9_isShip : nw_iv mX9_isShip := ⟨tb_in (i := 557) (by decide +kernel), tp_in (i := 15) (by decide +kernel)⟩
def mX8_placeOf : nw_Mt := (yX8_placeOf, cX8_placeOf, 3, (some .int))
theorem kX8_placeOf : nw_ok mX8_placeOf 1 := ⟨tb_in (i := 562) (by decide +kernel), tb_in (i := 5) (by decide +kernel), by decide +kernel, by decide +kernel, by decide +kernel⟩
theorem vX8_placeOf : nw_iv mX8_placeOf := ⟨tb_in (i := 560) (by decide +kernel), tb_in (i := 561) (by decide +kernel)⟩
def mX9_heeds : nw_Mt := (yX9_heeds, cX9_heeds, 4, (some .int))
theorem kX9_heeds : nw_ok mX9_heeds 2 := ⟨tb_in (i := 566) (by decide +kernel), tb_in (i := 1) (by decide +kernel), by decide +kernel, by decide +kernel, by decide +kernel⟩
theorem vX9_heeds : nw_iv mX9_heeds := ⟨tb_in (i := 564) (by decide +kernel), tb_in (i := 565) (by decide +kernel)⟩
def mX8_waits : nw_Mt := (yX8_waits, cX8_waits, 2, (some .boolean))
theorem kX8_waits : nw_ok mX8_waits 1 := ⟨tb_in (i := 570) (by decide +kernel), tb_in (i := 5) (by decide +kernel), by decide +kernel, by decide +kernel, by decide +kernel⟩
theorem vX8_waits : nw_iv mX8_waits := ⟨tb_in (i := 568) (by decide +kernel), tb_in (i := 569) (by decide +kernel)⟩
def mX9_undo : nw_Mt := (yX9_undo, cX9_undo, 1, (some .int))
theorem kX9_undo : nw_ok mX9_undo 0 := ⟨tb_in (i := 574) (by decide +kernel), tb_in (i := 1) (by decide +kernel), by decide +kernel, by decide +kernel, by decide +kernel⟩
theorem vX9_undo : nw_iv mX9_undo := ⟨tb_in (i := 572) (by decide +kernel), tb_in (i := 573) (by decide +kernel)⟩
def mX0_takeBack : nw_Mt := (yX0_takeBack, cX0_takeBack, 2, none)
theorem kX0_takeBack : nw_ok mX0_takeBack 1 := ⟨tb_in (i := 578) (by decide +kernel), tb_in (i := 6) (by decide +kernel), by decide +kernel, by decide +kernel, by decide +kernel⟩
theorem vX0_takeBack : nw_iv mX0_takeBack := ⟨tb_in (i := 576) (by decide +kernel), tb_in (i := 577) (by decide +kernel)⟩
def mX9_ship : nw_Mt := (yX9_ship, cX9_ship, 3, (some .int))
theorem kX9_ship : nw_ok mX9_ship 2 := ⟨tb_in (i := 582) (by decide +kernel), tb_in (i := 1) (by decide +kernel), by decide +kernel, by decide +kernel, by decide +kernel⟩
theorem vX9_ship : nw_iv mX9_ship := ⟨tb_in (i := 580) (by decide +kernel), tb_in (i := 581) (by decide +kernel)⟩
def mX9_tower : nw_Mt := (yX9_tower, cX9_tower, 3, (some .int))
theorem kX9_tower : nw_ok mX9_tower 2 := ⟨tb_in (i := 586) (by decide +kernel), tb_in (i := 1) (by decide +kernel), by decide +kernel, by decide +kernel, by decide +kernel⟩
theorem vX9_tower : nw_iv mX9_tower := ⟨tb_in (i := 584) (by decide +kernel), tb_in (i := 585) (by decide +kernel)⟩
def mX8_howManyWaitFor : nw_Mt := (yX8_howManyWaitFor, cX8_howManyWaitFor, 5, (some .int))
theorem kX8_howManyWaitFor : nw_ok mX8_howManyWaitFor 2 := ⟨tb_in (i := 590) (by decide +kernel), tb_in (i := 5) (by decide +kernel), by decide +kernel, by decide +kernel, by decide +kernel⟩
theorem vX8_howManyWaitFor : nw_iv mX8_howManyWaitFor := ⟨tb_in (i := 588) (by decide +kernel), tb_in (i := 589) (by decide +kernel)⟩
def mX9_wave : nw_Mt := (yX9_wave, cX9_wave, 4, (some .int))
theorem kX9_wave : nw_ok mX9_wave 2 := ⟨tb_in (i := 594) (by decide +kernel), tb_in (i := 1) (by decide +kernel), by decide +kernel, by decide +kernel, by decide +kernel⟩
theorem vX9_wave : nw_iv mX9_wave := ⟨tb_in (i := 592) (by decide +kernel), tb_in (i := 593) (by decide +kernel)⟩
def mX9_ahead : nw_Mt := (yX9_ahead, cX9_ahead, 3, (some .int))
theorem kX9_ahead : nw_ok mX9_ahead 2 := ⟨tb_in (i := 601) (by decide +kernel), tb_in (i := 1) (by decide +kernel), by decide +kernel, by decide +kernel, by decide +kernel⟩
theorem vX9_ahead : nw_iv mX9_ahead := ⟨tb_in (i := 599) (by decide +kernel), tb_in (i := 600) (by decide +kernel)⟩
def mX9_foretell : nw_Mt := (yX9_foretell, cX9_foretell, 2, none)
theorem kX9_foretell : nw_ok mX9_foretell 1 := ⟨tb_in (i := 605) (by decide +kernel), tb_in (i := 1) (by decide +kernel), by decide +kernel, by decide +kernel, by decide +kernel⟩
theorem vX9_foretell : nw_iv mX9_foretell := ⟨tb_in (i := 604) (by decide +kernel), tp_in (i := 16) (by decide +kernel)⟩
def mX8_pass : nw_Mt := (yX8_pass, cX8_pass, 4, none)
theorem kX8_pass : nw_ok mX8_pass 2 := ⟨tb_in (i := 609) (by decide +kernel), tb_in (i := 5) (by decide +kernel), by decide +kernel, by decide +kernel, by decide +kernel⟩
theorem vX8_pass : nw_iv mX8_pass := ⟨tb_in (i := 607) (by decide +kernel), tb_in (i := 608) (by decide +kernel)⟩
def mX8_howMany : nw_Mt := (yX8_howMany, cX8_howMany, 5, (some .int))
theorem kX8_howMany : nw_ok mX8_howMany 2 := ⟨tb_in (i := 614) (by decide +kernel), tb_in (i := 5) (by decide +kernel), by decide +kernel, by decide +kernel, by decide +kernel⟩
theorem vX8_howMany : nw_iv mX8_howMany := ⟨tb_in (i := 612) (by decide +kernel), tb_in (i := 613) (by decide +kernel)⟩
def mX9_shipAhead : nw_Mt := (yX9_shipAhead, cX9_shipAhead, 4, (some .int))
theorem kX9_shipAhead : nw_ok mX9_shipAhead 3 := ⟨tb_in (i := 618) (by decide +kernel), tb_in (i := 1) (by decide +kernel), by decide +kernel, by decide +kernel, by decide +kernel⟩
theorem vX9_shipAhead : nw_iv mX9_shipAhead := ⟨tb_in (i := 616) (by decide +kernel), tb_in (i := 617) (by decide +kernel)⟩
def mX9_towerAhead : nw_Mt := (yX9_towerAhead, cX9_towerAhead, 3, (some .int))
theorem kX9_towerAhead : nw_ok mX9_towerAhead 2 := ⟨tb_in (i := 622) (by decide +kernel), tb_in (i := 1) (by decide +kernel), by decide +kernel, by decide +kernel, by decide +kernel⟩
theorem vX9_towerAhead : nw_iv mX9_towerAhead := ⟨tb_in (i := 620) (by decide +kernel), tb_in (i := 621) (by decide +kernel)⟩
def mX9_called : nw_Mt := (yX9_called, cX9_called, 7, (some .int))
theorem kX9_called : nw_ok mX9_called 2 := ⟨tb_in (i := 626) (by decide +kernel), tb_in (i := 1) (by decide +kernel), by decide +kernel, by decide +kernel, by decide +kernel⟩
theorem vX9_called : nw_iv mX9_called := ⟨tb_in (i := 624) (by decide +kernel), tb_in (i := 625) (by decide +kernel)⟩
def mX9_fit : nw_Mt := (yX9_fit, cX9_fit, 5, (some .int))
theorem kX9_fit : nw_ok mX9_fit 2 := ⟨tb_in (i := 634) (by decide +kernel), tb_in (i := 1) (by decide +kernel), by decide +kernel, by decide +kernel, by decide +kernel⟩
theorem vX9_fit : nw_iv mX9_fit := ⟨tb_in (i := 632) (by decide +kernel), tb_in (i := 633) (by decide +kernel)⟩
def mX9_highest : nw_Mt := (yX9_highest, cX9_highest, 7, (some .int))
theorem kX9_highest : nw_ok mX9_highest 2 := ⟨tb_in (i := 638) (by decide +kernel), tb_in (i := 1) (by decide +kernel), by decide +kernel, by decide +kernel, by decide +kernel⟩
theorem vX9_highest : nw_iv mX9_highest := ⟨tb_in (i := 636) (by decide +kernel), tb_in (i := 637) (by decide +kernel)⟩
def mX9_order : nw_Mt := (yX9_order, cX9_order, 3, (some .int))
theorem kX9_order : nw_ok mX9_order 2 := ⟨tb_in (i := 642) (by decide +kernel), tb_in (i := 1) (by decide +kernel), by decide +kernel, by decide +kernel, by decide +kernel⟩
theorem vX9_order : nw_iv mX9_order := ⟨tb_in (i := 640) (by decide +kernel), tb_in (i := 641) (by decide +kernel)⟩
def mX5_listen : nw_Mt := (yX5_listen, cX5_listen, 8, none)
theorem kX5_listen : nw_ok mX5_listen 3 := ⟨tb_in (i := 646) (by decide +kernel), tb_in (i := 7) (by decide +kernel), by decide +kernel, by decide +kernel, by decide +kernel⟩
theorem vX5_listen : nw_iv mX5_listen := ⟨tb_in (i := 644) (by decide +kernel), tb_in (i := 645) (by decide +kernel)⟩
def mX5_search : nw_Mt := (yX5_search, cX5_search, 6, none)
theorem kX5_search : nw_ok mX5_search 2 := ⟨tb_in (i := 654) (by decide +kernel), tb_in (i := 7) (by decide +kernel), by decide +kernel, by decide +kernel, by decide +kernel⟩
theorem vX5_search : nw_iv mX5_search := ⟨tb_in (i := 652) (by decide +kernel), tb_in (i := 653) (by decide +kernel)⟩
def mX5_howManyCross : nw_Mt := (yX5_howManyCross, cX5_howManyCross, 7, (some .int))
theorem kX5_howManyCross : nw_ok mX5_howManyCross 2 := ⟨tb_in (i := 658) (by decide +kernel), tb_in (i := 7) (by decide +kernel), by decide +kernel, by decide +kernel, by decide +kernel⟩
theorem vX5_howManyCross : nw_iv mX5_howManyCross := ⟨tb_in (i := 657) (by decide +kernel), tp_in (i := 17) (by decide +kernel)⟩
def mX5_goOn : nw_Mt := (yX5_goOn, cX5_goOn, 6, (some .boolean))
theorem kX5_goOn : nw_ok mX5_goOn 1 := ⟨tb_in (i := 664) (by decide +kernel), tb_in (i := 7) (by decide +kernel), by decide +kernel, by decide +kernel, by decide +kernel⟩
theorem vX5_goOn : nw_iv mX5_goOn := ⟨tb_in (i := 663) (by decide +kernel), tp_in (i := 18) (by decide +kernel)⟩
def mX5_swap : nw_Mt := (yX5_swap, cX5_swap, 4, none)
theorem kX5_swap : nw_ok mX5_swap 2 := ⟨tb_in (i := 668) (by decide +kernel), tb_in (i := 7) (by decide +kernel), by decide +kernel, by decide +kernel, by decide +kernel⟩
theorem vX5_swap : nw_iv mX5_swap := ⟨tb_in (i := 667) (by decide +kernel), tp_in (i := 19) (by decide +kernel)⟩
def mX9_laws : nw_Mt := (yX9_laws, cX9_laws, 7, (some .int))
theorem kX9_laws : nw_ok mX9_laws 2 := ⟨tb_in (i := 672) (by decide +kernel), tb_in (i := 1) (by decide +kernel), by decide +kernel, by decide +kernel, by decide +kernel⟩
theorem vX9_laws : nw_iv mX9_laws := ⟨tb_in (i := 670) (by decide +kernel), tb_in (i := 671) (by decide +kernel)⟩
def mX9_bribe : nw_Mt := (yX9_bribe, cX9_bribe, 7, (some .int))
theorem kX9_bribe : nw_ok mX9_bribe 2 := ⟨tb_in (i := 676) (by decide +kernel), tb_in (i := 1) (by decide +kernel), by decide +kernel, by decide +kernel, by decide +kernel⟩
theorem vX9_bribe : nw_iv mX9_bribe := ⟨tb_in (i := 674) (by decide +kernel), tb_in (i := 675) (by decide +kernel)⟩
def mX8_isOverAheadOf : nw_Mt := (yX8_isOverAheadOf, cX8_isOverAheadOf, 3, (some .boolean))
theorem kX8_isOverAheadOf : nw_ok mX8_isOverAheadOf 2 := ⟨tb_in (i := 680) (by decide +kernel), tb_in (i := 5) (by decide +kernel), by decide +kernel, by decide +kernel, by decide +kernel⟩
theorem vX8_isOverAheadOf : nw_iv mX8_isOverAheadOf := ⟨tb_in (i := 678) (by decide +kernel), tb_in (i := 679) (by decide +kernel)⟩
def mX9_heed : nw_Mt := (yX9_heed, cX9_heed, 5, (some .int))
theorem kX9_heed : nw_ok mX9_heed 1 := ⟨tb_in (i := 684) (by decide +kernel), tb_in (i := 1) (by decide +kernel), by decide +kernel, by decide +kernel, by decide +kernel⟩
theorem vX9_heed : nw_iv mX9_heed := ⟨tb_in (i := 682) (by decide +kernel), tb_in (i := 683) (by decide +kernel)⟩
def mX9_agreed : nw_Mt := (yX9_agreed, cX9_agreed, 6, (some .int))
theorem kX9_agreed : nw_ok mX9_agreed 2 := ⟨tb_in (i := 688) (by decide +kernel), tb_in (i := 1) (by decide +kernel), by decide +kernel, by decide +kernel, by decide +kernel⟩
theorem vX9_agreed : nw_iv mX9_agreed := ⟨tb_in (i := 686) (by decide +kernel), tb_in (i := 687) (by decide +kernel)⟩
def mX9_log : nw_Mt := (yX9_log, cX9_log, 8, (some .int))
theorem kX9_log : nw_ok mX9_log 4 := ⟨tb_in (i := 692) (by decide +kernel), tb_in (i := 1) (by decide +kernel), by decide +kernel, by decide +kernel, by decide +kernel⟩
theorem vX9_log : nw_iv mX9_log := ⟨tb_in (i := 690) (by decide +kernel), tb_in (i := 691) (by decide +kernel)⟩
def mX7_rises : nw_Mt := (yX7_rises, cX7_rises, 8, (some .boolean))
theorem kX7_rises : nw_ok mX7_rises 4 := ⟨tb_in (i := 696) (by decide +kernel), tb_in (i := 2) (by decide +kernel), by decide +kernel, by decide +kernel, by decide +kernel⟩
theorem vX7_rises : nw_iv mX7_rises := ⟨tb_in (i := 694) (by decide +kernel), tb_in (i := 695) (by decide +kernel)⟩
def mX9_fitsLog : nw_Mt := (yX9_fitsLog, cX9_fitsLog, 12, (some .boolean))
theorem kX9_fitsLog : nw_ok mX9_fitsLog 4 := ⟨tb_in (i := 700) (by decide +kernel), tb_in (i := 1) (by decide +kernel), by decide +kernel, by decide +kernel, by decide +kernel⟩
theorem vX9_fitsLog : nw_iv mX9_fitsLog := ⟨tb_in (i := 699) (by decide +kernel), tp_in (i := 20) (by decide +kernel)⟩
def mX7_item : nw_Mt := (yX7_item, cX7_item, 3, (some .int))
theorem kX7_item : nw_ok mX7_item 2 := ⟨tb_in (i := 704) (by decide +kernel), tb_in (i := 2) (by decide +kernel), by decide +kernel, by decide +kernel, by decide +kernel⟩
theorem vX7_item : nw_iv mX7_item := ⟨tb_in (i := 702) (by decide +kernel), tb_in (i := 703) (by decide +kernel)⟩
def mX9_wreck : nw_Mt := (yX9_wreck, cX9_wreck, 8, (some .int))
theorem kX9_wreck : nw_ok mX9_wreck 4 := ⟨tb_in (i := 711) (by decide +kernel), tb_in (i := 1) (by decide +kernel), by decide +kernel, by decide +kernel, by decide +kernel⟩
theorem vX9_wreck : nw_iv mX9_wreck := ⟨tb_in (i := 709) (by decide +kernel), tb_in (i := 710) (by decide +kernel)⟩
def mX9_season : nw_Mt := (yX9_season, cX9_season, 9, (some .int))
theorem kX9_season : nw_ok mX9_season 3 := ⟨tb_in (i := 715) (by decide +kernel), tb_in (i := 1) (by decide +kernel), by decide +kernel, by decide +kernel, by decide +kernel⟩
theorem vX9_season : nw_iv mX9_season := ⟨tb_in (i := 713) (by decide +kernel), tb_in (i := 714) (by decide +kernel)⟩
def mX9_image : nw_Mt := (yX9_image, cX9_image, 2, (some .int))
theorem kX9_image : nw_ok mX9_image 1 := ⟨tb_in (i := 727) (by decide +kernel), tb_in (i := 1) (by decide +kernel), by decide +kernel, by decide +kernel, by decide +kernel⟩
theorem vX9_image : nw_iv mX9_image := ⟨tb_in (i := 725) (by decide +kernel), tb_in (i := 726) (by decide +kernel)⟩
def mX3_keep : nw_Mt := (yX3_keep, cX3_keep, 3, none)
theorem kX3_keep : nw_ok mX3_keep 2 := ⟨tb_in (i := 731) (by decide +kernel), tb_in (i := 9) (by decide +kernel), by decide +kernel, by decide +kernel, by decide +kernel⟩
theorem vX3_keep : nw_iv mX3_keep := ⟨tb_in (i := 729) (by decide +kernel), tb_in (i := 730) (by decide +kernel)⟩
def mX9_restore : nw_Mt := (yX9_restore, cX9_restore, 2, (some .int))
theorem kX9_restore : nw_ok mX9_restore 1 := ⟨tb_in (i := 737) (by decide +kernel), tb_in (i := 1) (by decide +kernel), by decide +kernel, by decide +kernel, by decide +kernel⟩
theorem vX9_restore : nw_iv mX9_restore := ⟨tb_in (i := 735) (by decide +kernel), tb_in (i := 736) (by decide +kernel)⟩
def mX9_kind : nw_Mt := (yX9_kind, cX9_kind, 2, (some .int))
theorem kX9_kind : nw_ok mX9_kind 1 := ⟨tb_in (i := 741) (by decide +kernel), tb_in (i := 1) (by decide +kernel), by decide +kernel, by decide +kernel, by decide +kernel⟩
theorem vX9_kind : nw_iv mX9_kind := ⟨tb_in (i := 739) (by decide +kernel), tb_in (i := 740) (by decide +kernel)⟩
def mX9_isSwell : nw_Mt := (yX9_isSwell, cX9_isSwell, 2, (some .boolean))
theorem kX9_isSwell : nw_ok mX9_isSwell 1 := ⟨tb_in (i := 745) (by decide +kernel), tb_in (i := 1) (by decide +kernel), by decide +kernel, by decide +kernel, by decide +kernel⟩
theorem vX9_isSwell : nw_iv mX9_isSwell := ⟨tb_in (i := 744) (by decide +kernel), tp_in (i := 21) (by decide +kernel)⟩
def mX9_as : nw_Mt := (yX9_as, cX9_as, 3, (some .int))
theorem kX9_as : nw_ok mX9_as 2 := ⟨tb_in (i := 749) (by decide +kernel), tb_in (i := 1) (by decide +kernel), by decide +kernel, by decide +kernel, by decide +kernel⟩
theorem vX9_as : nw_iv mX9_as := ⟨tb_in (i := 747) (by decide +kernel), tb_in (i := 748) (by decide +kernel)⟩
def mX4_isA : nw_Mt := (yX4_isA, cX4_isA, 4, (some .boolean))
theorem kX4_isA : nw_ok mX4_isA 2 := ⟨tb_in (i := 752) (by decide +kernel), tb_in (i := 12) (by decide +kernel), by decide +kernel, by decide +kernel, by decide +kernel⟩
theorem sX4_isA : nw_ss mX4_isA := tb_in (i := 751) (by decide +kernel)
def mX4_next : nw_Mt := (yX4_next, cX4_next, 1, (some .int))
theorem kX4_next : nw_ok mX4_next 1 := ⟨tb_in (i := 757) (by decide +kernel), tb_in (i := 12) (by decide +kernel), by decide +kernel, by decide +kernel, by decide +kernel⟩
theorem sX4_next : nw_ss mX4_next := tb_in (i := 756) (by decide +kernel)
def mX9_ask : nw_Mt := (yX9_ask, cX9_ask, 3, (some .int))
theorem kX9_ask : nw_ok mX9_ask 2 := ⟨tb_in (i := 761) (by decide +kernel), tb_in (i := 1) (by decide +kernel), by decide +kernel, by decide +kernel, by decide +kernel⟩
theorem vX9_ask : nw_iv mX9_ask := ⟨tb_in (i := 759) (by decide +kernel), tb_in (i := 760) (by decide +kernel)⟩
def mX1_answer : nw_Mt := (yX1_answer, cX1_answer, 4, (some .int))
theorem kX1_answer : nw_ok mX1_answer 3 := ⟨tb_in (i := 765) (by decide +kernel), tb_in (i := 8) (by decide +kernel), by decide +kernel, by decide +kernel, by decide +kernel⟩
theorem vX1_answer : nw_iv mX1_answer := ⟨tb_in (i := 763) (by decide +kernel), tb_in (i := 764) (by decide +kernel)⟩
def mX1_asked : nw_Mt := (yX1_asked, cX1_asked, 6, (some .int))
theorem kX1_asked : nw_ok mX1_asked 2 := ⟨tb_in (i := 770) (by decide +kernel), tb_in (i := 8) (by decide +kernel), by decide +kernel, by decide +kernel, by decide +kernel⟩
theorem vX1_asked : nw_iv mX1_asked := ⟨tb_in (i := 769) (by decide +kernel), tp_in (i := 22) (by decide +kernel)⟩
def mX1_given : nw_Mt := (yX1_given, cX1_given, 4, (some .int))
theorem kX1_given : nw_ok mX1_given 2 := ⟨tb_in (i := 776) (by decide +kernel), tb_in (i := 8) (by decide +kernel), by decide +kernel, by decide +kernel, by decide +kernel⟩
theorem vX1_given : nw_iv mX1_given := ⟨tb_in (i := 775) (by decide +kernel), tp_in (i := 23) (by decide +kernel)⟩
def mX1_leave : nw_Mt := (yX1_leave, cX1_leave, 2, none)
theorem kX1_leave : nw_ok mX1_leave 1 := ⟨tb_in (i := 780) (by decide +kernel), tb_in (i := 8) (by decide +kernel), by decide +kernel, by decide +kernel, by decide +kernel⟩
theorem vX1_leave : nw_iv mX1_leave := ⟨tb_in (i := 779) (by decide +kernel), tp_in (i := 24) (by decide +kernel)⟩
def mX9_trace : nw_Mt := (yX9_trace, cX9_trace, 2, (some .int))
theorem kX9_trace : nw_ok mX9_trace 1 := ⟨tb_in (i := 785) (by decide +kernel), tb_in (i := 1) (by decide +kernel), by decide +kernel, by decide +kernel, by decide +kernel⟩
theorem vX9_trace : nw_iv mX9_trace := ⟨tb_in (i := 783) (by decide +kernel), tb_in (i := 784) (by decide +kernel)⟩
def mX9_count : nw_Mt := (yX9_count, cX9_count, 2, (some .int))
theorem kX9_count : nw_ok mX9_count 1 := ⟨tb_in (i := 789) (by decide +kernel), tb_in (i := 1) (by decide +kernel), by decide +kernel, by decide +kernel, by decide +kernel⟩
theorem vX9_count : nw_iv mX9_count := ⟨tb_in (i := 787) (by decide +kernel), tb_in (i := 788) (by decide +kernel)⟩
def mX7_howManyThere : nw_Mt := (yX7_howManyThere, cX7_howManyThere, 3, (some .int))
theorem kX7_howManyThere : nw_ok mX7_howManyThere 0 := ⟨tb_in (i := 793) (by decide +kernel), tb_in (i := 2) (by decide +kernel), by decide +kernel, by decide +kernel, by decide +kernel⟩
theorem vX7_howManyThere : nw_iv mX7_howManyThere := ⟨tb_in (i := 791) (by decide +kernel), tb_in (i := 792) (by decide +kernel)⟩
def mX9_status : nw_Mt := (yX9_status, cX9_status, 1, (some .int))
theorem kX9_status : nw_ok mX9_status 0 := ⟨tb_in (i := 798) (by decide +kernel), tb_in (i := 1) (by decide +kernel), by decide +kernel, by decide +kernel, by decide +kernel⟩
theorem vX9_status : nw_iv mX9_status := ⟨tb_in (i := 796) (by decide +kernel), tb_in (i := 797) (by decide +kernel)⟩
def mX10_init : nw_Mt := (yX10_init, cX10_init, 2, none)
theorem kX10_init : nw_ok mX10_init 0 := ⟨tb_in (i := 803) (by decide +kernel), tb_in (i := 10) (by decide +kernel), by decide +kernel, by decide +kernel, by decide +kernel⟩
theorem iX10_init : nw_ii mX10_init := ⟨tb_in (i := 802) (by decide +kernel), rfl⟩
def mX10_row : nw_Mt := (yX10_row, cX10_row, 5, (some .int))
theorem kX10_row : nw_ok mX10_row 3 := ⟨tb_in (i := 897) (by decide +kernel), tb_in (i := 10) (by decide +kernel), by decide +kernel, by decide +kernel, by decide +kernel⟩
theorem vX10_row : nw_iv mX10_row := ⟨tb_in (i := 895) (by decide +kernel), tb_in (i := 896) (by decide +kernel)⟩
def mX10_isRow : nw_Mt := (yX10_isRow, cX10_isRow, 1, (some .boolean))
theorem kX10_isRow : nw_ok mX10_isRow 1 := ⟨tb_in (i := 900) (by decide +kernel), tb_in (i := 10) (by decide +kernel), by decide +kernel, by decide +kernel, by decide +kernel⟩
theorem sX10_isRow : nw_ss mX10_isRow := tb_in (i := 899) (by decide +kernel)
def mX10_in : nw_Mt := (yX10_in, cX10_in, 6, (some .boolean))
theorem kX10_in : nw_ok mX10_in 3 := ⟨tb_in (i := 904) (by decide +kernel), tb_in (i := 10) (by decide +kernel), by decide +kernel, by decide +kernel, by decide +kernel⟩
theorem sX10_in : nw_ss mX10_in := tb_in (i := 903) (by decide +kernel)
def mX10_finds : nw_Mt := (yX10_finds, cX10_finds, 2, (some .int))
theorem kX10_finds : nw_ok mX10_finds 1 := ⟨tb_in (i := 910) (by decide +kernel), tb_in (i := 10) (by decide +kernel), by decide +kernel, by decide +kernel, by decide +kernel⟩
theorem vX10_finds : nw_iv mX10_finds := ⟨tb_in (i := 909) (by decide +kernel), tp_in (i := 25) (by decide +kernel)⟩
def mX10_well : nw_Mt := (yX10_well, cX10_well, 2, (some .int))
theorem kX10_well : nw_ok mX10_well 1 := ⟨tb_in (i := 915) (by decide +kernel), tb_in (i := 10) (by decide +kernel), by decide +kernel, by decide +kernel, by decide +kernel⟩
theorem vX10_well : nw_iv mX10_well := ⟨tb_in (i := 914) (by decide +kernel), tp_in (i := 26) (by decide +kernel)⟩
def mX10_set : nw_Mt := (yX10_set, cX10_set, 5, (some .int))
theorem kX10_set : nw_ok mX10_set 3 := ⟨tb_in (i := 919) (by decide +kernel), tb_in (i := 10) (by decide +kernel), by decide +kernel, by decide +kernel, by decide +kernel⟩
theorem vX10_set : nw_iv mX10_set := ⟨tb_in (i := 917) (by decide +kernel), tb_in (i := 918) (by decide +kernel)⟩
def mX10_copy : nw_Mt := (yX10_copy, cX10_copy, 7, (some .int))
theorem kX10_copy : nw_ok mX10_copy 5 := ⟨tb_in (i := 923) (by decide +kernel), tb_in (i := 10) (by decide +kernel), by decide +kernel, by decide +kernel, by decide +kernel⟩
theorem vX10_copy : nw_iv mX10_copy := ⟨tb_in (i := 921) (by decide +kernel), tb_in (i := 922) (by decide +kernel)⟩
def mX10_drop : nw_Mt := (yX10_drop, cX10_drop, 2, (some .int))
theorem kX10_drop : nw_ok mX10_drop 1 := ⟨tb_in (i := 927) (by decide +kernel), tb_in (i := 10) (by decide +kernel), by decide +kernel, by decide +kernel, by decide +kernel⟩
theorem vX10_drop : nw_iv mX10_drop := ⟨tb_in (i := 925) (by decide +kernel), tb_in (i := 926) (by decide +kernel)⟩
def mX10_feed : nw_Mt := (yX10_feed, cX10_feed, 2, (some .int))
theorem kX10_feed : nw_ok mX10_feed 1 := ⟨tb_in (i := 931) (by decide +kernel), tb_in (i := 10) (by decide +kernel), by decide +kernel, by decide +kernel, by decide +kernel⟩
theorem vX10_feed : nw_iv mX10_feed := ⟨tb_in (i := 929) (by decide +kernel), tb_in (i := 930) (by decide +kernel)⟩
def mX10_sea : nw_Mt := (yX10_sea, cX10_sea, 3, (some .int))
theorem kX10_sea : nw_ok mX10_sea 0 := ⟨tb_in (i := 937) (by decide +kernel), tb_in (i := 10) (by decide +kernel), by decide +kernel, by decide +kernel, by decide +kernel⟩
theorem vX10_sea : nw_iv mX10_sea := ⟨tb_in (i := 935) (by decide +kernel), tb_in (i := 936) (by decide +kernel)⟩
def mX10_reads : nw_Mt := (yX10_reads, cX10_reads, 2, (some .boolean))
theorem kX10_reads : nw_ok mX10_reads 0 := ⟨tb_in (i := 941) (by decide +kernel), tb_in (i := 10) (by decide +kernel), by decide +kernel, by decide +kernel, by decide +kernel⟩
theorem vX10_reads : nw_iv mX10_reads := ⟨tb_in (i := 940) (by decide +kernel), tp_in (i := 27) (by decide +kernel)⟩
def mX10_scans : nw_Mt := (yX10_scans, cX10_scans, 1, none)
theorem kX10_scans : nw_ok mX10_scans 0 := ⟨tb_in (i := 945) (by decide +kernel), tb_in (i := 10) (by decide +kernel), by decide +kernel, by decide +kernel, by decide +kernel⟩
theorem vX10_scans : nw_iv mX10_scans := ⟨tb_in (i := 944) (by decide +kernel), tp_in (i := 28) (by decide +kernel)⟩
def mX10_isFigure : nw_Mt := (yX10_isFigure, cX10_isFigure, 1, (some .boolean))
theorem kX10_isFigure : nw_ok mX10_isFigure 0 := ⟨tb_in (i := 949) (by decide +kernel), tb_in (i := 10) (by decide +kernel), by decide +kernel, by decide +kernel, by decide +kernel⟩
theorem vX10_isFigure : nw_iv mX10_isFigure := ⟨tb_in (i := 948) (by decide +kernel), tp_in (i := 29) (by decide +kernel)⟩
def mX10_isLetter : nw_Mt := (yX10_isLetter, cX10_isLetter, 2, (some .boolean))
theorem kX10_isLetter : nw_ok mX10_isLetter 1 := ⟨tb_in (i := 957) (by decide +kernel), tb_in (i := 10) (by decide +kernel), by decide +kernel, by decide +kernel, by decide +kernel⟩
theorem vX10_isLetter : nw_iv mX10_isLetter := ⟨tb_in (i := 956) (by decide +kernel), tp_in (i := 30) (by decide +kernel)⟩
def mX10_faults : nw_Mt := (yX10_faults, cX10_faults, 2, (some .boolean))
theorem kX10_faults : nw_ok mX10_faults 1 := ⟨tb_in (i := 961) (by decide +kernel), tb_in (i := 10) (by decide +kernel), by decide +kernel, by decide +kernel, by decide +kernel⟩
theorem vX10_faults : nw_iv mX10_faults := ⟨tb_in (i := 960) (by decide +kernel), tp_in (i := 31) (by decide +kernel)⟩
def mX10_two : nw_Mt := (yX10_two, cX10_two, 4, (some .boolean))
theorem kX10_two : nw_ok mX10_two 3 := ⟨tb_in (i := 965) (by decide +kernel), tb_in (i := 10) (by decide +kernel), by decide +kernel, by decide +kernel, by decide +kernel⟩
theorem vX10_two : nw_iv mX10_two := ⟨tb_in (i := 964) (by decide +kernel), tp_in (i := 32) (by decide +kernel)⟩
def mX10_takes : nw_Mt := (yX10_takes, cX10_takes, 3, (some .boolean))
theorem kX10_takes : nw_ok mX10_takes 2 := ⟨tb_in (i := 969) (by decide +kernel), tb_in (i := 10) (by decide +kernel), by decide +kernel, by decide +kernel, by decide +kernel⟩
theorem vX10_takes : nw_iv mX10_takes := ⟨tb_in (i := 968) (by decide +kernel), tp_in (i := 33) (by decide +kernel)⟩
def mX10_signs : nw_Mt := (yX10_signs, cX10_signs, 2, (some .boolean))
theorem kX10_signs : nw_ok mX10_signs 1 := ⟨tb_in (i := 973) (by decide +kernel), tb_in (i := 10) (by decide +kernel), by decide +kernel, by decide +kernel, by decide +kernel⟩
theorem vX10_signs : nw_iv mX10_signs := ⟨tb_in (i := 972) (by decide +kernel), tp_in (i := 34) (by decide +kernel)⟩
def mX10_sortOf : nw_Mt := (yX10_sortOf, cX10_sortOf, 1, (some .int))
theorem kX10_sortOf : nw_ok mX10_sortOf 1 := ⟨tb_in (i := 976) (by decide +kernel), tb_in (i := 10) (by decide +kernel), by decide +kernel, by decide +kernel, by decide +kernel⟩
theorem sX10_sortOf : nw_ss mX10_sortOf := tb_in (i := 975) (by decide +kernel)
def mX10_swell : nw_Mt := (yX10_swell, cX10_swell, 1, (some .boolean))
theorem kX10_swell : nw_ok mX10_swell 0 := ⟨tb_in (i := 980) (by decide +kernel), tb_in (i := 10) (by decide +kernel), by decide +kernel, by decide +kernel, by decide +kernel⟩
theorem vX10_swell : nw_iv mX10_swell := ⟨tb_in (i := 979) (by decide +kernel), tp_in (i := 35) (by decide +kernel)⟩
def mX10_turret : nw_Mt := (yX10_turret, cX10_turret, 1, (some .boolean))
theorem kX10_turret : nw_ok mX10_turret 0 := ⟨tb_in (i := 984) (by decide +kernel), tb_in (i := 10) (by decide +kernel), by decide +kernel, by decide +kernel, by decide +kernel⟩
theorem vX10_turret : nw_iv mX10_turret := ⟨tb_in (i := 983) (by decide +kernel), tp_in (i := 36) (by decide +kernel)⟩
def mX10_vessel : nw_Mt := (yX10_vessel, cX10_vessel, 1, (some .boolean))
theorem kX10_vessel : nw_ok mX10_vessel 0 := ⟨tb_in (i := 988) (by decide +kernel), tb_in (i := 10) (by decide +kernel), by decide +kernel, by decide +kernel, by decide +kernel⟩
theorem vX10_vessel : nw_iv mX10_vessel := ⟨tb_in (i := 987) (by decide +kernel), tp_in (i := 37) (by decide +kernel)⟩
def mX10_fault : nw_Mt := (yX10_fault, cX10_fault, 1, (some .int))
theorem kX10_fault : nw_ok mX10_fault 0 := ⟨tb_in (i := 994) (by decide +kernel), tb_in (i := 10) (by decide +kernel), by decide +kernel, by decide +kernel, by decide +kernel⟩
theorem vX10_fault : nw_iv mX10_fault := ⟨tb_in (i := 992) (by decide +kernel), tb_in (i := 993) (by decide +kernel)⟩
def mX10_waves : nw_Mt := (yX10_waves, cX10_waves, 4, (some .int))
theorem kX10_waves : nw_ok mX10_waves 1 := ⟨tb_in (i := 998) (by decide +kernel), tb_in (i := 10) (by decide +kernel), by decide +kernel, by decide +kernel, by decide +kernel⟩
theorem vX10_waves : nw_iv mX10_waves := ⟨tb_in (i := 996) (by decide +kernel), tb_in (i := 997) (by decide +kernel)⟩
def mX10_isSea : nw_Mt := (yX10_isSea, cX10_isSea, 1, (some .boolean))
theorem kX10_isSea : nw_ok mX10_isSea 0 := ⟨tb_in (i := 1002) (by decide +kernel), tb_in (i := 10) (by decide +kernel), by decide +kernel, by decide +kernel, by decide +kernel⟩
theorem vX10_isSea : nw_iv mX10_isSea := ⟨tb_in (i := 1001) (by decide +kernel), tp_in (i := 38) (by decide +kernel)⟩
def mX10_remembers : nw_Mt := (yX10_remembers, cX10_remembers, 2, none)
theorem kX10_remembers : nw_ok mX10_remembers 0 := ⟨tb_in (i := 1008) (by decide +kernel), tb_in (i := 10) (by decide +kernel), by decide +kernel, by decide +kernel, by decide +kernel⟩
theorem vX10_remembers : nw_iv mX10_remembers := ⟨tb_in (i := 1007) (by decide +kernel), tp_in (i := 39) (by decide +kernel)⟩
def mX10_asNow : nw_Mt := (yX10_asNow, cX10_asNow, 2, none)
theorem kX10_asNow : nw_ok mX10_asNow 0 := ⟨tb_in (i := 1012) (by decide +kernel), tb_in (i := 10) (by decide +kernel), by decide +kernel, by decide +kernel, by decide +kernel⟩
theorem vX10_asNow : nw_iv mX10_asNow := ⟨tb_in (i := 1011) (by decide +kernel), tp_in (i := 40) (by decide +kernel)⟩
def mX10_waves0 : nw_Mt := (yX10_waves0, cX10_waves0, 3, none)
theorem kX10_waves0 : nw_ok mX10_waves0 1 := ⟨tb_in (i := 1016) (by decide +kernel), tb_in (i := 10) (by decide +kernel), by decide +kernel, by decide +kernel, by decide +kernel⟩
theorem vX10_waves0 : nw_iv mX10_waves0 := ⟨tb_in (i := 1015) (by decide +kernel), tp_in (i := 41) (by decide +kernel)⟩
def mX10_sortIn : nw_Mt := (yX10_sortIn, cX10_sortIn, 2, (some .int))
theorem kX10_sortIn : nw_ok mX10_sortIn 1 := ⟨tb_in (i := 1020) (by decide +kernel), tb_in (i := 10) (by decide +kernel), by decide +kernel, by decide +kernel, by decide +kernel⟩
theorem vX10_sortIn : nw_iv mX10_sortIn := ⟨tb_in (i := 1019) (by decide +kernel), tp_in (i := 42) (by decide +kernel)⟩
def mX10_heightIn : nw_Mt := (yX10_heightIn, cX10_heightIn, 2, (some .int))
theorem kX10_heightIn : nw_ok mX10_heightIn 1 := ⟨tb_in (i := 1024) (by decide +kernel), tb_in (i := 10) (by decide +kernel), by decide +kernel, by decide +kernel, by decide +kernel⟩
theorem vX10_heightIn : nw_iv mX10_heightIn := ⟨tb_in (i := 1023) (by decide +kernel), tp_in (i := 43) (by decide +kernel)⟩
def mX10_comes : nw_Mt := (yX10_comes, cX10_comes, 10, none)
theorem kX10_comes : nw_ok mX10_comes 2 := ⟨tb_in (i := 1028) (by decide +kernel), tb_in (i := 10) (by decide +kernel), by decide +kernel, by decide +kernel, by decide +kernel⟩
theorem vX10_comes : nw_iv mX10_comes := ⟨tb_in (i := 1027) (by decide +kernel), tp_in (i := 44) (by decide +kernel)⟩
def mX10_water : nw_Mt := (yX10_water, cX10_water, 4, (some .int))
theorem kX10_water : nw_ok mX10_water 3 := ⟨tb_in (i := 1032) (by decide +kernel), tb_in (i := 10) (by decide +kernel), by decide +kernel, by decide +kernel, by decide +kernel⟩
theorem vX10_water : nw_iv mX10_water := ⟨tb_in (i := 1031) (by decide +kernel), tp_in (i := 45) (by decide +kernel)⟩
def mX10_most : nw_Mt := (yX10_most, cX10_most, 2, (some .int))
theorem kX10_most : nw_ok mX10_most 2 := ⟨tb_in (i := 1035) (by decide +kernel), tb_in (i := 10) (by decide +kernel), by decide +kernel, by decide +kernel, by decide +kernel⟩
theorem sX10_most : nw_ss mX10_most := tb_in (i := 1034) (by decide +kernel)
def mX10_lift : nw_Mt := (yX10_lift, cX10_lift, 2, (some .int))
theorem kX10_lift : nw_ok mX10_lift 2 := ⟨tb_in (i := 1038) (by decide +kernel), tb_in (i := 10) (by decide +kernel), by decide +kernel, by decide +kernel, by decide +kernel⟩
theorem sX10_lift : nw_ss mX10_lift := tb_in (i := 1037) (by decide +kernel)
def mX10_counted : nw_Mt := (yX10_counted, cX10_counted, 2, (some .int))
theorem kX10_counted : nw_ok mX10_counted 2 := ⟨tb_in (i := 1041) (by decide +kernel), tb_in (i := 10) (by decide +kernel), by decide +kernel, by decide +kernel, by decide +kernel⟩
theorem sX10_counted : nw_ss mX10_counted := tb_in (i := 1040) (by decide +kernel)
def mX10_isCalled : nw_Mt := (yX10_isCalled, cX10_isCalled, 3, (some .boolean))
theorem kX10_isCalled : nw_ok mX10_isCalled 3 := ⟨tb_in (i := 1044) (by decide +kernel), tb_in (i := 10) (by decide +kernel), by decide +kernel, by decide +kernel, by decide +kernel⟩
theorem sX10_isCalled : nw_ss mX10_isCalled := tb_in (i := 1043) (by decide +kernel)
def mX10_slip : nw_Mt := (yX10_slip, cX10_slip, 3, (some .int))
theorem kX10_slip : nw_ok mX10_slip 2 := ⟨tb_in (i := 1048) (by decide +kernel), tb_in (i := 10) (by decide +kernel), by decide +kernel, by decide +kernel, by decide +kernel⟩
theorem vX10_slip : nw_iv mX10_slip := ⟨tb_in (i := 1046) (by decide +kernel), tb_in (i := 1047) (by decide +kernel)⟩
def mX10_isTower : nw_Mt := (yX10_isTower, cX10_isTower, 2, (some .boolean))
theorem kX10_isTower : nw_ok mX10_isTower 1 := ⟨tb_in (i := 1052) (by decide +kernel), tb_in (i := 10) (by decide +kernel), by decide +kernel, by decide +kernel, by decide +kernel⟩
theorem vX10_isTower : nw_iv mX10_isTower := ⟨tb_in (i := 1051) (by decide +kernel), tp_in (i := 46) (by decide +kernel)⟩
def mX10_law : nw_Mt := (yX10_law, cX10_law, 3, (some .int))
theorem kX10_law : nw_ok mX10_law 1 := ⟨tb_in (i := 1058) (by decide +kernel), tb_in (i := 10) (by decide +kernel), by decide +kernel, by decide +kernel, by decide +kernel⟩
theorem vX10_law : nw_iv mX10_law := ⟨tb_in (i := 1056) (by decide +kernel), tb_in (i := 1057) (by decide +kernel)⟩
def mX10_change : nw_Mt := (yX10_change, cX10_change, 5, (some .int))
theorem kX10_change : nw_ok mX10_change 2 := ⟨tb_in (i := 1063) (by decide +kernel), tb_in (i := 10) (by decide +kernel), by decide +kernel, by decide +kernel, by decide +kernel⟩
theorem vX10_change : nw_iv mX10_change := ⟨tb_in (i := 1061) (by decide +kernel), tb_in (i := 1062) (by decide +kernel)⟩
def mX10_isShip : nw_Mt := (yX10_isShip, cX10_isShip, 2, (some .boolean))
theorem kX10_isShip : nw_ok mX10_isShip 1 := ⟨tb_in (i := 1067) (by decide +kernel), tb_in (i := 10) (by decide +kernel), by decide +kernel, by decide +kernel, by decide +kernel⟩
theorem vX10_isShip : nw_iv mX10_isShip := ⟨tb_in (i := 1066) (by decide +kernel), tp_in (i := 47) (by decide +kernel)⟩
def mX10_placeOf : nw_Mt := (yX10_placeOf, cX10_placeOf, 4, (some .int))
theorem kX10_placeOf : nw_ok mX10_placeOf 1 := ⟨tb_in (i := 1071) (by decide +kernel), tb_in (i := 10) (by decide +kernel), by decide +kernel, by decide +kernel, by decide +kernel⟩
theorem vX10_placeOf : nw_iv mX10_placeOf := ⟨tb_in (i := 1070) (by decide +kernel), tp_in (i := 48) (by decide +kernel)⟩
def mX10_heeds : nw_Mt := (yX10_heeds, cX10_heeds, 4, (some .int))
theorem kX10_heeds : nw_ok mX10_heeds 2 := ⟨tb_in (i := 1075) (by decide +kernel), tb_in (i := 10) (by decide +kernel), by decide +kernel, by decide +kernel, by decide +kernel⟩
theorem vX10_heeds : nw_iv mX10_heeds := ⟨tb_in (i := 1073) (by decide +kernel), tb_in (i := 1074) (by decide +kernel)⟩
def mX10_undo : nw_Mt := (yX10_undo, cX10_undo, 2, (some .int))
theorem kX10_undo : nw_ok mX10_undo 0 := ⟨tb_in (i := 1079) (by decide +kernel), tb_in (i := 10) (by decide +kernel), by decide +kernel, by decide +kernel, by decide +kernel⟩
theorem vX10_undo : nw_iv mX10_undo := ⟨tb_in (i := 1077) (by decide +kernel), tb_in (i := 1078) (by decide +kernel)⟩
def mX10_ship : nw_Mt := (yX10_ship, cX10_ship, 4, (some .int))
theorem kX10_ship : nw_ok mX10_ship 2 := ⟨tb_in (i := 1083) (by decide +kernel), tb_in (i := 10) (by decide +kernel), by decide +kernel, by decide +kernel, by decide +kernel⟩
theorem vX10_ship : nw_iv mX10_ship := ⟨tb_in (i := 1081) (by decide +kernel), tb_in (i := 1082) (by decide +kernel)⟩
def mX10_tower : nw_Mt := (yX10_tower, cX10_tower, 5, (some .int))
theorem kX10_tower : nw_ok mX10_tower 2 := ⟨tb_in (i := 1088) (by decide +kernel), tb_in (i := 10) (by decide +kernel), by decide +kernel, by decide +kernel, by decide +kernel⟩
theorem vX10_tower : nw_iv mX10_tower := ⟨tb_in (i := 1086) (by decide +kernel), tb_in (i := 1087) (by decide +kernel)⟩
def mX10_wave : nw_Mt := (yX10_wave, cX10_wave, 3, (some .int))
theorem kX10_wave : nw_ok mX10_wave 2 := ⟨tb_in (i := 1092) (by decide +kernel), tb_in (i := 10) (by decide +kernel), by decide +kernel, by decide +kernel, by decide +kernel⟩
theorem vX10_wave : nw_iv mX10_wave := ⟨tb_in (i := 1090) (by decide +kernel), tb_in (i := 1091) (by decide +kernel)⟩
def mX10_waterIn : nw_Mt := (yX10_waterIn, cX10_waterIn, 2, (some .int))
theorem kX10_waterIn : nw_ok mX10_waterIn 1 := ⟨tb_in (i := 1098) (by decide +kernel), tb_in (i := 10) (by decide +kernel), by decide +kernel, by decide +kernel, by decide +kernel⟩
theorem vX10_waterIn : nw_iv mX10_waterIn := ⟨tb_in (i := 1097) (by decide +kernel), tp_in (i := 49) (by decide +kernel)⟩
def mX10_ahead : nw_Mt := (yX10_ahead, cX10_ahead, 3, (some .int))
theorem kX10_ahead : nw_ok mX10_ahead 2 := ⟨tb_in (i := 1102) (by decide +kernel), tb_in (i := 10) (by decide +kernel), by decide +kernel, by decide +kernel, by decide +kernel⟩
theorem vX10_ahead : nw_iv mX10_ahead := ⟨tb_in (i := 1100) (by decide +kernel), tb_in (i := 1101) (by decide +kernel)⟩
def mX10_many : nw_Mt := (yX10_many, cX10_many, 4, (some .int))
theorem kX10_many : nw_ok mX10_many 1 := ⟨tb_in (i := 1107) (by decide +kernel), tb_in (i := 10) (by decide +kernel), by decide +kernel, by decide +kernel, by decide +kernel⟩
theorem vX10_many : nw_iv mX10_many := ⟨tb_in (i := 1106) (by decide +kernel), tp_in (i := 50) (by decide +kernel)⟩
def mX10_shipAhead : nw_Mt := (yX10_shipAhead, cX10_shipAhead, 4, (some .int))
theorem kX10_shipAhead : nw_ok mX10_shipAhead 3 := ⟨tb_in (i := 1111) (by decide +kernel), tb_in (i := 10) (by decide +kernel), by decide +kernel, by decide +kernel, by decide +kernel⟩
theorem vX10_shipAhead : nw_iv mX10_shipAhead := ⟨tb_in (i := 1109) (by decide +kernel), tb_in (i := 1110) (by decide +kernel)⟩
def mX10_towerAhead : nw_Mt := (yX10_towerAhead, cX10_towerAhead, 3, (some .int))
theorem kX10_towerAhead : nw_ok mX10_towerAhead 2 := ⟨tb_in (i := 1115) (by decide +kernel), tb_in (i := 10) (by decide +kernel), by decide +kernel, by decide +kernel, by decide +kernel⟩
theorem vX10_towerAhead : nw_iv mX10_towerAhead := ⟨tb_in (i := 1113) (by decide +kernel), tb_in (i := 1114) (by decide +kernel)⟩
def mX10_called : nw_Mt := (yX10_called, cX10_called, 7, (some .int))
theorem kX10_called : nw_ok mX10_called 2 := ⟨tb_in (i := 1119) (by decide +kernel), tb_in (i := 10) (by decide +kernel), by decide +kernel, by decide +kernel, by decide +kernel⟩
theorem vX10_called : nw_iv mX10_called := ⟨tb_in (i := 1117) (by decide +kernel), tb_in (i := 1118) (by decide +kernel)⟩
def mX10_fit : nw_Mt := (yX10_fit, cX10_fit, 5, (some .int))
theorem kX10_fit : nw_ok mX10_fit 2 := ⟨tb_in (i := 1123) (by decide +kernel), tb_in (i := 10) (by decide +kernel), by decide +kernel, by decide +kernel, by decide +kernel⟩
theorem vX10_fit : nw_iv mX10_fit := ⟨tb_in (i := 1121) (by decide +kernel), tb_in (i := 1122) (by decide +kernel)⟩
def mX10_highest : nw_Mt := (yX10_highest, cX10_highest, 5, (some .int))
theorem kX10_highest : nw_ok mX10_highest 2 := ⟨tb_in (i := 1127) (by decide +kernel), tb_in (i := 10) (by decide +kernel), by decide +kernel, by decide +kernel, by decide +kernel⟩
theorem vX10_highest : nw_iv mX10_highest := ⟨tb_in (i := 1125) (by decide +kernel), tb_in (i := 1126) (by decide +kernel)⟩
def mX10_order : nw_Mt := (yX10_order, cX10_order, 9, (some .int))
theorem kX10_order : nw_ok mX10_order 2 := ⟨tb_in (i := 1132) (by decide +kernel), tb_in (i := 10) (by decide +kernel), by decide +kernel, by decide +kernel, by decide +kernel⟩
theorem vX10_order : nw_iv mX10_order := ⟨tb_in (i := 1130) (by decide +kernel), tb_in (i := 1131) (by decide +kernel)⟩
def mX10_lays : nw_Mt := (yX10_lays, cX10_lays, 6, (some .boolean))
theorem kX10_lays : nw_ok mX10_lays 2 := ⟨tb_in (i := 1138) (by decide +kernel), tb_in (i := 10) (by decide +kernel), by decide +kernel, by decide +kernel, by decide +kernel⟩
theorem vX10_lays : nw_iv mX10_lays := ⟨tb_in (i := 1137) (by decide +kernel), tp_in (i := 51) (by decide +kernel)⟩
def mX10_laws : nw_Mt := (yX10_laws, cX10_laws, 7, (some .int))
theorem kX10_laws : nw_ok mX10_laws 2 := ⟨tb_in (i := 1142) (by decide +kernel), tb_in (i := 10) (by decide +kernel), by decide +kernel, by decide +kernel, by decide +kernel⟩
theorem vX10_laws : nw_iv mX10_laws := ⟨tb_in (i := 1140) (by decide +kernel), tb_in (i := 1141) (by decide +kernel)⟩
def mX10_bribe : nw_Mt := (yX10_bribe, cX10_bribe, 8, (some .int))
theorem kX10_bribe : nw_ok mX10_bribe 2 := ⟨tb_in (i := 1146) (by decide +kernel), tb_in (i := 10) (by decide +kernel), by decide +kernel, by decide +kernel, by decide +kernel⟩
theorem vX10_bribe : nw_iv mX10_bribe := ⟨tb_in (i := 1144) (by decide +kernel), tb_in (i := 1145) (by decide +kernel)⟩
def mX10_heed : nw_Mt := (yX10_heed, cX10_heed, 5, (some .int))
theorem kX10_heed : nw_ok mX10_heed 1 := ⟨tb_in (i := 1150) (by decide +kernel), tb_in (i := 10) (by decide +kernel), by decide +kernel, by decide +kernel, by decide +kernel⟩
theorem vX10_heed : nw_iv mX10_heed := ⟨tb_in (i := 1148) (by decide +kernel), tb_in (i := 1149) (by decide +kernel)⟩
def mX10_agreed : nw_Mt := (yX10_agreed, cX10_agreed, 7, (some .int))
theorem kX10_agreed : nw_ok mX10_agreed 2 := ⟨tb_in (i := 1154) (by decide +kernel), tb_in (i := 10) (by decide +kernel), by decide +kernel, by decide +kernel, by decide +kernel⟩
theorem vX10_agreed : nw_iv mX10_agreed := ⟨tb_in (i := 1152) (by decide +kernel), tb_in (i := 1153) (by decide +kernel)⟩
def mX10_callers : nw_Mt := (yX10_callers, cX10_callers, 3, (some .int))
theorem kX10_callers : nw_ok mX10_callers 0 := ⟨tb_in (i := 1158) (by decide +kernel), tb_in (i := 10) (by decide +kernel), by decide +kernel, by decide +kernel, by decide +kernel⟩
theorem vX10_callers : nw_iv mX10_callers := ⟨tb_in (i := 1157) (by decide +kernel), tp_in (i := 52) (by decide +kernel)⟩
def mX10_log : nw_Mt := (yX10_log, cX10_log, 10, (some .int))
theorem kX10_log : nw_ok mX10_log 4 := ⟨tb_in (i := 1162) (by decide +kernel), tb_in (i := 10) (by decide +kernel), by decide +kernel, by decide +kernel, by decide +kernel⟩
theorem vX10_log : nw_iv mX10_log := ⟨tb_in (i := 1160) (by decide +kernel), tb_in (i := 1161) (by decide +kernel)⟩
def mX10_hasCalled : nw_Mt := (yX10_hasCalled, cX10_hasCalled, 12, (some .boolean))
theorem kX10_hasCalled : nw_ok mX10_hasCalled 4 := ⟨tb_in (i := 1168) (by decide +kernel), tb_in (i := 10) (by decide +kernel), by decide +kernel, by decide +kernel, by decide +kernel⟩
theorem vX10_hasCalled : nw_iv mX10_hasCalled := ⟨tb_in (i := 1167) (by decide +kernel), tp_in (i := 53) (by decide +kernel)⟩
def mX10_wreck : nw_Mt := (yX10_wreck, cX10_wreck, 9, (some .int))
theorem kX10_wreck : nw_ok mX10_wreck 4 := ⟨tb_in (i := 1172) (by decide +kernel), tb_in (i := 10) (by decide +kernel), by decide +kernel, by decide +kernel, by decide +kernel⟩
theorem vX10_wreck : nw_iv mX10_wreck := ⟨tb_in (i := 1170) (by decide +kernel), tb_in (i := 1171) (by decide +kernel)⟩
def mX10_season : nw_Mt := (yX10_season, cX10_season, 7, (some .int))
theorem kX10_season : nw_ok mX10_season 3 := ⟨tb_in (i := 1177) (by decide +kernel), tb_in (i := 10) (by decide +kernel), by decide +kernel, by decide +kernel, by decide +kernel⟩
theorem vX10_season : nw_iv mX10_season := ⟨tb_in (i := 1175) (by decide +kernel), tb_in (i := 1176) (by decide +kernel)⟩
def mX10_image : nw_Mt := (yX10_image, cX10_image, 3, (some .int))
theorem kX10_image : nw_ok mX10_image 1 := ⟨tb_in (i := 1186) (by decide +kernel), tb_in (i := 10) (by decide +kernel), by decide +kernel, by decide +kernel, by decide +kernel⟩
theorem vX10_image : nw_iv mX10_image := ⟨tb_in (i := 1184) (by decide +kernel), tb_in (i := 1185) (by decide +kernel)⟩
def mX10_restore : nw_Mt := (yX10_restore, cX10_restore, 3, (some .int))
theorem kX10_restore : nw_ok mX10_restore 1 := ⟨tb_in (i := 1190) (by decide +kernel), tb_in (i := 10) (by decide +kernel), by decide +kernel, by decide +kernel, by decide +kernel⟩
theorem vX10_restore : nw_iv mX10_restore := ⟨tb_in (i := 1188) (by decide +kernel), tb_in (i := 1189) (by decide +kernel)⟩
def mX10_kind : nw_Mt := (yX10_kind, cX10_kind, 2, (some .int))
theorem kX10_kind : nw_ok mX10_kind 1 := ⟨tb_in (i := 1194) (by decide +kernel), tb_in (i := 10) (by decide +kernel), by decide +kernel, by decide +kernel, by decide +kernel⟩
theorem vX10_kind : nw_iv mX10_kind := ⟨tb_in (i := 1192) (by decide +kernel), tb_in (i := 1193) (by decide +kernel)⟩
def mX10_isSwell : nw_Mt := (yX10_isSwell, cX10_isSwell, 2, (some .boolean))
theorem kX10_isSwell : nw_ok mX10_isSwell 1 := ⟨tb_in (i := 1198) (by decide +kernel), tb_in (i := 10) (by decide +kernel), by decide +kernel, by decide +kernel, by decide +kernel⟩
theorem vX10_isSwell : nw_iv mX10_isSwell := ⟨tb_in (i := 1197) (by decide +kernel), tp_in (i := 54) (by decide +kernel)⟩
def mX10_as : nw_Mt := (yX10_as, cX10_as, 6, (some .int))
theorem kX10_as : nw_ok mX10_as 2 := ⟨tb_in (i := 1202) (by decide +kernel), tb_in (i := 10) (by decide +kernel), by decide +kernel, by decide +kernel, by decide +kernel⟩
theorem vX10_as : nw_iv mX10_as := ⟨tb_in (i := 1200) (by decide +kernel), tb_in (i := 1201) (by decide +kernel)⟩
def mX10_ask : nw_Mt := (yX10_ask, cX10_ask, 3, (some .int))
theorem kX10_ask : nw_ok mX10_ask 2 := ⟨tb_in (i := 1206) (by decide +kernel), tb_in (i := 10) (by decide +kernel), by decide +kernel, by decide +kernel, by decide +kernel⟩
theorem vX10_ask : nw_iv mX10_ask := ⟨tb_in (i := 1204) (by decide +kernel), tb_in (i := 1205) (by decide +kernel)⟩
def mX10_sizeOf : nw_Mt := (yX10_sizeOf, cX10_sizeOf, 5, (some .int))
theorem kX10_sizeOf : nw_ok mX10_sizeOf 1 := ⟨tb_in (i := 1210) (by decide +kernel), tb_in (i := 10) (by decide +kernel), by decide +kernel, by decide +kernel, by decide +kernel⟩
theorem vX10_sizeOf : nw_iv mX10_sizeOf := ⟨tb_in (i := 1209) (by decide +kernel), tp_in (i := 55) (by decide +kernel)⟩
def mX10_leaves : nw_Mt := (yX10_leaves, cX10_leaves, 2, none)
theorem kX10_leaves : nw_ok mX10_leaves 1 := ⟨tb_in (i := 1214) (by decide +kernel), tb_in (i := 10) (by decide +kernel), by decide +kernel, by decide +kernel, by decide +kernel⟩
theorem vX10_leaves : nw_iv mX10_leaves := ⟨tb_in (i := 1213) (by decide +kernel), tp_in (i := 56) (by decide +kernel)⟩
def mX10_plainMark : nw_Mt := (yX10_plainMark, cX10_plainMark, 4, (some .int))
theorem kX10_plainMark : nw_ok mX10_plainMark 1 := ⟨tb_in (i := 1218) (by decide +kernel), tb_in (i := 10) (by decide +kernel), by decide +kernel, by decide +kernel, by decide +kernel⟩
theorem vX10_plainMark : nw_iv mX10_plainMark := ⟨tb_in (i := 1217) (by decide +kernel), tp_in (i := 57) (by decide +kernel)⟩
def mX10_markOf : nw_Mt := (yX10_markOf, cX10_markOf, 2, (some .int))
theorem kX10_markOf : nw_ok mX10_markOf 1 := ⟨tb_in (i := 1222) (by decide +kernel), tb_in (i := 10) (by decide +kernel), by decide +kernel, by decide +kernel, by decide +kernel⟩
theorem vX10_markOf : nw_iv mX10_markOf := ⟨tb_in (i := 1221) (by decide +kernel), tp_in (i := 58) (by decide +kernel)⟩
def mX10_trace : nw_Mt := (yX10_trace, cX10_trace, 2, (some .int))
theorem kX10_trace : nw_ok mX10_trace 1 := ⟨tb_in (i := 1226) (by decide +kernel), tb_in (i := 10) (by decide +kernel), by decide +kernel, by decide +kernel, by decide +kernel⟩
theorem vX10_trace : nw_iv mX10_trace := ⟨tb_in (i := 1224) (by decide +kernel), tb_in (i := 1225) (by decide +kernel)⟩
def mX10_count : nw_Mt := (yX10_count, cX10_count, 5, (some .int))
theorem kX10_count : nw_ok mX10_count 1 := ⟨tb_in (i := 1230) (by decide +kernel), tb_in (i := 10) (by decide +kernel), by decide +kernel, by decide +kernel, by decide +kernel⟩
theorem vX10_count : nw_iv mX10_count := ⟨tb_in (i := 1228) (by decide +kernel), tb_in (i := 1229) (by decide +kernel)⟩
def mX10_status : nw_Mt := (yX10_status, cX10_status, 1, (some .int))
theorem kX10_status : nw_ok mX10_status 0 := ⟨tb_in (i := 1235) (by decide +kernel), tb_in (i := 10) (by decide +kernel), by decide +kernel, by decide +kernel, by decide +kernel⟩
theorem vX10_status : nw_iv mX10_status := ⟨tb_in (i := 1233) (by decide +kernel), tb_in (i := 1234) (by decide +kernel)⟩
theorem lL_9 : nw_ml RL 9 mX9_init := tb_in (i := 16) (by decide +kernel)
theorem lX9_9 : nw_ml RX9 9 mX7_init := tb_in (i := 24) (by decide +kernel)
theorem lX9_45 : nw_ml RX9 45 mX0_init := tb_in (i := 168) (by decide +kernel)
theorem lL_13 : nw_ml RL 13 mX9_row := tb_in (i := 305) (by decide +kernel)
theorem lX9_71 : nw_ml RX9 71 mX9_isRow := tb_in (i := 309) (by decide +kernel)
theorem lX9_75 : nw_ml RX9 75 mX9_within := tb_in (i := 313) (by decide +kernel)
theorem lX9_80 : nw_ml RX9 80 mX9_found := tb_in (i := 317) (by decide +kernel)
theorem lX9_84 : nw_ml RX9 84 mX7_make := tb_in (i := 322) (by decide +kernel)
theorem lX9_88 : nw_ml RX9 88 mX9_fine := tb_in (i := 326) (by decide +kernel)
theorem lL_18 : nw_ml RL 18 mX9_set := tb_in (i := 330) (by decide +kernel)
theorem lX9_91 : nw_ml RX9 91 mX7_isMissing := tb_in (i := 334) (by decide +kernel)
theorem lX9_94 : nw_ml RX9 94 mX7_hasPlaces := tb_in (i := 338) (by decide +kernel)
theorem lX9_97 : nw_ml RX9 97 mX7_put := tb_in (i := 342) (by decide +kernel)
theorem lL_22 : nw_ml RL 22 mX9_copy := tb_in (i := 346) (by decide +kernel)
theorem lX9_101 : nw_ml RX9 101 mX7_alike := tb_in (i := 350) (by decide +kernel)
theorem lX9_105 : nw_ml RX9 105 mX7_move := tb_in (i := 354) (by decide +kernel)
theorem lL_27 : nw_ml RL 27 mX9_drop := tb_in (i := 361) (by decide +kernel)
theorem lX9_109 : nw_ml RX9 109 mX7_lose := tb_in (i := 365) (by decide +kernel)
theorem lL_32 : nw_ml RL 32 mX9_feed := tb_in (i := 369) (by decide +kernel)
theorem lX9_112 : nw_ml RX9 112 mX6_isFull := tb_in (i := 373) (by decide +kernel)
theorem lX9_117 : nw_ml RX9 117 mX6_append := tb_in (i := 378) (by decide +kernel)
theorem lX6_17 : nw_ml RX6 17 mX6_isFull := tb_in (i := 382) (by decide +kernel)
theorem lL_36 : nw_ml RL 36 mX9_sea := tb_in (i := 383) (by decide +kernel)
theorem lX9_120 : nw_ml RX9 120 mX6_read := tb_in (i := 387) (by decide +kernel)
theorem lX6_38 : nw_ml RX6 38 mX8_begin := tb_in (i := 391) (by decide +kernel)
theorem lX6_43 : nw_ml RX6 43 mX6_readBar := tb_in (i := 396) (by decide +kernel)
theorem lX6_60 : nw_ml RX6 60 mX6_passes := tb_in (i := 400) (by decide +kernel)
theorem lX6_80 : nw_ml RX6 80 mX6_at := tb_in (i := 404) (by decide +kernel)
theorem lX6_89 : nw_ml RX6 89 mX6_fails := tb_in (i := 408) (by decide +kernel)
theorem lX6_64 : nw_ml RX6 64 mX6_readPair := tb_in (i := 412) (by decide +kernel)
theorem lX6_98 : nw_ml RX6 98 mX6_number := tb_in (i := 416) (by decide +kernel)
theorem lX6_113 : nw_ml RX6 113 mX6_isFigure := tb_in (i := 420) (by decide +kernel)
theorem lX6_47 : nw_ml RX6 47 mX6_readSwells := tb_in (i := 423) (by decide +kernel)
theorem lX6_84 : nw_ml RX6 84 mX4_toldBy := tb_in (i := 427) (by decide +kernel)
theorem lX6_50 : nw_ml RX6 50 mX6_readTowers := tb_in (i := 430) (by decide +kernel)
theorem lX6_54 : nw_ml RX6 54 mX6_readShips := tb_in (i := 434) (by decide +kernel)
theorem lX6_57 : nw_ml RX6 57 mX6_isAtEnd := tb_in (i := 438) (by decide +kernel)
theorem lX9_124 : nw_ml RX9 124 mX6_empty := tb_in (i := 442) (by decide +kernel)
theorem lX9_127 : nw_ml RX9 127 mX6_faultNumber := tb_in (i := 446) (by decide +kernel)
theorem lX9_136 : nw_ml RX9 136 mX6_faultPlace := tb_in (i := 451) (by decide +kernel)
theorem lX9_139 : nw_ml RX9 139 mX2_become := tb_in (i := 455) (by decide +kernel)
theorem lX9_143 : nw_ml RX9 143 mX8_become := tb_in (i := 460) (by decide +kernel)
theorem lX9_146 : nw_ml RX9 146 mX0_forgetAll := tb_in (i := 465) (by decide +kernel)
theorem lL_41 : nw_ml RL 41 mX9_fault := tb_in (i := 469) (by decide +kernel)
theorem lL_45 : nw_ml RL 45 mX9_waves := tb_in (i := 473) (by decide +kernel)
theorem lX9_160 : nw_ml RX9 160 mX0_keep := tb_in (i := 478) (by decide +kernel)
theorem lX0_20 : nw_ml RX0 20 mX8_become := tb_in (i := 482) (by decide +kernel)
theorem lX9_163 : nw_ml RX9 163 mX8_comeInBy := tb_in (i := 486) (by decide +kernel)
theorem lX8_47 : nw_ml RX8 47 mX2_kindIn := tb_in (i := 490) (by decide +kernel)
theorem lX2_44 : nw_ml RX2 44 mX2_swellOf := tb_in (i := 494) (by decide +kernel)
theorem lX8_51 : nw_ml RX8 51 mX2_waterIn := tb_in (i := 498) (by decide +kernel)
theorem lX2_62 : nw_ml RX2 62 mX2_depthIn := tb_in (i := 502) (by decide +kernel)
theorem lX2_65 : nw_ml RX2 65 mX2_liftOfSwell := tb_in (i := 509) (by decide +kernel)
theorem lX2_59 : nw_ml RX2 59 mX2_liftOf := tb_in (i := 513) (by decide +kernel)
theorem lX8_54 : nw_ml RX8 54 mX8_comeIn := tb_in (i := 516) (by decide +kernel)
theorem lX8_61 : nw_ml RX8 61 mX2_stepOf := tb_in (i := 520) (by decide +kernel)
theorem lX2_48 : nw_ml RX2 48 mX4_stepOf := tb_in (i := 524) (by decide +kernel)
theorem lX8_69 : nw_ml RX8 69 mX8_cross := tb_in (i := 530) (by decide +kernel)
theorem lL_49 : nw_ml RL 49 mX9_slip := tb_in (i := 534) (by decide +kernel)
theorem lX9_167 : nw_ml RX9 167 mX9_isTower := tb_in (i := 538) (by decide +kernel)
theorem lX9_170 : nw_ml RX9 170 mX8_slipBy := tb_in (i := 542) (by decide +kernel)
theorem lL_54 : nw_ml RL 54 mX9_law := tb_in (i := 547) (by decide +kernel)
theorem lL_58 : nw_ml RL 58 mX9_change := tb_in (i := 551) (by decide +kernel)
theorem lX9_177 : nw_ml RX9 177 mX9_isShip := tb_in (i := 555) (by decide +kernel)
theorem lX9_180 : nw_ml RX9 180 mX8_placeOf := tb_in (i := 559) (by decide +kernel)
theorem lL_62 : nw_ml RL 62 mX9_heeds := tb_in (i := 563) (by decide +kernel)
theorem lX9_187 : nw_ml RX9 187 mX8_waits := tb_in (i := 567) (by decide +kernel)
theorem lL_66 : nw_ml RL 66 mX9_undo := tb_in (i := 571) (by decide +kernel)
theorem lX9_196 : nw_ml RX9 196 mX0_takeBack := tb_in (i := 575) (by decide +kernel)
theorem lL_70 : nw_ml RL 70 mX9_ship := tb_in (i := 579) (by decide +kernel)
theorem lL_74 : nw_ml RL 74 mX9_tower := tb_in (i := 583) (by decide +kernel)
theorem lX9_214 : nw_ml RX9 214 mX8_howManyWaitFor := tb_in (i := 587) (by decide +kernel)
theorem lL_78 : nw_ml RL 78 mX9_wave := tb_in (i := 591) (by decide +kernel)
theorem lX9_218 : nw_ml RX9 218 mX2_swellOf := tb_in (i := 595) (by decide +kernel)
theorem lX9_224 : nw_ml RX9 224 mX2_liftOfSwell := tb_in (i := 596) (by decide +kernel)
theorem lX9_227 : nw_ml RX9 227 mX2_waterIn := tb_in (i := 597) (by decide +kernel)
theorem lL_82 : nw_ml RL 82 mX9_ahead := tb_in (i := 598) (by decide +kernel)
theorem lX9_233 : nw_ml RX9 233 mX9_foretell := tb_in (i := 602) (by decide +kernel)
theorem lX9_267 : nw_ml RX9 267 mX8_pass := tb_in (i := 606) (by decide +kernel)
theorem lX8_43 : nw_ml RX8 43 mX8_comeInBy := tb_in (i := 610) (by decide +kernel)
theorem lX9_237 : nw_ml RX9 237 mX8_howMany := tb_in (i := 611) (by decide +kernel)
theorem lL_86 : nw_ml RL 86 mX9_shipAhead := tb_in (i := 615) (by decide +kernel)
theorem lL_90 : nw_ml RL 90 mX9_towerAhead := tb_in (i := 619) (by decide +kernel)
theorem lL_94 : nw_ml RL 94 mX9_called := tb_in (i := 623) (by decide +kernel)
theorem lX9_240 : nw_ml RX9 240 mX2_kindIn := tb_in (i := 627) (by decide +kernel)
theorem lX9_243 : nw_ml RX9 243 mX2_stepOf := tb_in (i := 628) (by decide +kernel)
theorem lX9_246 : nw_ml RX9 246 mX9_calls := tb_in (i := 629) (by decide +kernel)
theorem lL_98 : nw_ml RL 98 mX9_fit := tb_in (i := 631) (by decide +kernel)
theorem lL_102 : nw_ml RL 102 mX9_highest := tb_in (i := 635) (by decide +kernel)
theorem lL_106 : nw_ml RL 106 mX9_order := tb_in (i := 639) (by decide +kernel)
theorem lX9_253 : nw_ml RX9 253 mX5_listen := tb_in (i := 643) (by decide +kernel)
theorem lX5_41 : nw_ml RX5 41 mX2_kindIn := tb_in (i := 647) (by decide +kernel)
theorem lX5_45 : nw_ml RX5 45 mX2_stepOf := tb_in (i := 648) (by decide +kernel)
theorem lX5_58 : nw_ml RX5 58 mX2_waterIn := tb_in (i := 650) (by decide +kernel)
theorem lX9_257 : nw_ml RX9 257 mX5_search := tb_in (i := 651) (by decide +kernel)
theorem lX5_67 : nw_ml RX5 67 mX5_howManyCross := tb_in (i := 655) (by decide +kernel)
theorem lX5_84 : nw_ml RX5 84 mX8_waits := tb_in (i := 659) (by decide +kernel)
theorem lX5_77 : nw_ml RX5 77 mX5_goOn := tb_in (i := 661) (by decide +kernel)
theorem lX5_90 : nw_ml RX5 90 mX5_swap := tb_in (i := 665) (by decide +kernel)
theorem lL_110 : nw_ml RL 110 mX9_laws := tb_in (i := 669) (by decide +kernel)
theorem lL_114 : nw_ml RL 114 mX9_bribe := tb_in (i := 673) (by decide +kernel)
theorem lX9_271 : nw_ml RX9 271 mX8_isOverAheadOf := tb_in (i := 677) (by decide +kernel)
theorem lL_118 : nw_ml RL 118 mX9_heed := tb_in (i := 681) (by decide +kernel)
theorem lL_122 : nw_ml RL 122 mX9_agreed := tb_in (i := 685) (by decide +kernel)
theorem lL_126 : nw_ml RL 126 mX9_log := tb_in (i := 689) (by decide +kernel)
theorem lX9_277 : nw_ml RX9 277 mX7_rises := tb_in (i := 693) (by decide +kernel)
theorem lX9_281 : nw_ml RX9 281 mX9_fitsLog := tb_in (i := 697) (by decide +kernel)
theorem lX9_339 : nw_ml RX9 339 mX7_item := tb_in (i := 701) (by decide +kernel)
theorem lX7_29 : nw_ml RX7 29 mX7_hasPlaces := tb_in (i := 705) (by decide +kernel)
theorem lX9_342 : nw_ml RX9 342 mX4_stepOf := tb_in (i := 707) (by decide +kernel)
theorem lL_131 : nw_ml RL 131 mX9_wreck := tb_in (i := 708) (by decide +kernel)
theorem lL_135 : nw_ml RL 135 mX9_season := tb_in (i := 712) (by decide +kernel)
theorem lX9_293 : nw_ml RX9 293 mX2_depthIn := tb_in (i := 721) (by decide +kernel)
theorem lX9_296 : nw_ml RX9 296 mX2_liftOf := tb_in (i := 722) (by decide +kernel)
theorem lX9_299 : nw_ml RX9 299 mX8_comeIn := tb_in (i := 723) (by decide +kernel)
theorem lL_139 : nw_ml RL 139 mX9_image := tb_in (i := 724) (by decide +kernel)
theorem lX9_303 : nw_ml RX9 303 mX3_keep := tb_in (i := 728) (by decide +kernel)
theorem lX3_23 : nw_ml RX3 23 mX2_become := tb_in (i := 732) (by decide +kernel)
theorem lX3_27 : nw_ml RX3 27 mX8_become := tb_in (i := 733) (by decide +kernel)
theorem lL_143 : nw_ml RL 143 mX9_restore := tb_in (i := 734) (by decide +kernel)
theorem lL_147 : nw_ml RL 147 mX9_kind := tb_in (i := 738) (by decide +kernel)
theorem lX9_312 : nw_ml RX9 312 mX9_isSwell := tb_in (i := 742) (by decide +kernel)
theorem lL_151 : nw_ml RL 151 mX9_as := tb_in (i := 746) (by decide +kernel)
theorem lX9_317 : nw_ml RX9 317 mX4_isA := tb_in (i := 750) (by decide +kernel)
theorem lX4_13 : nw_ml RX4 13 mX4_next := tb_in (i := 755) (by decide +kernel)
theorem lL_155 : nw_ml RL 155 mX9_ask := tb_in (i := 758) (by decide +kernel)
theorem lX9_320 : nw_ml RX9 320 mX1_answer := tb_in (i := 762) (by decide +kernel)
theorem lX1_31 : nw_ml RX1 31 mX2_liftOfSwell := tb_in (i := 766) (by decide +kernel)
theorem lX1_41 : nw_ml RX1 41 mX1_asked := tb_in (i := 767) (by decide +kernel)
theorem lX1_50 : nw_ml RX1 50 mX1_given := tb_in (i := 773) (by decide +kernel)
theorem lX1_56 : nw_ml RX1 56 mX1_leave := tb_in (i := 777) (by decide +kernel)
theorem lX1_53 : nw_ml RX1 53 mX4_next := tb_in (i := 781) (by decide +kernel)
theorem lL_159 : nw_ml RL 159 mX9_trace := tb_in (i := 782) (by decide +kernel)
theorem lL_163 : nw_ml RL 163 mX9_count := tb_in (i := 786) (by decide +kernel)
theorem lX9_329 : nw_ml RX9 329 mX7_howManyThere := tb_in (i := 790) (by decide +kernel)
theorem lX7_34 : nw_ml RX7 34 mX7_isMissing := tb_in (i := 794) (by decide +kernel)
theorem lL_167 : nw_ml RL 167 mX9_status := tb_in (i := 795) (by decide +kernel)
theorem lL_12 : nw_ml RL 12 mX10_init := tb_in (i := 801) (by decide +kernel)
theorem lL_17 : nw_ml RL 17 mX10_row := tb_in (i := 894) (by decide +kernel)
theorem lX10_73 : nw_ml RX10 73 mX10_isRow := tb_in (i := 898) (by decide +kernel)
theorem lX10_64 : nw_ml RX10 64 mX10_in := tb_in (i := 902) (by decide +kernel)
theorem lX10_80 : nw_ml RX10 80 mX10_finds := tb_in (i := 907) (by decide +kernel)
theorem lX10_84 : nw_ml RX10 84 mX10_well := tb_in (i := 912) (by decide +kernel)
theorem lL_21 : nw_ml RL 21 mX10_set := tb_in (i := 916) (by decide +kernel)
theorem lL_26 : nw_ml RL 26 mX10_copy := tb_in (i := 920) (by decide +kernel)
theorem lL_31 : nw_ml RL 31 mX10_drop := tb_in (i := 924) (by decide +kernel)
theorem lL_35 : nw_ml RL 35 mX10_feed := tb_in (i := 928) (by decide +kernel)
theorem lL_40 : nw_ml RL 40 mX10_sea := tb_in (i := 934) (by decide +kernel)
theorem lX10_158 : nw_ml RX10 158 mX10_reads := tb_in (i := 938) (by decide +kernel)
theorem lX10_126 : nw_ml RX10 126 mX10_scans := tb_in (i := 942) (by decide +kernel)
theorem lX10_109 : nw_ml RX10 109 mX10_isFigure := tb_in (i := 946) (by decide +kernel)
theorem lX10_146 : nw_ml RX10 146 mX10_isLetter := tb_in (i := 954) (by decide +kernel)
theorem lX10_120 : nw_ml RX10 120 mX10_faults := tb_in (i := 958) (by decide +kernel)
theorem lX10_142 : nw_ml RX10 142 mX10_two := tb_in (i := 962) (by decide +kernel)
theorem lX10_129 : nw_ml RX10 129 mX10_takes := tb_in (i := 966) (by decide +kernel)
theorem lX10_133 : nw_ml RX10 133 mX10_signs := tb_in (i := 970) (by decide +kernel)
theorem lX10_139 : nw_ml RX10 139 mX10_sortOf := tb_in (i := 974) (by decide +kernel)
theorem lX10_149 : nw_ml RX10 149 mX10_swell := tb_in (i := 977) (by decide +kernel)
theorem lX10_152 : nw_ml RX10 152 mX10_turret := tb_in (i := 981) (by decide +kernel)
theorem lX10_155 : nw_ml RX10 155 mX10_vessel := tb_in (i := 985) (by decide +kernel)
theorem lL_44 : nw_ml RL 44 mX10_fault := tb_in (i := 991) (by decide +kernel)
theorem lL_48 : nw_ml RL 48 mX10_waves := tb_in (i := 995) (by decide +kernel)
theorem lX10_196 : nw_ml RX10 196 mX10_isSea := tb_in (i := 999) (by decide +kernel)
theorem lX10_202 : nw_ml RX10 202 mX10_remembers := tb_in (i := 1005) (by decide +kernel)
theorem lX10_205 : nw_ml RX10 205 mX10_asNow := tb_in (i := 1009) (by decide +kernel)
theorem lX10_208 : nw_ml RX10 208 mX10_waves0 := tb_in (i := 1013) (by decide +kernel)
theorem lX10_176 : nw_ml RX10 176 mX10_sortIn := tb_in (i := 1017) (by decide +kernel)
theorem lX10_179 : nw_ml RX10 179 mX10_heightIn := tb_in (i := 1021) (by decide +kernel)
theorem lX10_192 : nw_ml RX10 192 mX10_comes := tb_in (i := 1025) (by decide +kernel)
theorem lX10_182 : nw_ml RX10 182 mX10_water := tb_in (i := 1029) (by decide +kernel)
theorem lX10_169 : nw_ml RX10 169 mX10_most := tb_in (i := 1033) (by decide +kernel)
theorem lX10_173 : nw_ml RX10 173 mX10_lift := tb_in (i := 1036) (by decide +kernel)
theorem lX10_186 : nw_ml RX10 186 mX10_counted := tb_in (i := 1039) (by decide +kernel)
theorem lX10_189 : nw_ml RX10 189 mX10_isCalled := tb_in (i := 1042) (by decide +kernel)
theorem lL_53 : nw_ml RL 53 mX10_slip := tb_in (i := 1045) (by decide +kernel)
theorem lX10_212 : nw_ml RX10 212 mX10_isTower := tb_in (i := 1049) (by decide +kernel)
theorem lL_57 : nw_ml RL 57 mX10_law := tb_in (i := 1055) (by decide +kernel)
theorem lL_61 : nw_ml RL 61 mX10_change := tb_in (i := 1060) (by decide +kernel)
theorem lX10_221 : nw_ml RX10 221 mX10_isShip := tb_in (i := 1064) (by decide +kernel)
theorem lX10_224 : nw_ml RX10 224 mX10_placeOf := tb_in (i := 1068) (by decide +kernel)
theorem lL_65 : nw_ml RL 65 mX10_heeds := tb_in (i := 1072) (by decide +kernel)
theorem lL_69 : nw_ml RL 69 mX10_undo := tb_in (i := 1076) (by decide +kernel)
theorem lL_73 : nw_ml RL 73 mX10_ship := tb_in (i := 1080) (by decide +kernel)
theorem lL_77 : nw_ml RL 77 mX10_tower := tb_in (i := 1085) (by decide +kernel)
theorem lL_81 : nw_ml RL 81 mX10_wave := tb_in (i := 1089) (by decide +kernel)
theorem lX10_233 : nw_ml RX10 233 mX10_waterIn := tb_in (i := 1095) (by decide +kernel)
theorem lL_85 : nw_ml RL 85 mX10_ahead := tb_in (i := 1099) (by decide +kernel)
theorem lX10_238 : nw_ml RX10 238 mX10_many := tb_in (i := 1104) (by decide +kernel)
theorem lL_89 : nw_ml RL 89 mX10_shipAhead := tb_in (i := 1108) (by decide +kernel)
theorem lL_93 : nw_ml RL 93 mX10_towerAhead := tb_in (i := 1112) (by decide +kernel)
theorem lL_97 : nw_ml RL 97 mX10_called := tb_in (i := 1116) (by decide +kernel)
theorem lL_101 : nw_ml RL 101 mX10_fit := tb_in (i := 1120) (by decide +kernel)
theorem lL_105 : nw_ml RL 105 mX10_highest := tb_in (i := 1124) (by decide +kernel)
theorem lL_109 : nw_ml RL 109 mX10_order := tb_in (i := 1129) (by decide +kernel)
theorem lX10_247 : nw_ml RX10 247 mX10_lays := tb_in (i := 1135) (by decide +kernel)
theorem lL_113 : nw_ml RL 113 mX10_laws := tb_in (i := 1139) (by decide +kernel)
theorem lL_117 : nw_ml RL 117 mX10_bribe := tb_in (i := 1143) (by decide +kernel)
theorem lL_121 : nw_ml RL 121 mX10_heed := tb_in (i := 1147) (by decide +kernel)
theorem lL_125 : nw_ml RL 125 mX10_agreed := tb_in (i := 1151) (by decide +kernel)
theorem lX10_250 : nw_ml RX10 250 mX10_callers := tb_in (i := 1155) (by decide +kernel)
theorem lL_130 : nw_ml RL 130 mX10_log := tb_in (i := 1159) (by decide +kernel)
theorem lX10_258 : nw_ml RX10 258 mX10_hasCalled := tb_in (i := 1165) (by decide +kernel)
theorem lL_134 : nw_ml RL 134 mX10_wreck := tb_in (i := 1169) (by decide +kernel)
theorem lL_138 : nw_ml RL 138 mX10_season := tb_in (i := 1174) (by decide +kernel)
theorem lL_142 : nw_ml RL 142 mX10_image := tb_in (i := 1183) (by decide +kernel)
theorem lL_146 : nw_ml RL 146 mX10_restore := tb_in (i := 1187) (by decide +kernel)
theorem lL_150 : nw_ml RL 150 mX10_kind := tb_in (i := 1191) (by decide +kernel)
theorem lX10_274 : nw_ml RX10 274 mX10_isSwell := tb_in (i := 1195) (by decide +kernel)
theorem lL_154 : nw_ml RL 154 mX10_as := tb_in (i := 1199) (by decide +kernel)
theorem lL_158 : nw_ml RL 158 mX10_ask := tb_in (i := 1203) (by decide +kernel)
theorem lX10_286 : nw_ml RX10 286 mX10_sizeOf := tb_in (i := 1207) (by decide +kernel)
theorem lX10_280 : nw_ml RX10 280 mX10_leaves := tb_in (i := 1211) (by decide +kernel)
theorem lX10_283 : nw_ml RX10 283 mX10_plainMark := tb_in (i := 1215) (by decide +kernel)
theorem lX10_289 : nw_ml RX10 289 mX10_markOf := tb_in (i := 1219) (by decide +kernel)
theorem lL_162 : nw_ml RL 162 mX10_trace := tb_in (i := 1223) (by decide +kernel)
theorem lL_166 : nw_ml RL 166 mX10_count := tb_in (i := 1227) (by decide +kernel)
theorem lL_170 : nw_ml RL 170 mX10_status := tb_in (i := 1232) (by decide +kernel)
theorem lX9_18 : nw_mn RX9 18 mX6_init := ⟨"NinthWave", List.mem_of_getElem? (i := 0) rfl⟩
theorem lX9_25 : nw_mn RX9 25 mX2_init := ⟨"NinthWave", List.mem_of_getElem? (i := 1) rfl⟩
theorem lX9_35 : nw_mn RX9 35 mX8_init := ⟨"NinthWave", List.mem_of_getElem? (i := 2) rfl⟩
theorem lX0_15 : nw_mn RX0 15 mX8_init := ⟨"NinthWave", List.mem_of_getElem? (i := 3) rfl⟩
theorem lX9_52 : nw_mn RX9 52 mX5_init := ⟨"NinthWave", List.mem_of_getElem? (i := 4) rfl⟩
theorem lX9_59 : nw_mn RX9 59 mX1_init := ⟨"NinthWave", List.mem_of_getElem? (i := 5) rfl⟩
theorem lX9_70 : nw_mn RX9 70 mX3_init := ⟨"NinthWave", List.mem_of_getElem? (i := 6) rfl⟩
theorem lX3_9 : nw_mn RX3 9 mX2_init := ⟨"NinthWave", List.mem_of_getElem? (i := 7) rfl⟩
theorem lX3_18 : nw_mn RX3 18 mX8_init := ⟨"NinthWave", List.mem_of_getElem? (i := 8) rfl⟩
theorem lX8_65 : nw_mn RX8 65 mX9_calls := ⟨"NinthWave", List.mem_of_getElem? (i := 9) rfl⟩
theorem lX5_52 : nw_mn RX5 52 mX9_calls := ⟨"NinthWave", List.mem_of_getElem? (i := 10) rfl⟩
abbrev nw_cl : List vw_C := [(RX0, TX0, 3), (RX1, TX1, 6), (RX2, TX2, 9), (RX3, TX3, 3), (RX5, TX5, 6), (RX6, TX6, 6), (RX7, TX7, 3), (RX8, TX8, 7), (RX9, TX9, 13), (RX10, TX10, 29)]
/-- field k of the class of number ci, by entry i of own's table -/
def nw_fl (own : String) (i ci k : Nat) : Prop := ∃ (C : String) (T : u_T) (N : Nat), nw_cl[ci]? = some (C, T, N) ∧ k < N ∧ (T k).1 = C ∧ Cond.fieldLink own i C (T k).2.1 (T k).2.2.1 ∈ nw_gw
theorem fX7_11 : nw_fl RX7 11 6 0 := ⟨RX7, TX7, 3, rfl, by decide, rfl, tb_in (i := 30) (by decide +kernel)⟩
theorem fX7_15 : nw_fl RX7 15 6 1 := ⟨RX7, TX7, 3, rfl, by decide, rfl, tb_in (i := 31) (by decide +kernel)⟩
theorem fX7_20 : nw_fl RX7 20 6 2 := ⟨RX7, TX7, 3, rfl, by decide, rfl, tb_in (i := 32) (by decide +kernel)⟩
theorem fX6_9 : nw_fl RX6 9 5 0 := ⟨RX6, TX6, 6, rfl, by decide, rfl, tb_in (i := 47) (by decide +kernel)⟩
theorem fX6_13 : nw_fl RX6 13 5 1 := ⟨RX6, TX6, 6, rfl, by decide, rfl, tb_in (i := 48) (by decide +kernel)⟩
theorem fX9_332 : nw_fl RX9 332 5 1 := ⟨RX6, TX6, 6, rfl, by decide, rfl, tb_in (i := 49) (by decide +kernel)⟩
theorem fX6_24 : nw_fl RX6 24 5 2 := ⟨RX6, TX6, 6, rfl, by decide, rfl, tb_in (i := 50) (by decide +kernel)⟩
theorem fX6_21 : nw_fl RX6 21 5 3 := ⟨RX6, TX6, 6, rfl, by decide, rfl, tb_in (i := 51) (by decide +kernel)⟩
theorem fX6_68 : nw_fl RX6 68 5 4 := ⟨RX6, TX6, 6, rfl, by decide, rfl, tb_in (i := 52) (by decide +kernel)⟩
theorem fX6_74 : nw_fl RX6 74 5 5 := ⟨RX6, TX6, 6, rfl, by decide, rfl, tb_in (i := 53) (by decide +kernel)⟩
theorem fX2_22 : nw_fl RX2 22 2 0 := ⟨RX2, TX2, 9, rfl, by decide, rfl, tb_in (i := 73) (by decide +kernel)⟩
theorem fX6_71 : nw_fl RX6 71 2 0 := ⟨RX2, TX2, 9, rfl, by decide, rfl, tb_in (i := 74) (by decide +kernel)⟩
theorem fX2_26 : nw_fl RX2 26 2 1 := ⟨RX2, TX2, 9, rfl, by decide, rfl, tb_in (i := 75) (by decide +kernel)⟩
theorem fX6_77 : nw_fl RX6 77 2 1 := ⟨RX2, TX2, 9, rfl, by decide, rfl, tb_in (i := 76) (by decide +kernel)⟩
theorem fX2_29 : nw_fl RX2 29 2 2 := ⟨RX2, TX2, 9, rfl, by decide, rfl, tb_in (i := 77) (by decide +kernel)⟩
theorem fX6_27 : nw_fl RX6 27 2 2 := ⟨RX2, TX2, 9, rfl, by decide, rfl, tb_in (i := 78) (by decide +kernel)⟩
theorem fX9_153 : nw_fl RX9 153 2 2 := ⟨RX2, TX2, 9, rfl, by decide, rfl, tb_in (i := 79) (by decide +kernel)⟩
theorem fX5_29 : nw_fl RX5 29 2 3 := ⟨RX2, TX2, 9, rfl, by decide, rfl, tb_in (i := 80) (by decide +kernel)⟩
theorem fX2_32 : nw_fl RX2 32 2 3 := ⟨RX2, TX2, 9, rfl, by decide, rfl, tb_in (i := 81) (by decide +kernel)⟩
theorem fX8_58 : nw_fl RX8 58 2 3 := ⟨RX2, TX2, 9, rfl, by decide, rfl, tb_in (i := 82) (by decide +kernel)⟩
theorem fX6_32 : nw_fl RX6 32 2 3 := ⟨RX2, TX2, 9, rfl, by decide, rfl, tb_in (i := 83) (by decide +kernel)⟩
theorem fX9_274 : nw_fl RX9 274 2 3 := ⟨RX2, TX2, 9, rfl, by decide, rfl, tb_in (i := 84) (by decide +kernel)⟩
theorem fX2_35 : nw_fl RX2 35 2 4 := ⟨RX2, TX2, 9, rfl, by decide, rfl, tb_in (i := 85) (by decide +kernel)⟩
theorem fX5_64 : nw_fl RX5 64 2 4 := ⟨RX2, TX2, 9, rfl, by decide, rfl, tb_in (i := 86) (by decide +kernel)⟩
theorem fX8_73 : nw_fl RX8 73 2 4 := ⟨RX2, TX2, 9, rfl, by decide, rfl, tb_in (i := 87) (by decide +kernel)⟩
theorem fX6_35 : nw_fl RX6 35 2 4 := ⟨RX2, TX2, 9, rfl, by decide, rfl, tb_in (i := 88) (by decide +kernel)⟩
theorem fX9_250 : nw_fl RX9 250 2 4 := ⟨RX2, TX2, 9, rfl, by decide, rfl, tb_in (i := 89) (by decide +kernel)⟩
theorem fX2_9 : nw_fl RX2 9 2 5 := ⟨RX2, TX2, 9, rfl, by decide, rfl, tb_in (i := 90) (by decide +kernel)⟩
theorem fX1_17 : nw_fl RX1 17 2 5 := ⟨RX2, TX2, 9, rfl, by decide, rfl, tb_in (i := 91) (by decide +kernel)⟩
theorem fX6_92 : nw_fl RX6 92 2 5 := ⟨RX2, TX2, 9, rfl, by decide, rfl, tb_in (i := 92) (by decide +kernel)⟩
theorem fX9_230 : nw_fl RX9 230 2 5 := ⟨RX2, TX2, 9, rfl, by decide, rfl, tb_in (i := 93) (by decide +kernel)⟩
theorem fX2_13 : nw_fl RX2 13 2 6 := ⟨RX2, TX2, 9, rfl, by decide, rfl, tb_in (i := 94) (by decide +kernel)⟩
theorem fX1_25 : nw_fl RX1 25 2 6 := ⟨RX2, TX2, 9, rfl, by decide, rfl, tb_in (i := 95) (by decide +kernel)⟩
theorem fX6_95 : nw_fl RX6 95 2 6 := ⟨RX2, TX2, 9, rfl, by decide, rfl, tb_in (i := 96) (by decide +kernel)⟩
theorem fX9_221 : nw_fl RX9 221 2 6 := ⟨RX2, TX2, 9, rfl, by decide, rfl, tb_in (i := 97) (by decide +kernel)⟩
theorem fX2_16 : nw_fl RX2 16 2 7 := ⟨RX2, TX2, 9, rfl, by decide, rfl, tb_in (i := 98) (by decide +kernel)⟩
theorem fX6_101 : nw_fl RX6 101 2 7 := ⟨RX2, TX2, 9, rfl, by decide, rfl, tb_in (i := 99) (by decide +kernel)⟩
theorem fX9_208 : nw_fl RX9 208 2 7 := ⟨RX2, TX2, 9, rfl, by decide, rfl, tb_in (i := 100) (by decide +kernel)⟩
theorem fX2_19 : nw_fl RX2 19 2 8 := ⟨RX2, TX2, 9, rfl, by decide, rfl, tb_in (i := 101) (by decide +kernel)⟩
theorem fX5_87 : nw_fl RX5 87 2 8 := ⟨RX2, TX2, 9, rfl, by decide, rfl, tb_in (i := 102) (by decide +kernel)⟩
theorem fX8_76 : nw_fl RX8 76 2 8 := ⟨RX2, TX2, 9, rfl, by decide, rfl, tb_in (i := 103) (by decide +kernel)⟩
theorem fX6_107 : nw_fl RX6 107 2 8 := ⟨RX2, TX2, 9, rfl, by decide, rfl, tb_in (i := 104) (by decide +kernel)⟩
theorem fX9_199 : nw_fl RX9 199 2 8 := ⟨RX2, TX2, 9, rfl, by decide, rfl, tb_in (i := 105) (by decide +kernel)⟩
theorem fX8_33 : nw_fl RX8 33 7 0 := ⟨RX8, TX8, 7, rfl, by decide, rfl, tb_in (i := 131) (by decide +kernel)⟩
theorem fX5_38 : nw_fl RX5 38 7 0 := ⟨RX8, TX8, 7, rfl, by decide, rfl, tb_in (i := 132) (by decide +kernel)⟩
theorem fX9_157 : nw_fl RX9 157 7 0 := ⟨RX8, TX8, 7, rfl, by decide, rfl, tb_in (i := 133) (by decide +kernel)⟩
theorem fX8_9 : nw_fl RX8 9 7 1 := ⟨RX8, TX8, 7, rfl, by decide, rfl, tb_in (i := 134) (by decide +kernel)⟩
theorem fX5_49 : nw_fl RX5 49 7 1 := ⟨RX8, TX8, 7, rfl, by decide, rfl, tb_in (i := 135) (by decide +kernel)⟩
theorem fX9_174 : nw_fl RX9 174 7 1 := ⟨RX8, TX8, 7, rfl, by decide, rfl, tb_in (i := 136) (by decide +kernel)⟩
theorem fX8_17 : nw_fl RX8 17 7 2 := ⟨RX8, TX8, 7, rfl, by decide, rfl, tb_in (i := 137) (by decide +kernel)⟩
theorem fX5_33 : nw_fl RX5 33 7 2 := ⟨RX8, TX8, 7, rfl, by decide, rfl, tb_in (i := 138) (by decide +kernel)⟩
theorem fX6_104 : nw_fl RX6 104 7 2 := ⟨RX8, TX8, 7, rfl, by decide, rfl, tb_in (i := 139) (by decide +kernel)⟩
theorem fX9_211 : nw_fl RX9 211 7 2 := ⟨RX8, TX8, 7, rfl, by decide, rfl, tb_in (i := 140) (by decide +kernel)⟩
theorem fX8_21 : nw_fl RX8 21 7 3 := ⟨RX8, TX8, 7, rfl, by decide, rfl, tb_in (i := 141) (by decide +kernel)⟩
theorem fX9_183 : nw_fl RX9 183 7 3 := ⟨RX8, TX8, 7, rfl, by decide, rfl, tb_in (i := 142) (by decide +kernel)⟩
theorem fX8_24 : nw_fl RX8 24 7 4 := ⟨RX8, TX8, 7, rfl, by decide, rfl, tb_in (i := 143) (by decide +kernel)⟩
theorem fX5_81 : nw_fl RX5 81 7 4 := ⟨RX8, TX8, 7, rfl, by decide, rfl, tb_in (i := 144) (by decide +kernel)⟩
theorem fX6_110 : nw_fl RX6 110 7 4 := ⟨RX8, TX8, 7, rfl, by decide, rfl, tb_in (i := 145) (by decide +kernel)⟩
theorem fX9_190 : nw_fl RX9 190 7 4 := ⟨RX8, TX8, 7, rfl, by decide, rfl, tb_in (i := 146) (by decide +kernel)⟩
theorem fX8_27 : nw_fl RX8 27 7 5 := ⟨RX8, TX8, 7, rfl, by decide, rfl, tb_in (i := 147) (by decide +kernel)⟩
theorem fX9_202 : nw_fl RX9 202 7 5 := ⟨RX8, TX8, 7, rfl, by decide, rfl, tb_in (i := 148) (by decide +kernel)⟩
theorem fX8_30 : nw_fl RX8 30 7 6 := ⟨RX8, TX8, 7, rfl, by decide, rfl, tb_in (i := 149) (by decide +kernel)⟩
theorem fX9_205 : nw_fl RX9 205 7 6 := ⟨RX8, TX8, 7, rfl, by decide, rfl, tb_in (i := 150) (by decide +kernel)⟩
theorem fX0_11 : nw_fl RX0 11 0 0 := ⟨RX0, TX0, 3, rfl, by decide, rfl, tb_in (i := 175) (by decide +kernel)⟩
theorem fX0_16 : nw_fl RX0 16 0 1 := ⟨RX0, TX0, 3, rfl, by decide, rfl, tb_in (i := 176) (by decide +kernel)⟩
theorem fX0_24 : nw_fl RX0 24 0 2 := ⟨RX0, TX0, 3, rfl, by decide, rfl, tb_in (i := 177) (by decide +kernel)⟩
theorem fX9_193 : nw_fl RX9 193 0 2 := ⟨RX0, TX0, 3, rfl, by decide, rfl, tb_in (i := 178) (by decide +kernel)⟩
theorem fX5_11 : nw_fl RX5 11 4 0 := ⟨RX5, TX5, 6, rfl, by decide, rfl, tb_in (i := 193) (by decide +kernel)⟩
theorem fX5_16 : nw_fl RX5 16 4 1 := ⟨RX5, TX5, 6, rfl, by decide, rfl, tb_in (i := 194) (by decide +kernel)⟩
theorem fX5_20 : nw_fl RX5 20 4 2 := ⟨RX5, TX5, 6, rfl, by decide, rfl, tb_in (i := 195) (by decide +kernel)⟩
theorem fX5_23 : nw_fl RX5 23 4 3 := ⟨RX5, TX5, 6, rfl, by decide, rfl, tb_in (i := 196) (by decide +kernel)⟩
theorem fX5_26 : nw_fl RX5 26 4 4 := ⟨RX5, TX5, 6, rfl, by decide, rfl, tb_in (i := 197) (by decide +kernel)⟩
theorem fX9_261 : nw_fl RX9 261 4 4 := ⟨RX5, TX5, 6, rfl, by decide, rfl, tb_in (i := 198) (by decide +kernel)⟩
theorem fX5_61 : nw_fl RX5 61 4 5 := ⟨RX5, TX5, 6, rfl, by decide, rfl, tb_in (i := 199) (by decide +kernel)⟩
theorem fX9_264 : nw_fl RX9 264 4 5 := ⟨RX5, TX5, 6, rfl, by decide, rfl, tb_in (i := 200) (by decide +kernel)⟩
theorem fX1_9 : nw_fl RX1 9 1 0 := ⟨RX1, TX1, 6, rfl, by decide, rfl, tb_in (i := 220) (by decide +kernel)⟩
theorem fX9_326 : nw_fl RX9 326 1 0 := ⟨RX1, TX1, 6, rfl, by decide, rfl, tb_in (i := 221) (by decide +kernel)⟩
theorem fX1_13 : nw_fl RX1 13 1 1 := ⟨RX1, TX1, 6, rfl, by decide, rfl, tb_in (i := 222) (by decide +kernel)⟩
theorem fX9_323 : nw_fl RX9 323 1 1 := ⟨RX1, TX1, 6, rfl, by decide, rfl, tb_in (i := 223) (by decide +kernel)⟩
theorem fX1_22 : nw_fl RX1 22 1 2 := ⟨RX1, TX1, 6, rfl, by decide, rfl, tb_in (i := 224) (by decide +kernel)⟩
theorem fX1_28 : nw_fl RX1 28 1 3 := ⟨RX1, TX1, 6, rfl, by decide, rfl, tb_in (i := 225) (by decide +kernel)⟩
theorem fX1_35 : nw_fl RX1 35 1 4 := ⟨RX1, TX1, 6, rfl, by decide, rfl, tb_in (i := 226) (by decide +kernel)⟩
theorem fX1_38 : nw_fl RX1 38 1 5 := ⟨RX1, TX1, 6, rfl, by decide, rfl, tb_in (i := 227) (by decide +kernel)⟩
theorem fX3_10 : nw_fl RX3 10 3 0 := ⟨RX3, TX3, 3, rfl, by decide, rfl, tb_in (i := 252) (by decide +kernel)⟩
theorem fX9_308 : nw_fl RX9 308 3 0 := ⟨RX3, TX3, 3, rfl, by decide, rfl, tb_in (i := 253) (by decide +kernel)⟩
theorem fX3_19 : nw_fl RX3 19 3 1 := ⟨RX3, TX3, 3, rfl, by decide, rfl, tb_in (i := 254) (by decide +kernel)⟩
theorem fX9_309 : nw_fl RX9 309 3 1 := ⟨RX3, TX3, 3, rfl, by decide, rfl, tb_in (i := 255) (by decide +kernel)⟩
theorem fX3_30 : nw_fl RX3 30 3 2 := ⟨RX3, TX3, 3, rfl, by decide, rfl, tb_in (i := 256) (by decide +kernel)⟩
theorem fX9_305 : nw_fl RX9 305 3 2 := ⟨RX3, TX3, 3, rfl, by decide, rfl, tb_in (i := 257) (by decide +kernel)⟩
theorem fX9_10 : nw_fl RX9 10 8 0 := ⟨RX9, TX9, 13, rfl, by decide, rfl, tb_in (i := 265) (by decide +kernel)⟩
theorem fX9_19 : nw_fl RX9 19 8 1 := ⟨RX9, TX9, 13, rfl, by decide, rfl, tb_in (i := 266) (by decide +kernel)⟩
theorem fX9_26 : nw_fl RX9 26 8 2 := ⟨RX9, TX9, 13, rfl, by decide, rfl, tb_in (i := 267) (by decide +kernel)⟩
theorem fX9_30 : nw_fl RX9 30 8 3 := ⟨RX9, TX9, 13, rfl, by decide, rfl, tb_in (i := 268) (by decide +kernel)⟩
theorem fX9_36 : nw_fl RX9 36 8 4 := ⟨RX9, TX9, 13, rfl, by decide, rfl, tb_in (i := 269) (by decide +kernel)⟩
theorem fX9_40 : nw_fl RX9 40 8 5 := ⟨RX9, TX9, 13, rfl, by decide, rfl, tb_in (i := 270) (by decide +kernel)⟩
theorem fX9_46 : nw_fl RX9 46 8 6 := ⟨RX9, TX9, 13, rfl, by decide, rfl, tb_in (i := 271) (by decide +kernel)⟩
theorem fX9_53 : nw_fl RX9 53 8 7 := ⟨RX9, TX9, 13, rfl, by decide, rfl, tb_in (i := 272) (by decide +kernel)⟩
theorem fX9_60 : nw_fl RX9 60 8 8 := ⟨RX9, TX9, 13, rfl, by decide, rfl, tb_in (i := 273) (by decide +kernel)⟩
theorem fX9_66 : nw_fl RX9 66 8 9 := ⟨RX9, TX9, 13, rfl, by decide, rfl, tb_in (i := 274) (by decide +kernel)⟩
theorem fX9_149 : nw_fl RX9 149 8 10 := ⟨RX9, TX9, 13, rfl, by decide, rfl, tb_in (i := 275) (by decide +kernel)⟩
theorem fX9_131 : nw_fl RX9 131 8 11 := ⟨RX9, TX9, 13, rfl, by decide, rfl, tb_in (i := 276) (by decide +kernel)⟩
theorem fX9_335 : nw_fl RX9 335 8 12 := ⟨RX9, TX9, 13, rfl, by decide, rfl, tb_in (i := 277) (by decide +kernel)⟩
theorem fX10_7 : nw_fl RX10 7 9 0 := ⟨RX10, TX10, 29, rfl, by decide, rfl, tb_in (i := 805) (by decide +kernel)⟩
theorem fX10_13 : nw_fl RX10 13 9 1 := ⟨RX10, TX10, 29, rfl, by decide, rfl, tb_in (i := 806) (by decide +kernel)⟩
theorem fX10_16 : nw_fl RX10 16 9 2 := ⟨RX10, TX10, 29, rfl, by decide, rfl, tb_in (i := 807) (by decide +kernel)⟩
theorem fX10_68 : nw_fl RX10 68 9 3 := ⟨RX10, TX10, 29, rfl, by decide, rfl, tb_in (i := 808) (by decide +kernel)⟩
theorem fX10_19 : nw_fl RX10 19 9 4 := ⟨RX10, TX10, 29, rfl, by decide, rfl, tb_in (i := 809) (by decide +kernel)⟩
theorem fX10_22 : nw_fl RX10 22 9 5 := ⟨RX10, TX10, 29, rfl, by decide, rfl, tb_in (i := 810) (by decide +kernel)⟩
theorem fX10_89 : nw_fl RX10 89 9 6 := ⟨RX10, TX10, 29, rfl, by decide, rfl, tb_in (i := 811) (by decide +kernel)⟩
theorem fX10_161 : nw_fl RX10 161 9 7 := ⟨RX10, TX10, 29, rfl, by decide, rfl, tb_in (i := 812) (by decide +kernel)⟩
theorem fX10_25 : nw_fl RX10 25 9 8 := ⟨RX10, TX10, 29, rfl, by decide, rfl, tb_in (i := 813) (by decide +kernel)⟩
theorem fX10_28 : nw_fl RX10 28 9 9 := ⟨RX10, TX10, 29, rfl, by decide, rfl, tb_in (i := 814) (by decide +kernel)⟩
theorem fX10_31 : nw_fl RX10 31 9 10 := ⟨RX10, TX10, 29, rfl, by decide, rfl, tb_in (i := 815) (by decide +kernel)⟩
theorem fX10_34 : nw_fl RX10 34 9 11 := ⟨RX10, TX10, 29, rfl, by decide, rfl, tb_in (i := 816) (by decide +kernel)⟩
theorem fX10_37 : nw_fl RX10 37 9 12 := ⟨RX10, TX10, 29, rfl, by decide, rfl, tb_in (i := 817) (by decide +kernel)⟩
theorem fX10_41 : nw_fl RX10 41 9 13 := ⟨RX10, TX10, 29, rfl, by decide, rfl, tb_in (i := 818) (by decide +kernel)⟩
theorem fX10_166 : nw_fl RX10 166 9 14 := ⟨RX10, TX10, 29, rfl, by decide, rfl, tb_in (i := 819) (by decide +kernel)⟩
theorem fX10_93 : nw_fl RX10 93 9 15 := ⟨RX10, TX10, 29, rfl, by decide, rfl, tb_in (i := 820) (by decide +kernel)⟩
theorem fX10_100 : nw_fl RX10 100 9 16 := ⟨RX10, TX10, 29, rfl, by decide, rfl, tb_in (i := 821) (by decide +kernel)⟩
theorem fX10_103 : nw_fl RX10 103 9 17 := ⟨RX10, TX10, 29, rfl, by decide, rfl, tb_in (i := 822) (by decide +kernel)⟩
theorem fX10_106 : nw_fl RX10 106 9 18 := ⟨RX10, TX10, 29, rfl, by decide, rfl, tb_in (i := 823) (by decide +kernel)⟩
theorem fX10_117 : nw_fl RX10 117 9 19 := ⟨RX10, TX10, 29, rfl, by decide, rfl, tb_in (i := 824) (by decide +kernel)⟩
theorem fX10_123 : nw_fl RX10 123 9 20 := ⟨RX10, TX10, 29, rfl, by decide, rfl, tb_in (i := 825) (by decide +kernel)⟩
theorem fX10_136 : nw_fl RX10 136 9 21 := ⟨RX10, TX10, 29, rfl, by decide, rfl, tb_in (i := 826) (by decide +kernel)⟩
theorem fX10_44 : nw_fl RX10 44 9 22 := ⟨RX10, TX10, 29, rfl, by decide, rfl, tb_in (i := 827) (by decide +kernel)⟩
theorem fX10_47 : nw_fl RX10 47 9 23 := ⟨RX10, TX10, 29, rfl, by decide, rfl, tb_in (i := 828) (by decide +kernel)⟩
theorem fX10_50 : nw_fl RX10 50 9 24 := ⟨RX10, TX10, 29, rfl, by decide, rfl, tb_in (i := 829) (by decide +kernel)⟩
theorem fX10_53 : nw_fl RX10 53 9 25 := ⟨RX10, TX10, 29, rfl, by decide, rfl, tb_in (i := 830) (by decide +kernel)⟩
theorem fX10_56 : nw_fl RX10 56 9 26 := ⟨RX10, TX10, 29, rfl, by decide, rfl, tb_in (i := 831) (by decide +kernel)⟩
theorem fX10_59 : nw_fl RX10 59 9 27 := ⟨RX10, TX10, 29, rfl, by decide, rfl, tb_in (i := 832) (by decide +kernel)⟩
theorem fX10_277 : nw_fl RX10 277 9 28 := ⟨RX10, TX10, 29, rfl, by decide, rfl, tb_in (i := 833) (by decide +kernel)⟩
theorem qX9_79 : Cond.constant RX9 79 (-1000001) ∈ nw_gw := tb_in (i := 316) (by decide +kernel)
theorem qX9_338 : Cond.constant RX9 338 (-1000010) ∈ nw_gw := tb_in (i := 321) (by decide +kernel)
theorem qX9_116 : Cond.constant RX9 116 (-1000003) ∈ nw_gw := tb_in (i := 377) (by decide +kernel)
theorem qX8_36 : Cond.constant RX8 36 (-1000000) ∈ nw_gw := tb_in (i := 395) (by decide +kernel)
theorem qX9_135 : Cond.constant RX9 135 (-1000100) ∈ nw_gw := tb_in (i := 450) (by decide +kernel)
theorem qX9_156 : Cond.constant RX9 156 (-1000002) ∈ nw_gw := tb_in (i := 477) (by decide +kernel)
theorem qX9_249 : Cond.constant RX9 249 (-1000000) ∈ nw_gw := tb_in (i := 630) (by decide +kernel)
theorem qX7_33 : Cond.constant RX7 33 (-1000000) ∈ nw_gw := tb_in (i := 706) (by decide +kernel)
theorem qX9_284 : Cond.constant RX9 284 (999999) ∈ nw_gw := tb_in (i := 716) (by decide +kernel)
theorem qX10_79 : Cond.constant RX10 79 (-1000001) ∈ nw_gw := tb_in (i := 906) (by decide +kernel)
theorem qX10_72 : Cond.constant RX10 72 (-1000010) ∈ nw_gw := tb_in (i := 911) (by decide +kernel)
theorem qX10_92 : Cond.constant RX10 92 (-1000003) ∈ nw_gw := tb_in (i := 933) (by decide +kernel)
theorem qX10_164 : Cond.constant RX10 164 (-1000100) ∈ nw_gw := tb_in (i := 989) (by decide +kernel)
theorem qX10_165 : Cond.constant RX10 165 (-1000000) ∈ nw_gw := tb_in (i := 990) (by decide +kernel)
theorem qX10_199 : Cond.constant RX10 199 (-1000002) ∈ nw_gw := tb_in (i := 1003) (by decide +kernel)
theorem qX9_285 : Cond.constantLong RX9 285 (16807) ∈ nw_gw := tb_in (i := 717) (by decide +kernel)
theorem qX9_287 : Cond.constantLong RX9 287 (2147483647) ∈ nw_gw := tb_in (i := 718) (by decide +kernel)
theorem qX9_289 : Cond.constantLong RX9 289 (5) ∈ nw_gw := tb_in (i := 719) (by decide +kernel)
theorem qX9_291 : Cond.constantLong RX9 291 (31) ∈ nw_gw := tb_in (i := 720) (by decide +kernel)
theorem qX10_62 : Cond.constantLong RX10 62 (7) ∈ nw_gw := tb_in (i := 901) (by decide +kernel)
theorem qX10_77 : Cond.constantLong RX10 77 (2) ∈ nw_gw := tb_in (i := 905) (by decide +kernel)
theorem qX10_87 : Cond.constantLong RX10 87 (255) ∈ nw_gw := tb_in (i := 932) (by decide +kernel)
theorem qX10_96 : Cond.constantLong RX10 96 (48) ∈ nw_gw := tb_in (i := 950) (by decide +kernel)
theorem qX10_98 : Cond.constantLong RX10 98 (57) ∈ nw_gw := tb_in (i := 951) (by decide +kernel)
theorem qX10_113 : Cond.constantLong RX10 113 (97) ∈ nw_gw := tb_in (i := 952) (by decide +kernel)
theorem qX10_115 : Cond.constantLong RX10 115 (122) ∈ nw_gw := tb_in (i := 953) (by decide +kernel)
theorem qX10_200 : Cond.constantLong RX10 200 (24) ∈ nw_gw := tb_in (i := 1004) (by decide +kernel)
theorem qX10_215 : Cond.constantLong RX10 215 (-9) ∈ nw_gw := tb_in (i := 1053) (by decide +kernel)
theorem qX10_217 : Cond.constantLong RX10 217 (9) ∈ nw_gw := tb_in (i := 1054) (by decide +kernel)
theorem qX10_219 : Cond.constantLong RX10 219 (12) ∈ nw_gw := tb_in (i := 1059) (by decide +kernel)
theorem qX10_227 : Cond.constantLong RX10 227 (4) ∈ nw_gw := tb_in (i := 1084) (by decide +kernel)
theorem qX10_229 : Cond.constantLong RX10 229 (1199) ∈ nw_gw := tb_in (i := 1093) (by decide +kernel)
theorem qX10_231 : Cond.constantLong RX10 231 (3) ∈ nw_gw := tb_in (i := 1094) (by decide +kernel)
theorem qX10_236 : Cond.constantLong RX10 236 (200) ∈ nw_gw := tb_in (i := 1103) (by decide +kernel)
theorem qX10_241 : Cond.constantLong RX10 241 (100) ∈ nw_gw := tb_in (i := 1128) (by decide +kernel)
theorem qX10_243 : Cond.constantLong RX10 243 (60) ∈ nw_gw := tb_in (i := 1133) (by decide +kernel)
theorem qX10_245 : Cond.constantLong RX10 245 (-1) ∈ nw_gw := tb_in (i := 1134) (by decide +kernel)
theorem qX10_254 : Cond.constantLong RX10 254 (20) ∈ nw_gw := tb_in (i := 1163) (by decide +kernel)
theorem qX10_256 : Cond.constantLong RX10 256 (399) ∈ nw_gw := tb_in (i := 1164) (by decide +kernel)
theorem qX10_262 : Cond.constantLong RX10 262 (99) ∈ nw_gw := tb_in (i := 1173) (by decide +kernel)
theorem qX10_264 : Cond.constantLong RX10 264 (999999) ∈ nw_gw := tb_in (i := 1178) (by decide +kernel)
theorem qX10_266 : Cond.constantLong RX10 266 (16807) ∈ nw_gw := tb_in (i := 1179) (by decide +kernel)
theorem qX10_268 : Cond.constantLong RX10 268 (2147483647) ∈ nw_gw := tb_in (i := 1180) (by decide +kernel)
theorem qX10_270 : Cond.constantLong RX10 270 (5) ∈ nw_gw := tb_in (i := 1181) (by decide +kernel)
theorem qX10_272 : Cond.constantLong RX10 272 (31) ∈ nw_gw := tb_in (i := 1182) (by decide +kernel)
theorem qX10_292 : Cond.constantLong RX10 292 (8) ∈ nw_gw := tb_in (i := 1231) (by decide +kernel)
