theorem nw_in0 : ∀ w ∈ u_ws RX0 TX0 3, w ∈ nw_gw := by decide +kernel
theorem nw_in1 : ∀ w ∈ u_ws RX1 TX1 6, w ∈ nw_gw := by decide +kernel
theorem nw_in2 : ∀ w ∈ u_ws RX2 TX2 9, w ∈ nw_gw := by decide +kernel
theorem nw_in3 : ∀ w ∈ u_ws RX3 TX3 3, w ∈ nw_gw := by decide +kernel
theorem nw_in4 : ∀ w ∈ u_ws RX5 TX5 6, w ∈ nw_gw := by decide +kernel
theorem nw_in5 : ∀ w ∈ u_ws RX6 TX6 6, w ∈ nw_gw := by decide +kernel
theorem nw_in6 : ∀ w ∈ u_ws RX7 TX7 3, w ∈ nw_gw := by decide +kernel
theorem nw_in7 : ∀ w ∈ u_ws RX8 TX8 7, w ∈ nw_gw := by decide +kernel
theorem nw_in8 : ∀ w ∈ u_ws RX9 TX9 13, w ∈ nw_gw := by decide +kernel
theorem nw_in9 : ∀ w ∈ u_ws RX10 TX10 29, w ∈ nw_gw := by decide +kernel
section
variable {l : Launch} {g : nw_G} {d : Nat} {M : nw_Mt} {pc : Nat} {ls : List (Option Value)} {st : List Value} {sh : List nw_Sh} {I : nw_Me} {kc ks : Nat} {Post : Option Int32 → List nw_Sh → nw_Me → Prop}
/-- an instruction that touches neither cells nor locals -/
theorem ev_st {pc' : Nat} {st' : List Value} (k : nw_Ev l g d M pc' ls st' sh I kc ks Post) (h : ∀ (p : Program) (l : Launch) (e : Env) (R : Room) (s : State) (m : MethodId) (args : Array Value) (below : List Frame) (meth : Method) (c : Code) (H : Heap) (locs : List Loc) (cells slots : Nat) (Q : State → Prop) (la : Array Slot), p.tables.exec = Jvm.exec → c.code = M.2.1 → nw_Lr ls la M.2.2.1 →
    W p l e R s m args below meth c H locs cells slots Q (F0 m pc' la st') → W p l e R s m args below meth c H locs cells slots Q (F0 m pc la st)) : nw_Ev l g d M pc ls st sh I kc ks Post :=
  fun p e R s m args below meth c H locs cells slots Q la cx ws wh hs hl h1 h2 hr => h p l e R s m args below meth c H locs cells slots Q la cx.1 cx.2.1 hl (k p e R s m args below meth c H locs cells slots Q la cx ws wh hs hl h1 h2 hr)

theorem ev_iconst {n : Int} {v : Int32} (hd : decode M.2.1 pc = .ok (.iconst n, 1)) (hv : Int32.ofInt n = v) (k : nw_Ev l g d M (pc + 1) ls (.int v :: st) sh I kc ks Post) : nw_Ev l g d M pc ls st sh I kc ks Post := ev_st k (fun _ _ _ _ _ _ _ _ _ _ _ _ _ _ _ _ hx hb hl w => lv_iconst hx hb hd hv w)
theorem ev_bipush {n : Int} {v : Int32} (hd : decode M.2.1 pc = .ok (.bipush n, 2)) (hv : (Int8.ofInt n).toInt32 = v) (k : nw_Ev l g d M (pc + 2) ls (.int v :: st) sh I kc ks Post) : nw_Ev l g d M pc ls st sh I kc ks Post := ev_st k (fun _ _ _ _ _ _ _ _ _ _ _ _ _ _ _ _ hx hb hl w => lv_bipush hx hb hd hv w)
theorem ev_sipush {n : Int} {v : Int32} (hd : decode M.2.1 pc = .ok (.sipush n, 3)) (hv : (Int16.ofInt n).toInt32 = v) (k : nw_Ev l g d M (pc + 3) ls (.int v :: st) sh I kc ks Post) : nw_Ev l g d M pc ls st sh I kc ks Post := ev_st k (fun _ _ _ _ _ _ _ _ _ _ _ _ _ _ _ _ hx hb hl w => lv_sipush hx hb hd hv w)
theorem ev_lconst {n : Fin 2} {v : Int64} (hd : decode M.2.1 pc = .ok (.lconst n, 1)) (hv : Int64.ofNat (n : Nat) = v) (k : nw_Ev l g d M (pc + 1) ls (.long v :: st) sh I kc ks Post) : nw_Ev l g d M pc ls st sh I kc ks Post := ev_st k (fun _ _ _ _ _ _ _ _ _ _ _ _ _ _ _ _ hx hb hl w => lv_lconst hx hb hd hv w)
theorem ev_iload_n {k4 : Fin 4} {i : Nat} {x : Int32} (hd : decode M.2.1 pc = .ok (.iload_n k4, 1)) (hi : (k4 : Nat) = i) (hv : ls[i]? = some (some (.int x))) (k : nw_Ev l g d M (pc + 1) ls (.int x :: st) sh I kc ks Post) : nw_Ev l g d M pc ls st sh I kc ks Post := ev_st k (fun _ _ _ _ _ _ _ _ _ _ _ _ _ _ _ _ hx hb hl w => lv_iload_n hx hb hd hi (hl.2.2 _ _ hv) w)
theorem ev_iload {i : Nat} {x : Int32} (hd : decode M.2.1 pc = .ok (.iload i, 2)) (hv : ls[i]? = some (some (.int x))) (k : nw_Ev l g d M (pc + 2) ls (.int x :: st) sh I kc ks Post) : nw_Ev l g d M pc ls st sh I kc ks Post := ev_st k (fun _ _ _ _ _ _ _ _ _ _ _ _ _ _ _ _ hx hb hl w => lv_iload hx hb hd (hl.2.2 _ _ hv) w)
theorem ev_aload_n {k4 : Fin 4} {i : Nat} {x : Nat} (hd : decode M.2.1 pc = .ok (.aload_n k4, 1)) (hi : (k4 : Nat) = i) (hv : ls[i]? = some (some (.ref x))) (k : nw_Ev l g d M (pc + 1) ls (.ref x :: st) sh I kc ks Post) : nw_Ev l g d M pc ls st sh I kc ks Post := ev_st k (fun _ _ _ _ _ _ _ _ _ _ _ _ _ _ _ _ hx hb hl w => lv_aload_n hx hb hd hi (hl.2.2 _ _ hv) w)
theorem ev_aload {i : Nat} {x : Nat} (hd : decode M.2.1 pc = .ok (.aload i, 2)) (hv : ls[i]? = some (some (.ref x))) (k : nw_Ev l g d M (pc + 2) ls (.ref x :: st) sh I kc ks Post) : nw_Ev l g d M pc ls st sh I kc ks Post := ev_st k (fun _ _ _ _ _ _ _ _ _ _ _ _ _ _ _ _ hx hb hl w => lv_aload hx hb hd (hl.2.2 _ _ hv) w)
theorem ev_lload_n {k4 : Fin 4} {i : Nat} {x : Int64} (hd : decode M.2.1 pc = .ok (.lload_n k4, 1)) (hi : (k4 : Nat) = i) (hv : ls[i]? = some (some (.long x))) (k : nw_Ev l g d M (pc + 1) ls (.long x :: st) sh I kc ks Post) : nw_Ev l g d M pc ls st sh I kc ks Post := ev_st k (fun _ _ _ _ _ _ _ _ _ _ _ _ _ _ _ _ hx hb hl w => lv_lload_n hx hb hd hi (hl.2.2 _ _ hv) w)
theorem ev_lload {i : Nat} {x : Int64} (hd : decode M.2.1 pc = .ok (.lload i, 2)) (hv : ls[i]? = some (some (.long x))) (k : nw_Ev l g d M (pc + 2) ls (.long x :: st) sh I kc ks Post) : nw_Ev l g d M pc ls st sh I kc ks Post := ev_st k (fun _ _ _ _ _ _ _ _ _ _ _ _ _ _ _ _ hx hb hl w => lv_lload hx hb hd (hl.2.2 _ _ hv) w)
theorem ev_iadd {x y : Int32} (hd : decode M.2.1 pc = .ok (.iadd, 1)) (k : nw_Ev l g d M (pc + 1) ls (.int (x + y) :: st) sh I kc ks Post) : nw_Ev l g d M pc ls (.int y :: .int x :: st) sh I kc ks Post := ev_st k (fun _ _ _ _ _ _ _ _ _ _ _ _ _ _ _ _ hx hb hl w => lv_iadd hx hb hd w)
theorem ev_isub {x y : Int32} (hd : decode M.2.1 pc = .ok (.isub, 1)) (k : nw_Ev l g d M (pc + 1) ls (.int (x - y) :: st) sh I kc ks Post) : nw_Ev l g d M pc ls (.int y :: .int x :: st) sh I kc ks Post := ev_st k (fun _ _ _ _ _ _ _ _ _ _ _ _ _ _ _ _ hx hb hl w => lv_isub hx hb hd w)
theorem ev_imul {x y : Int32} (hd : decode M.2.1 pc = .ok (.imul, 1)) (k : nw_Ev l g d M (pc + 1) ls (.int (x * y) :: st) sh I kc ks Post) : nw_Ev l g d M pc ls (.int y :: .int x :: st) sh I kc ks Post := ev_st k (fun _ _ _ _ _ _ _ _ _ _ _ _ _ _ _ _ hx hb hl w => lv_imul hx hb hd w)
theorem ev_iand {x y : Int32} (hd : decode M.2.1 pc = .ok (.iand, 1)) (k : nw_Ev l g d M (pc + 1) ls (.int (x &&& y) :: st) sh I kc ks Post) : nw_Ev l g d M pc ls (.int y :: .int x :: st) sh I kc ks Post := ev_st k (fun _ _ _ _ _ _ _ _ _ _ _ _ _ _ _ _ hx hb hl w => lv_iand hx hb hd w)
theorem ev_ior {x y : Int32} (hd : decode M.2.1 pc = .ok (.ior, 1)) (k : nw_Ev l g d M (pc + 1) ls (.int (x ||| y) :: st) sh I kc ks Post) : nw_Ev l g d M pc ls (.int y :: .int x :: st) sh I kc ks Post := ev_st k (fun _ _ _ _ _ _ _ _ _ _ _ _ _ _ _ _ hx hb hl w => lv_ior hx hb hd w)
theorem ev_ishl {x y : Int32} (hd : decode M.2.1 pc = .ok (.ishl, 1)) (k : nw_Ev l g d M (pc + 1) ls (.int (x <<< (y &&& 31)) :: st) sh I kc ks Post) : nw_Ev l g d M pc ls (.int y :: .int x :: st) sh I kc ks Post := ev_st k (fun _ _ _ _ _ _ _ _ _ _ _ _ _ _ _ _ hx hb hl w => lv_ishl hx hb hd w)
theorem ev_ishr {x y : Int32} (hd : decode M.2.1 pc = .ok (.ishr, 1)) (k : nw_Ev l g d M (pc + 1) ls (.int (x >>> (y &&& 31)) :: st) sh I kc ks Post) : nw_Ev l g d M pc ls (.int y :: .int x :: st) sh I kc ks Post := ev_st k (fun _ _ _ _ _ _ _ _ _ _ _ _ _ _ _ _ hx hb hl w => lv_ishr hx hb hd w)
theorem ev_idiv {x y : Int32} (hd : decode M.2.1 pc = .ok (.idiv, 1)) (hne : ¬ y = 0) (k : nw_Ev l g d M (pc + 1) ls (.int (x / y) :: st) sh I kc ks Post) : nw_Ev l g d M pc ls (.int y :: .int x :: st) sh I kc ks Post := ev_st k (fun _ _ _ _ _ _ _ _ _ _ _ _ _ _ _ _ hx hb hl w => lv_idiv hx hb hd hne w)
theorem ev_irem {x y : Int32} (hd : decode M.2.1 pc = .ok (.irem, 1)) (hne : ¬ y = 0) (k : nw_Ev l g d M (pc + 1) ls (.int (x - x / y * y) :: st) sh I kc ks Post) : nw_Ev l g d M pc ls (.int y :: .int x :: st) sh I kc ks Post := ev_st k (fun _ _ _ _ _ _ _ _ _ _ _ _ _ _ _ _ hx hb hl w => lv_irem hx hb hd hne w)
theorem ev_ladd {x y : Int64} (hd : decode M.2.1 pc = .ok (.ladd, 1)) (k : nw_Ev l g d M (pc + 1) ls (.long (x + y) :: st) sh I kc ks Post) : nw_Ev l g d M pc ls (.long y :: .long x :: st) sh I kc ks Post := ev_st k (fun _ _ _ _ _ _ _ _ _ _ _ _ _ _ _ _ hx hb hl w => lv_ladd hx hb hd w)
theorem ev_lmul {x y : Int64} (hd : decode M.2.1 pc = .ok (.lmul, 1)) (k : nw_Ev l g d M (pc + 1) ls (.long (x * y) :: st) sh I kc ks Post) : nw_Ev l g d M pc ls (.long y :: .long x :: st) sh I kc ks Post := ev_st k (fun _ _ _ _ _ _ _ _ _ _ _ _ _ _ _ _ hx hb hl w => lv_lmul hx hb hd w)
theorem ev_ldiv {x y : Int64} (hd : decode M.2.1 pc = .ok (.ldiv, 1)) (hne : ¬ y = 0) (k : nw_Ev l g d M (pc + 1) ls (.long (x / y) :: st) sh I kc ks Post) : nw_Ev l g d M pc ls (.long y :: .long x :: st) sh I kc ks Post := ev_st k (fun _ _ _ _ _ _ _ _ _ _ _ _ _ _ _ _ hx hb hl w => lv_ldiv hx hb hd hne w)
theorem ev_lrem {x y : Int64} (hd : decode M.2.1 pc = .ok (.lrem, 1)) (hne : ¬ y = 0) (k : nw_Ev l g d M (pc + 1) ls (.long (x - x / y * y) :: st) sh I kc ks Post) : nw_Ev l g d M pc ls (.long y :: .long x :: st) sh I kc ks Post := ev_st k (fun _ _ _ _ _ _ _ _ _ _ _ _ _ _ _ _ hx hb hl w => lv_lrem hx hb hd hne w)
theorem ev_lcmp {x y : Int64} (hd : decode M.2.1 pc = .ok (.lcmp, 1)) (k : nw_Ev l g d M (pc + 1) ls (.int (lg_cmp x y) :: st) sh I kc ks Post) : nw_Ev l g d M pc ls (.long y :: .long x :: st) sh I kc ks Post := ev_st k (fun _ _ _ _ _ _ _ _ _ _ _ _ _ _ _ _ hx hb hl w => W.lcmp hx hb hd w)
theorem ev_ineg {x : Int32} (hd : decode M.2.1 pc = .ok (.ineg, 1)) (k : nw_Ev l g d M (pc + 1) ls (.int (-x) :: st) sh I kc ks Post) : nw_Ev l g d M pc ls (.int x :: st) sh I kc ks Post := ev_st k (fun _ _ _ _ _ _ _ _ _ _ _ _ _ _ _ _ hx hb hl w => lv_ineg hx hb hd w)
theorem ev_i2l {x : Int32} (hd : decode M.2.1 pc = .ok (.i2l, 1)) (k : nw_Ev l g d M (pc + 1) ls (.long x.toInt64 :: st) sh I kc ks Post) : nw_Ev l g d M pc ls (.int x :: st) sh I kc ks Post := ev_st k (fun _ _ _ _ _ _ _ _ _ _ _ _ _ _ _ _ hx hb hl w => lv_i2l hx hb hd rfl w)
theorem ev_l2i {x : Int64} (hd : decode M.2.1 pc = .ok (.l2i, 1)) (k : nw_Ev l g d M (pc + 1) ls (.int x.toInt32 :: st) sh I kc ks Post) : nw_Ev l g d M pc ls (.long x :: st) sh I kc ks Post := ev_st k (fun _ _ _ _ _ _ _ _ _ _ _ _ _ _ _ _ hx hb hl w => lv_l2i hx hb hd rfl w)
theorem ev_i2b {x : Int32} (hd : decode M.2.1 pc = .ok (.i2b, 1)) (k : nw_Ev l g d M (pc + 1) ls (.int x.toInt8.toInt32 :: st) sh I kc ks Post) : nw_Ev l g d M pc ls (.int x :: st) sh I kc ks Post := ev_st k (fun _ _ _ _ _ _ _ _ _ _ _ _ _ _ _ _ hx hb hl w => lv_i2b hx hb hd rfl w)
theorem ev_i2s {x : Int32} (hd : decode M.2.1 pc = .ok (.i2s, 1)) (k : nw_Ev l g d M (pc + 1) ls (.int x.toInt16.toInt32 :: st) sh I kc ks Post) : nw_Ev l g d M pc ls (.int x :: st) sh I kc ks Post := ev_st k (fun _ _ _ _ _ _ _ _ _ _ _ _ _ _ _ _ hx hb hl w => lv_i2s hx hb hd rfl w)
theorem ev_dup {va : Value} (hd : decode M.2.1 pc = .ok (.dup, 1)) (hva : va.category = 1) (k : nw_Ev l g d M (pc + 1) ls (va :: va :: st) sh I kc ks Post) : nw_Ev l g d M pc ls (va :: st) sh I kc ks Post := ev_st k (fun _ _ _ _ _ _ _ _ _ _ _ _ _ _ _ _ hx hb hl w => lv_dup hx hb hd hva w)
theorem ev_pop {va : Value} (hd : decode M.2.1 pc = .ok (.pop, 1)) (hva : va.category = 1) (k : nw_Ev l g d M (pc + 1) ls st sh I kc ks Post) : nw_Ev l g d M pc ls (va :: st) sh I kc ks Post := ev_st k (fun _ _ _ _ _ _ _ _ _ _ _ _ _ _ _ _ hx hb hl w => lv_pop hx hb hd hva w)
theorem ev_dup2 {va vb : Value} (hd : decode M.2.1 pc = .ok (.dup2, 1)) (hva : va.category = 1) (hvb : vb.category = 1) (k : nw_Ev l g d M (pc + 1) ls (va :: vb :: va :: vb :: st) sh I kc ks Post) : nw_Ev l g d M pc ls (va :: vb :: st) sh I kc ks Post := ev_st k (fun _ _ _ _ _ _ _ _ _ _ _ _ _ _ _ _ hx hb hl w => lv_dup2_11 hx hb hd hva hvb w)
theorem ev_goto {off : Int} {tgt : Nat} (hd : decode M.2.1 pc = .ok (.goto off, 3)) (ht : (pc : Int) + off = (tgt : Int)) (k : nw_Ev l g d M tgt ls st sh I kc ks Post) : nw_Ev l g d M pc ls st sh I kc ks Post := ev_st k (fun _ _ _ _ _ _ _ _ _ _ _ _ _ _ _ _ hx hb hl w => lv_goto hx hb hd ht w)
theorem ev_if_eq {x : Int32} {off : Int} {tgt : Nat} (hd : decode M.2.1 pc = .ok (.ifCond .eq off, 3)) (ht : (pc : Int) + off = (tgt : Int)) (kt : x = 0 → nw_Ev l g d M tgt ls st sh I kc ks Post) (kf : ¬ x = 0 → nw_Ev l g d M (pc + 3) ls st sh I kc ks Post) : nw_Ev l g d M pc ls (.int x :: st) sh I kc ks Post := fun p e R s m args below meth c H locs cells slots Q la cx ws wh hs hl h1 h2 hr => lv_if_eq cx.1 cx.2.1 hd ht (fun q => kt q p e R s m args below meth c H locs cells slots Q la cx ws wh hs hl h1 h2 hr) (fun q => kf q p e R s m args below meth c H locs cells slots Q la cx ws wh hs hl h1 h2 hr)
theorem ev_icmp_eq {x y : Int32} {off : Int} {tgt : Nat} (hd : decode M.2.1 pc = .ok (.if_icmp .eq off, 3)) (ht : (pc : Int) + off = (tgt : Int)) (kt : x = y → nw_Ev l g d M tgt ls st sh I kc ks Post) (kf : ¬ x = y → nw_Ev l g d M (pc + 3) ls st sh I kc ks Post) : nw_Ev l g d M pc ls (.int y :: .int x :: st) sh I kc ks Post := fun p e R s m args below meth c H locs cells slots Q la cx ws wh hs hl h1 h2 hr => lv_icmp_eq cx.1 cx.2.1 hd ht (fun q => kt q p e R s m args below meth c H locs cells slots Q la cx ws wh hs hl h1 h2 hr) (fun q => kf q p e R s m args below meth c H locs cells slots Q la cx ws wh hs hl h1 h2 hr)
theorem ev_if_ne {x : Int32} {off : Int} {tgt : Nat} (hd : decode M.2.1 pc = .ok (.ifCond .ne off, 3)) (ht : (pc : Int) + off = (tgt : Int)) (kt : ¬ x = 0 → nw_Ev l g d M tgt ls st sh I kc ks Post) (kf : x = 0 → nw_Ev l g d M (pc + 3) ls st sh I kc ks Post) : nw_Ev l g d M pc ls (.int x :: st) sh I kc ks Post := fun p e R s m args below meth c H locs cells slots Q la cx ws wh hs hl h1 h2 hr => lv_if_ne cx.1 cx.2.1 hd ht (fun q => kt q p e R s m args below meth c H locs cells slots Q la cx ws wh hs hl h1 h2 hr) (fun q => kf q p e R s m args below meth c H locs cells slots Q la cx ws wh hs hl h1 h2 hr)
theorem ev_icmp_ne {x y : Int32} {off : Int} {tgt : Nat} (hd : decode M.2.1 pc = .ok (.if_icmp .ne off, 3)) (ht : (pc : Int) + off = (tgt : Int)) (kt : ¬ x = y → nw_Ev l g d M tgt ls st sh I kc ks Post) (kf : x = y → nw_Ev l g d M (pc + 3) ls st sh I kc ks Post) : nw_Ev l g d M pc ls (.int y :: .int x :: st) sh I kc ks Post := fun p e R s m args below meth c H locs cells slots Q la cx ws wh hs hl h1 h2 hr => lv_icmp_ne cx.1 cx.2.1 hd ht (fun q => kt q p e R s m args below meth c H locs cells slots Q la cx ws wh hs hl h1 h2 hr) (fun q => kf q p e R s m args below meth c H locs cells slots Q la cx ws wh hs hl h1 h2 hr)
theorem ev_if_lt {x : Int32} {off : Int} {tgt : Nat} (hd : decode M.2.1 pc = .ok (.ifCond .lt off, 3)) (ht : (pc : Int) + off = (tgt : Int)) (kt : x < 0 → nw_Ev l g d M tgt ls st sh I kc ks Post) (kf : ¬ x < 0 → nw_Ev l g d M (pc + 3) ls st sh I kc ks Post) : nw_Ev l g d M pc ls (.int x :: st) sh I kc ks Post := fun p e R s m args below meth c H locs cells slots Q la cx ws wh hs hl h1 h2 hr => lv_if_lt cx.1 cx.2.1 hd ht (fun q => kt q p e R s m args below meth c H locs cells slots Q la cx ws wh hs hl h1 h2 hr) (fun q => kf q p e R s m args below meth c H locs cells slots Q la cx ws wh hs hl h1 h2 hr)
theorem ev_icmp_lt {x y : Int32} {off : Int} {tgt : Nat} (hd : decode M.2.1 pc = .ok (.if_icmp .lt off, 3)) (ht : (pc : Int) + off = (tgt : Int)) (kt : x < y → nw_Ev l g d M tgt ls st sh I kc ks Post) (kf : ¬ x < y → nw_Ev l g d M (pc + 3) ls st sh I kc ks Post) : nw_Ev l g d M pc ls (.int y :: .int x :: st) sh I kc ks Post := fun p e R s m args below meth c H locs cells slots Q la cx ws wh hs hl h1 h2 hr => lv_icmp_lt cx.1 cx.2.1 hd ht (fun q => kt q p e R s m args below meth c H locs cells slots Q la cx ws wh hs hl h1 h2 hr) (fun q => kf q p e R s m args below meth c H locs cells slots Q la cx ws wh hs hl h1 h2 hr)
theorem ev_if_ge {x : Int32} {off : Int} {tgt : Nat} (hd : decode M.2.1 pc = .ok (.ifCond .ge off, 3)) (ht : (pc : Int) + off = (tgt : Int)) (kt : 0 ≤ x → nw_Ev l g d M tgt ls st sh I kc ks Post) (kf : ¬ 0 ≤ x → nw_Ev l g d M (pc + 3) ls st sh I kc ks Post) : nw_Ev l g d M pc ls (.int x :: st) sh I kc ks Post := fun p e R s m args below meth c H locs cells slots Q la cx ws wh hs hl h1 h2 hr => lv_if_ge cx.1 cx.2.1 hd ht (fun q => kt q p e R s m args below meth c H locs cells slots Q la cx ws wh hs hl h1 h2 hr) (fun q => kf q p e R s m args below meth c H locs cells slots Q la cx ws wh hs hl h1 h2 hr)
theorem ev_icmp_ge {x y : Int32} {off : Int} {tgt : Nat} (hd : decode M.2.1 pc = .ok (.if_icmp .ge off, 3)) (ht : (pc : Int) + off = (tgt : Int)) (kt : y ≤ x → nw_Ev l g d M tgt ls st sh I kc ks Post) (kf : ¬ y ≤ x → nw_Ev l g d M (pc + 3) ls st sh I kc ks Post) : nw_Ev l g d M pc ls (.int y :: .int x :: st) sh I kc ks Post := fun p e R s m args below meth c H locs cells slots Q la cx ws wh hs hl h1 h2 hr => lv_icmp_ge cx.1 cx.2.1 hd ht (fun q => kt q p e R s m args below meth c H locs cells slots Q la cx ws wh hs hl h1 h2 hr) (fun q => kf q p e R s m args below meth c H locs cells slots Q la cx ws wh hs hl h1 h2 hr)
theorem ev_if_gt {x : Int32} {off : Int} {tgt : Nat} (hd : decode M.2.1 pc = .ok (.ifCond .gt off, 3)) (ht : (pc : Int) + off = (tgt : Int)) (kt : 0 < x → nw_Ev l g d M tgt ls st sh I kc ks Post) (kf : ¬ 0 < x → nw_Ev l g d M (pc + 3) ls st sh I kc ks Post) : nw_Ev l g d M pc ls (.int x :: st) sh I kc ks Post := fun p e R s m args below meth c H locs cells slots Q la cx ws wh hs hl h1 h2 hr => lv_if_gt cx.1 cx.2.1 hd ht (fun q => kt q p e R s m args below meth c H locs cells slots Q la cx ws wh hs hl h1 h2 hr) (fun q => kf q p e R s m args below meth c H locs cells slots Q la cx ws wh hs hl h1 h2 hr)
theorem ev_icmp_gt {x y : Int32} {off : Int} {tgt : Nat} (hd : decode M.2.1 pc = .ok (.if_icmp .gt off, 3)) (ht : (pc : Int) + off = (tgt : Int)) (kt : y < x → nw_Ev l g d M tgt ls st sh I kc ks Post) (kf : ¬ y < x → nw_Ev l g d M (pc + 3) ls st sh I kc ks Post) : nw_Ev l g d M pc ls (.int y :: .int x :: st) sh I kc ks Post := fun p e R s m args below meth c H locs cells slots Q la cx ws wh hs hl h1 h2 hr => lv_icmp_gt cx.1 cx.2.1 hd ht (fun q => kt q p e R s m args below meth c H locs cells slots Q la cx ws wh hs hl h1 h2 hr) (fun q => kf q p e R s m args below meth c H locs cells slots Q la cx ws wh hs hl h1 h2 hr)
theorem ev_if_le {x : Int32} {off : Int} {tgt : Nat} (hd : decode M.2.1 pc = .ok (.ifCond .le off, 3)) (ht : (pc : Int) + off = (tgt : Int)) (kt : x ≤ 0 → nw_Ev l g d M tgt ls st sh I kc ks Post) (kf : ¬ x ≤ 0 → nw_Ev l g d M (pc + 3) ls st sh I kc ks Post) : nw_Ev l g d M pc ls (.int x :: st) sh I kc ks Post := fun p e R s m args below meth c H locs cells slots Q la cx ws wh hs hl h1 h2 hr => lv_if_le cx.1 cx.2.1 hd ht (fun q => kt q p e R s m args below meth c H locs cells slots Q la cx ws wh hs hl h1 h2 hr) (fun q => kf q p e R s m args below meth c H locs cells slots Q la cx ws wh hs hl h1 h2 hr)
theorem ev_icmp_le {x y : Int32} {off : Int} {tgt : Nat} (hd : decode M.2.1 pc = .ok (.if_icmp .le off, 3)) (ht : (pc : Int) + off = (tgt : Int)) (kt : x ≤ y → nw_Ev l g d M tgt ls st sh I kc ks Post) (kf : ¬ x ≤ y → nw_Ev l g d M (pc + 3) ls st sh I kc ks Post) : nw_Ev l g d M pc ls (.int y :: .int x :: st) sh I kc ks Post := fun p e R s m args below meth c H locs cells slots Q la cx ws wh hs hl h1 h2 hr => lv_icmp_le cx.1 cx.2.1 hd ht (fun q => kt q p e R s m args below meth c H locs cells slots Q la cx ws wh hs hl h1 h2 hr) (fun q => kf q p e R s m args below meth c H locs cells slots Q la cx ws wh hs hl h1 h2 hr)
theorem ev_tableIn {dflt lo hi : Int} {offs : Array Int} {len : Nat} {x : Int32} {off : Int} {tgt : Nat} (hd : decode M.2.1 pc = .ok (.tableswitch dflt lo hi offs, len)) (h1 : ¬ x.toInt < lo) (h2 : ¬ hi < x.toInt) (ho : offs[(x.toInt - lo).toNat]? = some off) (ht : (pc : Int) + off = (tgt : Int)) (k : nw_Ev l g d M tgt ls st sh I kc ks Post) : nw_Ev l g d M pc ls (.int x :: st) sh I kc ks Post := ev_st k (fun _ _ _ _ _ _ _ _ _ _ _ _ _ _ _ _ hx hb hl w => lv_tableIn hx hb hd h1 h2 ho ht w)
theorem ev_tableOut {dflt lo hi : Int} {offs : Array Int} {len : Nat} {x : Int32} {tgt : Nat} (hd : decode M.2.1 pc = .ok (.tableswitch dflt lo hi offs, len)) (h : x.toInt < lo ∨ hi < x.toInt) (ht : (pc : Int) + dflt = (tgt : Int)) (k : nw_Ev l g d M tgt ls st sh I kc ks Post) : nw_Ev l g d M pc ls (.int x :: st) sh I kc ks Post := ev_st k (fun _ _ _ _ _ _ _ _ _ _ _ _ _ _ _ _ hx hb hl w => lv_tableOut hx hb hd h ht w)
theorem ev_lookup {dflt : Int} {ps : Array (Int × Int)} {len : Nat} {x : Int32} {off : Int} {tgt : Nat} (hd : decode M.2.1 pc = .ok (.lookupswitch dflt ps, len)) (hp : (ps.toList.zip (ps.toList.drop 1)).all (fun (a, next) => a.1 < next.1) = true) (ho : Op.lookupswitch.offset ps.toList dflt x.toInt = off) (ht : (pc : Int) + off = (tgt : Int)) (k : nw_Ev l g d M tgt ls st sh I kc ks Post) : nw_Ev l g d M pc ls (.int x :: st) sh I kc ks Post := ev_st k (fun _ _ _ _ _ _ _ _ _ _ _ _ _ _ _ _ hx hb hl w => lv_lookup hx hb hd hp ho ht w)
theorem ev_istore {i : Nat} {x : Int32} (hd : decode M.2.1 pc = .ok (.istore i, 2)) (hn : i < M.2.2.1) (hnl : nw_nl ls i = true) (k : nw_Ev l g d M (pc + 2) (ls.set i (some (.int x))) st sh I kc ks Post) : nw_Ev l g d M pc ls (.int x :: st) sh I kc ks Post := fun p e R s m args below meth c H locs cells slots Q la cx ws wh hs hl h1 h2 hr => lv_istore cx.1 cx.2.1 hd (nw_al_has hl) hn rfl (fun la1 hh => have hl1 := nw_put1 hnl hh; k p e R s m args below meth c H locs cells slots Q la1 cx ws wh hs hl1 h1 h2 hr)
theorem ev_istore_n {k4 : Fin 4} {i : Nat} {x : Int32} (hd : decode M.2.1 pc = .ok (.istore_n k4, 1)) (hi : (k4 : Nat) = i) (hn : i < M.2.2.1) (hnl : nw_nl ls i = true) (k : nw_Ev l g d M (pc + 1) (ls.set i (some (.int x))) st sh I kc ks Post) : nw_Ev l g d M pc ls (.int x :: st) sh I kc ks Post := fun p e R s m args below meth c H locs cells slots Q la cx ws wh hs hl h1 h2 hr => lv_istore_n cx.1 cx.2.1 hd hi (nw_al_has hl) hn rfl (fun la1 hh => have hl1 := nw_put1 hnl hh; k p e R s m args below meth c H locs cells slots Q la1 cx ws wh hs hl1 h1 h2 hr)
theorem ev_astore {i : Nat} {x : Nat} (hd : decode M.2.1 pc = .ok (.astore i, 2)) (hn : i < M.2.2.1) (hnl : nw_nl ls i = true) (k : nw_Ev l g d M (pc + 2) (ls.set i (some (.ref x))) st sh I kc ks Post) : nw_Ev l g d M pc ls (.ref x :: st) sh I kc ks Post := fun p e R s m args below meth c H locs cells slots Q la cx ws wh hs hl h1 h2 hr => lv_astore cx.1 cx.2.1 hd (nw_al_has hl) hn rfl (fun la1 hh => have hl1 := nw_put1 hnl hh; k p e R s m args below meth c H locs cells slots Q la1 cx ws wh hs hl1 h1 h2 hr)
theorem ev_astore_n {k4 : Fin 4} {i : Nat} {x : Nat} (hd : decode M.2.1 pc = .ok (.astore_n k4, 1)) (hi : (k4 : Nat) = i) (hn : i < M.2.2.1) (hnl : nw_nl ls i = true) (k : nw_Ev l g d M (pc + 1) (ls.set i (some (.ref x))) st sh I kc ks Post) : nw_Ev l g d M pc ls (.ref x :: st) sh I kc ks Post := fun p e R s m args below meth c H locs cells slots Q la cx ws wh hs hl h1 h2 hr => lv_astore_n cx.1 cx.2.1 hd hi (nw_al_has hl) hn rfl (fun la1 hh => have hl1 := nw_put1 hnl hh; k p e R s m args below meth c H locs cells slots Q la1 cx ws wh hs hl1 h1 h2 hr)
theorem ev_lstore {i : Nat} {x : Int64} (hd : decode M.2.1 pc = .ok (.lstore i, 2)) (hn : i + 1 < M.2.2.1) (hnl : nw_nl ls i = true) (k : nw_Ev l g d M (pc + 2) ((ls.set i (some (.long x))).set (i + 1) none) st sh I kc ks Post) : nw_Ev l g d M pc ls (.long x :: st) sh I kc ks Post := fun p e R s m args below meth c H locs cells slots Q la cx ws wh hs hl h1 h2 hr => lv_lstore cx.1 cx.2.1 hd (nw_al_has hl) hn rfl (fun la1 hh => have hl1 := nw_put2 hnl hh; k p e R s m args below meth c H locs cells slots Q la1 cx ws wh hs hl1 h1 h2 hr)
theorem ev_iinc {i : Nat} {n : Int} {x : Int32} (hd : decode M.2.1 pc = .ok (.iinc i n, 3)) (hv : ls[i]? = some (some (.int x))) (hn : i < M.2.2.1) (hnl : nw_nl ls i = true) (k : nw_Ev l g d M (pc + 3) (ls.set i (some (.int (x + Int32.ofInt n)))) st sh I kc ks Post) : nw_Ev l g d M pc ls st sh I kc ks Post := fun p e R s m args below meth c H locs cells slots Q la cx ws wh hs hl h1 h2 hr => by
  obtain ⟨j, hj⟩ := List.getElem?_of_mem ((nw_al_mem ls 0 i (.int x)).mpr ⟨i, by omega, hv⟩)
  exact lv_iinc cx.1 cx.2.1 hd (nw_al_has hl) hj rfl hn rfl (fun la1 hh => have hl1 := nw_put1 hnl hh; k p e R s m args below meth c H locs cells slots Q la1 cx ws wh hs hl1 h1 h2 hr)
theorem ev_ldc {i : Nat} {v : Int32} (hq : Cond.constant M.1.cls i v ∈ nw_gw) (hd : decode M.2.1 pc = .ok (.ldc i, 2)) (k : nw_Ev l g d M (pc + 2) ls (.int v :: st) sh I kc ks Post) : nw_Ev l g d M pc ls st sh I kc ks Post := fun p e R s m args below meth c H locs cells slots Q la cx ws wh hs hl h1 h2 hr => lv_ldc cx.1 cx.2.1 cx.2.2.2.1 (cx.2.2.2.2.1 _ hq) hd (k p e R s m args below meth c H locs cells slots Q la cx ws wh hs hl h1 h2 hr)
theorem ev_ldcw {i : Nat} {v : Int32} (hq : Cond.constant M.1.cls i v ∈ nw_gw) (hd : decode M.2.1 pc = .ok (.ldc_w i, 3)) (k : nw_Ev l g d M (pc + 3) ls (.int v :: st) sh I kc ks Post) : nw_Ev l g d M pc ls st sh I kc ks Post := fun p e R s m args below meth c H locs cells slots Q la cx ws wh hs hl h1 h2 hr => lv_ldcw cx.1 cx.2.1 cx.2.2.2.1 (cx.2.2.2.2.1 _ hq) hd (k p e R s m args below meth c H locs cells slots Q la cx ws wh hs hl h1 h2 hr)
theorem ev_ldc2 {i : Nat} {v : Int64} (hq : Cond.constantLong M.1.cls i v ∈ nw_gw) (hd : decode M.2.1 pc = .ok (.ldc2_w i, 3)) (k : nw_Ev l g d M (pc + 3) ls (.long v :: st) sh I kc ks Post) : nw_Ev l g d M pc ls st sh I kc ks Post := fun p e R s m args below meth c H locs cells slots Q la cx ws wh hs hl h1 h2 hr => lv_ldc2 cx.1 cx.2.1 cx.2.2.2.1 (cx.2.2.2.2.1 _ hq) hd (k p e R s m args below meth c H locs cells slots Q la cx ws wh hs hl h1 h2 hr)
theorem ev_ireturn {x : Int32} (hd : decode M.2.1 pc = .ok (.ireturn, 1)) (hp : Post (some x) sh I) : nw_Ev l g d M pc ls [.int x] sh I 0 0 Post := fun p e R s m args below meth c H locs cells slots Q la cx ws wh hs hl h1 h2 hr => hr (some x) sh I H locs hp wh hs pc la hd
theorem ev_return (hd : decode M.2.1 pc = .ok (.return_, 1)) (hp : Post none sh I) : nw_Ev l g d M pc ls [] sh I 0 0 Post := fun p e R s m args below meth c H locs cells slots Q la cx ws wh hs hl h1 h2 hr => hr none sh I H locs hp wh hs pc la hd
theorem ev_post {Post1 : Option Int32 → List nw_Sh → nw_Me → Prop} (h : ∀ v sh1 I1, Post1 v sh1 I1 → Post v sh1 I1) (k : nw_Ev l g d M pc ls st sh I kc ks Post1) : nw_Ev l g d M pc ls st sh I kc ks Post := fun p e R s m args below meth c H locs cells slots Q la cx ws wh hs hl h1 h2 hr => k p e R s m args below meth c H locs cells slots Q la cx ws wh hs hl h1 h2 (fun v sh1 I1 H1 locs1 hp => hr v sh1 I1 H1 locs1 (h v sh1 I1 hp))
theorem ev_deep {d1 : Nat} (h : d ≤ d1) (k : nw_Ev l g d M pc ls st sh I kc ks Post) : nw_Ev l g d1 M pc ls st sh I kc ks Post := fun p e R s m args below meth c H locs cells slots Q la cx ws wh hs hl h1 h2 hr => k p e R s m args below meth c H locs cells slots Q la ⟨cx.1, cx.2.1, cx.2.2.1, cx.2.2.2.1, cx.2.2.2.2.1, cx.2.2.2.2.2.1, by have := cx.2.2.2.2.2.2.1; omega, by have := cx.2.2.2.2.2.2.2; omega⟩ ws wh hs hl h1 h2 hr

theorem nw_Wh.obj {H : Heap} (h : nw_Wh g sh I H) {k ci : Nat} {fs : List (Option (Option Nat))} (hk : sh[k]? = some (.inr (ci, fs))) (hci : ci < 100) : va_P (nw_D g) nw_cl [(nw_a g k, .inr (ci, nw_fs g I k 0 fs))] H := by
  intro j q hq
  have hj : j < 1 := (List.getElem?_eq_some_iff.mp hq).1
  rw [show j = 0 by omega] at hq
  cases hq
  have := h.2 k _ hk
  simpa only [nw_e, if_pos hci] using this
theorem nw_Wh.arr {H : Heap} (h : nw_Wh g sh I H) {k t n : Nat} (hk : sh[k]? = some (.inl (t, n))) : va_P (nw_D g) nw_cl [(nw_a g k, .inl (nw_ca g t, n, .inl (I k)))] H := by
  intro j q hq
  have hj : j < 1 := (List.getElem?_eq_some_iff.mp hq).1
  rw [show j = 0 by omega] at hq
  cases hq
  exact h.2 k _ hk
theorem nw_Wh.row {H : Heap} (h : nw_Wh g sh I H) {k t : Nat} {fs : List (Option (Option Nat))} (hk : sh[k]? = some (.inr (100 + t, fs))) : va_P (nw_D g) nw_cl [(nw_a g k, .inl (nw_ca g t, fs.length, .inr (.inr (.inr (.inr (nw_rf g fs))))))] H := by
  intro j q hq
  have hj : j < 1 := (List.getElem?_eq_some_iff.mp hq).1
  rw [show j = 0 by omega] at hq
  cases hq
  have := h.2 k _ hk
  simpa only [nw_e, if_neg (show ¬ 100 + t < 100 by omega), Nat.add_sub_cancel_left] using this
/-- every class's fields are laid as the tables say -/
theorem nw_lays {ci : Nat} {C : String} {T : u_T} {N : Nat} (h : nw_cl[ci]? = some (C, T, N)) : ∀ w ∈ u_ws C T N, w ∈ nw_gw := by
  match ci, h with
  | 0, h => cases h; exact nw_in0
  | 1, h => cases h; exact nw_in1
  | 2, h => cases h; exact nw_in2
  | 3, h => cases h; exact nw_in3
  | 4, h => cases h; exact nw_in4
  | 5, h => cases h; exact nw_in5
  | 6, h => cases h; exact nw_in6
  | 7, h => cases h; exact nw_in7
  | 8, h => cases h; exact nw_in8
  | 9, h => cases h; exact nw_in9
  | k + 10, h => simp [nw_cl] at h
def nw_tyf (ci : Nat) : Nat → FieldType := match ci with
  | 0 => tyX0
  | 1 => tyX1
  | 2 => tyX2
  | 3 => tyX3
  | 4 => tyX5
  | 5 => tyX6
  | 6 => tyX7
  | 7 => tyX8
  | 8 => tyX9
  | _ => tyX10
theorem nw_tyf_ok {ci : Nat} {C : String} {T : u_T} {N : Nat} (h : nw_cl[ci]? = some (C, T, N)) : ∀ k, k < N → parseFieldDescriptor (T k).2.2.1 = some (nw_tyf ci k) := by
  match ci, h with
  | 0, h => cases h; exact tyX0_ok
  | 1, h => cases h; exact tyX1_ok
  | 2, h => cases h; exact tyX2_ok
  | 3, h => cases h; exact tyX3_ok
  | 4, h => cases h; exact tyX5_ok
  | 5, h => cases h; exact tyX6_ok
  | 6, h => cases h; exact tyX7_ok
  | 7, h => cases h; exact tyX8_ok
  | 8, h => cases h; exact tyX9_ok
  | 9, h => cases h; exact tyX10_ok
  | k + 10, h => simp [nw_cl] at h
theorem nw_nmf {ci : Nat} {C : String} {T : u_T} {N : Nat} (h : nw_cl[ci]? = some (C, T, N)) : ∀ a, a < N → ∀ b, b < N → a ≠ b → (T a).2.1 ≠ (T b).2.1 := by
  match ci, h with
  | 0, h => cases h; exact nmX0
  | 1, h => cases h; exact nmX1
  | 2, h => cases h; exact nmX2
  | 3, h => cases h; exact nmX3
  | 4, h => cases h; exact nmX5
  | 5, h => cases h; exact nmX6
  | 6, h => cases h; exact nmX7
  | 7, h => cases h; exact nmX8
  | 8, h => cases h; exact nmX9
  | 9, h => cases h; exact nmX10
  | k + 10, h => simp [nw_cl] at h
theorem ev_get {i ci k f : Nat} {fs : List (Option (Option Nat))} {o : Option (Option Nat)} {v : Value} (hf : nw_fl M.1.cls i ci f) (hd : decode M.2.1 pc = .ok (.getfield i, 3)) (hk : sh[k]? = some (.inr (ci, fs))) (ho : fs[f]? = some o) (hv : nw_fv g I k f o = v) (hci : ci < 100)
    (kk : nw_Ev l g d M (pc + 3) ls (v :: st) sh I kc ks Post) : nw_Ev l g d M pc ls (.ref (nw_a g k) :: st) sh I kc ks Post := by
  intro p e R s m args below meth c H locs cells slots Q la cx ws wh hs hl h1 h2 hr
  obtain ⟨C, T, N, q1, q2, q3, q4⟩ := hf
  refine va_get (ref := C) (q0 := 0) (k := f) (v := v) cx.1 cx.2.1 cx.2.2.2.2.1 (nw_lays q1) cx.2.2.2.1 ws.2.1 (wh.obj hk hci) rfl q1 q2 (cx.2.2.2.2.1 _ q4) (fun x hx => by rw [← q3]; exact hx) ?_ hd (kk p e R s m args below meth c H locs cells slots Q la cx ws wh hs hl h1 h2 hr)
  rw [nw_fs_get, ho, ← hv, Nat.zero_add]
  rfl
theorem ev_getI {i ci k f : Nat} {fs : List (Option (Option Nat))} (hf : nw_fl M.1.cls i ci f) (hd : decode M.2.1 pc = .ok (.getfield i, 3)) (hk : sh[k]? = some (.inr (ci, fs))) (ho : fs[f]? = some none) (hci : ci < 100)
    (kk : nw_Ev l g d M (pc + 3) ls (.int (I k f) :: st) sh I kc ks Post) : nw_Ev l g d M pc ls (.ref (nw_a g k) :: st) sh I kc ks Post := ev_get hf hd hk ho rfl hci kk
theorem ev_getR {i ci k f j : Nat} {fs : List (Option (Option Nat))} (hf : nw_fl M.1.cls i ci f) (hd : decode M.2.1 pc = .ok (.getfield i, 3)) (hk : sh[k]? = some (.inr (ci, fs))) (ho : fs[f]? = some (some (some j))) (hci : ci < 100)
    (kk : nw_Ev l g d M (pc + 3) ls (.ref (nw_a g j) :: st) sh I kc ks Post) : nw_Ev l g d M pc ls (.ref (nw_a g k) :: st) sh I kc ks Post := ev_get hf hd hk ho rfl hci kk
/-- an int (or boolean) field that is not final -/
theorem ev_putI {i ci k f : Nat} {fs : List (Option (Option Nat))} {v : Int32} {T : u_T} {N : Nat} {C : String} (hf : nw_fl M.1.cls i ci f) (hd : decode M.2.1 pc = .ok (.putfield i, 3)) (hk : sh[k]? = some (.inr (ci, fs))) (ho : fs[f]? = some none) (hci : ci < 100) (hcl : nw_cl[ci]? = some (C, T, N)) (hfin : (T f).2.2.2 = false) (hn : narrow (nw_tyf ci f) (.int v) = .int v) (hfit : fits (nw_tyf ci f) (.int v) = true)
    (kk : nw_Ev l g d M (pc + 3) ls st sh (nw_up I k f v) kc ks Post) : nw_Ev l g d M pc ls (.int v :: .ref (nw_a g k) :: st) sh I kc ks Post := by
  intro p e R s m args below meth c H locs cells slots Q la cx ws wh hs hl h1 h2 hr
  obtain ⟨C', T', N', q1, q2, q3, q4⟩ := hf
  cases q1.symm.trans hcl
  have hts := cx.2.2.2.2.1
  have hP := wh.obj hk hci
  have hin := nw_lays hcl
  have hap := va_apart (own := M.1.cls) hts hin _ (nw_tyf_ok hcl) (nw_nmf hcl) ws.2.1 hcl
  obtain ⟨r, g1, cell, c1, c2, c3, c4⟩ := hP 0 _ rfl
  have hrr : r = (C, T, N) := Option.some.inj (g1.symm.trans hcl)
  subst hrr
  obtain ⟨hS, hfc, kC, hkC, hkind⟩ := ws.2.1.1 ci _ hcl
  obtain ⟨cf, kf, fi, fd, hi, hsl⟩ := hS f q2
  have hlay := hts _ (hin _ (u_in_lay q2))
  unfold u_lay at hlay
  rw [if_neg (by rw [hfin]; decide)] at hlay
  have hst := (u_facts hfc hkC (u_lays hts hin q2) hi).1
  have h6 := u_store hfc hkC hkind hlay hi (nw_tyf_ok hcl f q2) hn hfit
  have hi' : s.fieldFound? C (T f).2.1 (T f).2.2.1 = some (cf, kf, fi, fd) := by rw [← q3]; exact hi
  refine W.putK cx.1 cx.2.1 (f := fd) ⟨cx.2.2.2.1, hts _ q4, ⟨_, _, _, hi'⟩, hst⟩ (by rw [c2]; exact h6) c1 c3 (by rw [hsl]; exact k2_hasslot (c4 f q2)) rfl rfl hd fun H' e1 e2 e3 => ?_
  rw [hsl] at e1 ⊢
  have hlen : k < sh.length := (List.getElem?_eq_some_iff.mp hk).1
  have wh' : nw_Wh g sh (nw_up I k f v) H' := by
    refine wh.set (c' := .inr (ci, fs)) (nw_set_self hk) (fun j hj => nw_up_ne hj) e2 e3 hlen ?_
    simp only [nw_e, if_pos hci]
    rw [nw_fs_up g I k f v ho]
    exact ⟨_, hcl, t_OB.to (V := updV (vp_V (nw_fs g I k 0 fs)) f (.int v)) ⟨_, e1, c2, c3, t_set c4 hap q2 _⟩ (fun j _ => vp_updV_set (by rw [nw_fs_len]; exact (List.getElem?_eq_some_iff.mp ho).1) _ j)⟩
  exact kk p e R s m args below meth c H' _ cells slots Q la cx ws wh' (hs.put e2 e3 (nw_A_a g k)) hl h1 h2 hr

theorem ev_iald {k n : Nat} {i : Int32} (hd : decode M.2.1 pc = .ok (.iaload, 1)) (hk : sh[k]? = some (.inl (0, n))) (hin : vp_in i n)
    (kk : nw_Ev l g d M (pc + 1) ls (.int (I k i.toNatClampNeg) :: st) sh I kc ks Post) : nw_Ev l g d M pc ls (.int i :: .ref (nw_a g k) :: st) sh I kc ks Post :=
  fun p e R s m args below meth c H locs cells slots Q la cx ws wh hs hl h1 h2 hr => va_iald (q0 := 0) (t0 := 0) cx.1 cx.2.1 ws.2.1 (wh.arr hk) rfl rfl hin hd (kk p e R s m args below meth c H locs cells slots Q la cx ws wh hs hl h1 h2 hr)
theorem ev_zald {k n : Nat} {i : Int32} (hd : decode M.2.1 pc = .ok (.baload, 1)) (hk : sh[k]? = some (.inl (1, n))) (hin : vp_in i n)
    (kk : nw_Ev l g d M (pc + 1) ls (.int (I k i.toNatClampNeg) :: st) sh I kc ks Post) : nw_Ev l g d M pc ls (.int i :: .ref (nw_a g k) :: st) sh I kc ks Post :=
  fun p e R s m args below meth c H locs cells slots Q la cx ws wh hs hl h1 h2 hr => va_zald (q0 := 0) (t0 := 1) cx.1 cx.2.1 ws.2.1 (wh.arr hk) rfl rfl hin hd (kk p e R s m args below meth c H locs cells slots Q la cx ws wh hs hl h1 h2 hr)
theorem nw_ast {H H' : Heap} (wh : nw_Wh g sh I H) {k t n : Nat} {i : Nat} {x : Int32} (hk : sh[k]? = some (.inl (t, n))) (e : H'[nw_a g k]? = some ((vp_cell (nw_ca g t) (n, .inl (I k))).setSlot i (.int x))) (e2 : H'.size = H.size) (e3 : ∀ q, q ≠ nw_a g k → H'[q]? = H[q]?) : nw_Wh g sh (nw_up I k i x) H' := by
  refine wh.set (c' := .inl (t, n)) (nw_set_self hk) (fun j hj => nw_up_ne hj) e2 e3 (List.getElem?_eq_some_iff.mp hk).1 ?_
  show H'[nw_a g k]? = some (vp_cell (nw_ca g t) (n, .inl (nw_up I k i x k)))
  rw [e, nw_up_self, vp_cell_i, vp_cell_i, arrV_store]
  congr 2
  funext q
  by_cases hq : q = i
  · subst hq
    simp [updV, upd]
  · simp [updV, upd, hq]
theorem ev_iast {k n : Nat} {i x : Int32} (hd : decode M.2.1 pc = .ok (.iastore, 1)) (hk : sh[k]? = some (.inl (0, n))) (hin : vp_in i n)
    (kk : nw_Ev l g d M (pc + 1) ls st sh (nw_up I k i.toNatClampNeg x) kc ks Post) : nw_Ev l g d M pc ls (.int x :: .int i :: .ref (nw_a g k) :: st) sh I kc ks Post := by
  intro p e R s m args below meth c H locs cells slots Q la cx ws wh hs hl h1 h2 hr
  refine W.iast cx.1 cx.2.1 (wh.arr hk 0 _ rfl) ((ws.2.1.2 0 _ rfl).1 n (fun j => .int (I k j))) (fun q => by cases q) (by show ¬ (i < 0 ∨ (arrV _ _ _).slots.size ≤ _); rw [arrV_size]; exact hin) rfl rfl hd fun H1 e1 e2 e3 => ?_
  exact kk p e R s m args below meth c H1 _ cells slots Q la cx ws (nw_ast wh hk e1 e2 e3) (hs.put e2 e3 (nw_A_a g k)) hl h1 h2 hr
theorem ev_zast {k n : Nat} {i x : Int32} (hd : decode M.2.1 pc = .ok (.bastore, 1)) (hk : sh[k]? = some (.inl (1, n))) (hin : vp_in i n) (hx : narrow .boolean (.int x) = .int x)
    (kk : nw_Ev l g d M (pc + 1) ls st sh (nw_up I k i.toNatClampNeg x) kc ks Post) : nw_Ev l g d M pc ls (.int x :: .int i :: .ref (nw_a g k) :: st) sh I kc ks Post := by
  intro p e R s m args below meth c H locs cells slots Q la cx ws wh hs hl h1 h2 hr
  refine W.zast cx.1 cx.2.1 (wh.arr hk 0 _ rfl) ((ws.2.1.2 1 _ rfl).1 n (fun j => .int (I k j))) (fun q => by cases q) (by show ¬ (i < 0 ∨ (arrV _ _ _).slots.size ≤ _); rw [arrV_size]; exact hin) rfl rfl hd fun H1 e1 e2 e3 => ?_
  rw [hx] at e1
  exact kk p e R s m args below meth c H1 _ cells slots Q la cx ws (nw_ast wh hk e1 e2 e3) (hs.put e2 e3 (nw_A_a g k)) hl h1 h2 hr
theorem nw_aald {t k : Nat} {ty : FieldType} {i : Int32} {j : Nat} {fs : List (Option (Option Nat))} (hty : (nw_ty g)[t]? = some (nw_ca g t, ty)) (href : ty.isReference = true) (hd : decode M.2.1 pc = .ok (.aaload, 1)) (hk : sh[k]? = some (.inr (100 + t, fs))) (hin : vp_in i fs.length) (hj : fs[i.toNatClampNeg]? = some (some (some j)))
    (kk : nw_Ev l g d M (pc + 1) ls (.ref (nw_a g j) :: st) sh I kc ks Post) : nw_Ev l g d M pc ls (.int i :: .ref (nw_a g k) :: st) sh I kc ks Post := by
  intro p e R s m args below meth c H locs cells slots Q la cx ws wh hs hl h1 h2 hr
  have hlt : i.toNatClampNeg < fs.length := Nat.not_le.mp fun q => hin (Or.inr q)
  refine W.aald (v := .ref (nw_a g j)) (ty := ty) cx.1 cx.2.1 (wh.row hk 0 _ rfl) ((ws.2.1.2 t _ hty).1 fs.length (fun j => va_rf (nw_rf g fs j))) href (fun q => by cases q) (by show ¬ (i < 0 ∨ (arrV _ _ _).slots.size ≤ _); rw [arrV_size]; exact hin) (by show (arrV _ _ _).slots[_]? = _; rw [arrV_read _ _ hlt]; simp [nw_rf, hj, va_rf]) rfl rfl hd (kk p e R s m args below meth c H locs cells slots Q la cx ws wh hs hl h1 h2 hr)
/-- the script, NEXT, TOLD -/
theorem ev_sld {i : Int32} (hd : decode M.2.1 pc = .ok (.iaload, 1)) (hin : vp_in i (nw_L g)) (kk : nw_Ev l g d M (pc + 1) ls (.int (nw_xs g i.toNatClampNeg) :: st) sh I kc ks Post) : nw_Ev l g d M pc ls (.int i :: .ref (nw_sc g) :: st) sh I kc ks Post :=
  fun p e R s m args below meth c H locs cells slots Q la cx ws wh hs hl h1 h2 hr => va_sld cx.1 cx.2.1 ws.2.2.1 (nw_X_lt ws.2.2.1) (fun h => by unfold nw_A at h; have := ws.2.2.2.2.2.2.2.1; omega) hs hin hd (kk p e R s m args below meth c H locs cells slots Q la cx ws wh hs hl h1 h2 hr)
theorem ev_slen (hd : decode M.2.1 pc = .ok (.arraylength, 1)) (kk : nw_Ev l g d M (pc + 1) ls (.int (Int32.ofNat (nw_L g)) :: st) sh I kc ks Post) : nw_Ev l g d M pc ls (.ref (nw_sc g) :: st) sh I kc ks Post :=
  fun p e R s m args below meth c H locs cells slots Q la cx ws wh hs hl h1 h2 hr => va_slen cx.1 cx.2.1 ws.2.2.1 (nw_X_lt ws.2.2.1) (fun h => by unfold nw_A at h; have := ws.2.2.2.2.2.2.2.1; omega) hs hd (kk p e R s m args below meth c H locs cells slots Q la cx ws wh hs hl h1 h2 hr)
theorem ev_nld {i : Int32} (hd : decode M.2.1 pc = .ok (.iaload, 1)) (hin : vp_in i 6) (kk : nw_Ev l g d M (pc + 1) ls (.int (nw_NEXT i.toNatClampNeg) :: st) sh I kc ks Post) : nw_Ev l g d M pc ls (.int i :: .ref (nw_nx g) :: st) sh I kc ks Post :=
  fun p e R s m args below meth c H locs cells slots Q la cx ws wh hs hl h1 h2 hr => va_sld cx.1 cx.2.1 ws.2.2.2.1 (nw_X_lt ws.2.2.2.1) (fun h => by unfold nw_A at h; have := ws.2.2.2.2.2.2.2.2.1; omega) hs hin hd (kk p e R s m args below meth c H locs cells slots Q la cx ws wh hs hl h1 h2 hr)
theorem ev_nlen (hd : decode M.2.1 pc = .ok (.arraylength, 1)) (kk : nw_Ev l g d M (pc + 1) ls (.int 6 :: st) sh I kc ks Post) : nw_Ev l g d M pc ls (.ref (nw_nx g) :: st) sh I kc ks Post :=
  fun p e R s m args below meth c H locs cells slots Q la cx ws wh hs hl h1 h2 hr => va_slen cx.1 cx.2.1 ws.2.2.2.1 (nw_X_lt ws.2.2.2.1) (fun h => by unfold nw_A at h; have := ws.2.2.2.2.2.2.2.2.1; omega) hs hd (kk p e R s m args below meth c H locs cells slots Q la cx ws wh hs hl h1 h2 hr)
theorem ev_tld {i : Int32} (hd : decode M.2.1 pc = .ok (.iaload, 1)) (hin : vp_in i 12) (kk : nw_Ev l g d M (pc + 1) ls (.int (nw_TOLD i.toNatClampNeg) :: st) sh I kc ks Post) : nw_Ev l g d M pc ls (.int i :: .ref (nw_td g) :: st) sh I kc ks Post :=
  fun p e R s m args below meth c H locs cells slots Q la cx ws wh hs hl h1 h2 hr => va_sld cx.1 cx.2.1 ws.2.2.2.2.1 (nw_X_lt ws.2.2.2.2.1) (fun h => by unfold nw_A at h; have := ws.2.2.2.2.2.2.2.2.2.1; omega) hs hin hd (kk p e R s m args below meth c H locs cells slots Q la cx ws wh hs hl h1 h2 hr)
theorem ev_gets_next {i : Nat} (hq : Cond.fieldLink M.1.cls i RX4 "NEXT" "[I" ∈ nw_gw) (hd : decode M.2.1 pc = .ok (.getstatic i, 3)) (kk : nw_Ev l g d M (pc + 3) ls (.ref (nw_nx g) :: st) sh I kc ks Post) : nw_Ev l g d M pc ls st sh I kc ks Post :=
  fun p e R s m args below meth c H locs cells slots Q la cx ws wh hs hl h1 h2 hr => va_gets cx.1 cx.2.1 ws.2.2.2.2.2.1 hs cx.2.2.2.1 (cx.2.2.2.2.1 _ hq) (fun _ h => h) hd (kk p e R s m args below meth c H locs cells slots Q la cx ws wh hs hl h1 h2 hr)
theorem ev_gets_told {i : Nat} (hq : Cond.fieldLink M.1.cls i RX1 "TOLD" "[I" ∈ nw_gw) (hd : decode M.2.1 pc = .ok (.getstatic i, 3)) (kk : nw_Ev l g d M (pc + 3) ls (.ref (nw_td g) :: st) sh I kc ks Post) : nw_Ev l g d M pc ls st sh I kc ks Post :=
  fun p e R s m args below meth c H locs cells slots Q la cx ws wh hs hl h1 h2 hr => va_gets cx.1 cx.2.1 ws.2.2.2.2.2.2.1 hs cx.2.2.2.1 (cx.2.2.2.2.1 _ hq) (fun _ h => h) hd (kk p e R s m args below meth c H locs cells slots Q la cx ws wh hs hl h1 h2 hr)

end
