/-! Calls, makings, copies. -/
theorem nw_good : GoodIn nw_gw nw_gw := fun w hw => ⟨hw, good_of_word (List.mem_filter.mp hw).2⟩
def nw_rm (d kc ks : Nat) : Room := { frames := d + 1, cells := kc, slots := ks, locals := 60 * (d + 1) }
def nw_wsM (M : nw_Mt) : List Cond := Cond.code M.1 M.2.1 M.2.2.1 M.2.2.2 :: nw_gw
theorem nw_goodM {M : nw_Mt} {n : Nat} (hk : nw_ok M n) : GoodIn nw_gw (nw_wsM M) := fun w h => (List.mem_cons.mp h).elim (fun e => by rw [e]; exact nw_good _ hk.1) (fun h => nw_good w h)
def nw_Pc (g : nw_G) (sh : List nw_Sh) (I : nw_Me) (av : List Value) : Array Value → State → Prop := va_Pc av (fun U => nw_Ws g U ∧ nw_Wh g sh I U.heap)
theorem nw_blind (g : nw_G) (sh : List nw_Sh) (I : nw_Me) (av : List Value) : FrameBlind (nw_Pc g sh I av) := fun a U g' mk q => ⟨q.1, q.2.1.go (H := U.heap) (locs := []) va_S.rf rfl (State.WarmedH.refl U), q.2.2⟩
theorem nw_sys_i : Cond.initialized "java/lang/System" ∈ nw_gw := tb_in (i := 11) (by decide +kernel)
theorem nw_math_i : Cond.initialized "java/lang/Math" ∈ nw_gw := tb_in (i := 13) (by decide +kernel)
theorem nw_cpy_s : Cond.static arraycopyName ∈ nw_gw := tb_in (i := 359) (by decide +kernel)
theorem nw_cpy_n : Cond.native arraycopyName ∈ nw_gw := tb_in (i := 360) (by decide +kernel)
theorem nw_min_s : Cond.static Lib.Math.min.name ∈ nw_gw := tb_in (i := 484) (by decide +kernel)
theorem nw_min_c : Cond.code Lib.Math.min.name Lib.Math.min.code 2 (some .int) ∈ nw_gw := tb_in (i := 485) (by decide +kernel)
theorem nw_max_s : Cond.static Lib.Math.max.name ∈ nw_gw := tb_in (i := 507) (by decide +kernel)
theorem nw_max_c : Cond.code Lib.Math.max.name Lib.Math.max.code 2 (some .int) ∈ nw_gw := tb_in (i := 508) (by decide +kernel)
theorem jX7_23 : Cond.methodLink RX7 23 arraycopyName ∈ nw_gw := tb_in (i := 358) (by decide +kernel)
theorem jX2_38 : Cond.methodLink RX2 38 arraycopyName ∈ nw_gw := tb_in (i := 459) (by decide +kernel)
theorem jX8_37 : Cond.methodLink RX8 37 arraycopyName ∈ nw_gw := tb_in (i := 464) (by decide +kernel)
theorem jX5_71 : Cond.methodLink RX5 71 arraycopyName ∈ nw_gw := tb_in (i := 660) (by decide +kernel)
theorem jX0_27 : Cond.methodLink RX0 27 Lib.Math.min.name ∈ nw_gw := tb_in (i := 483) (by decide +kernel)
theorem jX2_54 : Cond.methodLink RX2 54 Lib.Math.max.name ∈ nw_gw := tb_in (i := 506) (by decide +kernel)
theorem jX8_79 : Cond.methodLink RX8 79 Lib.Math.max.name ∈ nw_gw := tb_in (i := 546) (by decide +kernel)
theorem jX9_1 : Cond.methodLink RX9 1 objectInit ∈ nw_gw := tb_in (i := 19) (by decide +kernel)
theorem jX7_3 : Cond.methodLink RX7 3 objectInit ∈ nw_gw := tb_in (i := 27) (by decide +kernel)
theorem jX6_1 : Cond.methodLink RX6 1 objectInit ∈ nw_gw := tb_in (i := 46) (by decide +kernel)
theorem jX2_1 : Cond.methodLink RX2 1 objectInit ∈ nw_gw := tb_in (i := 72) (by decide +kernel)
theorem jX8_3 : Cond.methodLink RX8 3 objectInit ∈ nw_gw := tb_in (i := 130) (by decide +kernel)
theorem jX0_1 : Cond.methodLink RX0 1 objectInit ∈ nw_gw := tb_in (i := 171) (by decide +kernel)
theorem jX5_1 : Cond.methodLink RX5 1 objectInit ∈ nw_gw := tb_in (i := 191) (by decide +kernel)
theorem jX1_1 : Cond.methodLink RX1 1 objectInit ∈ nw_gw := tb_in (i := 219) (by decide +kernel)
theorem jX3_1 : Cond.methodLink RX3 1 objectInit ∈ nw_gw := tb_in (i := 247) (by decide +kernel)
theorem jX10_1 : Cond.methodLink RX10 1 objectInit ∈ nw_gw := tb_in (i := 804) (by decide +kernel)
section
variable {l : Launch} {g : nw_G} {d : Nat} {M M' : nw_Mt} {pc n : Nat} {ls : List (Option Value)} {st av : List Value} {sh : List nw_Sh} {I : nw_Me} {kc ks kc1 ks1 : Nat} {Post Post1 : Option Int32 → List nw_Sh → nw_Me → Prop}
theorem nw_metI {ty : FieldType} (h : nw_EM l g d M av sh I kc ks Post) (hk : nw_ok M n) (hret : M.2.2.2 = some ty) (hnar : ∀ v sh' I', Post v sh' I' → ∃ x, v = some x ∧ narrow ty (.int x) = .int x) (hlen : (nw_lo av).length ≤ M.2.2.1) :
    Met l M.1 (nw_wsM M) (nw_rm d kc ks) (nw_Pc g sh I av) (va_Qi (S := List nw_Sh × nw_Me) (fun r u => Post (some r) u.1 u.2) (fun u t => nw_Wh g u.1 u.2 t.heap) (nw_A g)) kc ks (nw_A g) := by
  refine Met.ofW (cc := M.2.1) (maxL := M.2.2.1) (ret := M.2.2.2) hk.2.2.2.1 rfl ?_
  intro p e s m args below meth c s₁ B hml hv
  obtain ⟨rfl, hWs, hWh⟩ := hv
  have hts := atoms_spec (ws := nw_wsM M) B.pre
  rw [lg_entry_eq]
  refine h p e _ s m _ below meth c s.heap [] 0 0 _ _ ⟨B.exec, B.bytes, hml, findClass_of_methodNamed B.named, fun w hw => hts w (List.mem_cons_of_mem _ hw), (name_of_methodNamed B.named B.method).1, Nat.le_refl _, Nat.le_refl _⟩ hWs hWh va_S.rf (nw_entry M av hlen) (by show 0 + kc ≤ kc; omega) (by show 0 + ks ≤ ks; omega) ?_
  intro v sh' I' H' locs' hp wh' hs'
  obtain ⟨x, rfl, hx⟩ := hnar v sh' I' hp
  intro pc la hd
  rw [Nat.zero_add, Nat.zero_add]
  exact W.zret B.exec B.bytes (B.returns.trans hret) hx (fun t ht hW => ⟨⟨x, (sh', I'), rfl, hp, by show nw_Wh g sh' I' t.heap; rw [ht]; exact wh'⟩, hs'.F ht⟩) (fun q hq => hs'.2.2 q hq) hd B.notSynchronized
theorem nw_metV (h : nw_EM l g d M av sh I kc ks Post) (hk : nw_ok M n) (hret : M.2.2.2 = none) (hnar : ∀ v sh' I', Post v sh' I' → v = none) (hlen : (nw_lo av).length ≤ M.2.2.1) :
    Met l M.1 (nw_wsM M) (nw_rm d kc ks) (nw_Pc g sh I av) (va_Qv (S := List nw_Sh × nw_Me) (fun u => Post none u.1 u.2) (fun u t => nw_Wh g u.1 u.2 t.heap) (nw_A g)) kc ks (nw_A g) := by
  refine Met.ofW (cc := M.2.1) (maxL := M.2.2.1) (ret := M.2.2.2) hk.2.2.2.1 rfl ?_
  intro p e s m args below meth c s₁ B hml hv
  obtain ⟨rfl, hWs, hWh⟩ := hv
  have hts := atoms_spec (ws := nw_wsM M) B.pre
  rw [lg_entry_eq]
  refine h p e _ s m _ below meth c s.heap [] 0 0 _ _ ⟨B.exec, B.bytes, hml, findClass_of_methodNamed B.named, fun w hw => hts w (List.mem_cons_of_mem _ hw), (name_of_methodNamed B.named B.method).1, Nat.le_refl _, Nat.le_refl _⟩ hWs hWh va_S.rf (nw_entry M av hlen) (by show 0 + kc ≤ kc; omega) (by show 0 + ks ≤ ks; omega) ?_
  intro v sh' I' H' locs' hp wh' hs'
  have := hnar v sh' I' hp
  subst this
  intro pc la hd
  rw [Nat.zero_add, Nat.zero_add]
  exact W.vret B.exec B.bytes (B.returns.trans hret) (fun t ht hW => ⟨⟨(sh', I'), rfl, hp, by show nw_Wh g sh' I' t.heap; rw [ht]; exact wh'⟩, hs'.F ht⟩) (fun q hq => hs'.2.2 q hq) hd B.notSynchronized
theorem nw_callB {p : Program} {R : Room} {s : State} {m : MethodId} {args : Array Value} {meth : Method} {c : Code} {i : Nat} (cx : nw_Cx p R s m args meth c (d + 1) M) (hk : nw_ok M' n) (hl : nw_ml M.1.cls i M') : CallB R s args M.1.cls i M'.1 M'.2.1 M'.2.2.1 M'.2.2.2 (nw_wsM M') (nw_rm d kc ks) kc ks n :=
  callB_of n cx.2.2.2.2.1 (nw_goodM hk) rfl rfl rfl (cx.2.2.2.2.1 _ hk.2.1) (cx.2.2.2.2.1 _ hl) hk.2.2.1 ⟨cx.2.2.2.2.2.2.1, by have h1 := cx.2.2.2.2.2.2.2; have h2 := hk.2.2.2.2; show 8 + (M'.2.2.1 + 11) + 60 * (d + 1) ≤ R.locals; omega⟩
theorem nw_callN {p : Program} {R : Room} {s : State} {m : MethodId} {args : Array Value} {meth : Method} {c : Code} {i : Nat} {host : String} (cx : nw_Cx p R s m args meth c (d + 1) M) (hk : nw_ok M' n) (hl : va_Nw (.methodLinkNest M.1.cls i M'.1 host) s) : va_CN R s args M.1.cls i M'.1 host M'.2.1 M'.2.2.1 M'.2.2.2 (nw_wsM M') (nw_rm d kc ks) kc ks n :=
  va_cnB n cx.2.2.2.2.1 (nw_goodM hk) rfl rfl rfl hl (cx.2.2.2.2.1 _ hk.2.1) hk.2.2.1 ⟨cx.2.2.2.2.2.2.1, by have h1 := cx.2.2.2.2.2.2.2; have h2 := hk.2.2.2.2; show 8 + (M'.2.2.1 + 11) + 60 * (d + 1) ≤ R.locals; omega⟩
theorem nw_pre {s U : State} {H : Heap} {locs : List Loc} (ws : nw_Ws g s) (wh : nw_Wh g sh I H) (hs : va_S (nw_A g) s.heap H locs) (av : List Value) : PreS s H (nw_Pc g sh I av) av := ⟨nw_blind g sh I av, fun U hU hW => ⟨rfl, ws.go hs hU hW, by rw [hU]; exact wh⟩⟩
/-- a virtual call that answers an int or a boolean -/
theorem ev_callVi {ty : FieldType} {i k ci N : Nat} {T : u_T} {fs : List (Option (Option Nat))} {As : List Value} (h : nw_EM l g d M' (.ref (nw_a g k) :: As) sh I kc1 ks1 Post1) (hl : nw_ml M.1.cls i M') (hk : nw_ok M' n) (hv : nw_iv M') (hd : decode M.2.1 pc = .ok (.invokevirtual i, 3)) (hret : M'.2.2.2 = some ty) (hnar : ∀ v sh' I', Post1 v sh' I' → ∃ x, v = some x ∧ narrow ty (.int x) = .int x) (hlen : (nw_lo (.ref (nw_a g k) :: As)).length ≤ M'.2.2.1) (hn : As.length = n)
    (hsh : sh[k]? = some (.inr (ci, fs))) (hci : ci < 100) (hcl : nw_cl[ci]? = some (M'.1.cls, T, N)) (hst : (st.map fun v => v.category).sum ≤ 8)
    (kk : ∀ r sh' I', Post1 (some r) sh' I' → nw_Ev l g (d + 1) M (pc + 3) ls (.int r :: st) sh' I' kc ks Post) : nw_Ev l g (d + 1) M pc ls (As.reverse ++ .ref (nw_a g k) :: st) sh I (kc1 + kc) (ks1 + ks) Post := by
  intro p e R s m args below meth c H locs cells slots Q la cx ws wh hs hlr h1 h2 hr
  have hpre := nw_pre (U := s) ws wh hs (.ref (nw_a g k) :: As)
  refine va_calli (va_runV (As := As) (rest := st) (C := M'.1.cls) ⟨cx.1, cx.2.1, cx.2.2.1, cx.2.2.2.1, cx.2.2.2.2.1⟩ (nw_metI h hk hret hnar hlen) ⟨nw_callB cx hk hl, cx.2.2.2.2.1 _ hv.1, cx.2.2.2.2.1 _ hv.2⟩ ⟨hpre.1, va_recv ws.2.1 (wh.obj hsh hci) hcl (q0 := 0) rfl, hpre.2⟩ rfl hn hlr.1 rfl (lv_room hst) hd ⟨by omega, by omega⟩) hs (fun q _ h => h) (fun q h => h) (fun r u t H1 locs1 ht hvm hw hB hz1 hk1 hS => ?_)
  rw [ht] at hB
  refine kk r u.1 u.2 hw p e R s m args below meth c H1 locs1 (cells + kc1) (slots + ks1) Q la cx ws hB hS hlr (by omega) (by omega) ?_
  intro v sh' I' H' locs' q1 q2 q3
  rw [Nat.add_assoc, Nat.add_assoc]
  exact hr v sh' I' H' locs' q1 q2 q3
theorem ev_callVv {i k ci N : Nat} {T : u_T} {fs : List (Option (Option Nat))} {As : List Value} (h : nw_EM l g d M' (.ref (nw_a g k) :: As) sh I kc1 ks1 Post1) (hl : nw_ml M.1.cls i M') (hk : nw_ok M' n) (hv : nw_iv M') (hd : decode M.2.1 pc = .ok (.invokevirtual i, 3)) (hret : M'.2.2.2 = none) (hnar : ∀ v sh' I', Post1 v sh' I' → v = none) (hlen : (nw_lo (.ref (nw_a g k) :: As)).length ≤ M'.2.2.1) (hn : As.length = n)
    (hsh : sh[k]? = some (.inr (ci, fs))) (hci : ci < 100) (hcl : nw_cl[ci]? = some (M'.1.cls, T, N)) (hst : (st.map fun v => v.category).sum ≤ 8)
    (kk : ∀ sh' I', Post1 none sh' I' → nw_Ev l g (d + 1) M (pc + 3) ls st sh' I' kc ks Post) : nw_Ev l g (d + 1) M pc ls (As.reverse ++ .ref (nw_a g k) :: st) sh I (kc1 + kc) (ks1 + ks) Post := by
  intro p e R s m args below meth c H locs cells slots Q la cx ws wh hs hlr h1 h2 hr
  have hpre := nw_pre (U := s) ws wh hs (.ref (nw_a g k) :: As)
  refine va_callv (va_runV (As := As) (rest := st) (C := M'.1.cls) ⟨cx.1, cx.2.1, cx.2.2.1, cx.2.2.2.1, cx.2.2.2.2.1⟩ (nw_metV h hk hret hnar hlen) ⟨nw_callB cx hk hl, cx.2.2.2.2.1 _ hv.1, cx.2.2.2.2.1 _ hv.2⟩ ⟨hpre.1, va_recv ws.2.1 (wh.obj hsh hci) hcl (q0 := 0) rfl, hpre.2⟩ rfl hn hlr.1 rfl (lv_room hst) hd ⟨by omega, by omega⟩) hs (fun q _ h => h) (fun q h => h) (fun u t H1 locs1 ht hvm hw hB hz1 hk1 hS => ?_)
  rw [ht] at hB
  refine kk u.1 u.2 hw p e R s m args below meth c H1 locs1 (cells + kc1) (slots + ks1) Q la cx ws hB hS hlr (by omega) (by omega) ?_
  intro v sh' I' H' locs' q1 q2 q3
  rw [Nat.add_assoc, Nat.add_assoc]
  exact hr v sh' I' H' locs' q1 q2 q3
/-- a static call that answers an int or a boolean -/
theorem ev_callSi {ty : FieldType} {i : Nat} {As : List Value} (h : nw_EM l g d M' As sh I kc1 ks1 Post1) (hl : nw_ml M.1.cls i M') (hk : nw_ok M' n) (hv : nw_ss M') (hd : decode M.2.1 pc = .ok (.invokestatic i, 3)) (hret : M'.2.2.2 = some ty) (hnar : ∀ v sh' I', Post1 v sh' I' → ∃ x, v = some x ∧ narrow ty (.int x) = .int x) (hlen : (nw_lo As).length ≤ M'.2.2.1) (hn : As.length = n) (hst : (st.map fun v => v.category).sum ≤ 8)
    (kk : ∀ r sh' I', Post1 (some r) sh' I' → nw_Ev l g (d + 1) M (pc + 3) ls (.int r :: st) sh' I' kc ks Post) : nw_Ev l g (d + 1) M pc ls (As.reverse ++ st) sh I (kc1 + kc) (ks1 + ks) Post := by
  intro p e R s m args below meth c H locs cells slots Q la cx ws wh hs hlr h1 h2 hr
  refine va_calli (va_runS (As := As) (rest := st) ⟨cx.1, cx.2.1, cx.2.2.1, cx.2.2.2.1, cx.2.2.2.2.1⟩ (nw_metI h hk hret hnar hlen) ⟨nw_callB cx hk hl, cx.2.2.2.2.1 _ hv⟩ (nw_pre (U := s) ws wh hs As) rfl hn hlr.1 rfl (lv_room hst) hd ⟨by omega, by omega⟩) hs (fun q _ h => h) (fun q h => h) (fun r u t H1 locs1 ht hvm hw hB hz1 hk1 hS => ?_)
  rw [ht] at hB
  refine kk r u.1 u.2 hw p e R s m args below meth c H1 locs1 (cells + kc1) (slots + ks1) Q la cx ws hB hS hlr (by omega) (by omega) ?_
  intro v sh' I' H' locs' q1 q2 q3
  rw [Nat.add_assoc, Nat.add_assoc]
  exact hr v sh' I' H' locs' q1 q2 q3
theorem ev_callSN {ty : FieldType} {i : Nat} {As : List Value} (h : nw_EM l g d M' As sh I kc1 ks1 Post1) (hl : nw_mn M.1.cls i M') (hk : nw_ok M' n) (hv : nw_ss M') (hd : decode M.2.1 pc = .ok (.invokestatic i, 3)) (hret : M'.2.2.2 = some ty) (hnar : ∀ v sh' I', Post1 v sh' I' → ∃ x, v = some x ∧ narrow ty (.int x) = .int x) (hlen : (nw_lo As).length ≤ M'.2.2.1) (hn : As.length = n) (hst : (st.map fun v => v.category).sum ≤ 8)
    (kk : ∀ r sh' I', Post1 (some r) sh' I' → nw_Ev l g (d + 1) M (pc + 3) ls (.int r :: st) sh' I' kc ks Post) : nw_Ev l g (d + 1) M pc ls (As.reverse ++ st) sh I (kc1 + kc) (ks1 + ks) Post := by
  intro p e R s m args below meth c H locs cells slots Q la cx ws wh hs hlr h1 h2 hr
  obtain ⟨host, hl⟩ := hl
  refine va_calli (va_runSN (As := As) (rest := st) ⟨cx.1, cx.2.1, cx.2.2.1, cx.2.2.2.1, cx.2.2.2.2.1⟩ (nw_metI h hk hret hnar hlen) ⟨nw_callN cx hk (ws.2.2.2.2.2.2.2.2.2.2.1 _ hl), cx.2.2.2.2.1 _ hv, trivial⟩ (nw_pre (U := s) ws wh hs As) rfl hn hlr.1 rfl (lv_room hst) hd ⟨by omega, by omega⟩) hs (fun q _ h => h) (fun q h => h) (fun r u t H1 locs1 ht hvm hw hB hz1 hk1 hS => ?_)
  rw [ht] at hB
  refine kk r u.1 u.2 hw p e R s m args below meth c H1 locs1 (cells + kc1) (slots + ks1) Q la cx ws hB hS hlr (by omega) (by omega) ?_
  intro v sh' I' H' locs' q1 q2 q3
  rw [Nat.add_assoc, Nat.add_assoc]
  exact hr v sh' I' H' locs' q1 q2 q3
/-- a constructor -/
theorem ev_callI {i b : Nat} (h : nw_EM l g d M' [.ref b] sh I kc1 ks1 Post1) (hl : nw_ml M.1.cls i M') (hk : nw_ok M' 0) (hv : nw_ii M') (hd : decode M.2.1 pc = .ok (.invokespecial i, 3)) (hret : M'.2.2.2 = none) (hnar : ∀ v sh' I', Post1 v sh' I' → v = none) (hlen : 1 ≤ M'.2.2.1) (hst : (st.map fun v => v.category).sum ≤ 8)
    (kk : ∀ sh' I', Post1 none sh' I' → nw_Ev l g (d + 1) M (pc + 3) ls st sh' I' kc ks Post) : nw_Ev l g (d + 1) M pc ls (.ref b :: st) sh I (kc1 + kc) (ks1 + ks) Post := by
  intro p e R s m args below meth c H locs cells slots Q la cx ws wh hs hlr h1 h2 hr
  have hB := nw_callB (kc := kc1) (ks := ks1) cx hk hl
  rw [hret] at hB
  refine va_callv (va_runI (As := []) (rest := st) (b := b) ⟨cx.1, cx.2.1, cx.2.2.1, cx.2.2.2.1, cx.2.2.2.2.1⟩ (nw_metV h hk hret hnar hlen) ⟨hB, hv.2, cx.2.2.2.2.1 _ hv.1⟩ (nw_pre (U := s) ws wh hs [.ref b]) rfl rfl hlr.1 rfl (lv_room hst) hd ⟨by omega, by omega⟩) hs (fun q _ h => h) (fun q h => h) (fun u t H1 locs1 ht hvm hw hB hz1 hk1 hS => ?_)
  rw [ht] at hB
  refine kk u.1 u.2 hw p e R s m args below meth c H1 locs1 (cells + kc1) (slots + ks1) Q la cx ws hB hS hlr (by omega) (by omega) ?_
  intro v sh' I' H' locs' q1 q2 q3
  rw [Nat.add_assoc, Nat.add_assoc]
  exact hr v sh' I' H' locs' q1 q2 q3
theorem ev_callIN {i b : Nat} (h : nw_EM l g d M' [.ref b] sh I kc1 ks1 Post1) (hl : nw_mn M.1.cls i M') (hk : nw_ok M' 0) (hv : nw_ii M') (hd : decode M.2.1 pc = .ok (.invokespecial i, 3)) (hret : M'.2.2.2 = none) (hnar : ∀ v sh' I', Post1 v sh' I' → v = none) (hlen : 1 ≤ M'.2.2.1) (hst : (st.map fun v => v.category).sum ≤ 8)
    (kk : ∀ sh' I', Post1 none sh' I' → nw_Ev l g (d + 1) M (pc + 3) ls st sh' I' kc ks Post) : nw_Ev l g (d + 1) M pc ls (.ref b :: st) sh I (kc1 + kc) (ks1 + ks) Post := by
  intro p e R s m args below meth c H locs cells slots Q la cx ws wh hs hlr h1 h2 hr
  obtain ⟨host, hl⟩ := hl
  have hB := nw_callN (kc := kc1) (ks := ks1) cx hk (ws.2.2.2.2.2.2.2.2.2.2.1 _ hl)
  rw [hret] at hB
  refine va_callv (va_runIN (As := []) (rest := st) (b := b) ⟨cx.1, cx.2.1, cx.2.2.1, cx.2.2.2.1, cx.2.2.2.2.1⟩ (nw_metV h hk hret hnar hlen) ⟨hB, hv.2, cx.2.2.2.2.1 _ hv.1⟩ (nw_pre (U := s) ws wh hs [.ref b]) rfl rfl hlr.1 rfl (lv_room hst) hd ⟨by omega, by omega⟩) hs (fun q _ h => h) (fun q h => h) (fun u t H1 locs1 ht hvm hw hB hz1 hk1 hS => ?_)
  rw [ht] at hB
  refine kk u.1 u.2 hw p e R s m args below meth c H1 locs1 (cells + kc1) (slots + ks1) Q la cx ws hB hS hlr (by omega) (by omega) ?_
  intro v sh' I' H' locs' q1 q2 q3
  rw [Nat.add_assoc, Nat.add_assoc]
  exact hr v sh' I' H' locs' q1 q2 q3
theorem ev_objInit {i b : Nat} (hl : Cond.methodLink M.1.cls i objectInit ∈ nw_gw) (hd : decode M.2.1 pc = .ok (.invokespecial i, 3)) (hst : (st.map fun v => v.category).sum ≤ 8) (k : nw_Ev l g d M (pc + 3) ls st sh I kc ks Post) : nw_Ev l g d M pc ls (.ref b :: st) sh I kc ks Post := by
  intro p e R s m args below meth c H locs cells slots Q la cx ws wh hs hlr h1 h2 hr
  refine W.objInit cx.1 cx.2.1 cx.2.2.2.1 (cx.2.2.2.2.1 _ hl) (cx.2.2.2.2.1 (.instanceMethod objectInit) (tb_in (i := 20) (by decide +kernel))) (cx.2.2.2.2.1 (.code objectInit ⟨#[0xb1]⟩ 1 none) (tb_in (i := 21) (by decide +kernel))) rfl (hlr.1.trans cx.2.2.1.symm) rfl hd (by have := cx.2.2.2.2.2.2.1; omega) ?_ (k p e R s m args below meth c H locs cells slots Q la cx ws wh hs hlr h1 h2 hr)
  have := cx.2.2.2.2.2.2.2
  show 2 * 0 + _ + 12 ≤ _
  omega
theorem ev_mmax {i : Nat} {x y : Int32} (hl : Cond.methodLink M.1.cls i Lib.Math.max.name ∈ nw_gw) (hd : decode M.2.1 pc = .ok (.invokestatic i, 3)) (hst : (st.map fun v => v.category).sum ≤ 8) (k : nw_Ev l g d M (pc + 3) ls (.int (if x < y then y else x) :: st) sh I kc ks Post) : nw_Ev l g d M pc ls (.int y :: .int x :: st) sh I kc ks Post := by
  intro p e R s m args below meth c H locs cells slots Q la cx ws wh hs hlr h1 h2 hr
  exact va_mmax cx.1 cx.2.1 (cx.2.2.1.trans hlr.1.symm) cx.2.2.2.1 (cx.2.2.2.2.1 _ hl) (cx.2.2.2.2.1 _ nw_max_s) (cx.2.2.2.2.1 _ nw_math_i) (cx.2.2.2.2.1 _ nw_max_c) (by have := cx.2.2.2.2.2.2.1; omega) (by have := cx.2.2.2.2.2.2.2; omega) (by omega) (by omega) hd (k p e R s m args below meth c H locs cells slots Q la cx ws wh hs hlr h1 h2 hr)
theorem ev_mmin {i : Nat} {x y : Int32} (hl : Cond.methodLink M.1.cls i Lib.Math.min.name ∈ nw_gw) (hd : decode M.2.1 pc = .ok (.invokestatic i, 3)) (hst : (st.map fun v => v.category).sum ≤ 8) (k : nw_Ev l g d M (pc + 3) ls (.int (if y < x then y else x) :: st) sh I kc ks Post) : nw_Ev l g d M pc ls (.int y :: .int x :: st) sh I kc ks Post := by
  intro p e R s m args below meth c H locs cells slots Q la cx ws wh hs hlr h1 h2 hr
  exact va_mmin cx.1 cx.2.1 (cx.2.2.1.trans hlr.1.symm) cx.2.2.2.1 (cx.2.2.2.2.1 _ hl) (cx.2.2.2.2.1 _ nw_min_s) (cx.2.2.2.2.1 _ nw_math_i) (cx.2.2.2.2.1 _ nw_min_c) (by have := cx.2.2.2.2.2.2.1; omega) (by have := cx.2.2.2.2.2.2.2; omega) (by omega) (by omega) hd (k p e R s m args below meth c H locs cells slots Q la cx ws wh hs hlr h1 h2 hr)
/-- n ints from place sp of cell j to place dp of cell k -/
def nw_cp (I : nw_Me) (j sp k dp n : Nat) : nw_Me := fun a => if a = k then va_cpy (I j) (I k) sp dp n else I a
theorem ev_copy {i j k n0 n1 : Nat} {sp dp n : Int32} (hl : Cond.methodLink M.1.cls i arraycopyName ∈ nw_gw) (hd : decode M.2.1 pc = .ok (.invokestatic i, 3)) (hj : sh[j]? = some (.inl (0, n0))) (hk : sh[k]? = some (.inl (0, n1))) (g1 : ¬ sp < 0) (g2 : ¬ dp < 0) (g3 : ¬ n < 0) (g4 : sp.toNatClampNeg + n.toNatClampNeg ≤ n0) (g5 : dp.toNatClampNeg + n.toNatClampNeg ≤ n1) (hst : (st.map fun v => v.category).sum ≤ 8)
    (kk : nw_Ev l g d M (pc + 3) ls st sh (nw_cp I j sp.toNatClampNeg k dp.toNatClampNeg n.toNatClampNeg) kc ks Post) : nw_Ev l g d M pc ls (.int n :: .int dp :: .ref (nw_a g k) :: .int sp :: .ref (nw_a g j) :: st) sh I kc ks Post := by
  intro p e R s m args below meth c H locs cells slots Q la cx ws wh hs hlr h1 h2 hr
  have nn : ∀ z : Int32, ¬ z < 0 → z.toInt = (z.toNatClampNeg : Int) := by
    intro z hz
    have hz0 : (0 : Int) ≤ z.toInt := by
      have := Int32.not_lt.mp hz
      simpa using Int32.le_iff_toInt_le.mp this
    show z.toInt = ((z.toInt.toNat : Nat) : Int)
    omega
  intro T hT X
  have hc0 : H[nw_a g j]? = some (vp_cell (nw_ca g 0) (n0, .inl (I j))) := wh.arr hj 0 _ rfl
  have hc1 : H[nw_a g k]? = some (vp_cell (nw_ca g 0) (n1, .inl (I k))) := wh.arr hk 0 _ rfl
  obtain ⟨-, k0, hk0, cm0, hkk0⟩ := (ws.2.1.2 0 _ rfl).1 n0 (fun q => .int (I j q))
  obtain ⟨-, k1, hk1, cm1, hkk1⟩ := (ws.2.1.2 0 _ rfl).1 n1 (fun q => .int (I k q))
  obtain ⟨vm', X', step⟩ := X.arraycopy cx.1 cx.2.2.2.1 (cx.2.2.2.2.1 _ hl) (cx.2.2.2.2.1 _ nw_cpy_n) (cx.2.2.2.2.1 _ nw_cpy_s) (cx.2.2.2.2.1 _ nw_sys_i) (src := nw_a g j) (dst := nw_a g k) (cs := vp_cell (nw_ca g 0) (n0, .inl (I j))) (cd := vp_cell (nw_ca g 0) (n1, .inl (I k))) (srcPos := sp) (destPos := dp) (n := n) (by rw [hT]; exact hc0) (by rw [hT]; exact hc1)
    (fun _ h => by cases h) (fun _ h => by cases h) (fun h => by cases h) (fun h => by cases h) hk0 hk1 hkk0 hkk1 (by simp [refKind]) g1 g2 g3
    (by rw [nn sp g1, nn n g3]; show ¬ _ > ((arrV (nw_ca g 0) n0 (fun q => .int (I j q))).slots.size : Int); rw [arrV_size]; omega)
    (by rw [nn dp g2, nn n g3]; show ¬ _ > ((arrV (nw_ca g 0) n1 (fun q => .int (I k q))).slots.size : Int); rw [arrV_size]; omega)
    (fun vm₁ _ i hi => by
      have e : (vp_cell (nw_ca g 0) (n0, .inl (I j))).slots.getD (sp.toNatClampNeg + i) .null = .int (I j (sp.toNatClampNeg + i)) := by
        show (arrV (nw_ca g 0) n0 (fun q => .int (I j q))).slots.getD _ _ = _
        rw [Array.getD_eq_getD_getElem?, arrV_read _ _ (by omega)]
        rfl
      refine ⟨?_, ?_⟩
      · rw [e]
        rfl
      · rw [e]
        exact trivial)
    (g := F0 m pc la (.int n :: .int dp :: .ref (nw_a g k) :: .int sp :: .ref (nw_a g j) :: st)) rfl (by rw [cx.2.2.1]; exact hlr.1) (rest := st) rfl (by rw [cx.2.1]; exact hd) (by have := cx.2.2.2.2.2.2.1; omega) (by
      have := cx.2.2.2.2.2.2.2
      show 2 * 0 + _ + _ ≤ _
      have e : nativeFrameWords "java/lang/System" "arraycopy" 5 + 11 = 18 := by decide +kernel
      omega)
  have e1 : copied (vp_cell (nw_ca g 0) (n0, .inl (I j))) (vp_cell (nw_ca g 0) (n1, .inl (I k))) sp dp n = vp_cell (nw_ca g 0) (n1, .inl (va_cpy (I j) (I k) sp.toNatClampNeg dp.toNatClampNeg n.toNatClampNeg)) := va_copied (fun z => .int z) _ _ (I j) (I k) g4
  rw [e1] at X' step
  have hlt : nw_a g k < H.size := (Array.getElem?_eq_some_iff.mp hc1).1
  have hheap : ((T.setVm vm').setCell (nw_a g k) (vp_cell (nw_ca g 0) (n1, .inl (va_cpy (I j) (I k) sp.toNatClampNeg dp.toNatClampNeg n.toNatClampNeg)))).heap = H.setIfInBounds (nw_a g k) (vp_cell (nw_ca g 0) (n1, .inl (va_cpy (I j) (I k) sp.toNatClampNeg dp.toNatClampNeg n.toNatClampNeg))) := by rw [← hT]; rfl
  have oq : ∀ q : Nat, q ≠ nw_a g k → (H.setIfInBounds (nw_a g k) (vp_cell (nw_ca g 0) (n1, .inl (va_cpy (I j) (I k) sp.toNatClampNeg dp.toNatClampNeg n.toNatClampNeg))))[q]? = H[q]? := fun q hq => by simp [Array.getElem?_setIfInBounds, Ne.symm hq]
  have wh' : nw_Wh g sh (nw_cp I j sp.toNatClampNeg k dp.toNatClampNeg n.toNatClampNeg) (H.setIfInBounds (nw_a g k) (vp_cell (nw_ca g 0) (n1, .inl (va_cpy (I j) (I k) sp.toNatClampNeg dp.toNatClampNeg n.toNatClampNeg)))) := by
    refine wh.set (c' := .inl (0, n1)) (nw_set_self hk) (fun q hq => by simp [nw_cp, hq]) (by simp) oq (List.getElem?_eq_some_iff.mp hk).1 ?_
    show (H.setIfInBounds (nw_a g k) _)[nw_a g k]? = some (vp_cell (nw_ca g 0) (n1, .inl (nw_cp I j _ k _ _ k)))
    simp [Array.getElem?_setIfInBounds, hlt, nw_cp]
  obtain ⟨t, a1, b1⟩ := kk p e R s m args below meth c _ _ cells slots Q la cx ws wh' ⟨by simp; exact hs.1, fun q z1 z2 => by
      rw [oq q (fun e => z2 (by rw [e]; exact nw_A_a g k))]
      exact hs.2.1 q z1 z2, fun q hq => by
      rcases List.mem_append.mp hq with h | h
      · exact hs.2.2 q h
      · obtain ⟨z, -, hz⟩ := List.mem_map.mp h
        rw [← hz]
        exact nw_A_a g k⟩ hlr h1 h2 hr _ hheap X'
  exact ⟨t, step t a1, b1⟩
end
