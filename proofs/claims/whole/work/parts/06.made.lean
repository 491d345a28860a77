/-! Cells that are made. -/
/-- cell k holds zeros -/
def nw_z (I : nw_Me) (k : Nat) : nw_Me := fun a => if a = k then fun _ => 0 else I a
theorem nw_z_ne {I : nw_Me} {k a : Nat} (h : a ≠ k) : nw_z I k a = I a := if_neg h
theorem nw_z_self (I : nw_Me) (k : Nat) : nw_z I k k = fun _ => 0 := if_pos rfl
theorem nw_cells {cells kc a : Nat} : cells + a + kc = cells + (kc + a) := by omega
section
variable {l : Launch} {g : nw_G} {d : Nat} {M : nw_Mt} {pc : Nat} {ls : List (Option Value)} {st : List Value} {sh : List nw_Sh} {I : nw_Me} {kc ks : Nat} {Post : Option Int32 → List nw_Sh → nw_Me → Prop}
theorem nw_fs_V (k : Nat) {fs : List (Option (Option Nat))} {ci N : Nat} (hfs : ∀ j, j < N → fs[j]? = some none ∧ defaultValue (nw_tyf ci j) = .int 0 ∨ fs[j]? = some (some none) ∧ defaultValue (nw_tyf ci j) = .null) : ∀ j, j < N → defaultValue (nw_tyf ci j) = vp_V (nw_fs g (nw_z I k) k 0 fs) j := by
  intro j hj
  unfold vp_V
  rw [List.getD_eq_getElem?_getD, nw_fs_get]
  rcases hfs j hj with ⟨h1, h2⟩ | ⟨h1, h2⟩
  · rw [h1, h2]
    simp [nw_fv, nw_z]
  · rw [h1, h2]
    simp [nw_fv]
theorem ev_new {i ci N : Nat} {C : String} {T : u_T} {fs : List (Option (Option Nat))} (hl : Cond.classLink M.1.cls i C ∈ nw_gw) (hcl : nw_cl[ci]? = some (C, T, N)) (hi : Cond.instantiable C N ∈ nw_gw) (hini : Cond.initialized C ∈ nw_gw) (hd : decode M.2.1 pc = .ok (.new i, 3)) (hci : ci < 100) (hfs : ∀ j, j < N → fs[j]? = some none ∧ defaultValue (nw_tyf ci j) = .int 0 ∨ fs[j]? = some (some none) ∧ defaultValue (nw_tyf ci j) = .null)
    (k : nw_Ev l g d M (pc + 3) ls (.ref (nw_a g sh.length) :: st) (sh ++ [.inr (ci, fs)]) (nw_z I sh.length) kc ks Post) : nw_Ev l g d M pc ls st sh I (kc + 1) (ks + N) Post := by
  intro p e R s m args below meth c H locs cells slots Q la cx ws wh hs hlr h1 h2 hr
  have hts := cx.2.2.2.2.1
  have hKn := ws.2.1.1 ci _ hcl
  refine W.newcK cx.1 cx.2.1 cx.2.2.2.1 (hts _ hl) (hts _ hi) (hts _ hini) rfl hd (by omega) (by omega) hKn.2.1 (h := nw_a g sh.length) wh.1 fun H1 kC hkC e1 z1 o1 => ?_
  have hsz : nw_a g sh.length = H.size := wh.1.symm
  have wh' : nw_Wh g (sh ++ [.inr (ci, fs)]) (nw_z I sh.length) H1 := by
    refine wh.push (fun j hj => nw_z_ne (by omega)) (by rw [z1, hsz]) (fun q hq => o1 q (by rw [hsz]; exact hq)) ?_
    simp only [nw_e, if_pos hci]
    exact ⟨_, hcl, (u_born (nw_tyf ci) hts (nw_lays hcl) hKn hkC e1 (nw_tyf_ok hcl)).to (nw_fs_V _ hfs)⟩
  refine k p e R s m args below meth c H1 locs (cells + 1) (slots + N) Q la cx ws wh' (nw_S_push hs (by omega) (fun q hq => o1 q (by rw [hsz]; exact hq))) hlr (by omega) (by omega) ?_
  intro v sh' I' H' locs' q1 q2 q3
  rw [nw_cells, nw_cells]
  exact hr v sh' I' H' locs' q1 q2 q3
theorem ev_newarr {t N : Nat} {atype : ArrayType} {ty : FieldType} {n : Int32} (ha : Cond.arrayClass (newarray.typeOf atype) ∈ nw_gw) (hty : newarray.typeOf atype = ty) (htt : (nw_ty g)[t]? = some (nw_ca g t, ty)) (hR : ∀ (s : State), va_RA s (nw_ca g t) ty → s.vm.findClass ("[" ++ ty.toString) = some (nw_ca g t)) (hdf : defaultValue ty = .int 0) (hd : decode M.2.1 pc = .ok (.newarray atype, 2)) (hn : ¬ n < 0) (hN : n.toNatClampNeg = N) (hby : N * componentBytes ty ≤ 536870912)
    (k : nw_Ev l g d M (pc + 2) ls (.ref (nw_a g sh.length) :: st) (sh ++ [.inl (t, N)]) (nw_z I sh.length) kc ks Post) : nw_Ev l g d M pc ls (.int n :: st) sh I (kc + 1) (ks + N) Post := by
  subst hty
  intro p e R s m args below meth c H locs cells slots Q la cx ws wh hs hlr h1 h2 hr
  refine va_newaK cx.1 cx.2.1 (cx.2.2.2.2.1 _ ha) rfl hd rfl hn hN hby (by omega) (by omega) (h := nw_a g sh.length) wh.1 fun H1 cA e1 z1 o1 hAr hNm => ?_
  have hcA : cA = nw_ca g t := Option.some.inj (hNm.symm.trans (hR s (ws.2.1.2 t _ htt).2))
  subst hcA
  have hsz : nw_a g sh.length = H.size := wh.1.symm
  have wh' : nw_Wh g (sh ++ [.inl (t, N)]) (nw_z I sh.length) H1 := by
    refine wh.push (fun j hj => nw_z_ne (by omega)) (by rw [z1, hsz]) (fun q hq => o1 q (by rw [hsz]; exact hq)) ?_
    show H1[nw_a g sh.length]? = some (vp_cell (nw_ca g t) (N, .inl (nw_z I sh.length sh.length)))
    rw [nw_z_self, vp_cell_i, e1, hdf]
  refine k p e R s m args below meth c H1 locs (cells + 1) (slots + N) Q la cx ws wh' (nw_S_push hs (by omega) (fun q hq => o1 q (by rw [hsz]; exact hq))) hlr (by omega) (by omega) ?_
  intro v sh' I' H' locs' q1 q2 q3
  rw [nw_cells, nw_cells]
  exact hr v sh' I' H' locs' q1 q2 q3
theorem ev_newI {N : Nat} {n : Int32} (hd : decode M.2.1 pc = .ok (.newarray .int, 2)) (hn : ¬ n < 0) (hN : n.toNatClampNeg = N) (hby : N * 4 ≤ 536870912)
    (k : nw_Ev l g d M (pc + 2) ls (.ref (nw_a g sh.length) :: st) (sh ++ [.inl (0, N)]) (nw_z I sh.length) kc ks Post) : nw_Ev l g d M pc ls (.int n :: st) sh I (kc + 1) (ks + N) Post :=
  ev_newarr (t := 0) (ty := .int) (tb_in (i := 40) (by decide +kernel)) rfl rfl (fun _ h => h) rfl hd hn hN hby k
theorem ev_newZ {N : Nat} {n : Int32} (hd : decode M.2.1 pc = .ok (.newarray .boolean, 2)) (hn : ¬ n < 0) (hN : n.toNatClampNeg = N) (hby : N * 1 ≤ 536870912)
    (k : nw_Ev l g d M (pc + 2) ls (.ref (nw_a g sh.length) :: st) (sh ++ [.inl (1, N)]) (nw_z I sh.length) kc ks Post) : nw_Ev l g d M pc ls (.int n :: st) sh I (kc + 1) (ks + N) Post :=
  ev_newarr (t := 1) (ty := .boolean) (tb_in (i := 893) (by decide +kernel)) rfl rfl (fun _ h => h) rfl hd hn hN hby k
theorem ev_anew {i t N : Nat} {C : String} {n : Int32} (hl : Cond.classLink M.1.cls i C ∈ nw_gw) (hao : ∀ s, nw_Ws g s → va_AO C s) (htt : (nw_ty g)[t]? = some (nw_ca g t, .object C)) (hd : decode M.2.1 pc = .ok (.anewarray i, 3)) (hn : ¬ n < 0) (hN : n.toNatClampNeg = N) (hby : N * 4 ≤ 536870912)
    (k : nw_Ev l g d M (pc + 3) ls (.ref (nw_a g sh.length) :: st) (sh ++ [.inr (100 + t, List.replicate N (some none))]) (nw_z I sh.length) kc ks Post) : nw_Ev l g d M pc ls (.int n :: st) sh I (kc + 1) (ks + N) Post := by
  subst hN
  intro p e R s m args below meth c H locs cells slots Q la cx ws wh hs hlr h1 h2 hr
  refine W.anew cx.1 cx.2.1 cx.2.2.2.1 (cx.2.2.2.2.1 _ hl) (va_AO.use (hao s ws)) rfl hd rfl hn hby (by omega) (by omega) fun cA kA comp f1 f2 f3 f4 => ?_
  generalize hH1 : H.push ({ cls := cA, slots := Array.replicate n.toNatClampNeg .null, vm := .none } : Cell) = H1
  have z1 : H1.size = H.size + 1 := by rw [← hH1, Array.size_push]
  have e1 : H1[H.size]? = some (arrV cA n.toNatClampNeg (fun _ => .null)) := by rw [← hH1, Array.getElem?_push_size, ← arrV_new]
  have o1 : ∀ q : Nat, q < H.size → H1[q]? = H[q]? := fun q hq => by rw [← hH1, Array.getElem?_push, if_neg (Nat.ne_of_lt hq)]
  obtain ⟨kB, cB, -, -, -, g4⟩ := (ws.2.1.2 t _ htt).2
  have hcA : cA = nw_ca g t := Option.some.inj (f1.symm.trans g4)
  subst hcA
  have hsz : H.size = nw_a g sh.length := wh.1
  have wh' : nw_Wh g (sh ++ [.inr (100 + t, List.replicate n.toNatClampNeg (some none))]) (nw_z I sh.length) H1 := by
    refine wh.push (fun j hj => nw_z_ne (by omega)) z1 o1 ?_
    simp only [nw_e, if_neg (show ¬ 100 + t < 100 by omega), Nat.add_sub_cancel_left, List.length_replicate]
    show H1[nw_a g sh.length]? = some (vp_cell (nw_ca g t) (n.toNatClampNeg, _))
    rw [vp_cell_q, ← hsz, e1]
    congr 2
    funext j
    simp only [nw_rf, List.getElem?_replicate]
    split <;> rename_i hj
    · split at hj <;> simp at hj
    · rfl
  rw [hsz]
  refine k p e R s m args below meth c H1 locs (cells + 1) (slots + n.toNatClampNeg) Q la cx ws wh' (nw_S_push hs (by omega) o1) hlr (by omega) (by omega) ?_
  intro v sh' I' H' locs' q1 q2 q3
  rw [nw_cells, nw_cells]
  exact hr v sh' I' H' locs' q1 q2 q3
theorem nw_fs_putR (g : nw_G) (I : nw_Me) (k i j : Nat) {fs : List (Option (Option Nat))} (hi : i < fs.length) : nw_fs g I k 0 (fs.set i (some (some j))) = (nw_fs g I k 0 fs).set i (.ref (nw_a g j)) := by
  apply List.ext_getElem?
  intro q
  rw [nw_fs_get, List.getElem?_set, List.getElem?_set, nw_fs_get, nw_fs_len]
  by_cases hq : i = q
  · subst hq
    rw [if_pos rfl, if_pos hi, if_pos rfl, if_pos hi]
    rfl
  · rw [if_neg hq, if_neg hq]
/-- a final field of references, in its own class's constructor -/
theorem ev_putR {i ci k f j : Nat} {fs : List (Option (Option Nat))} {T : u_T} {N : Nat} {C : String} (hf : nw_fl M.1.cls i ci f) (hd : decode M.2.1 pc = .ok (.putfield i, 3)) (hk : sh[k]? = some (.inr (ci, fs))) (hlf : f < fs.length) (hci : ci < 100) (hcl : nw_cl[ci]? = some (C, T, N)) (hC : C = M.1.cls) (hfin : (T f).2.2.2 = true) (hini : M.1.name = "<init>") (hn : narrow (nw_tyf ci f) (.ref (nw_a g j)) = .ref (nw_a g j)) (hfit : fits (nw_tyf ci f) (.ref (nw_a g j)) = true)
    (kk : nw_Ev l g d M (pc + 3) ls st (sh.set k (.inr (ci, fs.set f (some (some j))))) I kc ks Post) : nw_Ev l g d M pc ls (.ref (nw_a g j) :: .ref (nw_a g k) :: st) sh I kc ks Post := by
  intro p e R s m args below meth c H locs cells slots Q la cx ws wh hs hl h1 h2 hr
  obtain ⟨C', T', N', q1, q2, q3, q4⟩ := hf
  cases q1.symm.trans hcl
  have hts := cx.2.2.2.2.1
  have hown := cx.2.2.2.1
  have hP := wh.obj hk hci
  have hin := nw_lays hcl
  have hap := va_apart (own := M.1.cls) hts hin _ (nw_tyf_ok hcl) (nw_nmf hcl) ws.2.1 hcl
  obtain ⟨r, g1, cell, c1, c2, c3, c4⟩ := hP 0 _ rfl
  have hrr : r = (C, T, N) := Option.some.inj (g1.symm.trans hcl)
  subst hrr
  obtain ⟨hS, hfc, kC, hkC, hkind⟩ := ws.2.1.1 ci _ hcl
  obtain ⟨cf, kf, fi, fd, hi, hsl⟩ := hS f q2
  have hlay := hts _ (hin _ (u_in_lay q2))
  unfold u_lay at hlay
  rw [if_pos hfin] at hlay
  have hst := (u_facts hfc hkC (u_lays hts hin q2) hi).1
  have hcf : m.cls = cf := by
    obtain ⟨_, _, c', _, _, _, -, -, hf', -, -, -, hown2, -⟩ := Cond.laysFinal_spec hlay
    have e1 : c' = cf := by have := hi.symm.trans hf'; simp at this; exact this.1.symm
    rw [q3, hC] at hown2
    rw [← e1]; exact Option.some.inj (hown.symm.trans hown2)
  have h6 := u_fits hfc hkC hkind (Or.inr hlay) hi (nw_tyf_ok hcl f q2) hn hfit
  have hi' : s.fieldFound? C (T f).2.1 (T f).2.2.1 = some (cf, kf, fi, fd) := by rw [← q3]; exact hi
  refine W.putFinK cx.1 cx.2.1 hown (hts _ q4) hi' hst hcf (cx.2.2.2.2.2.1.trans hini) (by rw [c2]; exact h6) c1 c3 (by rw [hsl]; exact k2_hasslot (c4 f q2)) rfl rfl hd fun H' e1 e2 e3 => ?_
  rw [hsl] at e1 ⊢
  have hlen : k < sh.length := (List.getElem?_eq_some_iff.mp hk).1
  have wh' : nw_Wh g (sh.set k (.inr (ci, fs.set f (some (some j))))) I H' := by
    refine wh.set (c' := .inr (ci, fs.set f (some (some j)))) rfl (fun j hj => rfl) e2 e3 hlen ?_
    simp only [nw_e, if_pos hci]
    rw [nw_fs_putR g I k f j hlf]
    exact ⟨_, hcl, t_OB.to (V := updV (vp_V (nw_fs g I k 0 fs)) f (.ref (nw_a g j))) ⟨_, e1, c2, c3, t_set c4 hap q2 _⟩ (fun j _ => vp_updV_set (by rw [nw_fs_len]; exact hlf) _ j)⟩
  exact kk p e R s m args below meth c H' _ cells slots Q la cx ws wh' (hs.put e2 e3 (nw_A_a g k)) hl h1 h2 hr
theorem ev_aast {k t v ci N : Nat} {i : Int32} {C : String} {T : u_T} {fs vs : List (Option (Option Nat))} (hd : decode M.2.1 pc = .ok (.aastore, 1)) (hk : sh[k]? = some (.inr (100 + t, fs))) (htt : (nw_ty g)[t]? = some (nw_ca g t, .object C)) (hv : sh[v]? = some (.inr (ci, vs))) (hci : ci < 100) (hcl : nw_cl[ci]? = some (C, T, N)) (hin : vp_in i fs.length)
    (kk : nw_Ev l g d M (pc + 1) ls st (sh.set k (.inr (100 + t, fs.set i.toNatClampNeg (some (some v))))) I kc ks Post) : nw_Ev l g d M pc ls (.ref (nw_a g v) :: .int i :: .ref (nw_a g k) :: st) sh I kc ks Post := by
  intro p e R s m args below meth c H locs cells slots Q la cx ws wh hs hl h1 h2 hr
  have hlt : i.toNatClampNeg < fs.length := Nat.not_le.mp fun q => hin (Or.inr q)
  have h0 : ¬ i < 0 := fun q => hin (Or.inl q)
  obtain ⟨r', hr', cellV, g1, g2, g3, -⟩ := wh.obj hv hci 0 _ rfl
  have hcls := (ws.2.1.1 ci _ hcl).2
  obtain ⟨kA, comp, k1, k2, k3, -⟩ := (ws.2.1.2 t _ htt).2
  have hcomp : comp = (nw_D g).1 ci := Option.some.inj (k3.symm.trans hcls.1)
  subst hcomp
  obtain ⟨kC, hkC, -⟩ := hcls.2
  refine W.aast cx.1 cx.2.1 (wh.row hk 0 _ rfl) (fun q h => by cases h) (fun h => by cases h) k1 k2 rfl hkC ⟨h0, by show _ < (arrV _ _ _).slots.size; rw [arrV_size]; exact hlt⟩ g1 (fun q h => by rw [g3] at h; cases h) (by rw [g2]; exact hkC) (by rw [g2]; exact va_assign hcls) rfl rfl hd fun H1 e1 e2 e3 => ?_
  have wh' : nw_Wh g (sh.set k (.inr (100 + t, fs.set i.toNatClampNeg (some (some v))))) I H1 := by
    refine wh.set (c' := .inr (100 + t, fs.set i.toNatClampNeg (some (some v)))) rfl (fun j hj => rfl) e2 e3 (List.getElem?_eq_some_iff.mp hk).1 ?_
    simp only [nw_e, if_neg (show ¬ 100 + t < 100 by omega), Nat.add_sub_cancel_left, List.length_set]
    show H1[nw_a g k]? = some (vp_cell (nw_ca g t) (fs.length, _))
    rw [e1, vp_cell_q, vp_cell_q, arrV_store]
    congr 2
    funext q
    by_cases hq : q = i.toNatClampNeg
    · subst hq
      simp [updV, nw_rf, va_rf, hlt]
    · simp [updV, nw_rf, hq, List.getElem?_set, Ne.symm hq]
  exact kk p e R s m args below meth c H1 _ cells slots Q la cx ws wh' (hs.put e2 e3 (nw_A_a g k)) hl h1 h2 hr
end
