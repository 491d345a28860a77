/-! Constructors: cells behind a prefix sh0 of n cells. -/
section
variable {l : Launch} {g : nw_G} {d : Nat} {M M' : nw_Mt} {pc : Nat} {ls : List (Option Value)} {st : List Value} {sh0 t t' tp t2 : List nw_Sh} {I : nw_Me} {kc ks kc1 ks1 n j : Nat} {Post : Option Int32 → List nw_Sh → nw_Me → Prop}
theorem tl_get {c : nw_Sh} (hn : sh0.length = n) (h : t[j]? = some c) : (sh0 ++ t)[n + j]? = some c := by
  rw [List.getElem?_append_right (by omega), hn, Nat.add_sub_cancel_left]; exact h
theorem tl_set {c : nw_Sh} (hn : sh0.length = n) : (sh0 ++ t).set (n + j) c = sh0 ++ t.set j c := by
  rw [List.set_append_right _ _ (by omega), hn, Nat.add_sub_cancel_left]
theorem tl_len (hn : sh0.length = n) (hj : t.length = j) : (sh0 ++ t).length = n + j := by rw [List.length_append, hn, hj]
theorem ev_rm (h1 : kc1 = kc) (h2 : ks1 = ks) {sh : List nw_Sh} (k : nw_Ev l g d M pc ls st sh I kc1 ks1 Post) : nw_Ev l g d M pc ls st sh I kc ks Post := by subst h1; subst h2; exact k
theorem ev_sh {sh sh' : List nw_Sh} (h : sh = sh') (k : nw_Ev l g d M pc ls st sh' I kc ks Post) : nw_Ev l g d M pc ls st sh I kc ks Post := by subst h; exact k
theorem tv_new {i ci N : Nat} {C : String} {T : u_T} {fs : List (Option (Option Nat))} (hn : sh0.length = n) (hj : t.length = j) (ht : t ++ [.inr (ci, fs)] = t') (hl : Cond.classLink M.1.cls i C ∈ nw_gw) (hcl : nw_cl[ci]? = some (C, T, N)) (hi : Cond.instantiable C N ∈ nw_gw) (hini : Cond.initialized C ∈ nw_gw) (hd : decode M.2.1 pc = .ok (.new i, 3)) (hci : ci < 100) (hfs : ∀ j, j < N → fs[j]? = some none ∧ defaultValue (nw_tyf ci j) = .int 0 ∨ fs[j]? = some (some none) ∧ defaultValue (nw_tyf ci j) = .null)
    (k : nw_Ev l g d M (pc + 3) ls (.ref (nw_a g (n + j)) :: st) (sh0 ++ t') (nw_z I (n + j)) kc ks Post) : nw_Ev l g d M pc ls st (sh0 ++ t) I (kc + 1) (ks + N) Post := by
  subst ht
  refine ev_new hl hcl hi hini hd hci hfs ?_
  rw [tl_len hn hj, List.append_assoc]; exact k
theorem tv_newI {N : Nat} {x : Int32} (hn : sh0.length = n) (hj : t.length = j) (ht : t ++ [.inl (0, N)] = t') (hd : decode M.2.1 pc = .ok (.newarray .int, 2)) (h0 : ¬ x < 0) (hN : x.toNatClampNeg = N) (hby : N * 4 ≤ 536870912)
    (k : nw_Ev l g d M (pc + 2) ls (.ref (nw_a g (n + j)) :: st) (sh0 ++ t') (nw_z I (n + j)) kc ks Post) : nw_Ev l g d M pc ls (.int x :: st) (sh0 ++ t) I (kc + 1) (ks + N) Post := by
  subst ht
  refine ev_newI hd h0 hN hby ?_
  rw [tl_len hn hj, List.append_assoc]; exact k
theorem tv_newZ {N : Nat} {x : Int32} (hn : sh0.length = n) (hj : t.length = j) (ht : t ++ [.inl (1, N)] = t') (hd : decode M.2.1 pc = .ok (.newarray .boolean, 2)) (h0 : ¬ x < 0) (hN : x.toNatClampNeg = N) (hby : N * 1 ≤ 536870912)
    (k : nw_Ev l g d M (pc + 2) ls (.ref (nw_a g (n + j)) :: st) (sh0 ++ t') (nw_z I (n + j)) kc ks Post) : nw_Ev l g d M pc ls (.int x :: st) (sh0 ++ t) I (kc + 1) (ks + N) Post := by
  subst ht
  refine ev_newZ hd h0 hN hby ?_
  rw [tl_len hn hj, List.append_assoc]; exact k
theorem tv_anew {i q N : Nat} {C : String} {x : Int32} (hn : sh0.length = n) (hj : t.length = j) (ht : t ++ [.inr (100 + q, List.replicate N (some none))] = t') (hl : Cond.classLink M.1.cls i C ∈ nw_gw) (hao : ∀ s, nw_Ws g s → va_AO C s) (htt : (nw_ty g)[q]? = some (nw_ca g q, .object C)) (hd : decode M.2.1 pc = .ok (.anewarray i, 3)) (h0 : ¬ x < 0) (hN : x.toNatClampNeg = N) (hby : N * 4 ≤ 536870912)
    (k : nw_Ev l g d M (pc + 3) ls (.ref (nw_a g (n + j)) :: st) (sh0 ++ t') (nw_z I (n + j)) kc ks Post) : nw_Ev l g d M pc ls (.int x :: st) (sh0 ++ t) I (kc + 1) (ks + N) Post := by
  subst ht
  refine ev_anew hl hao htt hd h0 hN hby ?_
  rw [tl_len hn hj, List.append_assoc]; exact k
/-- the row of rows' own places -/
def nw_gf (n N : Nat) : List (Option (Option Nat)) := (List.range N).map fun j => some (some (n + 1 + j))
theorem tv_multi {i N K : Nat} {x y : Int32} (hn : sh0.length = n) (hj : t.length = j) (ht : t ++ ([.inr (104, nw_gf (n + j) N)] ++ List.replicate N (.inl (0, K))) = t') (hl : Cond.classLink M.1.cls i "[[I" ∈ nw_gw) (hd : decode M.2.1 pc = .ok (.multianewarray i 2, 4)) (hx : ¬ x < 0) (hy : ¬ y < 0) (hN : x.toNatClampNeg = N) (hK : y.toNatClampNeg = K) (hb1 : N * 4 ≤ 536870912) (hb2 : K * 4 ≤ 536870912)
    (k : nw_Ev l g d M (pc + 4) ls (.ref (nw_a g (n + j)) :: st) (sh0 ++ t') (nw_zf I (n + j)) kc ks Post) : nw_Ev l g d M pc ls (.int y :: .int x :: st) (sh0 ++ t) I (kc + (1 + N)) (ks + (N + N * K)) Post := by
  subst ht
  refine ev_multi (fs := nw_gf (n + j) N) hl hd hx hy hN hK hb1 hb2 (by simp [nw_gf]) (fun q hq => by rw [tl_len hn hj]; simp [nw_gf, hq]) ?_
  rw [tl_len hn hj, List.append_assoc, List.append_assoc]; exact k
theorem tv_putR {i ci k jt f v N : Nat} {fs : List (Option (Option Nat))} {T : u_T} {C : String} (hn : sh0.length = n) (hk : k = n + jt) (ht0 : t[jt]? = some (.inr (ci, fs))) (ht : t.set jt (.inr (ci, fs.set f (some (some v)))) = t') (hf : nw_fl M.1.cls i ci f) (hd : decode M.2.1 pc = .ok (.putfield i, 3)) (hlf : f < fs.length) (hci : ci < 100) (hcl : nw_cl[ci]? = some (C, T, N)) (hC : C = M.1.cls) (hfin : (T f).2.2.2 = true) (hini : M.1.name = "<init>") (hna : narrow (nw_tyf ci f) (.ref (nw_a g v)) = .ref (nw_a g v)) (hfit : fits (nw_tyf ci f) (.ref (nw_a g v)) = true)
    (kk : nw_Ev l g d M (pc + 3) ls st (sh0 ++ t') I kc ks Post) : nw_Ev l g d M pc ls (.ref (nw_a g v) :: .ref (nw_a g k) :: st) (sh0 ++ t) I kc ks Post := by
  subst ht
  subst hk
  refine ev_putR hf hd (tl_get hn ht0) hlf hci hcl hC hfin hini hna hfit ?_
  rw [tl_set hn]; exact kk
theorem tv_aast {k q jt v ci N : Nat} {i : Int32} {i0 : Nat} {C : String} {T : u_T} {fs vs : List (Option (Option Nat))} (hn : sh0.length = n) (hk : k = n + jt) (ht0 : t[jt]? = some (.inr (100 + q, fs))) (ht : t.set jt (.inr (100 + q, fs.set i0 (some (some v)))) = t') (hd : decode M.2.1 pc = .ok (.aastore, 1)) (htt : (nw_ty g)[q]? = some (nw_ca g q, .object C)) (hv : (sh0 ++ t)[v]? = some (.inr (ci, vs))) (hci : ci < 100) (hcl : nw_cl[ci]? = some (C, T, N)) (hin : vp_in i fs.length) (hi0 : i.toNatClampNeg = i0)
    (kk : nw_Ev l g d M (pc + 1) ls st (sh0 ++ t') I kc ks Post) : nw_Ev l g d M pc ls (.ref (nw_a g v) :: .int i :: .ref (nw_a g k) :: st) (sh0 ++ t) I kc ks Post := by
  subst ht
  subst hk
  subst hi0
  refine ev_aast hd (tl_get hn ht0) htt hv hci hcl hin ?_
  rw [tl_set hn]; exact kk
/-- a constructor's contract: the cells t behind sh0 become t2 -/
def nw_K (l : Launch) (g : nw_G) (d : Nat) (M : nw_Mt) (b : Nat) (sh0 t : List nw_Sh) (I : nw_Me) (kc ks : Nat) (t2 : List nw_Sh) (P : nw_Me → Prop) : Prop := nw_EM l g d M [.ref (nw_a g b)] (sh0 ++ t) I kc ks (fun v sh' J => v = none ∧ sh' = sh0 ++ t2 ∧ P J)
theorem nw_K.deep {b : Nat} {P : nw_Me → Prop} {d1 : Nat} (h : nw_K l g d M b sh0 t I kc ks t2 P) (hd : d ≤ d1) : nw_K l g d1 M b sh0 t I kc ks t2 P := ev_deep hd h
theorem nw_K.shift {b : Nat} {c : nw_Sh} {P : nw_Me → Prop} (h : nw_K l g d M b (sh0 ++ tp) [c] I kc ks t2 P) (e1 : tp ++ [c] = t) (e2 : tp ++ t2 = t') : nw_K l g d M b sh0 t I kc ks t' P := by
  subst e1
  subst e2
  unfold nw_K at h ⊢
  rw [← List.append_assoc]
  simp only [← List.append_assoc]
  exact h
theorem tv_callN {i b : Nat} {P : nw_Me → Prop} (h : nw_K l g d M' b sh0 t I kc1 ks1 t2 P) (hl : nw_mn M.1.cls i M') (hk : nw_ok M' 0) (hv : nw_ii M') (hd : decode M.2.1 pc = .ok (.invokespecial i, 3)) (hret : M'.2.2.2 = none) (hlen : 1 ≤ M'.2.2.1) (hst : (st.map fun v => v.category).sum ≤ 8)
    (kk : ∀ J, P J → nw_Ev l g (d + 1) M (pc + 3) ls st (sh0 ++ t2) J kc ks Post) : nw_Ev l g (d + 1) M pc ls (.ref (nw_a g b) :: st) (sh0 ++ t) I (kc1 + kc) (ks1 + ks) Post :=
  ev_callIN h hl hk hv hd hret (fun v sh' J q => q.1) hlen hst (fun sh' J q => by obtain ⟨-, rfl, hp⟩ := q; exact kk J hp)
theorem tv_callI {i b : Nat} {P : nw_Me → Prop} (h : nw_K l g d M' b sh0 t I kc1 ks1 t2 P) (hl : nw_ml M.1.cls i M') (hk : nw_ok M' 0) (hv : nw_ii M') (hd : decode M.2.1 pc = .ok (.invokespecial i, 3)) (hret : M'.2.2.2 = none) (hlen : 1 ≤ M'.2.2.1) (hst : (st.map fun v => v.category).sum ≤ 8)
    (kk : ∀ J, P J → nw_Ev l g (d + 1) M (pc + 3) ls st (sh0 ++ t2) J kc ks Post) : nw_Ev l g (d + 1) M pc ls (.ref (nw_a g b) :: st) (sh0 ++ t) I (kc1 + kc) (ks1 + ks) Post :=
  ev_callI h hl hk hv hd hret (fun v sh' J q => q.1) hlen hst (fun sh' J q => by obtain ⟨-, rfl, hp⟩ := q; exact kk J hp)
end
abbrev nw_f0 : List (Option (Option Nat)) := [some none, nw_nn, nw_nn]
theorem df0 : ∀ j, j < 3 → nw_f0[j]? = some none ∧ defaultValue (nw_tyf 0 j) = .int 0 ∨ nw_f0[j]? = some (some none) ∧ defaultValue (nw_tyf 0 j) = .null
  | 0, _ => .inr ⟨rfl, rfl⟩
  | 1, _ => .inl ⟨rfl, rfl⟩
  | 2, _ => .inl ⟨rfl, rfl⟩
  | j + 3, h => absurd h (by omega)
abbrev nw_f1 : List (Option (Option Nat)) := [some none, nw_nn, nw_nn, nw_nn, nw_nn, nw_nn]
theorem df1 : ∀ j, j < 6 → nw_f1[j]? = some none ∧ defaultValue (nw_tyf 1 j) = .int 0 ∨ nw_f1[j]? = some (some none) ∧ defaultValue (nw_tyf 1 j) = .null
  | 0, _ => .inr ⟨rfl, rfl⟩
  | 1, _ => .inl ⟨rfl, rfl⟩
  | 2, _ => .inl ⟨rfl, rfl⟩
  | 3, _ => .inl ⟨rfl, rfl⟩
  | 4, _ => .inl ⟨rfl, rfl⟩
  | 5, _ => .inl ⟨rfl, rfl⟩
  | j + 6, h => absurd h (by omega)
abbrev nw_f2 : List (Option (Option Nat)) := [nw_nn, nw_nn, nw_nn, nw_nn, nw_nn, some none, some none, some none, some none]
theorem df2 : ∀ j, j < 9 → nw_f2[j]? = some none ∧ defaultValue (nw_tyf 2 j) = .int 0 ∨ nw_f2[j]? = some (some none) ∧ defaultValue (nw_tyf 2 j) = .null
  | 0, _ => .inl ⟨rfl, rfl⟩
  | 1, _ => .inl ⟨rfl, rfl⟩
  | 2, _ => .inl ⟨rfl, rfl⟩
  | 3, _ => .inl ⟨rfl, rfl⟩
  | 4, _ => .inl ⟨rfl, rfl⟩
  | 5, _ => .inr ⟨rfl, rfl⟩
  | 6, _ => .inr ⟨rfl, rfl⟩
  | 7, _ => .inr ⟨rfl, rfl⟩
  | 8, _ => .inr ⟨rfl, rfl⟩
  | j + 9, h => absurd h (by omega)
abbrev nw_f3 : List (Option (Option Nat)) := [some none, some none, nw_nn]
theorem df3 : ∀ j, j < 3 → nw_f3[j]? = some none ∧ defaultValue (nw_tyf 3 j) = .int 0 ∨ nw_f3[j]? = some (some none) ∧ defaultValue (nw_tyf 3 j) = .null
  | 0, _ => .inr ⟨rfl, rfl⟩
  | 1, _ => .inr ⟨rfl, rfl⟩
  | 2, _ => .inl ⟨rfl, rfl⟩
  | j + 3, h => absurd h (by omega)
abbrev nw_f4 : List (Option (Option Nat)) := [some none, some none, some none, some none, some none, nw_nn]
theorem df4 : ∀ j, j < 6 → nw_f4[j]? = some none ∧ defaultValue (nw_tyf 4 j) = .int 0 ∨ nw_f4[j]? = some (some none) ∧ defaultValue (nw_tyf 4 j) = .null
  | 0, _ => .inr ⟨rfl, rfl⟩
  | 1, _ => .inr ⟨rfl, rfl⟩
  | 2, _ => .inr ⟨rfl, rfl⟩
  | 3, _ => .inr ⟨rfl, rfl⟩
  | 4, _ => .inr ⟨rfl, rfl⟩
  | 5, _ => .inl ⟨rfl, rfl⟩
  | j + 6, h => absurd h (by omega)
abbrev nw_f5 : List (Option (Option Nat)) := [some none, nw_nn, nw_nn, nw_nn, nw_nn, nw_nn]
theorem df5 : ∀ j, j < 6 → nw_f5[j]? = some none ∧ defaultValue (nw_tyf 5 j) = .int 0 ∨ nw_f5[j]? = some (some none) ∧ defaultValue (nw_tyf 5 j) = .null
  | 0, _ => .inr ⟨rfl, rfl⟩
  | 1, _ => .inl ⟨rfl, rfl⟩
  | 2, _ => .inl ⟨rfl, rfl⟩
  | 3, _ => .inl ⟨rfl, rfl⟩
  | 4, _ => .inl ⟨rfl, rfl⟩
  | 5, _ => .inl ⟨rfl, rfl⟩
  | j + 6, h => absurd h (by omega)
abbrev nw_f6 : List (Option (Option Nat)) := [some none, some none, some none]
theorem df6 : ∀ j, j < 3 → nw_f6[j]? = some none ∧ defaultValue (nw_tyf 6 j) = .int 0 ∨ nw_f6[j]? = some (some none) ∧ defaultValue (nw_tyf 6 j) = .null
  | 0, _ => .inr ⟨rfl, rfl⟩
  | 1, _ => .inr ⟨rfl, rfl⟩
  | 2, _ => .inr ⟨rfl, rfl⟩
  | j + 3, h => absurd h (by omega)
abbrev nw_f7 : List (Option (Option Nat)) := [nw_nn, nw_nn, some none, some none, some none, some none, some none]
theorem df7 : ∀ j, j < 7 → nw_f7[j]? = some none ∧ defaultValue (nw_tyf 7 j) = .int 0 ∨ nw_f7[j]? = some (some none) ∧ defaultValue (nw_tyf 7 j) = .null
  | 0, _ => .inl ⟨rfl, rfl⟩
  | 1, _ => .inl ⟨rfl, rfl⟩
  | 2, _ => .inr ⟨rfl, rfl⟩
  | 3, _ => .inr ⟨rfl, rfl⟩
  | 4, _ => .inr ⟨rfl, rfl⟩
  | 5, _ => .inr ⟨rfl, rfl⟩
  | 6, _ => .inr ⟨rfl, rfl⟩
  | j + 7, h => absurd h (by omega)
abbrev nw_f8 : List (Option (Option Nat)) := [some none, some none, some none, some none, some none, some none, some none, some none, some none, some none, nw_nn, nw_nn, nw_nn]
theorem df8 : ∀ j, j < 13 → nw_f8[j]? = some none ∧ defaultValue (nw_tyf 8 j) = .int 0 ∨ nw_f8[j]? = some (some none) ∧ defaultValue (nw_tyf 8 j) = .null
  | 0, _ => .inr ⟨rfl, rfl⟩
  | 1, _ => .inr ⟨rfl, rfl⟩
  | 2, _ => .inr ⟨rfl, rfl⟩
  | 3, _ => .inr ⟨rfl, rfl⟩
  | 4, _ => .inr ⟨rfl, rfl⟩
  | 5, _ => .inr ⟨rfl, rfl⟩
  | 6, _ => .inr ⟨rfl, rfl⟩
  | 7, _ => .inr ⟨rfl, rfl⟩
  | 8, _ => .inr ⟨rfl, rfl⟩
  | 9, _ => .inr ⟨rfl, rfl⟩
  | 10, _ => .inl ⟨rfl, rfl⟩
  | 11, _ => .inl ⟨rfl, rfl⟩
  | 12, _ => .inl ⟨rfl, rfl⟩
  | j + 13, h => absurd h (by omega)
abbrev nw_f9 : List (Option (Option Nat)) := [some none, some none, some none, nw_nn, some none, some none, nw_nn, nw_nn, some none, some none, some none, some none, some none, some none, nw_nn, nw_nn, nw_nn, nw_nn, nw_nn, nw_nn, nw_nn, nw_nn, some none, some none, some none, some none, some none, some none, nw_nn]
theorem df9 : ∀ j, j < 29 → nw_f9[j]? = some none ∧ defaultValue (nw_tyf 9 j) = .int 0 ∨ nw_f9[j]? = some (some none) ∧ defaultValue (nw_tyf 9 j) = .null
  | 0, _ => .inr ⟨rfl, rfl⟩
  | 1, _ => .inr ⟨rfl, rfl⟩
  | 2, _ => .inr ⟨rfl, rfl⟩
  | 3, _ => .inl ⟨rfl, rfl⟩
  | 4, _ => .inr ⟨rfl, rfl⟩
  | 5, _ => .inr ⟨rfl, rfl⟩
  | 6, _ => .inl ⟨rfl, rfl⟩
  | 7, _ => .inl ⟨rfl, rfl⟩
  | 8, _ => .inr ⟨rfl, rfl⟩
  | 9, _ => .inr ⟨rfl, rfl⟩
  | 10, _ => .inr ⟨rfl, rfl⟩
  | 11, _ => .inr ⟨rfl, rfl⟩
  | 12, _ => .inr ⟨rfl, rfl⟩
  | 13, _ => .inr ⟨rfl, rfl⟩
  | 14, _ => .inl ⟨rfl, rfl⟩
  | 15, _ => .inl ⟨rfl, rfl⟩
  | 16, _ => .inl ⟨rfl, rfl⟩
  | 17, _ => .inl ⟨rfl, rfl⟩
  | 18, _ => .inl ⟨rfl, rfl⟩
  | 19, _ => .inl ⟨rfl, rfl⟩
  | 20, _ => .inl ⟨rfl, rfl⟩
  | 21, _ => .inl ⟨rfl, rfl⟩
  | 22, _ => .inr ⟨rfl, rfl⟩
  | 23, _ => .inr ⟨rfl, rfl⟩
  | 24, _ => .inr ⟨rfl, rfl⟩
  | 25, _ => .inr ⟨rfl, rfl⟩
  | 26, _ => .inr ⟨rfl, rfl⟩
  | 27, _ => .inr ⟨rfl, rfl⟩
  | 28, _ => .inl ⟨rfl, rfl⟩
  | j + 29, h => absurd h (by omega)
