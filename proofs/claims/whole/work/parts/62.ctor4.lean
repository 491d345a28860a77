section
variable {l : Launch} {g : nw_G} {d : Nat} {M M' : nw_Mt} {pc : Nat} {ls : List (Option Value)} {st : List Value} {sh sh' t2 : List nw_Sh} {I : nw_Me} {kc ks kc1 ks1 n : Nat} {Post : Option Int32 → List nw_Sh → nw_Me → Prop}
/-- its cells while it is made: its own fields, then k cells more -/
def nw_xp (fs : List (Option (Option Nat))) (k : Nat) : List nw_Sh := .inr (8, fs) :: (nw_SH.drop 1).take k
def nw_xi (fs q : List (Option (Option Nat))) (k : Nat) : List nw_Sh := .inr (8, fs) :: ((nw_SH.drop 1).take 193 ++ (.inr (103, q) :: (nw_SH.drop 195).take k))
theorem xv_new {i ci N : Nat} {C : String} {T : u_T} {fs : List (Option (Option Nat))} (hn : sh.length = n) (hl : Cond.classLink M.1.cls i C ∈ nw_gw) (hcl : nw_cl[ci]? = some (C, T, N)) (hi : Cond.instantiable C N ∈ nw_gw) (hini : Cond.initialized C ∈ nw_gw) (hd : decode M.2.1 pc = .ok (.new i, 3)) (hci : ci < 100) (hfs : ∀ j, j < N → fs[j]? = some none ∧ defaultValue (nw_tyf ci j) = .int 0 ∨ fs[j]? = some (some none) ∧ defaultValue (nw_tyf ci j) = .null)
    (k : nw_Ev l g d M (pc + 3) ls (.ref (nw_a g n) :: st) (sh ++ [.inr (ci, fs)]) (nw_z I n) kc ks Post) : nw_Ev l g d M pc ls st sh I (kc + 1) (ks + N) Post := by
  subst hn
  exact ev_new hl hcl hi hini hd hci hfs k
theorem xv_callN {i : Nat} {c : nw_Sh} {P : nw_Me → Prop} (h : nw_K l g d M' n sh [c] I kc1 ks1 t2 P) (hsh : sh ++ t2 = sh') (hl : nw_mn M.1.cls i M') (hk : nw_ok M' 0) (hv : nw_ii M') (hd : decode M.2.1 pc = .ok (.invokespecial i, 3)) (hret : M'.2.2.2 = none) (hlen : 1 ≤ M'.2.2.1) (hst : (st.map fun v => v.category).sum ≤ 8)
    (kk : ∀ J, P J → nw_Ev l g (d + 1) M (pc + 3) ls st sh' J kc ks Post) : nw_Ev l g (d + 1) M pc ls (.ref (nw_a g n) :: st) (sh ++ [c]) I (kc1 + kc) (ks1 + ks) Post := by
  subst hsh
  exact tv_callN h hl hk hv hd hret hlen hst kk
theorem xv_callI {i : Nat} {c : nw_Sh} {P : nw_Me → Prop} (h : nw_K l g d M' n sh [c] I kc1 ks1 t2 P) (hsh : sh ++ t2 = sh') (hl : nw_ml M.1.cls i M') (hk : nw_ok M' 0) (hv : nw_ii M') (hd : decode M.2.1 pc = .ok (.invokespecial i, 3)) (hret : M'.2.2.2 = none) (hlen : 1 ≤ M'.2.2.1) (hst : (st.map fun v => v.category).sum ≤ 8)
    (kk : ∀ J, P J → nw_Ev l g (d + 1) M (pc + 3) ls st sh' J kc ks Post) : nw_Ev l g (d + 1) M pc ls (.ref (nw_a g n) :: st) (sh ++ [c]) I (kc1 + kc) (ks1 + ks) Post := by
  subst hsh
  exact tv_callI h hl hk hv hd hret hlen hst kk
theorem xv_putR {i ci k f v N : Nat} {fs : List (Option (Option Nat))} {T : u_T} {C : String} (hk : sh[k]? = some (.inr (ci, fs))) (hsh : sh.set k (.inr (ci, fs.set f (some (some v)))) = sh') (hf : nw_fl M.1.cls i ci f) (hd : decode M.2.1 pc = .ok (.putfield i, 3)) (hlf : f < fs.length) (hci : ci < 100) (hcl : nw_cl[ci]? = some (C, T, N)) (hC : C = M.1.cls) (hfin : (T f).2.2.2 = true) (hini : M.1.name = "<init>") (hna : narrow (nw_tyf ci f) (.ref (nw_a g v)) = .ref (nw_a g v)) (hfit : fits (nw_tyf ci f) (.ref (nw_a g v)) = true)
    (kk : nw_Ev l g d M (pc + 3) ls st sh' I kc ks Post) : nw_Ev l g d M pc ls (.ref (nw_a g v) :: .ref (nw_a g k) :: st) sh I kc ks Post := by
  subst hsh
  exact ev_putR hf hd hk hlf hci hcl hC hfin hini hna hfit kk
theorem xv_anew {i q N : Nat} {C : String} {x : Int32} (hn : sh.length = n) (hsh : sh ++ [.inr (100 + q, List.replicate N (some none))] = sh') (hl : Cond.classLink M.1.cls i C ∈ nw_gw) (hao : ∀ s, nw_Ws g s → va_AO C s) (htt : (nw_ty g)[q]? = some (nw_ca g q, .object C)) (hd : decode M.2.1 pc = .ok (.anewarray i, 3)) (h0 : ¬ x < 0) (hN : x.toNatClampNeg = N) (hby : N * 4 ≤ 536870912)
    (k : nw_Ev l g d M (pc + 3) ls (.ref (nw_a g n) :: st) sh' (nw_z I n) kc ks Post) : nw_Ev l g d M pc ls (.int x :: st) sh I (kc + 1) (ks + N) Post := by
  subst hsh
  subst hn
  exact ev_anew hl hao htt hd h0 hN hby k
theorem xv_aast {k q v ci N : Nat} {i : Int32} {i0 : Nat} {C : String} {T : u_T} {fs vs : List (Option (Option Nat))} (hk : sh[k]? = some (.inr (100 + q, fs))) (hsh : sh.set k (.inr (100 + q, fs.set i0 (some (some v)))) = sh') (hd : decode M.2.1 pc = .ok (.aastore, 1)) (htt : (nw_ty g)[q]? = some (nw_ca g q, .object C)) (hv : sh[v]? = some (.inr (ci, vs))) (hci : ci < 100) (hcl : nw_cl[ci]? = some (C, T, N)) (hin : vp_in i fs.length) (hi0 : i.toNatClampNeg = i0)
    (kk : nw_Ev l g d M (pc + 1) ls st sh' I kc ks Post) : nw_Ev l g d M pc ls (.ref (nw_a g v) :: .int i :: .ref (nw_a g k) :: st) sh I kc ks Post := by
  subst hsh
  subst hi0
  exact ev_aast hd hk htt hv hci hcl hin kk
end
set_option maxRecDepth 100000 in
set_option maxHeartbeats 4000000 in
theorem k_wave {l : Launch} {g : nw_G} {I : nw_Me} : nw_K l g 2 mX9_init 0 [] [.inr (8, nw_f8)] I 218 1799 (nw_SH.take 219) (fun J => (∀ i, J 0 i = I 0 i) ∧ (∀ r, r < 8 → J 3 r = -1) ∧ (∀ i, J 13 i = 0) ∧ (∀ i, J 15 i = 0) ∧ J 25 0 = 0 ∧ (∀ i, J 37 i = 0) ∧ (∀ i, J 192 i = 0) ∧ J 195 2 = 0 ∧ J 207 2 = 0) := by
  refine ev_sh (sh' := nw_xp nw_f8 0) rfl ?_
  refine ev_aload_n (i := 0) dX9_init_0 rfl rfl ?_
  refine ev_objInit jX9_1 dX9_init_1 (Nat.le_of_ble_eq_true rfl) ?_
  refine ev_aload_n (i := 0) dX9_init_4 rfl rfl ?_
  refine xv_new (n := 1) (N := 3) (fs := nw_f6) (kc := 217) (ks := 1796) (by decide +kernel) (tb_in (i := 22) (by decide +kernel)) (ci := 6) rfl (tb_in (i := 23) (by decide +kernel)) (kX7_init.2.1) dX9_init_5 (by decide) df6 ?_
  refine ev_dup dX9_init_8 rfl ?_
  refine xv_callI (sh' := nw_xp [some none, some none, some none, some none, some none, some none, some none, some none, some none, some none, nw_nn, nw_nn, nw_nn] 12) (kc1 := 11) (ks1 := 344) (kc := 206) (ks := 1452) ((k_rows (n := 1) (by decide +kernel)).deep (d1 := 1) (Nat.le_of_ble_eq_true rfl)) (by decide +kernel) lX9_9 kX7_init iX7_init dX9_init_9 rfl (Nat.le_of_ble_eq_true rfl) (Nat.le_of_ble_eq_true rfl) ?_
  rintro J0 ⟨p0, e0⟩
  have f0 : ∀ a, a < 1 → J0 a = I a := fun a ha => (e0 a ha).trans (nw_z_ne (by omega))
  refine xv_putR (v := 1) (sh' := nw_xp [nw_rr 1, some none, some none, some none, some none, some none, some none, some none, some none, some none, nw_nn, nw_nn, nw_nn] 12) rfl rfl fX9_10 dX9_init_12 (Nat.le_of_ble_eq_true rfl) (by decide) rfl rfl rfl rfl rfl rfl ?_
  refine ev_aload_n (i := 0) dX9_init_15 rfl rfl ?_
  refine xv_new (n := 13) (N := 6) (fs := nw_f5) (kc := 205) (ks := 1446) (by decide +kernel) (tb_in (i := 41) (by decide +kernel)) (ci := 5) rfl (tb_in (i := 42) (by decide +kernel)) (kX6_init.2.1) dX9_init_16 (by decide) df5 ?_
  refine ev_dup dX9_init_19 rfl ?_
  refine xv_callN (sh' := nw_xp [nw_rr 1, some none, some none, some none, some none, some none, some none, some none, some none, some none, nw_nn, nw_nn, nw_nn] 14) (kc1 := 1) (ks1 := 160) (kc := 204) (ks := 1286) ((k_reader (n := 13) (by decide +kernel)).deep (d1 := 1) (Nat.le_of_ble_eq_true rfl)) (by decide +kernel) lX9_18 kX6_init iX6_init dX9_init_20 rfl (Nat.le_of_ble_eq_true rfl) (Nat.le_of_ble_eq_true rfl) ?_
  rintro J1 ⟨p1, e1⟩
  have f1 : ∀ a, a < 13 → J1 a = J0 a := fun a ha => (e1 a ha).trans (nw_z_ne (by omega))
  refine xv_putR (v := 13) (sh' := nw_xp [nw_rr 1, nw_rr 13, some none, some none, some none, some none, some none, some none, some none, some none, nw_nn, nw_nn, nw_nn] 14) rfl rfl fX9_19 dX9_init_23 (Nat.le_of_ble_eq_true rfl) (by decide) rfl rfl rfl rfl rfl rfl ?_
  refine ev_aload_n (i := 0) dX9_init_26 rfl rfl ?_
  refine xv_new (n := 15) (N := 9) (fs := nw_f2) (kc := 203) (ks := 1277) (by decide +kernel) (tb_in (i := 67) (by decide +kernel)) (ci := 2) rfl (tb_in (i := 68) (by decide +kernel)) (kX2_init.2.1) dX9_init_27 (by decide) df2 ?_
  refine ev_dup dX9_init_30 rfl ?_
  refine xv_callN (sh' := nw_xp [nw_rr 1, nw_rr 13, some none, some none, some none, some none, some none, some none, some none, some none, nw_nn, nw_nn, nw_nn] 19) (kc1 := 4) (ks1 := 49) (kc := 199) (ks := 1228) ((k_chart (n := 15) (by decide +kernel)).deep (d1 := 1) (Nat.le_of_ble_eq_true rfl)) (by decide +kernel) lX9_25 kX2_init iX2_init dX9_init_31 rfl (Nat.le_of_ble_eq_true rfl) (Nat.le_of_ble_eq_true rfl) ?_
  rintro J2 ⟨p2, e2⟩
  have f2 : ∀ a, a < 15 → J2 a = J1 a := fun a ha => (e2 a ha).trans (nw_z_ne (by omega))
  refine xv_putR (v := 15) (sh' := nw_xp [nw_rr 1, nw_rr 13, nw_rr 15, some none, some none, some none, some none, some none, some none, some none, nw_nn, nw_nn, nw_nn] 19) rfl rfl fX9_26 dX9_init_34 (Nat.le_of_ble_eq_true rfl) (by decide) rfl rfl rfl rfl rfl rfl ?_
  refine ev_aload_n (i := 0) dX9_init_37 rfl rfl ?_
  refine xv_new (n := 20) (N := 9) (fs := nw_f2) (kc := 198) (ks := 1219) (by decide +kernel) (tb_in (i := 67) (by decide +kernel)) (ci := 2) rfl (tb_in (i := 68) (by decide +kernel)) (kX2_init.2.1) dX9_init_38 (by decide) df2 ?_
  refine ev_dup dX9_init_41 rfl ?_
  refine xv_callN (sh' := nw_xp [nw_rr 1, nw_rr 13, nw_rr 15, some none, some none, some none, some none, some none, some none, some none, nw_nn, nw_nn, nw_nn] 24) (kc1 := 4) (ks1 := 49) (kc := 194) (ks := 1170) ((k_chart (n := 20) (by decide +kernel)).deep (d1 := 1) (Nat.le_of_ble_eq_true rfl)) (by decide +kernel) lX9_25 kX2_init iX2_init dX9_init_42 rfl (Nat.le_of_ble_eq_true rfl) (Nat.le_of_ble_eq_true rfl) ?_
  rintro J3 ⟨p3, e3⟩
  have f3 : ∀ a, a < 20 → J3 a = J2 a := fun a ha => (e3 a ha).trans (nw_z_ne (by omega))
  refine xv_putR (v := 20) (sh' := nw_xp [nw_rr 1, nw_rr 13, nw_rr 15, nw_rr 20, some none, some none, some none, some none, some none, some none, nw_nn, nw_nn, nw_nn] 24) rfl rfl fX9_30 dX9_init_45 (Nat.le_of_ble_eq_true rfl) (by decide) rfl rfl rfl rfl rfl rfl ?_
  refine ev_aload_n (i := 0) dX9_init_48 rfl rfl ?_
  refine xv_new (n := 25) (N := 7) (fs := nw_f7) (kc := 193) (ks := 1163) (by decide +kernel) (tb_in (i := 125) (by decide +kernel)) (ci := 7) rfl (tb_in (i := 126) (by decide +kernel)) (kX8_init.2.1) dX9_init_49 (by decide) df7 ?_
  refine ev_dup dX9_init_52 rfl ?_
  refine xv_callN (sh' := nw_xp [nw_rr 1, nw_rr 13, nw_rr 15, nw_rr 20, some none, some none, some none, some none, some none, some none, nw_nn, nw_nn, nw_nn] 30) (kc1 := 5) (ks1 := 27) (kc := 188) (ks := 1136) ((k_scene (n := 25) (by decide +kernel)).deep (d1 := 1) (Nat.le_of_ble_eq_true rfl)) (by decide +kernel) lX9_35 kX8_init iX8_init dX9_init_53 rfl (Nat.le_of_ble_eq_true rfl) (Nat.le_of_ble_eq_true rfl) ?_
  rintro J4 ⟨p4, e4⟩
  have f4 : ∀ a, a < 25 → J4 a = J3 a := fun a ha => (e4 a ha).trans (nw_z_ne (by omega))
  refine xv_putR (v := 25) (sh' := nw_xp [nw_rr 1, nw_rr 13, nw_rr 15, nw_rr 20, nw_rr 25, some none, some none, some none, some none, some none, nw_nn, nw_nn, nw_nn] 30) rfl rfl fX9_36 dX9_init_56 (Nat.le_of_ble_eq_true rfl) (by decide) rfl rfl rfl rfl rfl rfl ?_
  refine ev_aload_n (i := 0) dX9_init_59 rfl rfl ?_
  refine xv_new (n := 31) (N := 7) (fs := nw_f7) (kc := 187) (ks := 1129) (by decide +kernel) (tb_in (i := 125) (by decide +kernel)) (ci := 7) rfl (tb_in (i := 126) (by decide +kernel)) (kX8_init.2.1) dX9_init_60 (by decide) df7 ?_
  refine ev_dup dX9_init_63 rfl ?_
  refine xv_callN (sh' := nw_xp [nw_rr 1, nw_rr 13, nw_rr 15, nw_rr 20, nw_rr 25, some none, some none, some none, some none, some none, nw_nn, nw_nn, nw_nn] 36) (kc1 := 5) (ks1 := 27) (kc := 182) (ks := 1102) ((k_scene (n := 31) (by decide +kernel)).deep (d1 := 1) (Nat.le_of_ble_eq_true rfl)) (by decide +kernel) lX9_35 kX8_init iX8_init dX9_init_64 rfl (Nat.le_of_ble_eq_true rfl) (Nat.le_of_ble_eq_true rfl) ?_
  rintro J5 ⟨p5, e5⟩
  have f5 : ∀ a, a < 31 → J5 a = J4 a := fun a ha => (e5 a ha).trans (nw_z_ne (by omega))
  refine xv_putR (v := 31) (sh' := nw_xp [nw_rr 1, nw_rr 13, nw_rr 15, nw_rr 20, nw_rr 25, nw_rr 31, some none, some none, some none, some none, nw_nn, nw_nn, nw_nn] 36) rfl rfl fX9_40 dX9_init_67 (Nat.le_of_ble_eq_true rfl) (by decide) rfl rfl rfl rfl rfl rfl ?_
  refine ev_aload_n (i := 0) dX9_init_70 rfl rfl ?_
  refine xv_new (n := 37) (N := 3) (fs := nw_f0) (kc := 181) (ks := 1099) (by decide +kernel) (tb_in (i := 166) (by decide +kernel)) (ci := 0) rfl (tb_in (i := 167) (by decide +kernel)) (kX0_init.2.1) dX9_init_71 (by decide) df0 ?_
  refine ev_dup dX9_init_74 rfl ?_
  refine xv_callI (sh' := nw_xp [nw_rr 1, nw_rr 13, nw_rr 15, nw_rr 20, nw_rr 25, nw_rr 31, some none, some none, some none, some none, nw_nn, nw_nn, nw_nn] 182) (kc1 := 145) (ks1 := 840) (kc := 36) (ks := 259) ((k_acts (n := 37) (by decide +kernel)).deep (d1 := 1) (Nat.le_of_ble_eq_true rfl)) (by decide +kernel) lX9_45 kX0_init iX0_init dX9_init_75 rfl (Nat.le_of_ble_eq_true rfl) (Nat.le_of_ble_eq_true rfl) ?_
  rintro J6 ⟨p6, e6⟩
  have f6 : ∀ a, a < 37 → J6 a = J5 a := fun a ha => (e6 a ha).trans (nw_z_ne (by omega))
  refine xv_putR (v := 37) (sh' := nw_xp [nw_rr 1, nw_rr 13, nw_rr 15, nw_rr 20, nw_rr 25, nw_rr 31, nw_rr 37, some none, some none, some none, nw_nn, nw_nn, nw_nn] 182) rfl rfl fX9_46 dX9_init_78 (Nat.le_of_ble_eq_true rfl) (by decide) rfl rfl rfl rfl rfl rfl ?_
  refine ev_aload_n (i := 0) dX9_init_81 rfl rfl ?_
  refine xv_new (n := 183) (N := 6) (fs := nw_f4) (kc := 35) (ks := 253) (by decide +kernel) (tb_in (i := 186) (by decide +kernel)) (ci := 4) rfl (tb_in (i := 187) (by decide +kernel)) (kX5_init.2.1) dX9_init_82 (by decide) df4 ?_
  refine ev_dup dX9_init_85 rfl ?_
  refine xv_callN (sh' := nw_xp [nw_rr 1, nw_rr 13, nw_rr 15, nw_rr 20, nw_rr 25, nw_rr 31, nw_rr 37, some none, some none, some none, nw_nn, nw_nn, nw_nn] 191) (kc1 := 8) (ks1 := 39) (kc := 27) (ks := 214) ((k_orders (n := 183) (by decide +kernel)).deep (d1 := 1) (Nat.le_of_ble_eq_true rfl)) (by decide +kernel) lX9_52 kX5_init iX5_init dX9_init_86 rfl (Nat.le_of_ble_eq_true rfl) (Nat.le_of_ble_eq_true rfl) ?_
  rintro J7 e7
  have f7 : ∀ a, a < 183 → J7 a = J6 a := fun a ha => (e7 a ha).trans (nw_z_ne (by omega))
  refine xv_putR (v := 183) (sh' := nw_xp [nw_rr 1, nw_rr 13, nw_rr 15, nw_rr 20, nw_rr 25, nw_rr 31, nw_rr 37, nw_rr 183, some none, some none, nw_nn, nw_nn, nw_nn] 191) rfl rfl fX9_53 dX9_init_89 (Nat.le_of_ble_eq_true rfl) (by decide) rfl rfl rfl rfl rfl rfl ?_
  refine ev_aload_n (i := 0) dX9_init_92 rfl rfl ?_
  refine xv_new (n := 192) (N := 6) (fs := nw_f1) (kc := 26) (ks := 208) (by decide +kernel) (tb_in (i := 214) (by decide +kernel)) (ci := 1) rfl (tb_in (i := 215) (by decide +kernel)) (kX1_init.2.1) dX9_init_93 (by decide) df1 ?_
  refine ev_dup dX9_init_96 rfl ?_
  refine xv_callN (sh' := nw_xp [nw_rr 1, nw_rr 13, nw_rr 15, nw_rr 20, nw_rr 25, nw_rr 31, nw_rr 37, nw_rr 183, some none, some none, nw_nn, nw_nn, nw_nn] 193) (kc1 := 1) (ks1 := 16) (kc := 25) (ks := 192) ((k_asker (n := 192) (by decide +kernel)).deep (d1 := 1) (Nat.le_of_ble_eq_true rfl)) (by decide +kernel) lX9_59 kX1_init iX1_init dX9_init_97 rfl (Nat.le_of_ble_eq_true rfl) (Nat.le_of_ble_eq_true rfl) ?_
  rintro J8 ⟨p8, e8⟩
  have f8 : ∀ a, a < 192 → J8 a = J7 a := fun a ha => (e8 a ha).trans (nw_z_ne (by omega))
  refine xv_putR (v := 192) (sh' := nw_xp [nw_rr 1, nw_rr 13, nw_rr 15, nw_rr 20, nw_rr 25, nw_rr 31, nw_rr 37, nw_rr 183, nw_rr 192, some none, nw_nn, nw_nn, nw_nn] 193) rfl rfl fX9_60 dX9_init_100 (Nat.le_of_ble_eq_true rfl) (by decide) rfl rfl rfl rfl rfl rfl ?_
  refine ev_aload_n (i := 0) dX9_init_103 rfl rfl ?_
  refine ev_iconst (v := 2) dX9_init_104 kc_2 ?_
  refine xv_anew (n := 194) (N := 2) (q := 3) (kc := 24) (ks := 190) (sh' := nw_xi [nw_rr 1, nw_rr 13, nw_rr 15, nw_rr 20, nw_rr 25, nw_rr 31, nw_rr 37, nw_rr 183, nw_rr 192, some none, nw_nn, nw_nn, nw_nn] [some none, some none] 0) (by decide +kernel) (by decide +kernel) (tb_in (i := 241) (by decide +kernel)) (fun s h => h.2.2.2.2.2.2.2.2.2.2.2.2.1) rfl dX9_init_105 (by decide) (by decide) (by decide) ?_
  refine xv_putR (v := 194) (sh' := nw_xi [nw_rr 1, nw_rr 13, nw_rr 15, nw_rr 20, nw_rr 25, nw_rr 31, nw_rr 37, nw_rr 183, nw_rr 192, nw_rr 194, nw_nn, nw_nn, nw_nn] [some none, some none] 0) rfl rfl fX9_66 dX9_init_108 (Nat.le_of_ble_eq_true rfl) (by decide) rfl rfl rfl rfl rfl rfl ?_
  refine ev_iconst (v := 0) dX9_init_111 kc_0 ?_
  refine ev_istore_n (i := 1) dX9_init_112 rfl (Nat.le_of_ble_eq_true rfl) rfl ?_
  refine ev_iload_n (i := 1) dX9_init_113 rfl rfl ?_
  refine ev_iconst (v := 2) dX9_init_114 kc_2 ?_
  refine ev_icmp_ge (tgt := 137) dX9_init_115 (by decide) (fun h => absurd h (by decide)) (fun _ => ?_)
  refine ev_aload_n (i := 0) dX9_init_118 rfl rfl ?_
  refine ev_getR fX9_66 dX9_init_119 rfl rfl (by decide) ?_
  refine ev_iload_n (i := 1) dX9_init_122 rfl rfl ?_
  refine xv_new (n := 195) (N := 3) (fs := nw_f3) (kc := 23) (ks := 187) (by decide +kernel) (tb_in (i := 241) (by decide +kernel)) (ci := 3) rfl (tb_in (i := 243) (by decide +kernel)) (kX3_init.2.1) dX9_init_123 (by decide) df3 ?_
  refine ev_dup dX9_init_126 rfl ?_
  refine xv_callN (sh' := nw_xi [nw_rr 1, nw_rr 13, nw_rr 15, nw_rr 20, nw_rr 25, nw_rr 31, nw_rr 37, nw_rr 183, nw_rr 192, nw_rr 194, nw_nn, nw_nn, nw_nn] [some none, some none] 12) (kc1 := 11) (ks1 := 92) (kc := 12) (ks := 95) (k_image (n := 195) (by decide +kernel)) (by decide +kernel) lX9_70 kX3_init iX3_init dX9_init_127 rfl (Nat.le_of_ble_eq_true rfl) (Nat.le_of_ble_eq_true rfl) ?_
  rintro J9 ⟨p9, e9⟩
  have f9 : ∀ a, a < 194 → J9 a = J8 a := fun a ha => (e9 a (by omega)).trans ((nw_z_ne (by omega)).trans (nw_z_ne (by omega)))
  refine xv_aast (q := 3) (v := 195) (ci := 3) (i0 := 0) (sh' := nw_xi [nw_rr 1, nw_rr 13, nw_rr 15, nw_rr 20, nw_rr 25, nw_rr 31, nw_rr 37, nw_rr 183, nw_rr 192, nw_rr 194, nw_nn, nw_nn, nw_nn] [nw_rr 195, some none] 12) rfl (by decide +kernel) dX9_init_130 rfl rfl (by decide) rfl (nw_in_lit (by decide)) (by decide) ?_
  refine ev_iincm (m := 1) dX9_init_131 kc_1 rfl (Nat.le_of_ble_eq_true rfl) rfl ?_
  refine ev_goto (tgt := 113) dX9_init_134 (by decide) ?_
  refine ev_iload_n (i := 1) dX9_init_113 rfl rfl ?_
  refine ev_iconst (v := 2) dX9_init_114 kc_2 ?_
  refine ev_icmp_ge (tgt := 137) dX9_init_115 (by decide) (fun h => absurd h (by decide)) (fun _ => ?_)
  refine ev_aload_n (i := 0) dX9_init_118 rfl rfl ?_
  refine ev_getR fX9_66 dX9_init_119 rfl rfl (by decide) ?_
  refine ev_iload_n (i := 1) dX9_init_122 rfl rfl ?_
  refine xv_new (n := 207) (N := 3) (fs := nw_f3) (kc := 11) (ks := 92) (by decide +kernel) (tb_in (i := 241) (by decide +kernel)) (ci := 3) rfl (tb_in (i := 243) (by decide +kernel)) (kX3_init.2.1) dX9_init_123 (by decide) df3 ?_
  refine ev_dup dX9_init_126 rfl ?_
  refine xv_callN (sh' := nw_xi [nw_rr 1, nw_rr 13, nw_rr 15, nw_rr 20, nw_rr 25, nw_rr 31, nw_rr 37, nw_rr 183, nw_rr 192, nw_rr 194, nw_nn, nw_nn, nw_nn] [nw_rr 195, some none] 24) (kc1 := 11) (ks1 := 92) (kc := 0) (ks := 0) (k_image (n := 207) (by decide +kernel)) (by decide +kernel) lX9_70 kX3_init iX3_init dX9_init_127 rfl (Nat.le_of_ble_eq_true rfl) (Nat.le_of_ble_eq_true rfl) ?_
  rintro J10 ⟨p10, e10⟩
  have f10 : ∀ a, a < 207 → J10 a = J9 a := fun a ha => (e10 a ha).trans (nw_z_ne (by omega))
  refine xv_aast (q := 3) (v := 207) (ci := 3) (i0 := 1) (sh' := nw_xi [nw_rr 1, nw_rr 13, nw_rr 15, nw_rr 20, nw_rr 25, nw_rr 31, nw_rr 37, nw_rr 183, nw_rr 192, nw_rr 194, nw_nn, nw_nn, nw_nn] [nw_rr 195, nw_rr 207] 24) rfl (by decide +kernel) dX9_init_130 rfl rfl (by decide) rfl (nw_in_lit (by decide)) (by decide) ?_
  refine ev_iincm (m := 1) dX9_init_131 kc_1 rfl (Nat.le_of_ble_eq_true rfl) rfl ?_
  refine ev_goto (tgt := 113) dX9_init_134 (by decide) ?_
  refine ev_iload_n (i := 1) dX9_init_113 rfl rfl ?_
  refine ev_iconst (v := 2) dX9_init_114 kc_2 ?_
  refine ev_icmp_ge (tgt := 137) dX9_init_115 (by decide) (fun _ => ?_) (fun h => absurd (by decide) h)
  refine ev_return dX9_init_137 ⟨rfl, (by decide +kernel), fun i => ?_, fun r hr => ?_, fun i => ?_, fun i => ?_, ?_, fun i => ?_, fun i => ?_, ?_, ?_⟩
  · rw [f10 0 (by omega), f9 0 (by omega), f8 0 (by omega), f7 0 (by omega), f6 0 (by omega), f5 0 (by omega), f4 0 (by omega), f3 0 (by omega), f2 0 (by omega), f1 0 (by omega), f0 0 (by omega)]
  · rw [f10 3 (by omega), f9 3 (by omega), f8 3 (by omega), f7 3 (by omega), f6 3 (by omega), f5 3 (by omega), f4 3 (by omega), f3 3 (by omega), f2 3 (by omega), f1 3 (by omega)]; exact p0 r hr
  · rw [f10 13 (by omega), f9 13 (by omega), f8 13 (by omega), f7 13 (by omega), f6 13 (by omega), f5 13 (by omega), f4 13 (by omega), f3 13 (by omega), f2 13 (by omega), p1 i, nw_z_self]
  · rw [f10 15 (by omega), f9 15 (by omega), f8 15 (by omega), f7 15 (by omega), f6 15 (by omega), f5 15 (by omega), f4 15 (by omega), f3 15 (by omega), p2 i, nw_z_self]
  · rw [f10 25 (by omega), f9 25 (by omega), f8 25 (by omega), f7 25 (by omega), f6 25 (by omega), f5 25 (by omega), p4, nw_z_self]
  · rw [f10 37 (by omega), f9 37 (by omega), f8 37 (by omega), f7 37 (by omega), p6 i, nw_z_self]
  · rw [f10 192 (by omega), f9 192 (by omega), p8 i, nw_z_self]
  · rw [f10 195 (by omega), p9 2, nw_z_self]
  · rw [p10 2, nw_z_self]
