theorem kc_m1 : Int32.ofInt (-1) = -1 := by decide
theorem kc_0 : Int32.ofInt (0) = 0 := by decide
theorem kc_1 : Int32.ofInt (1) = 1 := by decide
theorem kc_2 : Int32.ofInt (2) = 2 := by decide
theorem kc_3 : Int32.ofInt (3) = 3 := by decide
theorem kc_4 : Int32.ofInt (4) = 4 := by decide
theorem kc_5 : Int32.ofInt (5) = 5 := by decide
theorem kb_m9 : (Int8.ofInt (-9)).toInt32 = -9 := by decide
theorem kb_m4 : (Int8.ofInt (-4)).toInt32 = -4 := by decide
theorem kb_6 : (Int8.ofInt (6)).toInt32 = 6 := by decide
theorem kb_7 : (Int8.ofInt (7)).toInt32 = 7 := by decide
theorem kb_8 : (Int8.ofInt (8)).toInt32 = 8 := by decide
theorem kb_9 : (Int8.ofInt (9)).toInt32 = 9 := by decide
theorem kb_10 : (Int8.ofInt (10)).toInt32 = 10 := by decide
theorem kb_11 : (Int8.ofInt (11)).toInt32 = 11 := by decide
theorem kb_12 : (Int8.ofInt (12)).toInt32 = 12 := by decide
theorem kb_13 : (Int8.ofInt (13)).toInt32 = 13 := by decide
theorem kb_14 : (Int8.ofInt (14)).toInt32 = 14 := by decide
theorem kb_16 : (Int8.ofInt (16)).toInt32 = 16 := by decide
theorem kb_17 : (Int8.ofInt (17)).toInt32 = 17 := by decide
theorem kb_20 : (Int8.ofInt (20)).toInt32 = 20 := by decide
theorem kb_21 : (Int8.ofInt (21)).toInt32 = 21 := by decide
theorem kb_22 : (Int8.ofInt (22)).toInt32 = 22 := by decide
theorem kb_23 : (Int8.ofInt (23)).toInt32 = 23 := by decide
theorem kb_24 : (Int8.ofInt (24)).toInt32 = 24 := by decide
theorem kb_26 : (Int8.ofInt (26)).toInt32 = 26 := by decide
theorem kb_29 : (Int8.ofInt (29)).toInt32 = 29 := by decide
theorem kb_30 : (Int8.ofInt (30)).toInt32 = 30 := by decide
theorem kb_40 : (Int8.ofInt (40)).toInt32 = 40 := by decide
theorem kb_44 : (Int8.ofInt (44)).toInt32 = 44 := by decide
theorem kb_46 : (Int8.ofInt (46)).toInt32 = 46 := by decide
theorem kb_48 : (Int8.ofInt (48)).toInt32 = 48 := by decide
theorem kb_49 : (Int8.ofInt (49)).toInt32 = 49 := by decide
theorem kb_55 : (Int8.ofInt (55)).toInt32 = 55 := by decide
theorem kb_57 : (Int8.ofInt (57)).toInt32 = 57 := by decide
theorem kb_59 : (Int8.ofInt (59)).toInt32 = 59 := by decide
theorem kb_60 : (Int8.ofInt (60)).toInt32 = 60 := by decide
theorem kb_63 : (Int8.ofInt (63)).toInt32 = 63 := by decide
theorem kb_72 : (Int8.ofInt (72)).toInt32 = 72 := by decide
theorem kb_84 : (Int8.ofInt (84)).toInt32 = 84 := by decide
theorem kb_98 : (Int8.ofInt (98)).toInt32 = 98 := by decide
theorem kb_99 : (Int8.ofInt (99)).toInt32 = 99 := by decide
theorem kb_100 : (Int8.ofInt (100)).toInt32 = 100 := by decide
theorem kb_104 : (Int8.ofInt (104)).toInt32 = 104 := by decide
theorem kb_108 : (Int8.ofInt (108)).toInt32 = 108 := by decide
theorem kb_109 : (Int8.ofInt (109)).toInt32 = 109 := by decide
theorem kb_112 : (Int8.ofInt (112)).toInt32 = 112 := by decide
theorem kb_115 : (Int8.ofInt (115)).toInt32 = 115 := by decide
theorem kb_116 : (Int8.ofInt (116)).toInt32 = 116 := by decide
theorem ks_160 : (Int16.ofInt (160)).toInt32 = 160 := by decide
theorem ks_168 : (Int16.ofInt (168)).toInt32 = 168 := by decide
theorem ks_200 : (Int16.ofInt (200)).toInt32 = 200 := by decide
theorem ks_255 : (Int16.ofInt (255)).toInt32 = 255 := by decide
theorem ks_320 : (Int16.ofInt (320)).toInt32 = 320 := by decide
theorem ks_399 : (Int16.ofInt (399)).toInt32 = 399 := by decide
theorem ks_667 : (Int16.ofInt (667)).toInt32 = 667 := by decide
theorem ks_696 : (Int16.ofInt (696)).toInt32 = 696 := by decide
theorem ks_720 : (Int16.ofInt (720)).toInt32 = 720 := by decide
theorem ks_999 : (Int16.ofInt (999)).toInt32 = 999 := by decide
theorem ks_1000 : (Int16.ofInt (1000)).toInt32 = 1000 := by decide
theorem ks_1199 : (Int16.ofInt (1199)).toInt32 = 1199 := by decide
theorem fX4_7 : Cond.fieldLink RX4 7 RX4 "NEXT" "[I" ∈ nw_gw := tb_in (i := 753) (by decide +kernel)
theorem fX1_47 : Cond.fieldLink RX1 47 RX1 "TOLD" "[I" ∈ nw_gw := tb_in (i := 771) (by decide +kernel)
/-- contracts that say the answer and the cells outright -/
abbrev nw_dI (l : Launch) (g : nw_G) (d : Nat) (M : nw_Mt) (av : List Value) (I : nw_Me) (r0 : Int32) (I0 : nw_Me) : Prop := nw_cI l g d M av I (fun r I' => r = r0 ∧ I' = I0)
abbrev nw_dZ (l : Launch) (g : nw_G) (d : Nat) (M : nw_Mt) (av : List Value) (I : nw_Me) (r0 : Bool) (I0 : nw_Me) : Prop := nw_cZ l g d M av I (fun r I' => r = r0 ∧ I' = I0)
abbrev nw_dV (l : Launch) (g : nw_G) (d : Nat) (M : nw_Mt) (av : List Value) (I : nw_Me) (I0 : nw_Me) : Prop := nw_cV l g d M av I (fun I' => I' = I0)
section
variable {l : Launch} {g : nw_G} {d d0 : Nat} {M M' : nw_Mt} {pc n : Nat} {ls : List (Option Value)} {st : List Value} {I I0 : nw_Me} {Post : Option Int32 → List nw_Sh → nw_Me → Prop}
theorem s_dVi {i k ci N : Nat} {T : u_T} {fs : List (Option (Option Nat))} {As : List Value} {r0 : Int32} (h : nw_dI l g d0 M' (.ref (nw_a g k) :: As) I r0 I0) (hdd : d0 ≤ d) (hl : nw_ml M.1.cls i M') (hk : nw_ok M' n) (hv : nw_iv M') (hd : decode M.2.1 pc = .ok (.invokevirtual i, 3)) (hret : M'.2.2.2 = some .int) (hn : As.length = n) (hsh : nw_SH[k]? = some (.inr (ci, fs))) (hci : ci < 100) (hcl : nw_cl[ci]? = some (M'.1.cls, T, N)) (hst : (st.map fun v => v.category).sum ≤ 8) (kk : nw_S l g (d + 1) M (pc + 3) ls (.int r0 :: st) I0 Post) : nw_S l g (d + 1) M pc ls (As.reverse ++ .ref (nw_a g k) :: st) I Post :=
  s_callVi h hdd hl hk hv hd hret hn hsh hci hcl hst (fun r I' q => by rw [q.1, q.2]; exact kk)
theorem s_dVz {i k ci N : Nat} {T : u_T} {fs : List (Option (Option Nat))} {As : List Value} {r0 : Bool} (h : nw_dZ l g d0 M' (.ref (nw_a g k) :: As) I r0 I0) (hdd : d0 ≤ d) (hl : nw_ml M.1.cls i M') (hk : nw_ok M' n) (hv : nw_iv M') (hd : decode M.2.1 pc = .ok (.invokevirtual i, 3)) (hret : M'.2.2.2 = some .boolean) (hn : As.length = n) (hsh : nw_SH[k]? = some (.inr (ci, fs))) (hci : ci < 100) (hcl : nw_cl[ci]? = some (M'.1.cls, T, N)) (hst : (st.map fun v => v.category).sum ≤ 8) (kk : nw_S l g (d + 1) M (pc + 3) ls (.int (nw_bi r0) :: st) I0 Post) : nw_S l g (d + 1) M pc ls (As.reverse ++ .ref (nw_a g k) :: st) I Post :=
  s_callVz h hdd hl hk hv hd hret hn hsh hci hcl hst (fun r I' q => by rw [q.1, q.2]; exact kk)
theorem s_dVv {i k ci N : Nat} {T : u_T} {fs : List (Option (Option Nat))} {As : List Value} (h : nw_dV l g d0 M' (.ref (nw_a g k) :: As) I I0) (hdd : d0 ≤ d) (hl : nw_ml M.1.cls i M') (hk : nw_ok M' n) (hv : nw_iv M') (hd : decode M.2.1 pc = .ok (.invokevirtual i, 3)) (hret : M'.2.2.2 = none) (hn : As.length = n) (hsh : nw_SH[k]? = some (.inr (ci, fs))) (hci : ci < 100) (hcl : nw_cl[ci]? = some (M'.1.cls, T, N)) (hst : (st.map fun v => v.category).sum ≤ 8) (kk : nw_S l g (d + 1) M (pc + 3) ls (st) I0 Post) : nw_S l g (d + 1) M pc ls (As.reverse ++ .ref (nw_a g k) :: st) I Post :=
  s_callVv h hdd hl hk hv hd hret hn hsh hci hcl hst (fun I' q => by rw [q]; exact kk)
theorem s_dSi {i : Nat} {As : List Value} {r0 : Int32} (h : nw_dI l g d0 M' As I r0 I0) (hdd : d0 ≤ d) (hl : nw_ml M.1.cls i M') (hk : nw_ok M' n) (hv : nw_ss M') (hd : decode M.2.1 pc = .ok (.invokestatic i, 3)) (hret : M'.2.2.2 = some .int) (hn : As.length = n) (hst : (st.map fun v => v.category).sum ≤ 8) (kk : nw_S l g (d + 1) M (pc + 3) ls (.int r0 :: st) I0 Post) : nw_S l g (d + 1) M pc ls (As.reverse ++ st) I Post :=
  s_callSi h hdd hl hk hv hd hret hn hst (fun r I' q => by rw [q.1, q.2]; exact kk)
theorem s_dSz {i : Nat} {As : List Value} {r0 : Bool} (h : nw_dZ l g d0 M' As I r0 I0) (hdd : d0 ≤ d) (hl : nw_ml M.1.cls i M') (hk : nw_ok M' n) (hv : nw_ss M') (hd : decode M.2.1 pc = .ok (.invokestatic i, 3)) (hret : M'.2.2.2 = some .boolean) (hn : As.length = n) (hst : (st.map fun v => v.category).sum ≤ 8) (kk : nw_S l g (d + 1) M (pc + 3) ls (.int (nw_bi r0) :: st) I0 Post) : nw_S l g (d + 1) M pc ls (As.reverse ++ st) I Post :=
  s_callSz h hdd hl hk hv hd hret hn hst (fun r I' q => by rw [q.1, q.2]; exact kk)
theorem s_dNz {i : Nat} {As : List Value} {r0 : Bool} (h : nw_dZ l g d0 M' As I r0 I0) (hdd : d0 ≤ d) (hl : nw_mn M.1.cls i M') (hk : nw_ok M' n) (hv : nw_ss M') (hd : decode M.2.1 pc = .ok (.invokestatic i, 3)) (hret : M'.2.2.2 = some .boolean) (hn : As.length = n) (hst : (st.map fun v => v.category).sum ≤ 8) (kk : nw_S l g (d + 1) M (pc + 3) ls (.int (nw_bi r0) :: st) I0 Post) : nw_S l g (d + 1) M pc ls (As.reverse ++ st) I Post :=
  s_callNz h hdd hl hk hv hd hret hn hst (fun r I' q => by rw [q.1, q.2]; exact kk)
theorem s_postI {P P' : Int32 → nw_Me → Prop} (k : nw_S l g d M pc ls st I (nw_qI P)) (h : ∀ r I', P r I' → P' r I') : nw_S l g d M pc ls st I (nw_qI P') := ev_post (fun v sh1 I1 q => ⟨q.1, by obtain ⟨-, r, e, q⟩ := q; exact ⟨r, e, h _ _ q⟩⟩) k
theorem s_postZ {P P' : Bool → nw_Me → Prop} (k : nw_S l g d M pc ls st I (nw_qZ P)) (h : ∀ r I', P r I' → P' r I') : nw_S l g d M pc ls st I (nw_qZ P') := ev_post (fun v sh1 I1 q => ⟨q.1, by obtain ⟨-, r, e, q⟩ := q; exact ⟨r, e, h _ _ q⟩⟩) k
theorem s_postV {P P' : nw_Me → Prop} (k : nw_S l g d M pc ls st I (nw_qV P)) (h : ∀ I', P I' → P' I') : nw_S l g d M pc ls st I (nw_qV P') := ev_post (fun v sh1 I1 q => ⟨q.1, q.2.1, h _ q.2.2⟩) k
theorem ev_aaldN {t k j q : Nat} {ty : FieldType} {fs : List (Option (Option Nat))} {sh : List nw_Sh} {kc ks : Nat} (hty : (nw_ty g)[t]? = some (nw_ca g t, ty)) (href : ty.isReference = true) (hd : decode M.2.1 pc = .ok (.aaload, 1)) (hk : sh[k]? = some (.inr (100 + t, fs))) (hj : j < fs.length) (hn : fs.length < 2 ^ 31) (hq : fs[j]? = some (some (some q))) (kk : nw_Ev l g d M (pc + 1) ls (.ref (nw_a g q) :: st) sh I kc ks Post) : nw_Ev l g d M pc ls (.int (nI j) :: .ref (nw_a g k) :: st) sh I kc ks Post := nw_aald hty href hd hk (vp_in_nI hj hn) (by rw [nI_clamp (by omega)]; exact hq) kk
theorem ev_iincm {i : Nat} {n : Int} {m x : Int32} {sh : List nw_Sh} {kc ks : Nat} (hd : decode M.2.1 pc = .ok (.iinc i n, 3)) (hm : Int32.ofInt n = m) (hv : ls[i]? = some (some (.int x))) (hn : i < M.2.2.1) (hnl : nw_nl ls i = true) (k : nw_Ev l g d M (pc + 3) (ls.set i (some (.int (x + m)))) st sh I kc ks Post) : nw_Ev l g d M pc ls st sh I kc ks Post := by subst hm; exact ev_iinc hd hv hn hnl k
theorem ev_ialdN {k n j : Nat} {sh : List nw_Sh} {kc ks : Nat} (hd : decode M.2.1 pc = .ok (.iaload, 1)) (hk : sh[k]? = some (.inl (0, n))) (hj : j < n) (hn : n < 2 ^ 31) (kk : nw_Ev l g d M (pc + 1) ls (.int (I k j) :: st) sh I kc ks Post) : nw_Ev l g d M pc ls (.int (nI j) :: .ref (nw_a g k) :: st) sh I kc ks Post := ev_iald hd hk (vp_in_nI hj hn) (by rw [nI_clamp (by omega)]; exact kk)
theorem ev_zaldN {k n j : Nat} {sh : List nw_Sh} {kc ks : Nat} (hd : decode M.2.1 pc = .ok (.baload, 1)) (hk : sh[k]? = some (.inl (1, n))) (hj : j < n) (hn : n < 2 ^ 31) (kk : nw_Ev l g d M (pc + 1) ls (.int (I k j) :: st) sh I kc ks Post) : nw_Ev l g d M pc ls (.int (nI j) :: .ref (nw_a g k) :: st) sh I kc ks Post := ev_zald hd hk (vp_in_nI hj hn) (by rw [nI_clamp (by omega)]; exact kk)
theorem ev_iastN {k n j : Nat} {x : Int32} {sh : List nw_Sh} {kc ks : Nat} (hd : decode M.2.1 pc = .ok (.iastore, 1)) (hk : sh[k]? = some (.inl (0, n))) (hj : j < n) (hn : n < 2 ^ 31) (kk : nw_Ev l g d M (pc + 1) ls st sh (nw_up I k j x) kc ks Post) : nw_Ev l g d M pc ls (.int x :: .int (nI j) :: .ref (nw_a g k) :: st) sh I kc ks Post := ev_iast hd hk (vp_in_nI hj hn) (by rw [nI_clamp (by omega)]; exact kk)
theorem ev_zastN {k n j : Nat} {x : Int32} {sh : List nw_Sh} {kc ks : Nat} (hd : decode M.2.1 pc = .ok (.bastore, 1)) (hk : sh[k]? = some (.inl (1, n))) (hj : j < n) (hn : n < 2 ^ 31) (hx : narrow .boolean (.int x) = .int x) (kk : nw_Ev l g d M (pc + 1) ls st sh (nw_up I k j x) kc ks Post) : nw_Ev l g d M pc ls (.int x :: .int (nI j) :: .ref (nw_a g k) :: st) sh I kc ks Post := ev_zast hd hk (vp_in_nI hj hn) hx (by rw [nI_clamp (by omega)]; exact kk)
end
