section
variable {l : Launch} {g : nw_G} {I : nw_Me} {N T S : Nat} {b : Bool} {L : List (Nat → Int32)}
/-- the scenes that can be gone back to, the latest first -/
def nv_acts (I : nw_Me) (L : List (Nat → Int32)) : Prop := ∃ j, j < 24 ∧ I 37 1 = nI j ∧ I 37 2 = nI L.length ∧ L.length ≤ 24 ∧ ∀ i F, L[i]? = some F → nv_fl I (39 + 6 * ((j + 23 - i) % 24)) = F
def nv_mf (I J : nw_Me) : Prop := ∀ k, k < 25 ∨ (31 ≤ k ∧ k < 37) ∨ 183 ≤ k → J k = I k
theorem nv_mf.trans {J K : nw_Me} (h1 : nv_mf I J) (h2 : nv_mf J K) : nv_mf I K := fun k hk => (h2 k hk).trans (h1 k hk)
theorem nv_mf.fr {J K : nw_Me} (h1 : nv_mf I J) (h2 : nv_fr J K 25 6) : nv_mf I K := fun k hk => (h2 k (by omega)).trans (h1 k hk)
theorem nv_mf.cf {J : nw_Me} (h : nv_mf I J) : nv_cf J 15 = nv_cf I 15 := nv_cf_ext (fun k h1 h2 => h k (by omega))
theorem nv_acts.ext {J : nw_Me} (h : nv_acts I L) (hk : ∀ k, 37 ≤ k → k < 183 → J k = I k) : nv_acts J L := by
  obtain ⟨j, h1, h2, h3, h4, h5⟩ := h
  refine ⟨j, h1, by rw [hk 37 (by omega) (by omega)]; exact h2, by rw [hk 37 (by omega) (by omega)]; exact h3, h4, fun i F hF => ?_⟩
  have hm : (j + 23 - i) % 24 < 24 := Nat.mod_lt _ (by decide)
  rw [nv_fl_ext (I := I) (fun k q1 q2 => hk k (by omega) (by omega))]
  exact h5 i F hF
theorem d_keep {a : Nat} (hs : nw_iSc a) (ha : a + 6 ≤ 37) (hA : nv_acts I L) : nw_cV l g 1 mX0_keep [.ref (nw_a g 37), .ref (nw_a g a)] I (fun J => nv_acts J ((nv_fl I a :: L).take 24) ∧ ∀ k, k < 37 ∨ 183 ≤ k → J k = I k) := by
  obtain ⟨j, h1, h2, h3, h4, h5⟩ := hA
  refine (c_keep hs ha h2 h1 h3 h4).mono (fun J q => ⟨⟨(j + 1) % 24, Nat.mod_lt _ (by decide), q.2.1, ?_, ?_, fun i F hF => ?_⟩, fun k hk => q.2.2.2 k (by omega) (by omega)⟩)
  · rw [q.2.2.1]
    congr 1
    rw [List.length_take, List.length_cons]
    split <;> omega
  · rw [List.length_take]
    omega
  · rw [List.getElem?_take] at hF
    split at hF
    · rename_i hi
      cases i with
      | zero =>
        simp at hF
        subst hF
        rw [show ((j + 1) % 24 + 23 - 0) % 24 = j by omega]
        exact q.1
      | succ i =>
        simp at hF
        have e : ((j + 1) % 24 + 23 - (i + 1)) % 24 = (j + 23 - i) % 24 := by omega
        have hm : (j + 23 - i) % 24 < 24 := Nat.mod_lt _ (by decide)
        have hne : (j + 23 - i) % 24 ≠ j := by omega
        rw [e, nv_fl_ext (I := I) (fun k q1 q2 => q.2.2.2 k (by omega) (by omega))]
        exact h5 i F hF
    · cases hF
theorem d_takeBack {a : Nat} {F : Nat → Int32} (hs : nw_iSc a) (ha : a + 6 ≤ 37) (hA : nv_acts I (F :: L)) : nw_cV l g 1 mX0_takeBack [.ref (nw_a g 37), .ref (nw_a g a)] I (fun J => nv_fl J a = F ∧ nv_acts J L ∧ ∀ k, k ≠ 37 → (k < a ∨ a + 6 ≤ k) → J k = I k) := by
  obtain ⟨j, h1, h2, h3, h4, h5⟩ := hA
  refine (c_takeBack hs ha h2 h1 (m := L.length) h3).mono (fun J q => ⟨?_, ⟨(j + 23) % 24, Nat.mod_lt _ (by decide), q.2.1, q.2.2.1, ?_, fun i G hG => ?_⟩, q.2.2.2⟩)
  · rw [q.1]
    exact h5 0 F rfl
  · simp at h4
    omega
  · have hi : i < L.length := (List.getElem?_eq_some_iff.mp hG).1
    simp at h4
    have e : ((j + 23) % 24 + 23 - i) % 24 = (j + 23 - (i + 1)) % 24 := by omega
    have hm : (j + 23 - (i + 1)) % 24 < 24 := Nat.mod_lt _ (by decide)
    rw [e, nv_fl_ext (I := I) (fun k q1 q2 => q.2.2.2 k (by omega) (by omega))]
    exact h5 (i + 1) G (by simpa using hG)
def p_wk (C : Nat → Int32) (T S : Nat) : Nat → (Nat → Int32) → List (Nat → Int32) → List (Nat → Int32)
  | 0, _, L => L
  | n + 1, F, L => p_wk C T S n (p_by C T S F) ((F :: L).take 24)
theorem l_waves {x : Nat} {C : Nat → Int32} (hC : nv_cok C N T S) (h0 : 0 < N) (hx : x ≤ 24) : ∀ (m t v : Nat) (L : List (Nat → Int32)) (J : nw_Me), t + m = x → nv_cf J 15 = C → nv_fok (nv_fl J 25) S → nv_fl J 25 0 = nI v → v + m ≤ 999 → nv_acts J L → nw_S l g 4 mX9_waves 43 [some (.ref (nw_a g 0)), some (.int (nI x)), some (.int (nI t))] [] J (nw_qI (fun r K => r = nI (v + m) ∧ nv_fl K 25 = p_pass C T S m (nv_fl J 25) ∧ nv_acts K (p_wk C T S m (nv_fl J 25) L) ∧ nv_mf J K)) := by
  intro m
  induction m with
  | zero =>
    intro t v L J ht hJ hF hv hvm hA
    have hv' : J 25 0 = nI v := (fl0 J 25).symm.trans hv
    refine ev_iload_n (i := 2) dX9_waves_43 rfl rfl ?_
    refine ev_iload_n (i := 1) dX9_waves_44 rfl rfl ?_
    refine ev_icmp_ge (tgt := 77) dX9_waves_45 (by decide) (fun h45 => ?_) (fun h45 => ?_)
    · refine ev_aload_n (i := 0) dX9_waves_77 rfl rfl ?_
      refine ev_getR fX9_36 dX9_waves_78 rfl rfl (by decide) ?_
      refine ev_getI fX9_157 dX9_waves_81 rfl rfl (by decide) ?_
      rw [hv']
      exact s_retI dX9_waves_84 ⟨rfl, rfl, hA, fun _ _ => rfl⟩
    · exact absurd (nI_le (by omega) (by omega)) h45
  | succ m ih =>
    intro t v L J ht hJ hF hv hvm hA
    refine ev_iload_n (i := 2) dX9_waves_43 rfl rfl ?_
    refine ev_iload_n (i := 1) dX9_waves_44 rfl rfl ?_
    refine ev_icmp_ge (tgt := 77) dX9_waves_45 (by decide) (fun h45 => ?_) (fun h45 => ?_)
    · exact absurd h45 (nI_ge (by omega) (by omega))
    · refine ev_aload_n (i := 0) dX9_waves_48 rfl rfl ?_
      refine ev_getR fX9_46 dX9_waves_49 rfl rfl (by decide) ?_
      refine ev_aload_n (i := 0) dX9_waves_52 rfl rfl ?_
      refine ev_getR fX9_36 dX9_waves_53 rfl rfl (by decide) ?_
      refine s_callVv (As := [_]) (d_keep nw_sc25 (by omega) hA) (Nat.le_of_ble_eq_true rfl) lX9_160 kX0_keep vX0_keep dX9_waves_56 rfl rfl rfl (by decide) rfl (Nat.le_of_ble_eq_true rfl) (fun J1 h1 => ?_)
      have eF : nv_fl J1 25 = nv_fl J 25 := nv_fl_ext (fun k q1 q2 => h1.2 k (by omega))
      have eC : nv_cf J1 15 = C := by rw [nv_cf_ext (I := J) (fun k q1 q2 => h1.2 k (by omega))]; exact hJ
      refine ev_aload_n (i := 0) dX9_waves_59 rfl rfl ?_
      refine ev_getR fX9_36 dX9_waves_60 rfl rfl (by decide) ?_
      refine ev_aload_n (i := 0) dX9_waves_63 rfl rfl ?_
      refine ev_getR fX9_26 dX9_waves_64 rfl rfl (by decide) ?_
      refine s_callVi (As := [_]) (c_comeInBy (v := v) nw_sc25 nw_ch15 (by omega) (by rw [eC]; exact hC) h0 (by rw [eF]; exact hF) (by rw [eF]; exact hv) (by omega)) (Nat.le_of_ble_eq_true rfl) lX9_163 kX8_comeInBy vX8_comeInBy dX9_waves_67 rfl rfl rfl (by decide) rfl (Nat.le_of_ble_eq_true rfl) (fun c J2 h2 => ?_)
      rw [eF, eC] at h2
      refine ev_pop dX9_waves_70 rfl ?_
      refine ev_iincm (m := 1) dX9_waves_71 kc_1 rfl (Nat.le_of_ble_eq_true rfl) rfl ?_
      refine ev_goto (tgt := 43) dX9_waves_74 (by decide) ?_
      rw [nI_1]
      refine s_postI (ih (t + 1) (v + 1) ((nv_fl J 25 :: L).take 24) J2 (by omega) ?_ ?_ ?_ (by omega) ?_) (fun r K q => ?_)
      · rw [h2.2.2.cf (by omega)]
        exact eC
      · rw [h2.2.1]
        exact p_by_fok hC.2.2.2.2.1 hC.2.2.2.2.2 hF
      · rw [h2.2.1, p_by_0 _ hC.2.2.2.2.1, hv, nI_1]
      · exact h1.1.ext (fun k q1 q2 => h2.2.2 k (by omega))
      · rw [h2.2.1] at q
        refine ⟨by rw [q.1]; congr 1; omega, q.2.1, q.2.2.1, fun k hk => (q.2.2.2 k hk).trans ((h2.2.2 k (by omega)).trans (h1.2 k (by omega)))⟩
theorem x_waves (hW : nv_W I b N T S) (hA : nv_acts I L) (n : Int32) : nw_cI l g 4 mX9_waves [.ref (nw_a g 0), .int n] I (fun r J => (b = false ∧ r = -1000002 ∧ J = I) ∨ (b = true ∧ nv_in n 1 24 = false ∧ r = -1000001 ∧ J = I) ∨ ∃ v m, b = true ∧ nv_in n 1 24 = true ∧ n = nI m ∧ 1 ≤ m ∧ m ≤ 24 ∧ v ≤ 999 ∧ nv_fl I 25 0 = nI v ∧ ((999 < v + m ∧ r = -1000003 ∧ J = I) ∨ (v + m ≤ 999 ∧ r = nI (v + m) ∧ nv_fl J 25 = p_pass (nv_cf I 15) T S m (nv_fl I 25) ∧ nv_acts J (p_wk (nv_cf I 15) T S m (nv_fl I 25) L) ∧ nv_mf I J))) := by
  obtain ⟨hb, hCk, hor⟩ := id hW
  obtain ⟨hN, hT, hS, hN2, hT3, hS6⟩ := id hCk
  have hN' : I 15 2 = nI N := (cf3 I 15).symm.trans hN
  have hT' : I 15 3 = nI T := (cf4 I 15).symm.trans hT
  have hS' : I 15 4 = nI S := (cf5 I 15).symm.trans hS
  refine ⟨(Nat.le_of_ble_eq_true rfl), ?_⟩
  refine ev_aload_n (i := 0) dX9_waves_0 rfl rfl ?_
  refine ev_getI fX9_149 dX9_waves_1 rfl rfl (by decide) ?_
  rw [hb]
  refine ev_if_ne (tgt := 10) dX9_waves_4 (by decide) (fun h4 => ?_) (fun h4 => ?_)
  · refine ev_iload_n (i := 1) dX9_waves_10 rfl rfl ?_
    refine ev_iconst (v := 1) dX9_waves_11 kc_1 ?_
    refine ev_bipush (v := 24) dX9_waves_12 kb_24 ?_
    refine s_dSz (As := [_, _, _]) (c_within _ _ _) (Nat.le_of_ble_eq_true rfl) lX9_75 kX9_within sX9_within dX9_waves_14 rfl rfl (Nat.le_of_ble_eq_true rfl) ?_
    refine s_ifZ_ne (tgt := 23) dX9_waves_17 (by decide) (fun h17 => ?_) (fun h17 => ?_)
    · have eb : b = true := by cases b; exact absurd rfl h4; rfl
      subst eb
      obtain ⟨-, h0, h0T, hk, hF, hinj, ⟨v, hv, hv2⟩, hlaw, hH⟩ := hW.sea (Or.inr (Or.inr (Or.inr rfl)))
      obtain ⟨m, hm1, hm2, rfl⟩ := nv_in_n (a := 1) (c := 24) h17 (by decide) (by decide)
      have hv' : I 25 0 = nI v := (fl0 I 25).symm.trans hv2
      have e999 : (999 : Int32) = nI 999 := by decide
      refine ev_aload_n (i := 0) dX9_waves_23 rfl rfl ?_
      refine ev_getR fX9_36 dX9_waves_24 rfl rfl (by decide) ?_
      refine ev_getI fX9_157 dX9_waves_27 rfl rfl (by decide) ?_
      rw [hv']
      refine ev_iload_n (i := 1) dX9_waves_30 rfl rfl ?_
      refine ev_iadd dX9_waves_31 ?_
      rw [nI_add]
      refine ev_sipush (v := 999) dX9_waves_32 ks_999 ?_
      refine ev_icmp_le (tgt := 41) dX9_waves_35 (by decide) (fun h35 => ?_) (fun h35 => ?_)
      · refine ev_iconst (v := 0) dX9_waves_41 kc_0 ?_
        refine ev_istore_n (i := 2) dX9_waves_42 rfl (Nat.le_of_ble_eq_true rfl) rfl ?_
        have hvm : v + m ≤ 999 := by rw [e999, nI_leI (by omega) (by decide)] at h35; exact h35
        refine s_postI (l_waves hCk h0 hm2 m 0 v L I (by omega) rfl hF hv2 hvm hA) (fun r J q => Or.inr (Or.inr ⟨v, m, rfl, h17, rfl, hm1, hm2, hv, hv2, Or.inr ⟨hvm, q.1, q.2.1, q.2.2.1, q.2.2.2⟩⟩))
      · refine ev_ldc qX9_116 dX9_waves_38 ?_
        exact s_retI dX9_waves_40 (Or.inr (Or.inr ⟨v, m, rfl, h17, rfl, hm1, hm2, hv, hv2, Or.inl ⟨Nat.not_le.mp (fun q => h35 (by rw [e999]; exact nI_le q (by omega))), rfl, rfl⟩⟩))
    · refine ev_ldc qX9_79 dX9_waves_20 ?_
      exact s_retI dX9_waves_22 (Or.inr (Or.inl ⟨by cases b; exact absurd rfl h4; rfl, h17, rfl, rfl⟩))
  · refine ev_ldc qX9_156 dX9_waves_7 ?_
    exact s_retI dX9_waves_9 (Or.inl ⟨nw_bi_0.mp h4, rfl, rfl⟩)
theorem x_slip (hW : nv_W I b N T S) (hA : nv_acts I L) (x y : Int32) : nw_cI l g 2 mX9_slip [.ref (nw_a g 0), .int x, .int y] I (fun r J => ((nv_in x 0 (nI T - 1) && nv_in y (-9) 9) = false ∧ r = -1000001 ∧ J = I) ∨ ∃ t, t < T ∧ x = nI t ∧ nv_in y (-9) 9 = true ∧ r = nv_max 0 (nv_fl I 25 (2 + t) + y) ∧ nv_fl J 25 = upd (nv_fl I 25) (2 + t) (nv_max 0 (nv_fl I 25 (2 + t) + y)) ∧ nv_acts J ((nv_fl I 25 :: L).take 24) ∧ nv_mf I J) := by
  obtain ⟨hb, hCk, hor⟩ := id hW
  obtain ⟨hN, hT, hS, hN2, hT3, hS6⟩ := id hCk
  have hN' : I 15 2 = nI N := (cf3 I 15).symm.trans hN
  have hT' : I 15 3 = nI T := (cf4 I 15).symm.trans hT
  have hS' : I 15 4 = nI S := (cf5 I 15).symm.trans hS
  refine ⟨(Nat.le_of_ble_eq_true rfl), ?_⟩
  refine ev_aload_n (i := 0) dX9_slip_0 rfl rfl ?_
  refine ev_iload_n (i := 1) dX9_slip_1 rfl rfl ?_
  refine s_dVz (As := [_]) (c_isTower _) (Nat.le_of_ble_eq_true rfl) lX9_167 kX9_isTower vX9_isTower dX9_slip_2 rfl rfl rfl (by decide) rfl (Nat.le_of_ble_eq_true rfl) ?_
  rw [hT']
  refine s_ifZ_eq (tgt := 19) dX9_slip_5 (by decide) (fun h5 => ?_) (fun h5 => ?_)
  · refine ev_ldc qX9_79 dX9_slip_19 ?_
    exact s_retI dX9_slip_21 (Or.inl ⟨by first | (rw [h5]; rfl) | (rw [h16, Bool.and_false]), rfl, rfl⟩)
  · refine ev_iload_n (i := 2) dX9_slip_8 rfl rfl ?_
    refine ev_bipush (v := (-9)) dX9_slip_9 kb_m9 ?_
    refine ev_bipush (v := 9) dX9_slip_11 kb_9 ?_
    refine s_dSz (As := [_, _, _]) (c_within _ _ _) (Nat.le_of_ble_eq_true rfl) lX9_75 kX9_within sX9_within dX9_slip_13 rfl rfl (Nat.le_of_ble_eq_true rfl) ?_
    refine s_ifZ_ne (tgt := 22) dX9_slip_16 (by decide) (fun h16 => ?_) (fun h16 => ?_)
    · obtain ⟨t, ht, rfl⟩ := nv_in_S (by omega) h5
      refine ev_aload_n (i := 0) dX9_slip_22 rfl rfl ?_
      refine ev_getR fX9_46 dX9_slip_23 rfl rfl (by decide) ?_
      refine ev_aload_n (i := 0) dX9_slip_26 rfl rfl ?_
      refine ev_getR fX9_36 dX9_slip_27 rfl rfl (by decide) ?_
      refine s_callVv (As := [_]) (d_keep nw_sc25 (by omega) hA) (Nat.le_of_ble_eq_true rfl) lX9_160 kX0_keep vX0_keep dX9_slip_30 rfl rfl rfl (by decide) rfl (Nat.le_of_ble_eq_true rfl) (fun J1 h1 => ?_)
      have eF : nv_fl J1 25 = nv_fl I 25 := nv_fl_ext (fun k q1 q2 => h1.2 k (by omega))
      have hm1 : nv_mf I J1 := fun k hk => h1.2 k (by omega)
      refine ev_aload_n (i := 0) dX9_slip_33 rfl rfl ?_
      refine ev_getR fX9_36 dX9_slip_34 rfl rfl (by decide) ?_
      refine ev_iload_n (i := 1) dX9_slip_37 rfl rfl ?_
      refine ev_iload_n (i := 2) dX9_slip_38 rfl rfl ?_
      refine s_callVi (As := [_, _]) (c_slipBy nw_sc25 (show t < 3 by omega) _) (Nat.le_of_ble_eq_true rfl) lX9_170 kX8_slipBy vX8_slipBy dX9_slip_39 rfl rfl rfl (by decide) rfl (Nat.le_of_ble_eq_true rfl) (fun r J2 h2 => ?_)
      rw [eF] at h2
      exact s_retI dX9_slip_42 (Or.inr ⟨t, ht, rfl, h16, h2.1, h2.2.1, h1.1.ext (fun k q1 q2 => h2.2.2 k (by omega)), hm1.fr h2.2.2⟩)
    · refine ev_ldc qX9_79 dX9_slip_19 ?_
      exact s_retI dX9_slip_21 (Or.inl ⟨by first | (rw [h5]; rfl) | (rw [h16, Bool.and_false]), rfl, rfl⟩)
theorem x_law (hW : nv_W I b N T S) (hA : nv_acts I L) (x : Int32) : nw_cI l g 2 mX9_law [.ref (nw_a g 0), .int x] I (fun r J => (b = false ∧ r = -1000002 ∧ J = I) ∨ (b = true ∧ nv_in x 2 12 = false ∧ r = -1000001 ∧ J = I) ∨ (b = true ∧ nv_in x 2 12 = true ∧ r = nv_fl I 25 1 ∧ nv_fl J 25 = upd (nv_fl I 25) 1 x ∧ nv_acts J ((nv_fl I 25 :: L).take 24) ∧ nv_mf I J)) := by
  obtain ⟨hb, hCk, hor⟩ := id hW
  obtain ⟨hN, hT, hS, hN2, hT3, hS6⟩ := id hCk
  have hN' : I 15 2 = nI N := (cf3 I 15).symm.trans hN
  have hT' : I 15 3 = nI T := (cf4 I 15).symm.trans hT
  have hS' : I 15 4 = nI S := (cf5 I 15).symm.trans hS
  refine ⟨(Nat.le_of_ble_eq_true rfl), ?_⟩
  refine ev_aload_n (i := 0) dX9_law_0 rfl rfl ?_
  refine ev_getI fX9_149 dX9_law_1 rfl rfl (by decide) ?_
  rw [hb]
  refine ev_if_ne (tgt := 10) dX9_law_4 (by decide) (fun h4 => ?_) (fun h4 => ?_)
  · refine ev_iload_n (i := 1) dX9_law_10 rfl rfl ?_
    refine ev_iconst (v := 2) dX9_law_11 kc_2 ?_
    refine ev_bipush (v := 12) dX9_law_12 kb_12 ?_
    refine s_dSz (As := [_, _, _]) (c_within _ _ _) (Nat.le_of_ble_eq_true rfl) lX9_75 kX9_within sX9_within dX9_law_14 rfl rfl (Nat.le_of_ble_eq_true rfl) ?_
    refine s_ifZ_ne (tgt := 23) dX9_law_17 (by decide) (fun h17 => ?_) (fun h17 => ?_)
    · refine ev_aload_n (i := 0) dX9_law_23 rfl rfl ?_
      refine ev_getR fX9_36 dX9_law_24 rfl rfl (by decide) ?_
      refine ev_getI fX9_174 dX9_law_27 rfl rfl (by decide) ?_
      refine ev_istore_n (i := 2) dX9_law_30 rfl (Nat.le_of_ble_eq_true rfl) rfl ?_
      refine ev_aload_n (i := 0) dX9_law_31 rfl rfl ?_
      refine ev_getR fX9_46 dX9_law_32 rfl rfl (by decide) ?_
      refine ev_aload_n (i := 0) dX9_law_35 rfl rfl ?_
      refine ev_getR fX9_36 dX9_law_36 rfl rfl (by decide) ?_
      refine s_callVv (As := [_]) (d_keep nw_sc25 (by omega) hA) (Nat.le_of_ble_eq_true rfl) lX9_160 kX0_keep vX0_keep dX9_law_39 rfl rfl rfl (by decide) rfl (Nat.le_of_ble_eq_true rfl) (fun J1 h1 => ?_)
      have eF : nv_fl J1 25 = nv_fl I 25 := nv_fl_ext (fun k q1 q2 => h1.2 k (by omega))
      have hm1 : nv_mf I J1 := fun k hk => h1.2 k (by omega)
      refine ev_aload_n (i := 0) dX9_law_42 rfl rfl ?_
      refine ev_getR fX9_36 dX9_law_43 rfl rfl (by decide) ?_
      refine ev_iload_n (i := 1) dX9_law_46 rfl rfl ?_
      refine ev_putI fX9_174 dX9_law_47 rfl rfl (by decide) rfl rfl rfl rfl ?_
      refine ev_iload_n (i := 2) dX9_law_50 rfl rfl ?_
      exact s_retI dX9_law_51 (Or.inr (Or.inr ⟨by cases b; exact absurd rfl h4; rfl, h17, (fl1 I 25).symm, by rw [fl_w_up _ _ (by omega), eF], h1.1.ext (fun k q1 q2 => nw_up_ne (by omega)), fun k hk => by rw [nw_up_ne (by omega)]; exact hm1 k hk⟩))
    · refine ev_ldc qX9_79 dX9_law_20 ?_
      exact s_retI dX9_law_22 (Or.inr (Or.inl ⟨by cases b; exact absurd rfl h4; rfl, h17, rfl, rfl⟩))
  · refine ev_ldc qX9_156 dX9_law_7 ?_
    exact s_retI dX9_law_9 (Or.inl ⟨nw_bi_0.mp h4, rfl, rfl⟩)
theorem p_place_lt {F : Nat → Int32} {x : Int32} : ∀ (n p : Nat), p_place F x n p < p + n ∨ p_place F x n p = 0
  | 0, p => Or.inr rfl
  | n + 1, p => by
    unfold p_place
    split
    · left; omega
    · rcases p_place_lt (F := F) (x := x) n (p + 1) with h | h
      · left; omega
      · right; exact h
theorem x_change (hW : nv_W I b N T S) (hA : nv_acts I L) (x y : Int32) : nw_cI l g 2 mX9_change [.ref (nw_a g 0), .int x, .int y] I (fun r J => ((nv_in x 0 (nI S - 1) && nv_in y 0 (nI S - 1) && !decide (x = y)) = false ∧ r = -1000001 ∧ J = I) ∨ (nv_in x 0 (nI S - 1) = true ∧ nv_in y 0 (nI S - 1) = true ∧ ¬ x = y ∧ r = nI (p_place (nv_fl I 25) y 6 0) ∧ nv_fl J 25 = upd (upd (nv_fl I 25) (5 + p_place (nv_fl I 25) x 6 0) y) (5 + p_place (nv_fl I 25) y 6 0) x ∧ nv_acts J ((nv_fl I 25 :: L).take 24) ∧ nv_mf I J)) := by
  obtain ⟨hb, hCk, hor⟩ := id hW
  obtain ⟨hN, hT, hS, hN2, hT3, hS6⟩ := id hCk
  have hN' : I 15 2 = nI N := (cf3 I 15).symm.trans hN
  have hT' : I 15 3 = nI T := (cf4 I 15).symm.trans hT
  have hS' : I 15 4 = nI S := (cf5 I 15).symm.trans hS
  have hpx : p_place (nv_fl I 25) x 6 0 < 6 := by rcases p_place_lt (F := nv_fl I 25) (x := x) 6 0 with h | h <;> omega
  have hpy : p_place (nv_fl I 25) y 6 0 < 6 := by rcases p_place_lt (F := nv_fl I 25) (x := y) 6 0 with h | h <;> omega
  refine ⟨(Nat.le_of_ble_eq_true rfl), ?_⟩
  refine ev_aload_n (i := 0) dX9_change_0 rfl rfl ?_
  refine ev_iload_n (i := 1) dX9_change_1 rfl rfl ?_
  refine s_dVz (As := [_]) (c_isShip _) (Nat.le_of_ble_eq_true rfl) lX9_177 kX9_isShip vX9_isShip dX9_change_2 rfl rfl rfl (by decide) rfl (Nat.le_of_ble_eq_true rfl) ?_
  rw [hS']
  refine s_ifZ_eq (tgt := 21) dX9_change_5 (by decide) (fun h5 => ?_) (fun h5 => ?_)
  · refine ev_ldc qX9_79 dX9_change_21 ?_
    exact s_retI dX9_change_23 (Or.inl ⟨by
        first | (rw [h5]; rfl) | (rw [h13, Bool.and_false, Bool.false_and]) | (rw [decide_eq_true h18, Bool.not_true, Bool.and_false]), rfl, rfl⟩)
  · refine ev_aload_n (i := 0) dX9_change_8 rfl rfl ?_
    refine ev_iload_n (i := 2) dX9_change_9 rfl rfl ?_
    refine s_dVz (As := [_]) (c_isShip _) (Nat.le_of_ble_eq_true rfl) lX9_177 kX9_isShip vX9_isShip dX9_change_10 rfl rfl rfl (by decide) rfl (Nat.le_of_ble_eq_true rfl) ?_
    rw [hS']
    refine s_ifZ_eq (tgt := 21) dX9_change_13 (by decide) (fun h13 => ?_) (fun h13 => ?_)
    · refine ev_ldc qX9_79 dX9_change_21 ?_
      exact s_retI dX9_change_23 (Or.inl ⟨by
        first | (rw [h5]; rfl) | (rw [h13, Bool.and_false, Bool.false_and]) | (rw [decide_eq_true h18, Bool.not_true, Bool.and_false]), rfl, rfl⟩)
    · refine ev_iload_n (i := 1) dX9_change_16 rfl rfl ?_
      refine ev_iload_n (i := 2) dX9_change_17 rfl rfl ?_
      refine ev_icmp_ne (tgt := 24) dX9_change_18 (by decide) (fun h18 => ?_) (fun h18 => ?_)
      · refine ev_aload_n (i := 0) dX9_change_24 rfl rfl ?_
        refine ev_getR fX9_46 dX9_change_25 rfl rfl (by decide) ?_
        refine ev_aload_n (i := 0) dX9_change_28 rfl rfl ?_
        refine ev_getR fX9_36 dX9_change_29 rfl rfl (by decide) ?_
        refine s_callVv (As := [_]) (d_keep nw_sc25 (by omega) hA) (Nat.le_of_ble_eq_true rfl) lX9_160 kX0_keep vX0_keep dX9_change_32 rfl rfl rfl (by decide) rfl (Nat.le_of_ble_eq_true rfl) (fun J1 h1 => ?_)
        have eF : nv_fl J1 25 = nv_fl I 25 := nv_fl_ext (fun k q1 q2 => h1.2 k (by omega))
        have hm1 : nv_mf I J1 := fun k hk => h1.2 k (by omega)
        refine ev_aload_n (i := 0) dX9_change_35 rfl rfl ?_
        refine ev_getR fX9_36 dX9_change_36 rfl rfl (by decide) ?_
        refine ev_iload_n (i := 1) dX9_change_39 rfl rfl ?_
        refine s_dVi (As := [_]) (c_placeOf nw_sc25 _) (Nat.le_of_ble_eq_true rfl) lX9_180 kX8_placeOf vX8_placeOf dX9_change_40 rfl rfl rfl (by decide) rfl (Nat.le_of_ble_eq_true rfl) ?_
        rw [eF]
        refine ev_istore_n (i := 3) dX9_change_43 rfl (Nat.le_of_ble_eq_true rfl) rfl ?_
        refine ev_aload_n (i := 0) dX9_change_44 rfl rfl ?_
        refine ev_getR fX9_36 dX9_change_45 rfl rfl (by decide) ?_
        refine ev_iload_n (i := 2) dX9_change_48 rfl rfl ?_
        refine s_dVi (As := [_]) (c_placeOf nw_sc25 _) (Nat.le_of_ble_eq_true rfl) lX9_180 kX8_placeOf vX8_placeOf dX9_change_49 rfl rfl rfl (by decide) rfl (Nat.le_of_ble_eq_true rfl) ?_
        rw [eF]
        refine ev_istore dX9_change_52 (Nat.le_of_ble_eq_true rfl) rfl ?_
        refine ev_aload_n (i := 0) dX9_change_54 rfl rfl ?_
        refine ev_getR fX9_36 dX9_change_55 rfl rfl (by decide) ?_
        refine ev_getR fX9_183 dX9_change_58 rfl rfl (by decide) ?_
        refine ev_iload_n (i := 3) dX9_change_61 rfl rfl ?_
        refine ev_iload_n (i := 2) dX9_change_62 rfl rfl ?_
        refine ev_iastN dX9_change_63 rfl hpx (by decide) ?_
        refine ev_aload_n (i := 0) dX9_change_64 rfl rfl ?_
        refine ev_getR fX9_36 dX9_change_65 rfl rfl (by decide) ?_
        refine ev_getR fX9_183 dX9_change_68 rfl rfl (by decide) ?_
        refine ev_iload dX9_change_71 rfl ?_
        refine ev_iload_n (i := 1) dX9_change_73 rfl rfl ?_
        refine ev_iastN dX9_change_74 rfl hpy (by decide) ?_
        refine ev_iload dX9_change_75 rfl ?_
        exact s_retI dX9_change_77 (Or.inr ⟨h5, h13, h18, rfl, by rw [fl_ord_up _ _ hpy, fl_ord_up _ _ hpx, eF], h1.1.ext (fun k q1 q2 => by rw [nw_up_ne (by omega), nw_up_ne (by omega)]), fun k hk => by rw [nw_up_ne (by omega), nw_up_ne (by omega)]; exact hm1 k hk⟩)
      · refine ev_ldc qX9_79 dX9_change_21 ?_
        exact s_retI dX9_change_23 (Or.inl ⟨by
        first | (rw [h5]; rfl) | (rw [h13, Bool.and_false, Bool.false_and]) | (rw [decide_eq_true h18, Bool.not_true, Bool.and_false]), rfl, rfl⟩)
theorem x_heeds (hW : nv_W I b N T S) (hA : nv_acts I L) (x y : Int32) : nw_cI l g 2 mX9_heeds [.ref (nw_a g 0), .int x, .int y] I (fun r J => ((nv_in x 0 (nI S - 1) && nv_in y 0 (nI T - 1)) = false ∧ r = -1000001 ∧ J = I) ∨ ∃ s t, s < S ∧ t < T ∧ x = nI s ∧ y = nI t ∧ ((¬ nv_fl I 25 (17 + s) = 0 ∧ r = -1000002 ∧ J = I) ∨ (nv_fl I 25 (17 + s) = 0 ∧ r = nv_fl I 25 (11 + s) ∧ nv_fl J 25 = upd (nv_fl I 25) (11 + s) (nI t) ∧ nv_acts J ((nv_fl I 25 :: L).take 24) ∧ nv_mf I J))) := by
  obtain ⟨hb, hCk, hor⟩ := id hW
  obtain ⟨hN, hT, hS, hN2, hT3, hS6⟩ := id hCk
  have hN' : I 15 2 = nI N := (cf3 I 15).symm.trans hN
  have hT' : I 15 3 = nI T := (cf4 I 15).symm.trans hT
  have hS' : I 15 4 = nI S := (cf5 I 15).symm.trans hS
  refine ⟨(Nat.le_of_ble_eq_true rfl), ?_⟩
  refine ev_aload_n (i := 0) dX9_heeds_0 rfl rfl ?_
  refine ev_iload_n (i := 1) dX9_heeds_1 rfl rfl ?_
  refine s_dVz (As := [_]) (c_isShip _) (Nat.le_of_ble_eq_true rfl) lX9_177 kX9_isShip vX9_isShip dX9_heeds_2 rfl rfl rfl (by decide) rfl (Nat.le_of_ble_eq_true rfl) ?_
  rw [hS']
  refine s_ifZ_eq (tgt := 16) dX9_heeds_5 (by decide) (fun h5 => ?_) (fun h5 => ?_)
  · refine ev_ldc qX9_79 dX9_heeds_16 ?_
    exact s_retI dX9_heeds_18 (Or.inl ⟨by first | (rw [h5]; rfl) | (rw [h13, Bool.and_false]), rfl, rfl⟩)
  · refine ev_aload_n (i := 0) dX9_heeds_8 rfl rfl ?_
    refine ev_iload_n (i := 2) dX9_heeds_9 rfl rfl ?_
    refine s_dVz (As := [_]) (c_isTower _) (Nat.le_of_ble_eq_true rfl) lX9_167 kX9_isTower vX9_isTower dX9_heeds_10 rfl rfl rfl (by decide) rfl (Nat.le_of_ble_eq_true rfl) ?_
    rw [hT']
    refine s_ifZ_ne (tgt := 19) dX9_heeds_13 (by decide) (fun h13 => ?_) (fun h13 => ?_)
    · obtain ⟨s, hs, rfl⟩ := nv_in_S (by omega) h5
      obtain ⟨t, ht, rfl⟩ := nv_in_S (by omega) h13
      refine ev_aload_n (i := 0) dX9_heeds_19 rfl rfl ?_
      refine ev_getR fX9_36 dX9_heeds_20 rfl rfl (by decide) ?_
      refine ev_iload_n (i := 1) dX9_heeds_23 rfl rfl ?_
      refine s_dVz (As := [_]) (c_waits nw_sc25 (show s < 6 by omega)) (Nat.le_of_ble_eq_true rfl) lX9_187 kX8_waits vX8_waits dX9_heeds_24 rfl rfl rfl (by decide) rfl (Nat.le_of_ble_eq_true rfl) ?_
      refine s_ifZ_ne (tgt := 33) dX9_heeds_27 (by decide) (fun h27 => ?_) (fun h27 => ?_)
      · refine ev_aload_n (i := 0) dX9_heeds_33 rfl rfl ?_
        refine ev_getR fX9_36 dX9_heeds_34 rfl rfl (by decide) ?_
        refine ev_getR fX9_190 dX9_heeds_37 rfl rfl (by decide) ?_
        refine ev_iload_n (i := 1) dX9_heeds_40 rfl rfl ?_
        refine ev_ialdN dX9_heeds_41 rfl (show s < 6 by omega) (by decide) ?_
        refine ev_istore_n (i := 3) dX9_heeds_42 rfl (Nat.le_of_ble_eq_true rfl) rfl ?_
        refine ev_aload_n (i := 0) dX9_heeds_43 rfl rfl ?_
        refine ev_getR fX9_46 dX9_heeds_44 rfl rfl (by decide) ?_
        refine ev_aload_n (i := 0) dX9_heeds_47 rfl rfl ?_
        refine ev_getR fX9_36 dX9_heeds_48 rfl rfl (by decide) ?_
        refine s_callVv (As := [_]) (d_keep nw_sc25 (by omega) hA) (Nat.le_of_ble_eq_true rfl) lX9_160 kX0_keep vX0_keep dX9_heeds_51 rfl rfl rfl (by decide) rfl (Nat.le_of_ble_eq_true rfl) (fun J1 h1 => ?_)
        have eF : nv_fl J1 25 = nv_fl I 25 := nv_fl_ext (fun k q1 q2 => h1.2 k (by omega))
        have hm1 : nv_mf I J1 := fun k hk => h1.2 k (by omega)
        refine ev_aload_n (i := 0) dX9_heeds_54 rfl rfl ?_
        refine ev_getR fX9_36 dX9_heeds_55 rfl rfl (by decide) ?_
        refine ev_getR fX9_190 dX9_heeds_58 rfl rfl (by decide) ?_
        refine ev_iload_n (i := 1) dX9_heeds_61 rfl rfl ?_
        refine ev_iload_n (i := 2) dX9_heeds_62 rfl rfl ?_
        refine ev_iastN dX9_heeds_63 rfl (show s < 6 by omega) (by decide) ?_
        refine ev_iload_n (i := 3) dX9_heeds_64 rfl rfl ?_
        exact s_retI dX9_heeds_65 (Or.inr ⟨s, t, hs, ht, rfl, rfl, Or.inr ⟨of_decide_eq_true h27, (fl_hee I 25 (by omega)).symm, by rw [fl_hee_up _ _ (by omega), eF], h1.1.ext (fun k q1 q2 => nw_up_ne (by omega)), fun k hk => by rw [nw_up_ne (by omega)]; exact hm1 k hk⟩⟩)
      · refine ev_ldc qX9_156 dX9_heeds_30 ?_
        exact s_retI dX9_heeds_32 (Or.inr ⟨s, t, hs, ht, rfl, rfl, Or.inl ⟨of_decide_eq_false h27, rfl, rfl⟩⟩)
    · refine ev_ldc qX9_79 dX9_heeds_16 ?_
      exact s_retI dX9_heeds_18 (Or.inl ⟨by first | (rw [h5]; rfl) | (rw [h13, Bool.and_false]), rfl, rfl⟩)
theorem x_undo (hA : nv_acts I L) : nw_cI l g 2 mX9_undo [.ref (nw_a g 0)] I (fun r J => (L = [] ∧ r = -1000002 ∧ J = I) ∨ ∃ F L2, L = F :: L2 ∧ r = nI L2.length ∧ nv_fl J 25 = F ∧ nv_acts J L2 ∧ nv_mf I J) := by
  obtain ⟨j, g1, g2, g3, g4, g5⟩ := id hA
  refine ⟨(Nat.le_of_ble_eq_true rfl), ?_⟩
  refine ev_aload_n (i := 0) dX9_undo_0 rfl rfl ?_
  refine ev_getR fX9_46 dX9_undo_1 rfl rfl (by decide) ?_
  refine ev_getI fX9_193 dX9_undo_4 rfl rfl (by decide) ?_
  rw [g3]
  refine ev_if_ne (tgt := 13) dX9_undo_7 (by decide) (fun h7 => ?_) (fun h7 => ?_)
  · obtain ⟨F, L2, rfl⟩ : ∃ F L2, L = F :: L2 := by
      cases L with
      | nil => exact absurd nI_0 h7
      | cons F L2 => exact ⟨F, L2, rfl⟩
    refine ev_aload_n (i := 0) dX9_undo_13 rfl rfl ?_
    refine ev_getR fX9_46 dX9_undo_14 rfl rfl (by decide) ?_
    refine ev_aload_n (i := 0) dX9_undo_17 rfl rfl ?_
    refine ev_getR fX9_36 dX9_undo_18 rfl rfl (by decide) ?_
    refine s_callVv (As := [_]) (d_takeBack nw_sc25 (by omega) hA) (Nat.le_of_ble_eq_true rfl) lX9_196 kX0_takeBack vX0_takeBack dX9_undo_21 rfl rfl rfl (by decide) rfl (Nat.le_of_ble_eq_true rfl) (fun J1 h1 => ?_)
    refine ev_aload_n (i := 0) dX9_undo_24 rfl rfl ?_
    refine ev_getR fX9_46 dX9_undo_25 rfl rfl (by decide) ?_
    refine ev_getI fX9_193 dX9_undo_28 rfl rfl (by decide) ?_
    rw [show J1 37 2 = nI L2.length from (by obtain ⟨j2, -, -, q, -, -⟩ := h1.2.1; exact q)]
    exact s_retI dX9_undo_31 (Or.inr ⟨F, L2, rfl, rfl, h1.1, h1.2.1, fun k hk => h1.2.2 k (by omega) (by omega)⟩)
  · refine ev_ldc qX9_156 dX9_undo_10 ?_
    exact s_retI dX9_undo_12 (Or.inl ⟨by cases L with | nil => rfl | cons F L2 => exact absurd h7 (nI_ne0 (by simp) (by omega)), rfl, rfl⟩)
theorem x_image (hW : nv_W I b N T S) (x : Int32) : nw_cI l g 2 mX9_image [.ref (nw_a g 0), .int x] I (fun r J => (nv_in x 0 1 = false ∧ r = -1000001 ∧ J = I) ∨ (nv_in x 0 1 = true ∧ b = false ∧ r = -1000002 ∧ J = I) ∨ ∃ k, k < 2 ∧ x = nI k ∧ b = true ∧ r = 1 ∧ nv_cf J (196 + 12 * k) = nv_cf I 15 ∧ nv_fl J (201 + 12 * k) = nv_fl I 25 ∧ J (195 + 12 * k) 2 = 1 ∧ nv_fr I J (195 + 12 * k) 12) := by
  obtain ⟨hb, hCk, hor⟩ := id hW
  obtain ⟨hN, hT, hS, hN2, hT3, hS6⟩ := id hCk
  have hN' : I 15 2 = nI N := (cf3 I 15).symm.trans hN
  have hT' : I 15 3 = nI T := (cf4 I 15).symm.trans hT
  have hS' : I 15 4 = nI S := (cf5 I 15).symm.trans hS
  refine ⟨(Nat.le_of_ble_eq_true rfl), ?_⟩
  refine ev_iload_n (i := 1) dX9_image_0 rfl rfl ?_
  refine ev_iconst (v := 0) dX9_image_1 kc_0 ?_
  refine ev_iconst (v := 1) dX9_image_2 kc_1 ?_
  refine s_dSz (As := [_, _, _]) (c_within _ _ _) (Nat.le_of_ble_eq_true rfl) lX9_75 kX9_within sX9_within dX9_image_3 rfl rfl (Nat.le_of_ble_eq_true rfl) ?_
  refine s_ifZ_ne (tgt := 12) dX9_image_6 (by decide) (fun h6 => ?_) (fun h6 => ?_)
  · refine ev_aload_n (i := 0) dX9_image_12 rfl rfl ?_
    refine ev_getI fX9_149 dX9_image_13 rfl rfl (by decide) ?_
    rw [hb]
    refine ev_if_ne (tgt := 22) dX9_image_16 (by decide) (fun h16 => ?_) (fun h16 => ?_)
    · obtain ⟨k, -, hk1, rfl⟩ := nv_in_n (a := 0) (c := 1) h6 (by decide) (by decide)
      have hk2 : k < 2 := by omega
      refine ev_aload_n (i := 0) dX9_image_22 rfl rfl ?_
      refine ev_getR fX9_66 dX9_image_23 rfl rfl (by decide) ?_
      refine ev_iload_n (i := 1) dX9_image_26 rfl rfl ?_
      refine ev_aaldN (t := 3) (q := 195 + 12 * k) rfl rfl dX9_image_27 rfl hk2 (by decide) (nw_im_get k hk2) ?_
      refine ev_aload_n (i := 0) dX9_image_28 rfl rfl ?_
      refine ev_getR fX9_26 dX9_image_29 rfl rfl (by decide) ?_
      refine ev_aload_n (i := 0) dX9_image_32 rfl rfl ?_
      refine ev_getR fX9_36 dX9_image_33 rfl rfl (by decide) ?_
      refine s_callVv (As := [_, _]) (c_imKeep (nw_im_im k hk2) nw_sc25 nw_ch15 (by omega) (by omega)) (Nat.le_of_ble_eq_true rfl) lX9_303 kX3_keep vX3_keep dX9_image_36 rfl rfl (nw_im_im k hk2).1 (by decide) rfl (Nat.le_of_ble_eq_true rfl) (fun J1 h1 => ?_)
      refine ev_iconst (v := 1) dX9_image_39 kc_1 ?_
      exact s_retI dX9_image_40 (Or.inr (Or.inr ⟨k, hk2, rfl, by cases b; exact absurd rfl h16; rfl, rfl, by rw [show 196 + 12 * k = 195 + 12 * k + 1 by omega]; exact h1.1, by rw [show 201 + 12 * k = 195 + 12 * k + 6 by omega]; exact h1.2.1, h1.2.2.1, h1.2.2.2⟩))
    · refine ev_ldc qX9_156 dX9_image_19 ?_
      exact s_retI dX9_image_21 (Or.inr (Or.inl ⟨h6, nw_bi_0.mp h16, rfl, rfl⟩))
  · refine ev_ldc qX9_79 dX9_image_9 ?_
    exact s_retI dX9_image_11 (Or.inl ⟨h6, rfl, rfl⟩)
theorem x_restore (x : Int32) {kb : Nat → Bool} (hkb : ∀ k, k < 2 → I (195 + 12 * k) 2 = nw_bi (kb k)) (hA : nv_acts I L) : nw_cI l g 1 mX9_restore [.ref (nw_a g 0), .int x] I (fun r J => (nv_in x 0 1 = false ∧ r = -1000001 ∧ J = I) ∨ ∃ k, k < 2 ∧ x = nI k ∧ ((kb k = false ∧ r = -1000002 ∧ J = I) ∨ (kb k = true ∧ r = 1 ∧ nv_cf J 15 = nv_cf I (196 + 12 * k) ∧ nv_fl J 25 = nv_fl I (201 + 12 * k) ∧ nv_acts J [] ∧ ∀ q, ¬ (15 ≤ q ∧ q < 20) → ¬ (25 ≤ q ∧ q < 31) → q ≠ 37 → J q = I q))) := by
  obtain ⟨j, g1, g2, g3, g4, g5⟩ := id hA
  refine ⟨(Nat.le_of_ble_eq_true rfl), ?_⟩
  refine ev_iload_n (i := 1) dX9_restore_0 rfl rfl ?_
  refine ev_iconst (v := 0) dX9_restore_1 kc_0 ?_
  refine ev_iconst (v := 1) dX9_restore_2 kc_1 ?_
  refine s_dSz (As := [_, _, _]) (c_within _ _ _) (Nat.le_of_ble_eq_true rfl) lX9_75 kX9_within sX9_within dX9_restore_3 rfl rfl (Nat.le_of_ble_eq_true rfl) ?_
  refine s_ifZ_ne (tgt := 12) dX9_restore_6 (by decide) (fun h6 => ?_) (fun h6 => ?_)
  · obtain ⟨k, -, hk1, rfl⟩ := nv_in_n (a := 0) (c := 1) h6 (by decide) (by decide)
    have hk2 : k < 2 := by omega
    refine ev_aload_n (i := 0) dX9_restore_12 rfl rfl ?_
    refine ev_getR fX9_66 dX9_restore_13 rfl rfl (by decide) ?_
    refine ev_iload_n (i := 1) dX9_restore_16 rfl rfl ?_
    refine ev_aaldN (t := 3) (q := 195 + 12 * k) rfl rfl dX9_restore_17 rfl hk2 (by decide) (nw_im_get k hk2) ?_
    refine ev_getI fX9_305 dX9_restore_18 (nw_im_im k hk2).1 rfl (by decide) ?_
    rw [hkb k hk2]
    refine ev_if_ne (tgt := 27) dX9_restore_21 (by decide) (fun h21 => ?_) (fun h21 => ?_)
    · refine ev_aload_n (i := 0) dX9_restore_27 rfl rfl ?_
      refine ev_getR fX9_26 dX9_restore_28 rfl rfl (by decide) ?_
      refine ev_aload_n (i := 0) dX9_restore_31 rfl rfl ?_
      refine ev_getR fX9_66 dX9_restore_32 rfl rfl (by decide) ?_
      refine ev_iload_n (i := 1) dX9_restore_35 rfl rfl ?_
      refine ev_aaldN (t := 3) (q := 195 + 12 * k) rfl rfl dX9_restore_36 rfl hk2 (by decide) (nw_im_get k hk2) ?_
      refine ev_getR fX9_308 dX9_restore_37 (nw_im_im k hk2).1 rfl (by decide) ?_
      refine s_callVv (As := [_]) (c_chBecome nw_ch15 (nw_im_im k hk2).2.1 (by omega)) (Nat.le_of_ble_eq_true rfl) lX9_139 kX2_become vX2_become dX9_restore_40 rfl rfl rfl (by decide) rfl (Nat.le_of_ble_eq_true rfl) (fun J1 h1 => ?_)
      refine ev_aload_n (i := 0) dX9_restore_43 rfl rfl ?_
      refine ev_getR fX9_36 dX9_restore_44 rfl rfl (by decide) ?_
      refine ev_aload_n (i := 0) dX9_restore_47 rfl rfl ?_
      refine ev_getR fX9_66 dX9_restore_48 rfl rfl (by decide) ?_
      refine ev_iload_n (i := 1) dX9_restore_51 rfl rfl ?_
      refine ev_aaldN (t := 3) (q := 195 + 12 * k) rfl rfl dX9_restore_52 rfl hk2 (by decide) (nw_im_get k hk2) ?_
      refine ev_getR fX9_309 dX9_restore_53 (nw_im_im k hk2).1 rfl (by decide) ?_
      refine s_callVv (As := [_]) (c_scBecome nw_sc25 (nw_im_im k hk2).2.2 (by omega)) (Nat.le_of_ble_eq_true rfl) lX9_143 kX8_become vX8_become dX9_restore_56 rfl rfl rfl (by decide) rfl (Nat.le_of_ble_eq_true rfl) (fun J2 h2 => ?_)
      refine ev_aload_n (i := 0) dX9_restore_59 rfl rfl ?_
      refine ev_getR fX9_46 dX9_restore_60 rfl rfl (by decide) ?_
      refine s_dVv (As := []) (c_forgetAll) (Nat.le_of_ble_eq_true rfl) lX9_146 kX0_forgetAll vX0_forgetAll dX9_restore_63 rfl rfl rfl (by decide) rfl (Nat.le_of_ble_eq_true rfl) ?_
      refine ev_iconst (v := 1) dX9_restore_66 kc_1 ?_
      exact s_retI dX9_restore_67 (by
        have hf : ∀ q, ¬ (15 ≤ q ∧ q < 20) → ¬ (25 ≤ q ∧ q < 31) → q ≠ 37 → nw_up J2 37 2 0 q = I q := fun q q1 q2 q3 => by rw [nw_up_ne q3, h2.2 q (by omega), h1.2 q (by omega)]
        refine Or.inr ⟨k, hk2, rfl, Or.inr ⟨by cases hh : kb k; (rw [hh] at h21; exact absurd rfl h21); rfl, rfl, ?_, ?_, ⟨j, g1, ?_, ?_, by simp, fun i F hF => by simp at hF⟩, hf⟩⟩
        · rw [nv_cf_ext (I := J2) (fun q q1 q2 => nw_up_ne (by omega)), h2.2.cf (by omega), h1.1, show 196 + 12 * k = 195 + 12 * k + 1 by omega]
        · rw [nv_fl_ext (I := J2) (fun q q1 q2 => nw_up_ne (by omega)), h2.1, h1.2.fl (by omega), show 201 + 12 * k = 195 + 12 * k + 6 by omega]
        · rw [nw_up_self, pk_un (by decide), h2.2 37 (by omega), h1.2 37 (by omega)]
          exact g2
        · rw [nw_up_self, pk_us]
          exact nI_0.symm)
    · refine ev_ldc qX9_156 dX9_restore_24 ?_
      exact s_retI dX9_restore_26 (Or.inr ⟨k, hk2, rfl, Or.inl ⟨nw_bi_0.mp h21, rfl, rfl⟩⟩)
  · refine ev_ldc qX9_79 dX9_restore_9 ?_
    exact s_retI dX9_restore_11 (Or.inl ⟨h6, rfl, rfl⟩)
theorem c_empty : nw_dV l g 0 mX6_empty [.ref (nw_a g 13)] I (nw_up I 13 1 0) := by
  refine ⟨(Nat.le_of_ble_eq_true rfl), ?_⟩
  refine ev_aload_n (i := 0) dX6_empty_0 rfl rfl ?_
  refine ev_iconst (v := 0) dX6_empty_1 kc_0 ?_
  refine ev_putI fX6_13 dX6_empty_2 rfl rfl (by decide) rfl rfl rfl rfl ?_
  exact s_retV dX6_empty_5 rfl
theorem c_faultNumber : nw_dI l g 0 mX6_faultNumber [.ref (nw_a g 13)] I (I 13 3) I := by
  refine ⟨(Nat.le_of_ble_eq_true rfl), ?_⟩
  refine ev_aload_n (i := 0) dX6_faultNumber_0 rfl rfl ?_
  refine ev_getI fX6_21 dX6_faultNumber_1 rfl rfl (by decide) ?_
  exact s_retI dX6_faultNumber_4 ⟨rfl, rfl⟩
theorem c_faultPlace : nw_dI l g 0 mX6_faultPlace [.ref (nw_a g 13)] I (I 13 2) I := by
  refine ⟨(Nat.le_of_ble_eq_true rfl), ?_⟩
  refine ev_aload_n (i := 0) dX6_faultPlace_0 rfl rfl ?_
  refine ev_getI fX6_24 dX6_faultPlace_1 rfl rfl (by decide) ?_
  exact s_retI dX6_faultPlace_4 ⟨rfl, rfl⟩
theorem x_sea {n : Nat} (hn : I 13 1 = nI n) (h160 : n ≤ 160) (hA : nv_acts I L) : nw_cI l g 5 mX9_sea [.ref (nw_a g 0)] I (fun r J => (∀ q, q ≠ 0 → q ≠ 13 → ¬ (15 ≤ q ∧ q < 37) → q ≠ 37 → J q = I q) ∧ J 13 1 = 0 ∧ J 0 12 = I 0 12 ∧ ((∃ e q, q_all (q_at n (I 14)) (nv_cf I 20) (nv_fl I 31) = .inl (e, q) ∧ r = -1000100 - nI q ∧ J 0 11 = e ∧ J 0 10 = I 0 10 ∧ nv_cf J 15 = nv_cf I 15 ∧ nv_fl J 25 = nv_fl I 25 ∧ J 37 = I 37) ∨ ∃ N T S C F, q_all (q_at n (I 14)) (nv_cf I 20) (nv_fl I 31) = .inr (N, T, S, C, F) ∧ r = C 3 ∧ J 0 11 = I 0 11 ∧ J 0 10 = 1 ∧ nv_cf J 15 = C ∧ nv_fl J 25 = F ∧ nv_acts J [])) := by
  obtain ⟨j, g1, g2, g3, g4, g5⟩ := id hA
  refine ⟨(Nat.le_of_ble_eq_true rfl), ?_⟩
  refine ev_aload_n (i := 0) dX9_sea_0 rfl rfl ?_
  refine ev_getR fX9_19 dX9_sea_1 rfl rfl (by decide) ?_
  refine ev_aload_n (i := 0) dX9_sea_4 rfl rfl ?_
  refine ev_getR fX9_30 dX9_sea_5 rfl rfl (by decide) ?_
  refine ev_aload_n (i := 0) dX9_sea_8 rfl rfl ?_
  refine ev_getR fX9_40 dX9_sea_9 rfl rfl (by decide) ?_
  refine s_callVz (As := [_, _]) (c_read hn h160) (Nat.le_of_ble_eq_true rfl) lX9_120 kX6_read vX6_read dX9_sea_12 rfl rfl rfl (by decide) rfl (Nat.le_of_ble_eq_true rfl) (fun bb K hq => ?_)
  rcases hq with ⟨e, q, e1, hr, hqf, rfl⟩ | ⟨N, T, S, C, F, e1, hC, hF, hqf, rfl⟩
  · refine ev_istore_n (i := 1) dX9_sea_15 rfl (Nat.le_of_ble_eq_true rfl) rfl ?_
    refine ev_aload_n (i := 0) dX9_sea_16 rfl rfl ?_
    refine ev_getR fX9_19 dX9_sea_17 rfl rfl (by decide) ?_
    refine s_dVv (As := []) (c_empty) (Nat.le_of_ble_eq_true rfl) lX9_124 kX6_empty vX6_empty dX9_sea_20 rfl rfl rfl (by decide) rfl (Nat.le_of_ble_eq_true rfl) ?_
    refine ev_iload_n (i := 1) dX9_sea_23 rfl rfl ?_
    refine s_ifZ_ne (tgt := 49) dX9_sea_24 (by decide) (fun h24 => ?_) (fun h24 => ?_)
    · exact absurd h24 (by decide)
    · refine ev_aload_n (i := 0) dX9_sea_27 rfl rfl ?_
      refine ev_aload_n (i := 0) dX9_sea_28 rfl rfl ?_
      refine ev_getR fX9_19 dX9_sea_29 rfl rfl (by decide) ?_
      refine s_dVi (As := []) (c_faultNumber) (Nat.le_of_ble_eq_true rfl) lX9_127 kX6_faultNumber vX6_faultNumber dX9_sea_32 rfl rfl rfl (by decide) rfl (Nat.le_of_ble_eq_true rfl) ?_
      rw [show nw_up K 13 1 0 13 3 = e from by rw [nw_up_self, pk_un (by decide)]; exact hr.2.2.1]
      refine ev_putI fX9_131 dX9_sea_35 rfl rfl (by decide) rfl rfl rfl rfl ?_
      refine ev_ldc qX9_135 dX9_sea_38 ?_
      refine ev_aload_n (i := 0) dX9_sea_40 rfl rfl ?_
      refine ev_getR fX9_19 dX9_sea_41 rfl rfl (by decide) ?_
      refine s_dVi (As := []) (c_faultPlace) (Nat.le_of_ble_eq_true rfl) lX9_136 kX6_faultPlace vX6_faultPlace dX9_sea_44 rfl rfl rfl (by decide) rfl (Nat.le_of_ble_eq_true rfl) ?_
      rw [show nw_up (nw_up K 13 1 0) 0 11 e 13 2 = nI q from by rw [nw_up_ne (by decide), nw_up_self, pk_un (by decide)]; exact hr.2.1]
      refine ev_isub dX9_sea_47 ?_
      exact s_retI dX9_sea_48 (by
          refine ⟨fun x x0 x13 x1 x37 => by rw [nw_up_ne x0, nw_up_ne x13]; exact hqf.2 x x13 (by omega) (by omega), by rw [nw_up_ne (by decide), nw_up_self, pk_us], by rw [nw_up_self, pk_un (by decide), nw_up_ne (by decide), hqf.2 0 (by decide) (by omega) (by omega)], Or.inl ⟨e, q, e1, rfl, by rw [nw_up_self, pk_us], by rw [nw_up_self, pk_un (by decide), nw_up_ne (by decide), hqf.2 0 (by decide) (by omega) (by omega)], ?_, ?_, ?_⟩⟩
          · exact nv_cf_ext (fun x q1 q2 => by rw [nw_up_ne (by omega), nw_up_ne (by omega)]; exact hqf.2 x (by omega) (by omega) (by omega))
          · exact nv_fl_ext (fun x q1 q2 => by rw [nw_up_ne (by omega), nw_up_ne (by omega)]; exact hqf.2 x (by omega) (by omega) (by omega))
          · rw [nw_up_ne (by decide), nw_up_ne (by decide)]; exact hqf.2 37 (by decide) (by omega) (by omega))
  · refine ev_istore_n (i := 1) dX9_sea_15 rfl (Nat.le_of_ble_eq_true rfl) rfl ?_
    refine ev_aload_n (i := 0) dX9_sea_16 rfl rfl ?_
    refine ev_getR fX9_19 dX9_sea_17 rfl rfl (by decide) ?_
    refine s_dVv (As := []) (c_empty) (Nat.le_of_ble_eq_true rfl) lX9_124 kX6_empty vX6_empty dX9_sea_20 rfl rfl rfl (by decide) rfl (Nat.le_of_ble_eq_true rfl) ?_
    refine ev_iload_n (i := 1) dX9_sea_23 rfl rfl ?_
    refine s_ifZ_ne (tgt := 49) dX9_sea_24 (by decide) (fun h24 => ?_) (fun h24 => ?_)
    · refine ev_aload_n (i := 0) dX9_sea_49 rfl rfl ?_
      refine ev_getR fX9_26 dX9_sea_50 rfl rfl (by decide) ?_
      refine ev_aload_n (i := 0) dX9_sea_53 rfl rfl ?_
      refine ev_getR fX9_30 dX9_sea_54 rfl rfl (by decide) ?_
      refine s_callVv (As := [_]) (c_chBecome nw_ch15 nw_ch20 (by omega)) (Nat.le_of_ble_eq_true rfl) lX9_139 kX2_become vX2_become dX9_sea_57 rfl rfl rfl (by decide) rfl (Nat.le_of_ble_eq_true rfl) (fun J1 h1 => ?_)
      refine ev_aload_n (i := 0) dX9_sea_60 rfl rfl ?_
      refine ev_getR fX9_36 dX9_sea_61 rfl rfl (by decide) ?_
      refine ev_aload_n (i := 0) dX9_sea_64 rfl rfl ?_
      refine ev_getR fX9_40 dX9_sea_65 rfl rfl (by decide) ?_
      refine s_callVv (As := [_]) (c_scBecome nw_sc25 nw_sc31 (by omega)) (Nat.le_of_ble_eq_true rfl) lX9_143 kX8_become vX8_become dX9_sea_68 rfl rfl rfl (by decide) rfl (Nat.le_of_ble_eq_true rfl) (fun J2 h2 => ?_)
      refine ev_aload_n (i := 0) dX9_sea_71 rfl rfl ?_
      refine ev_getR fX9_46 dX9_sea_72 rfl rfl (by decide) ?_
      refine s_dVv (As := []) (c_forgetAll) (Nat.le_of_ble_eq_true rfl) lX9_146 kX0_forgetAll vX0_forgetAll dX9_sea_75 rfl rfl rfl (by decide) rfl (Nat.le_of_ble_eq_true rfl) ?_
      refine ev_aload_n (i := 0) dX9_sea_78 rfl rfl ?_
      refine ev_iconst (v := 1) dX9_sea_79 kc_1 ?_
      refine ev_putI fX9_149 dX9_sea_80 rfl rfl (by decide) rfl rfl (by decide) (by decide) ?_
      refine ev_aload_n (i := 0) dX9_sea_83 rfl rfl ?_
      refine ev_getR fX9_26 dX9_sea_84 rfl rfl (by decide) ?_
      refine ev_getI fX9_153 dX9_sea_87 rfl rfl (by decide) ?_
      exact s_retI dX9_sea_90 (by
          have hJ : ∀ x, x ≠ 0 → x ≠ 13 → ¬ (15 ≤ x ∧ x < 37) → x ≠ 37 → nw_up (nw_up J2 37 2 0) 0 10 1 x = I x := fun x x0 x13 x1 x37 => by
            rw [nw_up_ne x0, nw_up_ne x37, h2.2 x (by omega), h1.2 x (by omega), nw_up_ne x13]
            exact hqf.2 x x13 (by omega) (by omega)
          have hz : J2 0 = I 0 := by rw [h2.2 0 (by omega), h1.2 0 (by omega), nw_up_ne (by decide)]; exact hqf.2 0 (by decide) (by omega) (by omega)
          have h37 : J2 37 = I 37 := by rw [h2.2 37 (by omega), h1.2 37 (by omega), nw_up_ne (by decide)]; exact hqf.2 37 (by decide) (by omega) (by omega)
          have hc : nv_cf (nw_up (nw_up J2 37 2 0) 0 10 1) 15 = C := by
            rw [nv_cf_ext (I := J2) (fun x q1 q2 => by rw [nw_up_ne (by omega), nw_up_ne (by omega)]), h2.2.cf (by omega), h1.1, nv_cf_ext (I := K) (fun x q1 q2 => nw_up_ne (by omega))]
            exact hC
          refine ⟨hJ, by rw [nw_up_ne (by decide), nw_up_ne (by decide), h2.2 13 (by omega), h1.2 13 (by omega), nw_up_self, pk_us], by rw [nw_up_self, pk_un (by decide), nw_up_ne (by decide), hz], Or.inr ⟨N, T, S, C, F, e1, by rw [← hc, cf3], by rw [nw_up_self, pk_un (by decide), nw_up_ne (by decide), hz], by rw [nw_up_self, pk_us], hc, ?_, ⟨j, g1, ?_, ?_, by simp, fun i G hG => by simp at hG⟩⟩⟩
          · rw [nv_fl_ext (I := J2) (fun x q1 q2 => by rw [nw_up_ne (by omega), nw_up_ne (by omega)]), h2.1, h1.2.fl (by omega), nv_fl_ext (I := K) (fun x q1 q2 => nw_up_ne (by omega))]
            exact hF
          · rw [nw_up_ne (by decide), nw_up_self, pk_un (by decide), h37]
            exact g2
          · rw [nw_up_ne (by decide), nw_up_self, pk_us]
            exact nI_0.symm)
    · exact absurd h24 (by decide)
end
