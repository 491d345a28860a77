section
variable {l : Launch} {g : nw_G} {I : nw_Me}
theorem cf1 (I : nw_Me) (c : Nat) : nv_cf I c 1 = I c 0 := cf_f I c (t := 0) (by decide)
theorem cf2 (I : nw_Me) (c : Nat) : nv_cf I c 2 = I c 1 := cf_f I c (t := 1) (by decide)
theorem cf3 (I : nw_Me) (c : Nat) : nv_cf I c 3 = I c 2 := cf_f I c (t := 2) (by decide)
theorem cf4 (I : nw_Me) (c : Nat) : nv_cf I c 4 = I c 3 := cf_f I c (t := 3) (by decide)
theorem cf5 (I : nw_Me) (c : Nat) : nv_cf I c 5 = I c 4 := cf_f I c (t := 4) (by decide)
theorem fl0 (I : nw_Me) (a : Nat) : nv_fl I a 0 = I a 0 := fl_w I a (t := 0) (by decide)
theorem fl1 (I : nw_Me) (a : Nat) : nv_fl I a 1 = I a 1 := fl_w I a (t := 1) (by decide)
theorem c_swellOf {c N : Nat} (hc : nw_iCh c) (hN : nv_cf I c 3 = nI N) (h0 : 0 < N) (hN2 : N ≤ 20) {v : Nat} (hv : v < 2 ^ 31) : nw_dI l g 0 mX2_swellOf [.ref (nw_a g c), .int (nI v)] I (nI (v % N)) I := by
  refine ⟨(Nat.le_of_ble_eq_true rfl), ?_⟩
  rw [cf3] at hN
  refine ev_aload_n (i := 0) dX2_swellOf_0 rfl rfl ?_
  refine ev_getI fX2_29 dX2_swellOf_1 hc.1 rfl (by decide) ?_
  rw [hN]
  refine ev_if_le (tgt := 20) dX2_swellOf_4 (by decide) (fun h4 => ?_) (fun h4 => ?_)
  · refine ev_iconst (v := 0) dX2_swellOf_20 kc_0 ?_
    exact s_retI dX2_swellOf_21 ⟨by first | exact pk_rem hv h0 (by omega) | (exfalso; first | exact nI_nle h0 (by omega) h4 | exact nI_pos hv h8), rfl⟩
  · refine ev_iload_n (i := 1) dX2_swellOf_7 rfl rfl ?_
    refine ev_if_lt (tgt := 20) dX2_swellOf_8 (by decide) (fun h8 => ?_) (fun h8 => ?_)
    · refine ev_iconst (v := 0) dX2_swellOf_20 kc_0 ?_
      exact s_retI dX2_swellOf_21 ⟨by first | exact pk_rem hv h0 (by omega) | (exfalso; first | exact nI_nle h0 (by omega) h4 | exact nI_pos hv h8), rfl⟩
    · refine ev_iload_n (i := 1) dX2_swellOf_11 rfl rfl ?_
      refine ev_aload_n (i := 0) dX2_swellOf_12 rfl rfl ?_
      refine ev_getI fX2_29 dX2_swellOf_13 hc.1 rfl (by decide) ?_
      rw [hN]
      refine ev_irem dX2_swellOf_16 (nI_ne0 h0 (by omega)) ?_
      refine ev_goto (tgt := 21) dX2_swellOf_17 (by decide) ?_
      exact s_retI dX2_swellOf_21 ⟨by first | exact pk_rem hv h0 (by omega) | (exfalso; first | exact nI_nle h0 (by omega) h4 | exact nI_pos hv h8), rfl⟩
theorem c_kindIn {c N : Nat} (hc : nw_iCh c) (hN : nv_cf I c 3 = nI N) (h0 : 0 < N) (hN2 : N ≤ 20) {v : Nat} (hv : v < 2 ^ 31) : nw_dI l g 1 mX2_kindIn [.ref (nw_a g c), .int (nI v)] I (p_kind (nv_cf I c) (nI v)) I := by
  refine ⟨(Nat.le_of_ble_eq_true rfl), ?_⟩
  refine ev_aload_n (i := 0) dX2_kindIn_0 rfl rfl ?_
  refine ev_getR fX2_9 dX2_kindIn_1 hc.1 rfl (by decide) ?_
  refine ev_aload_n (i := 0) dX2_kindIn_4 rfl rfl ?_
  refine ev_iload_n (i := 1) dX2_kindIn_5 rfl rfl ?_
  refine s_dVi (As := [_]) (c_swellOf hc hN h0 hN2 hv) (Nat.le_of_ble_eq_true rfl) lX2_44 kX2_swellOf vX2_swellOf dX2_kindIn_6 rfl rfl hc.1 (by decide) rfl (Nat.le_of_ble_eq_true rfl) ?_
  refine ev_ialdN dX2_kindIn_9 hc.2.1 (show v % N < 20 by have := Nat.mod_lt v h0; omega) (by decide) ?_
  exact s_retI dX2_kindIn_10 ⟨by unfold p_kind; rw [p_ix_nI hN hN2 hv, cf_kin _ _ (by have := Nat.mod_lt v h0; omega)], rfl⟩
theorem c_stepOf {c t : Nat} (hc : nw_iCh c) (ht : t < 3) (k : Int32) : nw_dI l g 1 mX2_stepOf [.ref (nw_a g c), .int (nI t), .int k] I (p_more (nv_cf I c) k t) I := by
  refine ⟨(Nat.le_of_ble_eq_true rfl), ?_⟩
  refine ev_aload_n (i := 0) dX2_stepOf_0 rfl rfl ?_
  refine ev_getR fX2_16 dX2_stepOf_1 hc.1 rfl (by decide) ?_
  refine ev_iload_n (i := 1) dX2_stepOf_4 rfl rfl ?_
  refine ev_ialdN dX2_stepOf_5 hc.2.2.2.1 ht (by decide) ?_
  refine ev_iload_n (i := 2) dX2_stepOf_6 rfl rfl ?_
  refine s_dSi (As := [_, _]) (c_step _ _) (Nat.le_of_ble_eq_true rfl) lX2_48 kX4_stepOf sX4_stepOf dX2_stepOf_7 rfl rfl (Nat.le_of_ble_eq_true rfl) ?_
  exact s_retI dX2_stepOf_10 ⟨by unfold p_more; rw [cf_see _ _ ht], rfl⟩
theorem c_liftOfSwell {c s : Nat} (hc : nw_iCh c) (hs : s < 20) : nw_dI l g 1 mX2_liftOfSwell [.ref (nw_a g c), .int (nI s)] I (nv_lift (nv_cf I c (6 + s)) (nv_cf I c (26 + s))) I := by
  refine ⟨(Nat.le_of_ble_eq_true rfl), ?_⟩
  refine ev_aload_n (i := 0) dX2_liftOfSwell_0 rfl rfl ?_
  refine ev_getR fX2_9 dX2_liftOfSwell_1 hc.1 rfl (by decide) ?_
  refine ev_iload_n (i := 1) dX2_liftOfSwell_4 rfl rfl ?_
  refine ev_ialdN dX2_liftOfSwell_5 hc.2.1 hs (by decide) ?_
  refine ev_aload_n (i := 0) dX2_liftOfSwell_6 rfl rfl ?_
  refine ev_getR fX2_13 dX2_liftOfSwell_7 hc.1 rfl (by decide) ?_
  refine ev_iload_n (i := 1) dX2_liftOfSwell_10 rfl rfl ?_
  refine ev_ialdN dX2_liftOfSwell_11 hc.2.2.1 hs (by decide) ?_
  refine s_dSi (As := [_, _]) (c_lift _ _) (Nat.le_of_ble_eq_true rfl) lX2_59 kX2_liftOf sX2_liftOf dX2_liftOfSwell_12 rfl rfl (Nat.le_of_ble_eq_true rfl) ?_
  exact s_retI dX2_liftOfSwell_15 ⟨by rw [cf_kin _ _ hs, cf_hei _ _ hs], rfl⟩
theorem c_depthIn {c : Nat} (hc : nw_iCh c) (w : Int32) : nw_dI l g 0 mX2_depthIn [.ref (nw_a g c), .int w] I (p_dep (nv_cf I c) w) I := by
  refine ⟨(Nat.le_of_ble_eq_true rfl), ?_⟩
  refine ev_iconst (v := 0) dX2_depthIn_0 kc_0 ?_
  refine ev_aload_n (i := 0) dX2_depthIn_1 rfl rfl ?_
  refine ev_getI fX2_22 dX2_depthIn_2 hc.1 rfl (by decide) ?_
  refine ev_aload_n (i := 0) dX2_depthIn_5 rfl rfl ?_
  refine ev_getI fX2_26 dX2_depthIn_6 hc.1 rfl (by decide) ?_
  refine ev_iload_n (i := 1) dX2_depthIn_9 rfl rfl ?_
  refine ev_imul dX2_depthIn_10 ?_
  refine ev_bipush (v := 10) dX2_depthIn_11 kb_10 ?_
  refine ev_idiv dX2_depthIn_13 (by decide) ?_
  refine ev_isub dX2_depthIn_14 ?_
  refine ev_mmax jX2_54 dX2_depthIn_15 (Nat.le_of_ble_eq_true rfl) ?_
  exact s_retI dX2_depthIn_18 ⟨by unfold p_dep nv_max; rw [cf1, cf2], rfl⟩
theorem c_waterIn {c N : Nat} (hc : nw_iCh c) (hN : nv_cf I c 3 = nI N) (h0 : 0 < N) (hN2 : N ≤ 20) {v : Nat} (hv : v < 2 ^ 31) : nw_dI l g 2 mX2_waterIn [.ref (nw_a g c), .int (nI v)] I (p_wat (nv_cf I c) (nI v)) I := by
  refine ⟨(Nat.le_of_ble_eq_true rfl), ?_⟩
  refine ev_aload_n (i := 0) dX2_waterIn_0 rfl rfl ?_
  refine ev_iload_n (i := 1) dX2_waterIn_1 rfl rfl ?_
  refine s_dVi (As := [_]) (c_depthIn hc _) (Nat.le_of_ble_eq_true rfl) lX2_62 kX2_depthIn vX2_depthIn dX2_waterIn_2 rfl rfl hc.1 (by decide) rfl (Nat.le_of_ble_eq_true rfl) ?_
  refine ev_aload_n (i := 0) dX2_waterIn_5 rfl rfl ?_
  refine ev_aload_n (i := 0) dX2_waterIn_6 rfl rfl ?_
  refine ev_iload_n (i := 1) dX2_waterIn_7 rfl rfl ?_
  refine s_dVi (As := [_]) (c_swellOf hc hN h0 hN2 hv) (Nat.le_of_ble_eq_true rfl) lX2_44 kX2_swellOf vX2_swellOf dX2_waterIn_8 rfl rfl hc.1 (by decide) rfl (Nat.le_of_ble_eq_true rfl) ?_
  refine s_dVi (As := [_]) (c_liftOfSwell hc (show v % N < 20 by have := Nat.mod_lt v h0; omega)) (Nat.le_of_ble_eq_true rfl) lX2_65 kX2_liftOfSwell vX2_liftOfSwell dX2_waterIn_11 rfl rfl hc.1 (by decide) rfl (Nat.le_of_ble_eq_true rfl) ?_
  refine ev_iadd dX2_waterIn_14 ?_
  exact s_retI dX2_waterIn_15 ⟨by unfold p_wat p_kind p_hei; rw [p_ix_nI hN hN2 hv], rfl⟩
theorem nv_chb {I : nw_Me} {c q : Nat} (hd : c + 5 ≤ q ∨ q + 5 ≤ c) : nv_cf (nw_cp (nw_cp (nw_cp (nw_cp (nw_up (nw_up (nw_up (nw_up (nw_up I c 0 (I q 0)) c 1 ((nw_up I c 0 (I q 0)) q 1)) c 2 ((nw_up (nw_up I c 0 (I q 0)) c 1 ((nw_up I c 0 (I q 0)) q 1)) q 2)) c 3 ((nw_up (nw_up (nw_up I c 0 (I q 0)) c 1 ((nw_up I c 0 (I q 0)) q 1)) c 2 ((nw_up (nw_up I c 0 (I q 0)) c 1 ((nw_up I c 0 (I q 0)) q 1)) q 2)) q 3)) c 4 ((nw_up (nw_up (nw_up (nw_up I c 0 (I q 0)) c 1 ((nw_up I c 0 (I q 0)) q 1)) c 2 ((nw_up (nw_up I c 0 (I q 0)) c 1 ((nw_up I c 0 (I q 0)) q 1)) q 2)) c 3 ((nw_up (nw_up (nw_up I c 0 (I q 0)) c 1 ((nw_up I c 0 (I q 0)) q 1)) c 2 ((nw_up (nw_up I c 0 (I q 0)) c 1 ((nw_up I c 0 (I q 0)) q 1)) q 2)) q 3)) q 4)) (q + 1) (0 : Int32).toNatClampNeg (c + 1) (0 : Int32).toNatClampNeg (20 : Int32).toNatClampNeg) (q + 2) (0 : Int32).toNatClampNeg (c + 2) (0 : Int32).toNatClampNeg (20 : Int32).toNatClampNeg) (q + 3) (0 : Int32).toNatClampNeg (c + 3) (0 : Int32).toNatClampNeg (3 : Int32).toNatClampNeg) (q + 4) (0 : Int32).toNatClampNeg (c + 4) (0 : Int32).toNatClampNeg (6 : Int32).toNatClampNeg) c = nv_cf I q ∧ nv_fr I (nw_cp (nw_cp (nw_cp (nw_cp (nw_up (nw_up (nw_up (nw_up (nw_up I c 0 (I q 0)) c 1 ((nw_up I c 0 (I q 0)) q 1)) c 2 ((nw_up (nw_up I c 0 (I q 0)) c 1 ((nw_up I c 0 (I q 0)) q 1)) q 2)) c 3 ((nw_up (nw_up (nw_up I c 0 (I q 0)) c 1 ((nw_up I c 0 (I q 0)) q 1)) c 2 ((nw_up (nw_up I c 0 (I q 0)) c 1 ((nw_up I c 0 (I q 0)) q 1)) q 2)) q 3)) c 4 ((nw_up (nw_up (nw_up (nw_up I c 0 (I q 0)) c 1 ((nw_up I c 0 (I q 0)) q 1)) c 2 ((nw_up (nw_up I c 0 (I q 0)) c 1 ((nw_up I c 0 (I q 0)) q 1)) q 2)) c 3 ((nw_up (nw_up (nw_up I c 0 (I q 0)) c 1 ((nw_up I c 0 (I q 0)) q 1)) c 2 ((nw_up (nw_up I c 0 (I q 0)) c 1 ((nw_up I c 0 (I q 0)) q 1)) q 2)) q 3)) q 4)) (q + 1) (0 : Int32).toNatClampNeg (c + 1) (0 : Int32).toNatClampNeg (20 : Int32).toNatClampNeg) (q + 2) (0 : Int32).toNatClampNeg (c + 2) (0 : Int32).toNatClampNeg (20 : Int32).toNatClampNeg) (q + 3) (0 : Int32).toNatClampNeg (c + 3) (0 : Int32).toNatClampNeg (3 : Int32).toNatClampNeg) (q + 4) (0 : Int32).toNatClampNeg (c + 4) (0 : Int32).toNatClampNeg (6 : Int32).toNatClampNeg) c 5 := by
  refine ⟨?_, (((((((((nv_fr.refl I c 5).up (by omega) (by omega)).up (by omega) (by omega)).up (by omega) (by omega)).up (by omega) (by omega)).up (by omega) (by omega)).cp (by omega) (by omega)).cp (by omega) (by omega)).cp (by omega) (by omega)).cp (by omega) (by omega)⟩
  funext i
  unfold nv_cf
  have z0 : (0 : Int32).toNatClampNeg = 0 := by decide
  have z3 : (3 : Int32).toNatClampNeg = 3 := by decide
  have z6 : (6 : Int32).toNatClampNeg = 6 := by decide
  have z20 : (20 : Int32).toNatClampNeg = 20 := by decide
  simp only [nw_cp, nw_up, va_cpy, z0, z3, z6, z20, show ¬ q = c by omega, show ¬ q = c + 1 by omega, show ¬ c = c + 1 by omega, show ¬ q = c + 2 by omega, show ¬ c = c + 2 by omega, show ¬ q = c + 3 by omega, show ¬ c = c + 3 by omega, show ¬ q = c + 4 by omega, show ¬ c = c + 4 by omega, show ¬ q + 1 = c by omega, show ¬ c + 1 = c by omega, show ¬ q + 1 = c + 1 by omega, show ¬ q + 1 = c + 2 by omega, show ¬ c + 1 = c + 2 by omega, show ¬ q + 1 = c + 3 by omega, show ¬ c + 1 = c + 3 by omega, show ¬ q + 1 = c + 4 by omega, show ¬ c + 1 = c + 4 by omega, show ¬ q + 2 = c by omega, show ¬ c + 2 = c by omega, show ¬ q + 2 = c + 1 by omega, show ¬ c + 2 = c + 1 by omega, show ¬ q + 2 = c + 2 by omega, show ¬ q + 2 = c + 3 by omega, show ¬ c + 2 = c + 3 by omega, show ¬ q + 2 = c + 4 by omega, show ¬ c + 2 = c + 4 by omega, show ¬ q + 3 = c by omega, show ¬ c + 3 = c by omega, show ¬ q + 3 = c + 1 by omega, show ¬ c + 3 = c + 1 by omega, show ¬ q + 3 = c + 2 by omega, show ¬ c + 3 = c + 2 by omega, show ¬ q + 3 = c + 3 by omega, show ¬ q + 3 = c + 4 by omega, show ¬ c + 3 = c + 4 by omega, show ¬ q + 4 = c by omega, show ¬ c + 4 = c by omega, show ¬ q + 4 = c + 1 by omega, show ¬ c + 4 = c + 1 by omega, show ¬ q + 4 = c + 2 by omega, show ¬ c + 4 = c + 2 by omega, show ¬ q + 4 = c + 3 by omega, show ¬ c + 4 = c + 3 by omega, show ¬ q + 4 = c + 4 by omega, if_true, if_false, Nat.zero_le, true_and, Nat.zero_add, Nat.sub_zero]
  repeat' split
  all_goals first | rfl | (exfalso; omega) | (congr 1; omega)
theorem nv_scb {I : nw_Me} {a q : Nat} (hd : a + 6 ≤ q ∨ q + 6 ≤ a) : nv_fl (nw_cp (nw_cp (nw_cp (nw_cp (nw_cp (nw_up (nw_up I a 0 (I q 0)) a 1 ((nw_up I a 0 (I q 0)) q 1)) (q + 1) (0 : Int32).toNatClampNeg (a + 1) (0 : Int32).toNatClampNeg (3 : Int32).toNatClampNeg) (q + 2) (0 : Int32).toNatClampNeg (a + 2) (0 : Int32).toNatClampNeg (6 : Int32).toNatClampNeg) (q + 3) (0 : Int32).toNatClampNeg (a + 3) (0 : Int32).toNatClampNeg (6 : Int32).toNatClampNeg) (q + 4) (0 : Int32).toNatClampNeg (a + 4) (0 : Int32).toNatClampNeg (6 : Int32).toNatClampNeg) (q + 5) (0 : Int32).toNatClampNeg (a + 5) (0 : Int32).toNatClampNeg (6 : Int32).toNatClampNeg) a = nv_fl I q ∧ nv_fr I (nw_cp (nw_cp (nw_cp (nw_cp (nw_cp (nw_up (nw_up I a 0 (I q 0)) a 1 ((nw_up I a 0 (I q 0)) q 1)) (q + 1) (0 : Int32).toNatClampNeg (a + 1) (0 : Int32).toNatClampNeg (3 : Int32).toNatClampNeg) (q + 2) (0 : Int32).toNatClampNeg (a + 2) (0 : Int32).toNatClampNeg (6 : Int32).toNatClampNeg) (q + 3) (0 : Int32).toNatClampNeg (a + 3) (0 : Int32).toNatClampNeg (6 : Int32).toNatClampNeg) (q + 4) (0 : Int32).toNatClampNeg (a + 4) (0 : Int32).toNatClampNeg (6 : Int32).toNatClampNeg) (q + 5) (0 : Int32).toNatClampNeg (a + 5) (0 : Int32).toNatClampNeg (6 : Int32).toNatClampNeg) a 6 := by
  refine ⟨?_, (((((((nv_fr.refl I a 6).up (by omega) (by omega)).up (by omega) (by omega)).cp (by omega) (by omega)).cp (by omega) (by omega)).cp (by omega) (by omega)).cp (by omega) (by omega)).cp (by omega) (by omega)⟩
  funext i
  unfold nv_fl
  have z0 : (0 : Int32).toNatClampNeg = 0 := by decide
  have z3 : (3 : Int32).toNatClampNeg = 3 := by decide
  have z6 : (6 : Int32).toNatClampNeg = 6 := by decide
  have z20 : (20 : Int32).toNatClampNeg = 20 := by decide
  simp only [nw_cp, nw_up, va_cpy, z0, z3, z6, z20, show ¬ q = a by omega, show ¬ q = a + 1 by omega, show ¬ a = a + 1 by omega, show ¬ q = a + 2 by omega, show ¬ a = a + 2 by omega, show ¬ q = a + 3 by omega, show ¬ a = a + 3 by omega, show ¬ q = a + 4 by omega, show ¬ a = a + 4 by omega, show ¬ q = a + 5 by omega, show ¬ a = a + 5 by omega, show ¬ q + 1 = a by omega, show ¬ a + 1 = a by omega, show ¬ q + 1 = a + 1 by omega, show ¬ q + 1 = a + 2 by omega, show ¬ a + 1 = a + 2 by omega, show ¬ q + 1 = a + 3 by omega, show ¬ a + 1 = a + 3 by omega, show ¬ q + 1 = a + 4 by omega, show ¬ a + 1 = a + 4 by omega, show ¬ q + 1 = a + 5 by omega, show ¬ a + 1 = a + 5 by omega, show ¬ q + 2 = a by omega, show ¬ a + 2 = a by omega, show ¬ q + 2 = a + 1 by omega, show ¬ a + 2 = a + 1 by omega, show ¬ q + 2 = a + 2 by omega, show ¬ q + 2 = a + 3 by omega, show ¬ a + 2 = a + 3 by omega, show ¬ q + 2 = a + 4 by omega, show ¬ a + 2 = a + 4 by omega, show ¬ q + 2 = a + 5 by omega, show ¬ a + 2 = a + 5 by omega, show ¬ q + 3 = a by omega, show ¬ a + 3 = a by omega, show ¬ q + 3 = a + 1 by omega, show ¬ a + 3 = a + 1 by omega, show ¬ q + 3 = a + 2 by omega, show ¬ a + 3 = a + 2 by omega, show ¬ q + 3 = a + 3 by omega, show ¬ q + 3 = a + 4 by omega, show ¬ a + 3 = a + 4 by omega, show ¬ q + 3 = a + 5 by omega, show ¬ a + 3 = a + 5 by omega, show ¬ q + 4 = a by omega, show ¬ a + 4 = a by omega, show ¬ q + 4 = a + 1 by omega, show ¬ a + 4 = a + 1 by omega, show ¬ q + 4 = a + 2 by omega, show ¬ a + 4 = a + 2 by omega, show ¬ q + 4 = a + 3 by omega, show ¬ a + 4 = a + 3 by omega, show ¬ q + 4 = a + 4 by omega, show ¬ q + 4 = a + 5 by omega, show ¬ a + 4 = a + 5 by omega, show ¬ q + 5 = a by omega, show ¬ a + 5 = a by omega, show ¬ q + 5 = a + 1 by omega, show ¬ a + 5 = a + 1 by omega, show ¬ q + 5 = a + 2 by omega, show ¬ a + 5 = a + 2 by omega, show ¬ q + 5 = a + 3 by omega, show ¬ a + 5 = a + 3 by omega, show ¬ q + 5 = a + 4 by omega, show ¬ a + 5 = a + 4 by omega, show ¬ q + 5 = a + 5 by omega, if_true, if_false, Nat.zero_le, true_and, Nat.zero_add, Nat.sub_zero]
  repeat' split
  all_goals first | rfl | (exfalso; omega) | (congr 1; omega)
theorem c_chBecome {c q : Nat} (hc : nw_iCh c) (ho : nw_iCh q) (hd : c + 5 ≤ q ∨ q + 5 ≤ c) : nw_cV l g 0 mX2_become [.ref (nw_a g c), .ref (nw_a g q)] I (fun I' => nv_cf I' c = nv_cf I q ∧ nv_fr I I' c 5) := by
  refine ⟨(Nat.le_of_ble_eq_true rfl), ?_⟩
  refine ev_aload_n (i := 0) dX2_become_0 rfl rfl ?_
  refine ev_aload_n (i := 1) dX2_become_1 rfl rfl ?_
  refine ev_getI fX2_22 dX2_become_2 ho.1 rfl (by decide) ?_
  refine ev_putI fX2_22 dX2_become_5 hc.1 rfl (by decide) rfl rfl rfl rfl ?_
  refine ev_aload_n (i := 0) dX2_become_8 rfl rfl ?_
  refine ev_aload_n (i := 1) dX2_become_9 rfl rfl ?_
  refine ev_getI fX2_26 dX2_become_10 ho.1 rfl (by decide) ?_
  refine ev_putI fX2_26 dX2_become_13 hc.1 rfl (by decide) rfl rfl rfl rfl ?_
  refine ev_aload_n (i := 0) dX2_become_16 rfl rfl ?_
  refine ev_aload_n (i := 1) dX2_become_17 rfl rfl ?_
  refine ev_getI fX2_29 dX2_become_18 ho.1 rfl (by decide) ?_
  refine ev_putI fX2_29 dX2_become_21 hc.1 rfl (by decide) rfl rfl rfl rfl ?_
  refine ev_aload_n (i := 0) dX2_become_24 rfl rfl ?_
  refine ev_aload_n (i := 1) dX2_become_25 rfl rfl ?_
  refine ev_getI fX2_32 dX2_become_26 ho.1 rfl (by decide) ?_
  refine ev_putI fX2_32 dX2_become_29 hc.1 rfl (by decide) rfl rfl rfl rfl ?_
  refine ev_aload_n (i := 0) dX2_become_32 rfl rfl ?_
  refine ev_aload_n (i := 1) dX2_become_33 rfl rfl ?_
  refine ev_getI fX2_35 dX2_become_34 ho.1 rfl (by decide) ?_
  refine ev_putI fX2_35 dX2_become_37 hc.1 rfl (by decide) rfl rfl rfl rfl ?_
  refine ev_aload_n (i := 1) dX2_become_40 rfl rfl ?_
  refine ev_getR fX2_9 dX2_become_41 ho.1 rfl (by decide) ?_
  refine ev_iconst (v := 0) dX2_become_44 kc_0 ?_
  refine ev_aload_n (i := 0) dX2_become_45 rfl rfl ?_
  refine ev_getR fX2_9 dX2_become_46 hc.1 rfl (by decide) ?_
  refine ev_iconst (v := 0) dX2_become_49 kc_0 ?_
  refine ev_bipush (v := 20) dX2_become_50 kb_20 ?_
  refine ev_copy jX2_38 dX2_become_52 ho.2.1 hc.2.1 (by decide) (by decide) (by decide) (by decide) (by decide) (Nat.le_of_ble_eq_true rfl) ?_
  refine ev_aload_n (i := 1) dX2_become_55 rfl rfl ?_
  refine ev_getR fX2_13 dX2_become_56 ho.1 rfl (by decide) ?_
  refine ev_iconst (v := 0) dX2_become_59 kc_0 ?_
  refine ev_aload_n (i := 0) dX2_become_60 rfl rfl ?_
  refine ev_getR fX2_13 dX2_become_61 hc.1 rfl (by decide) ?_
  refine ev_iconst (v := 0) dX2_become_64 kc_0 ?_
  refine ev_bipush (v := 20) dX2_become_65 kb_20 ?_
  refine ev_copy jX2_38 dX2_become_67 ho.2.2.1 hc.2.2.1 (by decide) (by decide) (by decide) (by decide) (by decide) (Nat.le_of_ble_eq_true rfl) ?_
  refine ev_aload_n (i := 1) dX2_become_70 rfl rfl ?_
  refine ev_getR fX2_16 dX2_become_71 ho.1 rfl (by decide) ?_
  refine ev_iconst (v := 0) dX2_become_74 kc_0 ?_
  refine ev_aload_n (i := 0) dX2_become_75 rfl rfl ?_
  refine ev_getR fX2_16 dX2_become_76 hc.1 rfl (by decide) ?_
  refine ev_iconst (v := 0) dX2_become_79 kc_0 ?_
  refine ev_iconst (v := 3) dX2_become_80 kc_3 ?_
  refine ev_copy jX2_38 dX2_become_81 ho.2.2.2.1 hc.2.2.2.1 (by decide) (by decide) (by decide) (by decide) (by decide) (Nat.le_of_ble_eq_true rfl) ?_
  refine ev_aload_n (i := 1) dX2_become_84 rfl rfl ?_
  refine ev_getR fX2_19 dX2_become_85 ho.1 rfl (by decide) ?_
  refine ev_iconst (v := 0) dX2_become_88 kc_0 ?_
  refine ev_aload_n (i := 0) dX2_become_89 rfl rfl ?_
  refine ev_getR fX2_19 dX2_become_90 hc.1 rfl (by decide) ?_
  refine ev_iconst (v := 0) dX2_become_93 kc_0 ?_
  refine ev_bipush (v := 6) dX2_become_94 kb_6 ?_
  refine ev_copy jX2_38 dX2_become_96 ho.2.2.2.2 hc.2.2.2.2 (by decide) (by decide) (by decide) (by decide) (by decide) (Nat.le_of_ble_eq_true rfl) ?_
  exact s_retV dX2_become_99 (nv_chb hd)
theorem c_scBecome {a q : Nat} (hs : nw_iSc a) (ho : nw_iSc q) (hd : a + 6 ≤ q ∨ q + 6 ≤ a) : nw_cV l g 0 mX8_become [.ref (nw_a g a), .ref (nw_a g q)] I (fun I' => nv_fl I' a = nv_fl I q ∧ nv_fr I I' a 6) := by
  refine ⟨(Nat.le_of_ble_eq_true rfl), ?_⟩
  refine ev_aload_n (i := 0) dX8_become_0 rfl rfl ?_
  refine ev_aload_n (i := 1) dX8_become_1 rfl rfl ?_
  refine ev_getI fX8_33 dX8_become_2 ho.1 rfl (by decide) ?_
  refine ev_putI fX8_33 dX8_become_5 hs.1 rfl (by decide) rfl rfl rfl rfl ?_
  refine ev_aload_n (i := 0) dX8_become_8 rfl rfl ?_
  refine ev_aload_n (i := 1) dX8_become_9 rfl rfl ?_
  refine ev_getI fX8_9 dX8_become_10 ho.1 rfl (by decide) ?_
  refine ev_putI fX8_9 dX8_become_13 hs.1 rfl (by decide) rfl rfl rfl rfl ?_
  refine ev_aload_n (i := 1) dX8_become_16 rfl rfl ?_
  refine ev_getR fX8_17 dX8_become_17 ho.1 rfl (by decide) ?_
  refine ev_iconst (v := 0) dX8_become_20 kc_0 ?_
  refine ev_aload_n (i := 0) dX8_become_21 rfl rfl ?_
  refine ev_getR fX8_17 dX8_become_22 hs.1 rfl (by decide) ?_
  refine ev_iconst (v := 0) dX8_become_25 kc_0 ?_
  refine ev_iconst (v := 3) dX8_become_26 kc_3 ?_
  refine ev_copy jX8_37 dX8_become_27 ho.2.1 hs.2.1 (by decide) (by decide) (by decide) (by decide) (by decide) (Nat.le_of_ble_eq_true rfl) ?_
  refine ev_aload_n (i := 1) dX8_become_30 rfl rfl ?_
  refine ev_getR fX8_21 dX8_become_31 ho.1 rfl (by decide) ?_
  refine ev_iconst (v := 0) dX8_become_34 kc_0 ?_
  refine ev_aload_n (i := 0) dX8_become_35 rfl rfl ?_
  refine ev_getR fX8_21 dX8_become_36 hs.1 rfl (by decide) ?_
  refine ev_iconst (v := 0) dX8_become_39 kc_0 ?_
  refine ev_bipush (v := 6) dX8_become_40 kb_6 ?_
  refine ev_copy jX8_37 dX8_become_42 ho.2.2.1 hs.2.2.1 (by decide) (by decide) (by decide) (by decide) (by decide) (Nat.le_of_ble_eq_true rfl) ?_
  refine ev_aload_n (i := 1) dX8_become_45 rfl rfl ?_
  refine ev_getR fX8_24 dX8_become_46 ho.1 rfl (by decide) ?_
  refine ev_iconst (v := 0) dX8_become_49 kc_0 ?_
  refine ev_aload_n (i := 0) dX8_become_50 rfl rfl ?_
  refine ev_getR fX8_24 dX8_become_51 hs.1 rfl (by decide) ?_
  refine ev_iconst (v := 0) dX8_become_54 kc_0 ?_
  refine ev_bipush (v := 6) dX8_become_55 kb_6 ?_
  refine ev_copy jX8_37 dX8_become_57 ho.2.2.2.1 hs.2.2.2.1 (by decide) (by decide) (by decide) (by decide) (by decide) (Nat.le_of_ble_eq_true rfl) ?_
  refine ev_aload_n (i := 1) dX8_become_60 rfl rfl ?_
  refine ev_getR fX8_27 dX8_become_61 ho.1 rfl (by decide) ?_
  refine ev_iconst (v := 0) dX8_become_64 kc_0 ?_
  refine ev_aload_n (i := 0) dX8_become_65 rfl rfl ?_
  refine ev_getR fX8_27 dX8_become_66 hs.1 rfl (by decide) ?_
  refine ev_iconst (v := 0) dX8_become_69 kc_0 ?_
  refine ev_bipush (v := 6) dX8_become_70 kb_6 ?_
  refine ev_copy jX8_37 dX8_become_72 ho.2.2.2.2.1 hs.2.2.2.2.1 (by decide) (by decide) (by decide) (by decide) (by decide) (Nat.le_of_ble_eq_true rfl) ?_
  refine ev_aload_n (i := 1) dX8_become_75 rfl rfl ?_
  refine ev_getR fX8_30 dX8_become_76 ho.1 rfl (by decide) ?_
  refine ev_iconst (v := 0) dX8_become_79 kc_0 ?_
  refine ev_aload_n (i := 0) dX8_become_80 rfl rfl ?_
  refine ev_getR fX8_30 dX8_become_81 hs.1 rfl (by decide) ?_
  refine ev_iconst (v := 0) dX8_become_84 kc_0 ?_
  refine ev_bipush (v := 6) dX8_become_85 kb_6 ?_
  refine ev_copy jX8_37 dX8_become_87 ho.2.2.2.2.2 hs.2.2.2.2.2 (by decide) (by decide) (by decide) (by decide) (by decide) (Nat.le_of_ble_eq_true rfl) ?_
  exact s_retV dX8_become_90 (nv_scb hd)
end
