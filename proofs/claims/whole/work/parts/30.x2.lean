section
variable {l : Launch} {g : nw_G} {I : nw_Me} {N T S : Nat} {b : Bool}
def nv_isAr : Nat → Int32 → Int32 → Bool
  | 0, _, _ => false
  | n + 1, k, x => if k = -1 then false else if k = x then true else nv_isAr n (nv_next k) x
theorem l_isA (k0 x : Int32) : ∀ (m p : Nat) (k : Int32), p + m = 6 → nw_S l g 1 mX4_isA 4 [some (.int k0), some (.int x), some (.int k), some (.int (nI p))] [] I (nw_qZ (fun b I' => b = nv_isAr m k x ∧ I' = I)) := by
  have e6 : (6 : Int32) = nI 6 := by decide
  intro m
  induction m with
  | zero =>
    intro p k hp
    refine ev_iload_n (i := 3) dX4_isA_4 rfl rfl ?_
    refine ev_gets_next fX4_7 dX4_isA_5 ?_
    refine ev_nlen dX4_isA_8 ?_
    refine ev_icmp_ge (tgt := 35) dX4_isA_9 (by decide) (fun h9 => ?_) (fun h9 => ?_)
    · refine ev_iconst (v := 0) dX4_isA_35 kc_0 ?_
      exact s_ret0 dX4_isA_36 ⟨rfl, rfl⟩
    · exact absurd (by rw [e6]; exact nI_le (by omega) (by omega)) h9
  | succ m ih =>
    intro p k hp
    refine ev_iload_n (i := 3) dX4_isA_4 rfl rfl ?_
    refine ev_gets_next fX4_7 dX4_isA_5 ?_
    refine ev_nlen dX4_isA_8 ?_
    refine ev_icmp_ge (tgt := 35) dX4_isA_9 (by decide) (fun h9 => ?_) (fun h9 => ?_)
    · exact absurd h9 (by rw [e6]; exact nI_ge (by omega) (by decide))
    · refine ev_iload_n (i := 2) dX4_isA_12 rfl rfl ?_
      refine ev_iconst (v := (-1)) dX4_isA_13 kc_m1 ?_
      refine ev_icmp_eq (tgt := 35) dX4_isA_14 (by decide) (fun h14 => ?_) (fun h14 => ?_)
      · refine ev_iconst (v := 0) dX4_isA_35 kc_0 ?_
        exact s_ret0 dX4_isA_36 ⟨by first | (unfold nv_isAr; rw [if_pos h14]; done) | (unfold nv_isAr; rw [if_neg h14, if_pos h19]; done), rfl⟩
      · refine ev_iload_n (i := 2) dX4_isA_17 rfl rfl ?_
        refine ev_iload_n (i := 1) dX4_isA_18 rfl rfl ?_
        refine ev_icmp_ne (tgt := 24) dX4_isA_19 (by decide) (fun h19 => ?_) (fun h19 => ?_)
        · refine ev_iload_n (i := 2) dX4_isA_24 rfl rfl ?_
          refine s_dSi (As := [_]) (c_next _) (Nat.le_of_ble_eq_true rfl) lX4_13 kX4_next sX4_next dX4_isA_25 rfl rfl (Nat.le_of_ble_eq_true rfl) ?_
          refine ev_istore_n (i := 2) dX4_isA_28 rfl (Nat.le_of_ble_eq_true rfl) rfl ?_
          refine ev_iincm (m := 1) dX4_isA_29 kc_1 rfl (Nat.le_of_ble_eq_true rfl) rfl ?_
          refine ev_goto (tgt := 4) dX4_isA_32 (by decide) ?_
          rw [nI_1]
          have e : nv_isAr (m + 1) k x = nv_isAr m (nv_next k) x := by simp [nv_isAr, h14, h19]
          rw [e]
          exact ih (p + 1) _ (by omega)
        · refine ev_iconst (v := 1) dX4_isA_22 kc_1 ?_
          exact s_ret1 dX4_isA_23 ⟨by first | (unfold nv_isAr; rw [if_pos h14]; done) | (unfold nv_isAr; rw [if_neg h14, if_pos h19]; done), rfl⟩
theorem c_isA (k x : Int32) : nw_dZ l g 1 mX4_isA [.int k, .int x] I (nv_isAr 6 k x) I := by
  refine ⟨(Nat.le_of_ble_eq_true rfl), ?_⟩
  refine ev_iload_n (i := 0) dX4_isA_0 rfl rfl ?_
  refine ev_istore_n (i := 2) dX4_isA_1 rfl (Nat.le_of_ble_eq_true rfl) rfl ?_
  refine ev_iconst (v := 0) dX4_isA_2 kc_0 ?_
  refine ev_istore_n (i := 3) dX4_isA_3 rfl (Nat.le_of_ble_eq_true rfl) rfl ?_
  exact l_isA _ x 6 0 k rfl
theorem x_kind (hW : nv_W I b N T S) (x : Int32) : nw_dI l g 2 mX9_kind [.ref (nw_a g 0), .int x] I (if nv_in x 0 (nI N - 1) then nv_cf I 15 (6 + x.toNatClampNeg) else -1000001) I := by
  obtain ⟨hb, ⟨hN, hT, hS, hN2, hT3, hS6⟩, hor⟩ := hW
  have hN' : I 15 2 = nI N := (cf3 I 15).symm.trans hN
  have hT' : I 15 3 = nI T := (cf4 I 15).symm.trans hT
  have hS' : I 15 4 = nI S := (cf5 I 15).symm.trans hS
  refine ⟨(Nat.le_of_ble_eq_true rfl), ?_⟩
  refine ev_aload_n (i := 0) dX9_kind_0 rfl rfl ?_
  refine ev_iload_n (i := 1) dX9_kind_1 rfl rfl ?_
  refine s_dVz (As := [_]) (c_isSwell _) (Nat.le_of_ble_eq_true rfl) lX9_312 kX9_isSwell vX9_isSwell dX9_kind_2 rfl rfl rfl (by decide) rfl (Nat.le_of_ble_eq_true rfl) ?_
  rw [hN']
  refine s_ifZ_eq (tgt := 20) dX9_kind_5 (by decide) (fun h5 => ?_) (fun h5 => ?_)
  · refine ev_ldc qX9_79 dX9_kind_20 ?_
    exact s_retI dX9_kind_22 (by
      first
        | (rw [if_pos h5, es, cf_kin I 15 (by omega)]; exact ⟨rfl, rfl⟩)
        | (rw [if_neg (by rw [h5]; decide)]; exact ⟨rfl, rfl⟩))
  · obtain ⟨s, hs, rfl⟩ := nv_in_S (by omega) h5
    have es : (nI s).toNatClampNeg = s := nI_clamp (by omega)
    refine ev_aload_n (i := 0) dX9_kind_8 rfl rfl ?_
    refine ev_getR fX9_26 dX9_kind_9 rfl rfl (by decide) ?_
    refine ev_getR fX9_230 dX9_kind_12 rfl rfl (by decide) ?_
    refine ev_iload_n (i := 1) dX9_kind_15 rfl rfl ?_
    refine ev_ialdN dX9_kind_16 rfl (show s < 20 by omega) (by decide) ?_
    refine ev_goto (tgt := 22) dX9_kind_17 (by decide) ?_
    exact s_retI dX9_kind_22 (by
      first
        | (rw [if_pos h5, es, cf_kin I 15 (by omega)]; exact ⟨rfl, rfl⟩)
        | (rw [if_neg (by rw [h5]; decide)]; exact ⟨rfl, rfl⟩))
theorem x_as (hW : nv_W I b N T S) (x k : Int32) : nw_dI l g 2 mX9_as [.ref (nw_a g 0), .int x, .int k] I (if nv_in x 0 (nI N - 1) && nv_in k 0 5 then (if nv_isAr 6 (nv_cf I 15 (6 + x.toNatClampNeg)) k then x else -1000010 - 3) else -1000001) (if nv_in x 0 (nI N - 1) && nv_in k 0 5 then (if nv_isAr 6 (nv_cf I 15 (6 + x.toNatClampNeg)) k then nw_up I 0 12 0 else nw_up I 0 12 3) else I) := by
  obtain ⟨hb, ⟨hN, hT, hS, hN2, hT3, hS6⟩, hor⟩ := hW
  have hN' : I 15 2 = nI N := (cf3 I 15).symm.trans hN
  have hT' : I 15 3 = nI T := (cf4 I 15).symm.trans hT
  have hS' : I 15 4 = nI S := (cf5 I 15).symm.trans hS
  refine ⟨(Nat.le_of_ble_eq_true rfl), ?_⟩
  refine ev_aload_n (i := 0) dX9_as_0 rfl rfl ?_
  refine ev_iload_n (i := 1) dX9_as_1 rfl rfl ?_
  refine s_dVz (As := [_]) (c_isSwell _) (Nat.le_of_ble_eq_true rfl) lX9_312 kX9_isSwell vX9_isSwell dX9_as_2 rfl rfl rfl (by decide) rfl (Nat.le_of_ble_eq_true rfl) ?_
  rw [hN']
  refine s_ifZ_eq (tgt := 17) dX9_as_5 (by decide) (fun h5 => ?_) (fun h5 => ?_)
  · refine ev_ldc qX9_79 dX9_as_17 ?_
    exact s_retI dX9_as_19 ⟨by simp_all, by simp_all⟩
  · refine ev_iload_n (i := 2) dX9_as_8 rfl rfl ?_
    refine ev_iconst (v := 0) dX9_as_9 kc_0 ?_
    refine ev_iconst (v := 5) dX9_as_10 kc_5 ?_
    refine s_dSz (As := [_, _, _]) (c_within _ _ _) (Nat.le_of_ble_eq_true rfl) lX9_75 kX9_within sX9_within dX9_as_11 rfl rfl (Nat.le_of_ble_eq_true rfl) ?_
    refine s_ifZ_ne (tgt := 20) dX9_as_14 (by decide) (fun h14 => ?_) (fun h14 => ?_)
    · obtain ⟨s, hs, rfl⟩ := nv_in_S (by omega) h5
      have es : (nI s).toNatClampNeg = s := nI_clamp (by omega)
      have ek := cf_kin I 15 (show s < 20 by omega)
      refine ev_aload_n (i := 0) dX9_as_20 rfl rfl ?_
      refine ev_getR fX9_26 dX9_as_21 rfl rfl (by decide) ?_
      refine ev_getR fX9_230 dX9_as_24 rfl rfl (by decide) ?_
      refine ev_iload_n (i := 1) dX9_as_27 rfl rfl ?_
      refine ev_ialdN dX9_as_28 rfl (show s < 20 by omega) (by decide) ?_
      refine ev_iload_n (i := 2) dX9_as_29 rfl rfl ?_
      refine s_dSz (As := [_, _]) (c_isA _ _) (Nat.le_of_ble_eq_true rfl) lX9_317 kX4_isA sX4_isA dX9_as_30 rfl rfl (Nat.le_of_ble_eq_true rfl) ?_
      refine s_ifZ_ne (tgt := 42) dX9_as_33 (by decide) (fun h33 => ?_) (fun h33 => ?_)
      · refine ev_aload_n (i := 0) dX9_as_42 rfl rfl ?_
        refine ev_iload_n (i := 1) dX9_as_43 rfl rfl ?_
        refine s_dVi (As := [_]) (c_fine _) (Nat.le_of_ble_eq_true rfl) lX9_88 kX9_fine vX9_fine dX9_as_44 rfl rfl rfl (by decide) rfl (Nat.le_of_ble_eq_true rfl) ?_
        exact s_retI dX9_as_47 ⟨by simp_all, by simp_all⟩
      · refine ev_aload_n (i := 0) dX9_as_36 rfl rfl ?_
        refine ev_iconst (v := 3) dX9_as_37 kc_3 ?_
        refine s_dVi (As := [_]) (c_found _) (Nat.le_of_ble_eq_true rfl) lX9_80 kX9_found vX9_found dX9_as_38 rfl rfl rfl (by decide) rfl (Nat.le_of_ble_eq_true rfl) ?_
        exact s_retI dX9_as_41 ⟨by simp_all, by simp_all⟩
    · refine ev_ldc qX9_79 dX9_as_17 ?_
      exact s_retI dX9_as_19 ⟨by simp_all, by simp_all⟩
theorem x_ask (hW : nv_W I b N T S) (x w : Int32) : nw_cI l g 9 mX9_ask [.ref (nw_a g 0), .int x, .int w] I (fun r I' => ((nv_in x 0 (nI N - 1) = false ∨ nv_in w 0 1 = false) ∧ r = -1000001 ∧ I' = I) ∨ ∃ s k w0 J, s < N ∧ x = nI s ∧ w = nI w0 ∧ w0 ≤ 1 ∧ 1 ≤ k ∧ k ≤ 5 ∧ nv_cf I 15 (6 + s) = nI k ∧ r = (nv_ask k w0 (nv_cf I 15 (26 + s)) (nv_lift (nI k) (nv_cf I 15 (26 + s))) (nI s)).1 ∧ J 192 1 = 0 ∧ (∀ j, j ≠ 192 → J j = I j) ∧ I' = nv_lvs (nv_ask k w0 (nv_cf I 15 (26 + s)) (nv_lift (nI k) (nv_cf I 15 (26 + s))) (nI s)).2 J) := by
  obtain ⟨hb, ⟨hN, hT, hS, hN2, hT3, hS6⟩, hor⟩ := hW
  have hN' : I 15 2 = nI N := (cf3 I 15).symm.trans hN
  have hT' : I 15 3 = nI T := (cf4 I 15).symm.trans hT
  have hS' : I 15 4 = nI S := (cf5 I 15).symm.trans hS
  refine ⟨(Nat.le_of_ble_eq_true rfl), ?_⟩
  refine ev_aload_n (i := 0) dX9_ask_0 rfl rfl ?_
  refine ev_iload_n (i := 1) dX9_ask_1 rfl rfl ?_
  refine s_dVz (As := [_]) (c_isSwell _) (Nat.le_of_ble_eq_true rfl) lX9_312 kX9_isSwell vX9_isSwell dX9_ask_2 rfl rfl rfl (by decide) rfl (Nat.le_of_ble_eq_true rfl) ?_
  rw [hN']
  refine s_ifZ_eq (tgt := 17) dX9_ask_5 (by decide) (fun h5 => ?_) (fun h5 => ?_)
  · refine ev_ldc qX9_79 dX9_ask_17 ?_
    exact s_retI dX9_ask_19 (by
      first
        | exact Or.inl ⟨by first | exact Or.inl h5 | exact Or.inr h14, rfl, rfl⟩
        | (obtain ⟨q1, K, q2, q3, q4⟩ := hq
           exact Or.inr ⟨s, k, w0, K, hs, rfl, rfl, hw1, hk1, hk2, hk3, q1, q2, q3, q4⟩))
  · refine ev_iload_n (i := 2) dX9_ask_8 rfl rfl ?_
    refine ev_iconst (v := 0) dX9_ask_9 kc_0 ?_
    refine ev_iconst (v := 1) dX9_ask_10 kc_1 ?_
    refine s_dSz (As := [_, _, _]) (c_within _ _ _) (Nat.le_of_ble_eq_true rfl) lX9_75 kX9_within sX9_within dX9_ask_11 rfl rfl (Nat.le_of_ble_eq_true rfl) ?_
    refine s_ifZ_ne (tgt := 20) dX9_ask_14 (by decide) (fun h14 => ?_) (fun h14 => ?_)
    · obtain ⟨s, hs, rfl⟩ := nv_in_S (by omega) h5
      obtain ⟨w0, hw1, rfl⟩ : ∃ w0, w0 ≤ 1 ∧ w = nI w0 := by
        obtain ⟨n, -, h2, h3⟩ := nv_in_n (a := 0) (c := 1) h14 (by decide) (by decide)
        exact ⟨n, h2, h3⟩
      obtain ⟨k, hk1, hk2, hk3⟩ : ∃ k, 1 ≤ k ∧ k ≤ 5 ∧ nv_cf I 15 (6 + s) = nI k := by
        rcases hor with ⟨-, -, -, hk, -⟩ | ⟨-, h0, -, -⟩
        · exact hk s hs
        · omega
      refine ev_aload_n (i := 0) dX9_ask_20 rfl rfl ?_
      refine ev_getR fX9_60 dX9_ask_21 rfl rfl (by decide) ?_
      refine ev_aload_n (i := 0) dX9_ask_24 rfl rfl ?_
      refine ev_getR fX9_26 dX9_ask_25 rfl rfl (by decide) ?_
      refine ev_iload_n (i := 1) dX9_ask_28 rfl rfl ?_
      refine ev_iload_n (i := 2) dX9_ask_29 rfl rfl ?_
      refine s_callVi (As := [_, _, _]) (c_answer (show s < 20 by omega) hk3 hk1 hk2 hw1) (Nat.le_of_ble_eq_true rfl) lX9_320 kX1_answer vX1_answer dX9_ask_30 rfl rfl rfl (by decide) rfl (Nat.le_of_ble_eq_true rfl) (fun r J hq => ?_)
      exact s_retI dX9_ask_33 (by
      first
        | exact Or.inl ⟨by first | exact Or.inl h5 | exact Or.inr h14, rfl, rfl⟩
        | (obtain ⟨q1, K, q2, q3, q4⟩ := hq
           exact Or.inr ⟨s, k, w0, K, hs, rfl, rfl, hw1, hk1, hk2, hk3, q1, q2, q3, q4⟩))
    · refine ev_ldc qX9_79 dX9_ask_17 ?_
      exact s_retI dX9_ask_19 (by
      first
        | exact Or.inl ⟨by first | exact Or.inl h5 | exact Or.inr h14, rfl, rfl⟩
        | (obtain ⟨q1, K, q2, q3, q4⟩ := hq
           exact Or.inr ⟨s, k, w0, K, hs, rfl, rfl, hw1, hk1, hk2, hk3, q1, q2, q3, q4⟩))
theorem x_trace {t : Nat} (ht : I 192 1 = nI t) (h16 : t ≤ 16) (x : Int32) : nw_dI l g 1 mX9_trace [.ref (nw_a g 0), .int x] I (if nv_in x 0 (nI t - 1) then I 193 x.toNatClampNeg else -1000000) I := by
  refine ⟨(Nat.le_of_ble_eq_true rfl), ?_⟩
  refine ev_iload_n (i := 1) dX9_trace_0 rfl rfl ?_
  refine ev_iconst (v := 0) dX9_trace_1 kc_0 ?_
  refine ev_aload_n (i := 0) dX9_trace_2 rfl rfl ?_
  refine ev_getR fX9_60 dX9_trace_3 rfl rfl (by decide) ?_
  refine ev_getI fX9_323 dX9_trace_6 rfl rfl (by decide) ?_
  rw [ht]
  refine ev_iconst (v := 1) dX9_trace_9 kc_1 ?_
  refine ev_isub dX9_trace_10 ?_
  refine s_dSz (As := [_, _, _]) (c_within _ _ _) (Nat.le_of_ble_eq_true rfl) lX9_75 kX9_within sX9_within dX9_trace_11 rfl rfl (Nat.le_of_ble_eq_true rfl) ?_
  refine s_ifZ_eq (tgt := 29) dX9_trace_14 (by decide) (fun h14 => ?_) (fun h14 => ?_)
  · refine ev_ldc qX9_249 dX9_trace_29 ?_
    exact s_retI dX9_trace_31 (by
      first
        | (rw [if_pos h14, es]; exact ⟨rfl, rfl⟩)
        | (rw [if_neg (by rw [h14]; decide)]; exact ⟨rfl, rfl⟩))
  · obtain ⟨s, hs, rfl⟩ := nv_in_S (by omega) h14
    have es : (nI s).toNatClampNeg = s := nI_clamp (by omega)
    refine ev_aload_n (i := 0) dX9_trace_17 rfl rfl ?_
    refine ev_getR fX9_60 dX9_trace_18 rfl rfl (by decide) ?_
    refine ev_getR fX9_326 dX9_trace_21 rfl rfl (by decide) ?_
    refine ev_iload_n (i := 1) dX9_trace_24 rfl rfl ?_
    refine ev_ialdN dX9_trace_25 rfl (show s < 16 by omega) (by decide) ?_
    refine ev_goto (tgt := 31) dX9_trace_26 (by decide) ?_
    exact s_retI dX9_trace_31 (by
      first
        | (rw [if_pos h14, es]; exact ⟨rfl, rfl⟩)
        | (rw [if_neg (by rw [h14]; decide)]; exact ⟨rfl, rfl⟩))
theorem x_ship (hW : nv_W I b N T S) (x w : Int32) : nw_dI l g 2 mX9_ship [.ref (nw_a g 0), .int x, .int w] I (if nv_in x 0 (nI S - 1) then (if w = 0 then nv_cf I 15 (49 + x.toNatClampNeg) else if w = 1 then nv_fl I 25 (11 + x.toNatClampNeg) else if w = 2 then nI (p_place (nv_fl I 25) x 6 0) else if w = 3 then nv_fl I 25 (17 + x.toNatClampNeg) else if w = 4 then nv_fl I 25 (23 + x.toNatClampNeg) else -1000001) else -1000001) I := by
  obtain ⟨hb, ⟨hN, hT, hS, hN2, hT3, hS6⟩, hor⟩ := hW
  have hN' : I 15 2 = nI N := (cf3 I 15).symm.trans hN
  have hT' : I 15 3 = nI T := (cf4 I 15).symm.trans hT
  have hS' : I 15 4 = nI S := (cf5 I 15).symm.trans hS
  refine ⟨(Nat.le_of_ble_eq_true rfl), ?_⟩
  refine ev_aload_n (i := 0) dX9_ship_0 rfl rfl ?_
  refine ev_iload_n (i := 1) dX9_ship_1 rfl rfl ?_
  refine s_dVz (As := [_]) (c_isShip _) (Nat.le_of_ble_eq_true rfl) lX9_177 kX9_isShip vX9_isShip dX9_ship_2 rfl rfl rfl (by decide) rfl (Nat.le_of_ble_eq_true rfl) ?_
  rw [hS']
  refine s_ifZ_ne (tgt := 11) dX9_ship_5 (by decide) (fun h5 => ?_) (fun h5 => ?_)
  · obtain ⟨s, hs, rfl⟩ := nv_in_S (by omega) h5
    have es : (nI s).toNatClampNeg = s := nI_clamp (by omega)
    have e1 := cf_dra I 15 (show s < 6 by omega)
    have e2 := fl_hee I 25 (show s < 6 by omega)
    have e3 := fl_fat I 25 (show s < 6 by omega)
    have e4 := fl_cro I 25 (show s < 6 by omega)
    refine ev_iload_n (i := 2) dX9_ship_11 rfl rfl ?_
    by_cases hw12_0 : w = 0
    · refine ev_tableIn (off := 36) (tgt := 48) dX9_ship_12 (by rw [hw12_0]; decide) (by rw [hw12_0]; decide) (by rw [hw12_0]; decide) (by decide) ?_
      refine ev_aload_n (i := 0) dX9_ship_48 rfl rfl ?_
      refine ev_getR fX9_26 dX9_ship_49 rfl rfl (by decide) ?_
      refine ev_getR fX9_199 dX9_ship_52 rfl rfl (by decide) ?_
      refine ev_iload_n (i := 1) dX9_ship_55 rfl rfl ?_
      refine ev_ialdN dX9_ship_56 rfl (show s < 6 by omega) (by decide) ?_
      exact s_retI dX9_ship_57 ⟨by simp_all, rfl⟩
    by_cases hw12_1 : w = 1
    · refine ev_tableIn (off := 46) (tgt := 58) dX9_ship_12 (by rw [hw12_1]; decide) (by rw [hw12_1]; decide) (by rw [hw12_1]; decide) (by decide) ?_
      refine ev_aload_n (i := 0) dX9_ship_58 rfl rfl ?_
      refine ev_getR fX9_36 dX9_ship_59 rfl rfl (by decide) ?_
      refine ev_getR fX9_190 dX9_ship_62 rfl rfl (by decide) ?_
      refine ev_iload_n (i := 1) dX9_ship_65 rfl rfl ?_
      refine ev_ialdN dX9_ship_66 rfl (show s < 6 by omega) (by decide) ?_
      exact s_retI dX9_ship_67 ⟨by simp_all, rfl⟩
    by_cases hw12_2 : w = 2
    · refine ev_tableIn (off := 56) (tgt := 68) dX9_ship_12 (by rw [hw12_2]; decide) (by rw [hw12_2]; decide) (by rw [hw12_2]; decide) (by decide) ?_
      refine ev_aload_n (i := 0) dX9_ship_68 rfl rfl ?_
      refine ev_getR fX9_36 dX9_ship_69 rfl rfl (by decide) ?_
      refine ev_iload_n (i := 1) dX9_ship_72 rfl rfl ?_
      refine s_dVi (As := [_]) (c_placeOf nw_sc25 _) (Nat.le_of_ble_eq_true rfl) lX9_180 kX8_placeOf vX8_placeOf dX9_ship_73 rfl rfl rfl (by decide) rfl (Nat.le_of_ble_eq_true rfl) ?_
      exact s_retI dX9_ship_76 ⟨by simp_all, rfl⟩
    by_cases hw12_3 : w = 3
    · refine ev_tableIn (off := 65) (tgt := 77) dX9_ship_12 (by rw [hw12_3]; decide) (by rw [hw12_3]; decide) (by rw [hw12_3]; decide) (by decide) ?_
      refine ev_aload_n (i := 0) dX9_ship_77 rfl rfl ?_
      refine ev_getR fX9_36 dX9_ship_78 rfl rfl (by decide) ?_
      refine ev_getR fX9_202 dX9_ship_81 rfl rfl (by decide) ?_
      refine ev_iload_n (i := 1) dX9_ship_84 rfl rfl ?_
      refine ev_ialdN dX9_ship_85 rfl (show s < 6 by omega) (by decide) ?_
      exact s_retI dX9_ship_86 ⟨by simp_all, rfl⟩
    by_cases hw12_4 : w = 4
    · refine ev_tableIn (off := 75) (tgt := 87) dX9_ship_12 (by rw [hw12_4]; decide) (by rw [hw12_4]; decide) (by rw [hw12_4]; decide) (by decide) ?_
      refine ev_aload_n (i := 0) dX9_ship_87 rfl rfl ?_
      refine ev_getR fX9_36 dX9_ship_88 rfl rfl (by decide) ?_
      refine ev_getR fX9_205 dX9_ship_91 rfl rfl (by decide) ?_
      refine ev_iload_n (i := 1) dX9_ship_94 rfl rfl ?_
      refine ev_ialdN dX9_ship_95 rfl (show s < 6 by omega) (by decide) ?_
      exact s_retI dX9_ship_96 ⟨by simp_all, rfl⟩
    have hw12_o : (w).toInt < 0 ∨ 4 < (w).toInt := by
      have e0 : (w).toInt ≠ 0 := fun q => hw12_0 (Int32.toInt_inj.mp (by rw [q]; decide))
      have e1 : (w).toInt ≠ 1 := fun q => hw12_1 (Int32.toInt_inj.mp (by rw [q]; decide))
      have e2 : (w).toInt ≠ 2 := fun q => hw12_2 (Int32.toInt_inj.mp (by rw [q]; decide))
      have e3 : (w).toInt ≠ 3 := fun q => hw12_3 (Int32.toInt_inj.mp (by rw [q]; decide))
      have e4 : (w).toInt ≠ 4 := fun q => hw12_4 (Int32.toInt_inj.mp (by rw [q]; decide))
      omega
    refine ev_tableOut (tgt := 97) dX9_ship_12 hw12_o (by decide) ?_
    refine ev_ldc qX9_79 dX9_ship_97 ?_
    exact s_retI dX9_ship_99 ⟨by simp_all, rfl⟩
  · refine ev_ldc qX9_79 dX9_ship_8 ?_
    exact s_retI dX9_ship_10 ⟨by simp_all, rfl⟩
theorem x_tower (hW : nv_W I b N T S) (x w : Int32) : nw_dI l g 2 mX9_tower [.ref (nw_a g 0), .int x, .int w] I (if nv_in x 0 (nI T - 1) then (if w = 0 then nv_cf I 15 (46 + x.toNatClampNeg) else if w = 1 then nv_fl I 25 (2 + x.toNatClampNeg) else if w = 2 then nI (p_cnt (p_wf (nv_fl I 25) x) S 0) else -1000001) else -1000001) I := by
  obtain ⟨hb, ⟨hN, hT, hS, hN2, hT3, hS6⟩, hor⟩ := hW
  have hN' : I 15 2 = nI N := (cf3 I 15).symm.trans hN
  have hT' : I 15 3 = nI T := (cf4 I 15).symm.trans hT
  have hS' : I 15 4 = nI S := (cf5 I 15).symm.trans hS
  refine ⟨(Nat.le_of_ble_eq_true rfl), ?_⟩
  refine ev_aload_n (i := 0) dX9_tower_0 rfl rfl ?_
  refine ev_iload_n (i := 1) dX9_tower_1 rfl rfl ?_
  refine s_dVz (As := [_]) (c_isTower _) (Nat.le_of_ble_eq_true rfl) lX9_167 kX9_isTower vX9_isTower dX9_tower_2 rfl rfl rfl (by decide) rfl (Nat.le_of_ble_eq_true rfl) ?_
  rw [hT']
  refine s_ifZ_ne (tgt := 11) dX9_tower_5 (by decide) (fun h5 => ?_) (fun h5 => ?_)
  · obtain ⟨s, hs, rfl⟩ := nv_in_S (by omega) h5
    have es : (nI s).toNatClampNeg = s := nI_clamp (by omega)
    have e1 := cf_see I 15 (show s < 3 by omega)
    have e2 := fl_cnt I 25 (show s < 3 by omega)
    refine ev_iload_n (i := 2) dX9_tower_11 rfl rfl ?_
    by_cases hw12_0 : w = 0
    · refine ev_tableIn (off := 28) (tgt := 40) dX9_tower_12 (by rw [hw12_0]; decide) (by rw [hw12_0]; decide) (by rw [hw12_0]; decide) (by decide) ?_
      refine ev_aload_n (i := 0) dX9_tower_40 rfl rfl ?_
      refine ev_getR fX9_26 dX9_tower_41 rfl rfl (by decide) ?_
      refine ev_getR fX9_208 dX9_tower_44 rfl rfl (by decide) ?_
      refine ev_iload_n (i := 1) dX9_tower_47 rfl rfl ?_
      refine ev_ialdN dX9_tower_48 rfl (show s < 3 by omega) (by decide) ?_
      exact s_retI dX9_tower_49 ⟨by simp_all, rfl⟩
    by_cases hw12_1 : w = 1
    · refine ev_tableIn (off := 38) (tgt := 50) dX9_tower_12 (by rw [hw12_1]; decide) (by rw [hw12_1]; decide) (by rw [hw12_1]; decide) (by decide) ?_
      refine ev_aload_n (i := 0) dX9_tower_50 rfl rfl ?_
      refine ev_getR fX9_36 dX9_tower_51 rfl rfl (by decide) ?_
      refine ev_getR fX9_211 dX9_tower_54 rfl rfl (by decide) ?_
      refine ev_iload_n (i := 1) dX9_tower_57 rfl rfl ?_
      refine ev_ialdN dX9_tower_58 rfl (show s < 3 by omega) (by decide) ?_
      exact s_retI dX9_tower_59 ⟨by simp_all, rfl⟩
    by_cases hw12_2 : w = 2
    · refine ev_tableIn (off := 48) (tgt := 60) dX9_tower_12 (by rw [hw12_2]; decide) (by rw [hw12_2]; decide) (by rw [hw12_2]; decide) (by decide) ?_
      refine ev_aload_n (i := 0) dX9_tower_60 rfl rfl ?_
      refine ev_getR fX9_36 dX9_tower_61 rfl rfl (by decide) ?_
      refine ev_aload_n (i := 0) dX9_tower_64 rfl rfl ?_
      refine ev_getR fX9_26 dX9_tower_65 rfl rfl (by decide) ?_
      refine ev_iload_n (i := 1) dX9_tower_68 rfl rfl ?_
      refine s_dVi (As := [_, _]) (c_howManyWait nw_sc25 nw_ch15 hS hS6 _) (Nat.le_of_ble_eq_true rfl) lX9_214 kX8_howManyWaitFor vX8_howManyWaitFor dX9_tower_69 rfl rfl rfl (by decide) rfl (Nat.le_of_ble_eq_true rfl) ?_
      exact s_retI dX9_tower_72 ⟨by simp_all, rfl⟩
    have hw12_o : (w).toInt < 0 ∨ 2 < (w).toInt := by
      have e0 : (w).toInt ≠ 0 := fun q => hw12_0 (Int32.toInt_inj.mp (by rw [q]; decide))
      have e1 : (w).toInt ≠ 1 := fun q => hw12_1 (Int32.toInt_inj.mp (by rw [q]; decide))
      have e2 : (w).toInt ≠ 2 := fun q => hw12_2 (Int32.toInt_inj.mp (by rw [q]; decide))
      omega
    refine ev_tableOut (tgt := 73) dX9_tower_12 hw12_o (by decide) ?_
    refine ev_ldc qX9_79 dX9_tower_73 ?_
    exact s_retI dX9_tower_75 ⟨by simp_all, rfl⟩
  · refine ev_ldc qX9_79 dX9_tower_8 ?_
    exact s_retI dX9_tower_10 ⟨by simp_all, rfl⟩
theorem x_wave (hW : nv_W I b N T S) (x w : Int32) : nw_dI l g 3 mX9_wave [.ref (nw_a g 0), .int x, .int w] I (if b then (if nv_in x 0 1199 then (if w = 0 then p_hei (nv_cf I 15) x else if w = 1 then nv_lift (p_kind (nv_cf I 15) x) (p_hei (nv_cf I 15) x) else if w = 2 then p_wat (nv_cf I 15) x else if w = 3 then p_kind (nv_cf I 15) x else -1000001) else -1000001) else -1000002) I := by
  obtain ⟨hb, ⟨hN, hT, hS, hN2, hT3, hS6⟩, hor⟩ := hW
  have hN' : I 15 2 = nI N := (cf3 I 15).symm.trans hN
  have hT' : I 15 3 = nI T := (cf4 I 15).symm.trans hT
  have hS' : I 15 4 = nI S := (cf5 I 15).symm.trans hS
  refine ⟨(Nat.le_of_ble_eq_true rfl), ?_⟩
  refine ev_aload_n (i := 0) dX9_wave_0 rfl rfl ?_
  refine ev_getI fX9_149 dX9_wave_1 rfl rfl (by decide) ?_
  rw [hb]
  refine ev_if_ne (tgt := 10) dX9_wave_4 (by decide) (fun h4 => ?_) (fun h4 => ?_)
  · refine ev_iload_n (i := 1) dX9_wave_10 rfl rfl ?_
    refine ev_iconst (v := 0) dX9_wave_11 kc_0 ?_
    refine ev_sipush (v := 1199) dX9_wave_12 ks_1199 ?_
    refine s_dSz (As := [_, _, _]) (c_within _ _ _) (Nat.le_of_ble_eq_true rfl) lX9_75 kX9_within sX9_within dX9_wave_15 rfl rfl (Nat.le_of_ble_eq_true rfl) ?_
    refine s_ifZ_ne (tgt := 24) dX9_wave_18 (by decide) (fun h18 => ?_) (fun h18 => ?_)
    · obtain ⟨n, -, hn, rfl⟩ := nv_in_n (a := 0) (c := 1199) h18 (by decide) (by decide)
      have h0 : 0 < N := by
        rcases hor with ⟨-, h, -⟩ | ⟨rfl, -⟩
        · exact h
        · exact absurd rfl h4
      have hm : n % N < 20 := by have := Nat.mod_lt n h0; omega
      have e1 := cf_kin I 15 hm
      have e2 := cf_hei I 15 hm
      have e3 := p_ix_nI hN hN2 (show n < 2 ^ 31 by omega)
      have eb : b = true := by cases b; exact absurd rfl h4; rfl
      refine ev_aload_n (i := 0) dX9_wave_24 rfl rfl ?_
      refine ev_getR fX9_26 dX9_wave_25 rfl rfl (by decide) ?_
      refine ev_iload_n (i := 1) dX9_wave_28 rfl rfl ?_
      refine s_dVi (As := [_]) (c_swellOf nw_ch15 hN h0 hN2 (by omega)) (Nat.le_of_ble_eq_true rfl) lX9_218 kX2_swellOf vX2_swellOf dX9_wave_29 rfl rfl rfl (by decide) rfl (Nat.le_of_ble_eq_true rfl) ?_
      refine ev_istore_n (i := 3) dX9_wave_32 rfl (Nat.le_of_ble_eq_true rfl) rfl ?_
      refine ev_iload_n (i := 2) dX9_wave_33 rfl rfl ?_
      by_cases hw34_0 : w = 0
      · refine ev_tableIn (off := 30) (tgt := 64) dX9_wave_34 (by rw [hw34_0]; decide) (by rw [hw34_0]; decide) (by rw [hw34_0]; decide) (by decide) ?_
        refine ev_aload_n (i := 0) dX9_wave_64 rfl rfl ?_
        refine ev_getR fX9_26 dX9_wave_65 rfl rfl (by decide) ?_
        refine ev_getR fX9_221 dX9_wave_68 rfl rfl (by decide) ?_
        refine ev_iload_n (i := 3) dX9_wave_71 rfl rfl ?_
        refine ev_ialdN dX9_wave_72 rfl hm (by decide) ?_
        exact s_retI dX9_wave_73 ⟨by
      first
        | (have eb : b = false := nw_bi_0.mp h4
           subst eb
           rfl)
        | (have eb : b = true := by cases b; exact absurd rfl h4; rfl
           subst eb
           simp_all [p_kind, p_hei]), rfl⟩
      by_cases hw34_1 : w = 1
      · refine ev_tableIn (off := 40) (tgt := 74) dX9_wave_34 (by rw [hw34_1]; decide) (by rw [hw34_1]; decide) (by rw [hw34_1]; decide) (by decide) ?_
        refine ev_aload_n (i := 0) dX9_wave_74 rfl rfl ?_
        refine ev_getR fX9_26 dX9_wave_75 rfl rfl (by decide) ?_
        refine ev_iload_n (i := 3) dX9_wave_78 rfl rfl ?_
        refine s_dVi (As := [_]) (c_liftOfSwell nw_ch15 hm) (Nat.le_of_ble_eq_true rfl) lX9_224 kX2_liftOfSwell vX2_liftOfSwell dX9_wave_79 rfl rfl rfl (by decide) rfl (Nat.le_of_ble_eq_true rfl) ?_
        exact s_retI dX9_wave_82 ⟨by
      first
        | (have eb : b = false := nw_bi_0.mp h4
           subst eb
           rfl)
        | (have eb : b = true := by cases b; exact absurd rfl h4; rfl
           subst eb
           simp_all [p_kind, p_hei]), rfl⟩
      by_cases hw34_2 : w = 2
      · refine ev_tableIn (off := 49) (tgt := 83) dX9_wave_34 (by rw [hw34_2]; decide) (by rw [hw34_2]; decide) (by rw [hw34_2]; decide) (by decide) ?_
        refine ev_aload_n (i := 0) dX9_wave_83 rfl rfl ?_
        refine ev_getR fX9_26 dX9_wave_84 rfl rfl (by decide) ?_
        refine ev_iload_n (i := 1) dX9_wave_87 rfl rfl ?_
        refine s_dVi (As := [_]) (c_waterIn nw_ch15 hN h0 hN2 (by omega)) (Nat.le_of_ble_eq_true rfl) lX9_227 kX2_waterIn vX2_waterIn dX9_wave_88 rfl rfl rfl (by decide) rfl (Nat.le_of_ble_eq_true rfl) ?_
        exact s_retI dX9_wave_91 ⟨by
      first
        | (have eb : b = false := nw_bi_0.mp h4
           subst eb
           rfl)
        | (have eb : b = true := by cases b; exact absurd rfl h4; rfl
           subst eb
           simp_all [p_kind, p_hei]), rfl⟩
      by_cases hw34_3 : w = 3
      · refine ev_tableIn (off := 58) (tgt := 92) dX9_wave_34 (by rw [hw34_3]; decide) (by rw [hw34_3]; decide) (by rw [hw34_3]; decide) (by decide) ?_
        refine ev_aload_n (i := 0) dX9_wave_92 rfl rfl ?_
        refine ev_getR fX9_26 dX9_wave_93 rfl rfl (by decide) ?_
        refine ev_getR fX9_230 dX9_wave_96 rfl rfl (by decide) ?_
        refine ev_iload_n (i := 3) dX9_wave_99 rfl rfl ?_
        refine ev_ialdN dX9_wave_100 rfl hm (by decide) ?_
        exact s_retI dX9_wave_101 ⟨by
      first
        | (have eb : b = false := nw_bi_0.mp h4
           subst eb
           rfl)
        | (have eb : b = true := by cases b; exact absurd rfl h4; rfl
           subst eb
           simp_all [p_kind, p_hei]), rfl⟩
      have hw34_o : (w).toInt < 0 ∨ 3 < (w).toInt := by
        have e0 : (w).toInt ≠ 0 := fun q => hw34_0 (Int32.toInt_inj.mp (by rw [q]; decide))
        have e1 : (w).toInt ≠ 1 := fun q => hw34_1 (Int32.toInt_inj.mp (by rw [q]; decide))
        have e2 : (w).toInt ≠ 2 := fun q => hw34_2 (Int32.toInt_inj.mp (by rw [q]; decide))
        have e3 : (w).toInt ≠ 3 := fun q => hw34_3 (Int32.toInt_inj.mp (by rw [q]; decide))
        omega
      refine ev_tableOut (tgt := 102) dX9_wave_34 hw34_o (by decide) ?_
      refine ev_ldc qX9_79 dX9_wave_102 ?_
      exact s_retI dX9_wave_104 ⟨by
      first
        | (have eb : b = false := nw_bi_0.mp h4
           subst eb
           rfl)
        | (have eb : b = true := by cases b; exact absurd rfl h4; rfl
           subst eb
           simp_all [p_kind, p_hei]), rfl⟩
    · refine ev_ldc qX9_79 dX9_wave_21 ?_
      exact s_retI dX9_wave_23 ⟨by
      first
        | (have eb : b = false := nw_bi_0.mp h4
           subst eb
           rfl)
        | (have eb : b = true := by cases b; exact absurd rfl h4; rfl
           subst eb
           simp_all [p_kind, p_hei]), rfl⟩
  · refine ev_ldc qX9_156 dX9_wave_7 ?_
    exact s_retI dX9_wave_9 ⟨by
      first
        | (have eb : b = false := nw_bi_0.mp h4
           subst eb
           rfl)
        | (have eb : b = true := by cases b; exact absurd rfl h4; rfl
           subst eb
           simp_all [p_kind, p_hei]), rfl⟩
end
