section
variable {l : Launch} {g : nw_G} {I : nw_Me}
def q_all (a C F : Nat → Int32) : q_E ⊕ (Nat × Nat × Nat × (Nat → Int32) × (Nat → Int32)) := match q_bar a 0 with
  | .inl e => .inl e
  | .inr (x, y, p1) => match q_sw1 (q_swl a 21 0 p1 (upd (upd (upd (upd (upd C 3 0) 4 0) 5 0) 1 x) 2 y)) with
    | .inl e => .inl e
    | .inr (N, p2, C2) => match q_sw1 (q_tow a 4 0 p2 C2 (p_beg 6 0 (upd (upd F 0 0) 1 9))) with
      | .inl e => .inl e
      | .inr (T, p3, C3, F3) => match q_shp a (nI T) 7 0 p3 C3 F3 with
        | .inl e => .inl e
        | .inr (S, p4, C4, F4) => if a p4 = -1 then .inr (N, T, S, C4, F4) else .inl (1, p4)
theorem nv_told_ok {c : Int32} (h : ¬ nv_told c = -1) : ∃ t, 1 ≤ t ∧ t ≤ 5 ∧ nv_told c = nI t := by
  unfold nv_told at h ⊢
  by_cases h1 : c = 112
  · exact ⟨1, by decide, by decide, by rw [if_pos h1]; decide⟩
  by_cases h2 : c = 115
  · exact ⟨2, by decide, by decide, by rw [if_neg h1, if_pos h2]; decide⟩
  by_cases h3 : c = 100
  · exact ⟨3, by decide, by decide, by rw [if_neg h1, if_neg h2, if_pos h3]; decide⟩
  by_cases h4 : c = 108
  · exact ⟨4, by decide, by decide, by rw [if_neg h1, if_neg h2, if_neg h3, if_pos h4]; decide⟩
  by_cases h5 : c = 109
  · exact ⟨5, by decide, by decide, by rw [if_neg h1, if_neg h2, if_neg h3, if_neg h4, if_pos h5]; decide⟩
  · exact absurd (by rw [if_neg h1, if_neg h2, if_neg h3, if_neg h4, if_neg h5]) h
theorem q_swl_ok {a : Nat → Int32} : ∀ (m k p : Nat) (C : Nat → Int32) (N q : Nat) (C' : Nat → Int32), q_swl a m k p C = .inr (N, q, C') → C 3 = nI k → k + m = 21 → k ≤ N ∧ N ≤ 20 ∧ C' 3 = nI N ∧ (∀ i, i < 3 ∨ i = 4 ∨ i = 5 ∨ 46 ≤ i → C' i = C i) ∧ (∀ j, j < k → C' (6 + j) = C (6 + j)) ∧ ∀ j, k ≤ j → j < N → ∃ t, 1 ≤ t ∧ t ≤ 5 ∧ C' (6 + j) = nI t := by
  intro m
  induction m with
  | zero => intro k p C N q C' h; cases h
  | succ m ih =>
    intro k p C N q C' h h3 hk
    unfold q_swl at h
    split at h
    · cases h
      exact ⟨Nat.le_refl _, by omega, h3, fun _ _ => rfl, fun _ _ => rfl, fun j h1 h2 => by omega⟩
    · rename_i ht
      split at h
      · cases h
      · rename_i hm
        split at h
        · cases h
        · split at h
          · cases h
          · obtain ⟨g1, g2, g3, g4, g5, g6⟩ := ih _ _ _ _ _ _ h pk_us (by omega)
            refine ⟨by omega, g2, g3, fun i hi => ?_, fun j hj => ?_, fun j h1 h2 => ?_⟩
            · rw [g4 i hi, pk_un (by omega), pk_un (by omega), pk_un (by omega)]
            · rw [g5 j (by omega), pk_un (by omega), pk_un (by omega), pk_un (by omega)]
            · by_cases e : j = k
              · subst e
                rw [g5 j (by omega), pk_un (by omega), pk_un (by omega), pk_us]
                exact nv_told_ok ht
              · exact g6 j (by omega) h2
theorem q_num_val {a : Nat → Int32} {p : Nat} {m : Int32} {x : Int32} {q : Nat} (h : q_num a p m = .inr (x, q)) : x ≤ m := by
  unfold q_num at h
  split at h
  · cases h
  · split at h
    · cases h
      assumption
    · cases h
theorem q_tow_ok {a : Nat → Int32} : ∀ (m k p : Nat) (C F : Nat → Int32) (N q : Nat) (C' F' : Nat → Int32), q_tow a m k p C F = .inr (N, q, C', F') → C 4 = nI k → k + m = 4 → k ≤ N ∧ N ≤ 3 ∧ C' 4 = nI N ∧ (∀ i, i ≠ 4 → i < 46 ∨ 49 ≤ i → C' i = C i) ∧ ∀ i, i < 2 ∨ 5 ≤ i → F' i = F i := by
  intro m
  induction m with
  | zero => intro k p C F N q C' F' h; cases h
  | succ m ih =>
    intro k p C F N q C' F' h h3 hk
    unfold q_tow at h
    split at h
    · split at h
      · cases h
      · split at h
        · cases h
        · obtain ⟨g1, g2, g3, g4, g5⟩ := ih _ _ _ _ _ _ _ _ h pk_us (by omega)
          refine ⟨by omega, g2, g3, fun i h1 hi => ?_, fun i hi => ?_⟩
          · rw [g4 i h1 hi, pk_un h1, pk_un (by omega)]
          · rw [g5 i hi, pk_un (by omega)]
    · cases h
      exact ⟨Nat.le_refl _, by omega, h3, fun _ _ _ => rfl, fun _ _ => rfl⟩
theorem q_dig {x : Int32} (hx : q_d x = true) : ∃ j, j ≤ 9 ∧ x = nI (48 + j) := by
  simp only [q_d, Bool.and_eq_true, decide_eq_true_eq] at hx
  obtain ⟨j, hj, rfl⟩ := nI_of (x := x) (fun q => hx.1 (Int32.lt_trans q (by decide)))
  have e48 : (48 : Int32) = nI 48 := by decide
  have e57 : (57 : Int32) = nI 57 := by decide
  rw [e48, e57, nI_ltI (by omega) (by omega), nI_ltI (by omega) (by omega)] at hx
  exact ⟨j - 48, by omega, by rw [show 48 + (j - 48) = j by omega]⟩
theorem q_fig_cases (a : Nat → Int32) (p : Nat) : (q_d (a p) = false ∧ q_fig a p 3 0 0 = (0, 0)) ∨ (q_d (a p) = true ∧ q_d (a (p + 1)) = false ∧ q_fig a p 3 0 0 = (1, 10 * 0 + a p - 48)) ∨ (q_d (a p) = true ∧ q_d (a (p + 1)) = true ∧ q_d (a (p + 2)) = false ∧ q_fig a p 3 0 0 = (2, 10 * (10 * 0 + a p - 48) + a (p + 1) - 48)) ∨ (q_d (a p) = true ∧ q_d (a (p + 1)) = true ∧ q_d (a (p + 2)) = true ∧ (q_fig a p 3 0 0).1 = 3) := by
  cases h0 : q_d (a p) with
  | false => left; exact ⟨rfl, by simp [q_fig, h0]⟩
  | true =>
    cases h1 : q_d (a (p + 1)) with
    | false => right; left; exact ⟨rfl, rfl, by simp [q_fig, h0, h1]⟩
    | true =>
      cases h2 : q_d (a (p + 2)) with
      | false => right; right; left; exact ⟨rfl, rfl, rfl, by simp [q_fig, h0, h1, h2]⟩
      | true => right; right; right; exact ⟨rfl, rfl, rfl, by simp [q_fig, h0, h1, h2]⟩
theorem q_v1 {x : Int32} (h : q_d x = true) : ∃ j, j ≤ 9 ∧ (10 * 0 + x - 48 : Int32) = nI j := by
  obtain ⟨j, hj, rfl⟩ := q_dig h
  refine ⟨j, hj, ?_⟩
  have e48 : (48 : Int32) = nI 48 := by decide
  have e10 : (10 : Int32) = nI 10 := by decide
  rw [e10, e48, ← nI_0, pk_mul, nI_add, pk_sub (by omega)]
  congr 1
  omega
theorem q_v2 {x y : Int32} (h : q_d x = true) (h' : q_d y = true) : ∃ j, j ≤ 99 ∧ (10 * (10 * 0 + x - 48) + y - 48 : Int32) = nI j := by
  obtain ⟨j, hj, e⟩ := q_v1 h
  obtain ⟨k, hk, rfl⟩ := q_dig h'
  refine ⟨10 * j + k, by omega, ?_⟩
  have e48 : (48 : Int32) = nI 48 := by decide
  have e10 : (10 : Int32) = nI 10 := by decide
  rw [e, e10, e48, pk_mul, nI_add, pk_sub (by omega)]
  congr 1
  omega
theorem q_fig_val {a : Nat → Int32} {p : Nat} (hF : (q_fig a p 3 0 0).1 ≠ 0) (h2 : ¬ 2 < (q_fig a p 3 0 0).1) : ¬ (q_fig a p 3 0 0).2 < 0 := by
  rcases q_fig_cases a p with ⟨-, e⟩ | ⟨d0, -, e⟩ | ⟨d0, d1, -, e⟩ | ⟨-, -, -, e⟩
  · exact absurd (by rw [e]) hF
  · obtain ⟨j, hj, e2⟩ := q_v1 d0
    rw [e]
    show ¬ (10 * 0 + a p - 48 : Int32) < 0
    rw [e2]
    exact nI_pos (by omega)
  · obtain ⟨j, hj, e2⟩ := q_v2 d0 d1
    rw [e]
    show ¬ (10 * (10 * 0 + a p - 48) + a (p + 1) - 48 : Int32) < 0
    rw [e2]
    exact nI_pos (by omega)
  · exact absurd (by rw [e]; decide) h2
theorem q_num_pos {n : Nat} {f : Nat → Int32} {p : Nat} {m x : Int32} {q : Nat} (h : q_num (q_at n f) p m = .inr (x, q)) : ¬ x < 0 ∧ x ≤ m := by
  refine ⟨?_, q_num_val h⟩
  unfold q_num at h
  split at h
  · cases h
  · rename_i hh
    split at h
    · cases h
      exact q_fig_val (fun e => hh (Or.inl e)) (fun e => hh (Or.inr e))
    · cases h
theorem q_pair_pos {n : Nat} {f : Nat → Int32} {p : Nat} {m1 m2 x y : Int32} {q : Nat} (h : q_pair (q_at n f) p m1 m2 = .inr (x, y, q)) : (¬ x < 0 ∧ x ≤ m1) ∧ ¬ y < 0 ∧ y ≤ m2 := by
  unfold q_pair at h
  split at h
  · cases h
  · rename_i h1
    split at h
    · cases h
    · split at h
      · cases h
      · rename_i h3
        split at h
        · cases h
        · cases h
          exact ⟨q_num_pos h1, q_num_pos h3⟩
theorem q_shp_ok {n T : Nat} {f : Nat → Int32} (hT : 0 < T) (hT3 : T ≤ 3) : ∀ (m k p : Nat) (C F : Nat → Int32) (N q : Nat) (C' F' : Nat → Int32), q_shp (q_at n f) (nI T) m k p C F = .inr (N, q, C', F') → C 5 = nI k → k + m = 7 → k ≤ N ∧ N ≤ 6 ∧ C' 5 = nI N ∧ (∀ i, i ≠ 5 → i < 49 ∨ 55 ≤ i → C' i = C i) ∧ (∀ i, i < 11 ∨ 17 ≤ i → F' i = F i) ∧ (∀ j, j < k → F' (11 + j) = F (11 + j)) ∧ ∀ j, k ≤ j → j < N → ∃ t, t < T ∧ F' (11 + j) = nI t := by
  intro m
  induction m with
  | zero => intro k p C F N q C' F' h; cases h
  | succ m ih =>
    intro k p C F N q C' F' h h3 hk
    unfold q_shp at h
    split at h
    · split at h
      · cases h
      · split at h
        · cases h
        · rename_i hpair
          obtain ⟨g1, g2, g3, g4, g5, g6, g7⟩ := ih _ _ _ _ _ _ _ _ h pk_us (by omega)
          refine ⟨by omega, g2, g3, fun i h1 hi => ?_, fun i hi => ?_, fun j hj => ?_, fun j h1 h2 => ?_⟩
          · rw [g4 i h1 hi, pk_un h1, pk_un (by omega)]
          · rw [g5 i hi, pk_un (by omega)]
          · rw [g6 j (by omega), pk_un (by omega)]
          · by_cases e : j = k
            · subst e
              rw [g6 j (by omega), pk_us]
              obtain ⟨-, hy1, hy2⟩ := q_pair_pos hpair
              have e1 : (1 : Int32) = nI 1 := by decide
              obtain ⟨t, ht, rfl⟩ := nI_of hy1
              rw [e1, pk_sub (by omega), nI_leI (by omega) (by omega)] at hy2
              exact ⟨t, by omega, rfl⟩
            · exact g7 j (by omega) h2
    · cases h
      exact ⟨Nat.le_refl _, by omega, h3, fun _ _ _ => rfl, fun _ _ => rfl, fun _ _ => rfl, fun j h1 h2 => by omega⟩
theorem q_sw1_inr {α : Type} {R : q_E ⊕ (Nat × Nat × α)} {N q : Nat} {c : α} (h : q_sw1 R = .inr (N, q, c)) : R = .inr (N, q, c) ∧ 0 < N := by
  unfold q_sw1 at h
  split at h
  · cases h
  · split at h
    · cases h
    · cases h
      exact ⟨rfl, by omega⟩
theorem nv_st.beg {n p : Nat} {X K : nw_Me} {f : Int32} {C F F' : Nat → Int32} (h : nv_st I n X p f C F) (h1 : nv_fl K 31 = F') (h2 : nv_fr X K 31 6) : nv_st I n K p f C F' := by
  obtain ⟨a1, a2, a3, a4, a5⟩ := h
  refine ⟨a1.ext (h2 13 (by omega)), (h2 14 (by omega)).trans a2, by rw [h2.cf (by omega)]; exact a3, h1, by rw [h2 13 (by omega)]; exact a5.1, fun k g1 g2 g3 => ?_⟩
  rw [h2 k (by omega)]
  exact a5.2 k g1 g2 g3
theorem nv_st.init {n : Nat} (hn : I 13 1 = nI n) (h160 : n ≤ 160) : nv_st I n (nw_up (nw_up I 13 2 0) 13 3 0) 0 0 (nv_cf I 20) (nv_fl I 31) := by
  refine ⟨⟨by simp [nw_up, hn], by simp [nw_up, nI_0], by simp [nw_up], h160, Nat.zero_le _⟩, ?_, ?_, ?_, by simp [nw_up], fun k h1 h2 h3 => ?_⟩
  · rw [nw_up_ne (by decide), nw_up_ne (by decide)]
  · exact nv_cf_ext (fun k g1 g2 => by rw [nw_up_ne (by omega), nw_up_ne (by omega)])
  · exact nv_fl_ext (fun k g1 g2 => by rw [nw_up_ne (by omega), nw_up_ne (by omega)])
  · rw [nw_up_ne h1, nw_up_ne h1]
theorem c_read {n : Nat} (hn : I 13 1 = nI n) (h160 : n ≤ 160) : nw_cZ l g 4 mX6_read [.ref (nw_a g 13), .ref (nw_a g 20), .ref (nw_a g 31)] I (fun b K => (∃ e q, q_all (q_at n (I 14)) (nv_cf I 20) (nv_fl I 31) = .inl (e, q) ∧ nv_rd K n q e ∧ nv_qf I K ∧ b = false) ∨ ∃ N T S C F, q_all (q_at n (I 14)) (nv_cf I 20) (nv_fl I 31) = .inr (N, T, S, C, F) ∧ nv_cf K 20 = C ∧ nv_fl K 31 = F ∧ nv_qf I K ∧ b = true) := by
  refine ⟨(Nat.le_of_ble_eq_true rfl), ?_⟩
  refine ev_aload_n (i := 0) dX6_read_0 rfl rfl ?_
  refine ev_iconst (v := 0) dX6_read_1 kc_0 ?_
  refine ev_putI fX6_24 dX6_read_2 rfl rfl (by decide) rfl rfl rfl rfl ?_
  refine ev_aload_n (i := 0) dX6_read_5 rfl rfl ?_
  refine ev_iconst (v := 0) dX6_read_6 kc_0 ?_
  refine ev_putI fX6_21 dX6_read_7 rfl rfl (by decide) rfl rfl rfl rfl ?_
  refine ev_aload_n (i := 1) dX6_read_10 rfl rfl ?_
  refine ev_iconst (v := 0) dX6_read_11 kc_0 ?_
  refine ev_putI fX6_27 dX6_read_12 rfl rfl (by decide) rfl rfl rfl rfl ?_
  refine ev_aload_n (i := 1) dX6_read_15 rfl rfl ?_
  refine ev_iconst (v := 0) dX6_read_16 kc_0 ?_
  refine ev_putI fX6_32 dX6_read_17 rfl rfl (by decide) rfl rfl rfl rfl ?_
  refine ev_aload_n (i := 1) dX6_read_20 rfl rfl ?_
  refine ev_iconst (v := 0) dX6_read_21 kc_0 ?_
  refine ev_putI fX6_35 dX6_read_22 rfl rfl (by decide) rfl rfl rfl rfl ?_
  refine ev_aload_n (i := 2) dX6_read_25 rfl rfl ?_
  refine s_callVv (As := []) (c_begin nw_sc31) (Nat.le_of_ble_eq_true rfl) lX6_38 kX8_begin vX8_begin dX6_read_26 rfl rfl rfl (by decide) rfl (Nat.le_of_ble_eq_true rfl) (fun J0 h0 => ?_)
  have g0 := (((nv_st.init hn h160).num (v := 0) (k := 2) (by decide)).num (v := 0) (k := 3) (by decide)).num (v := 0) (k := 4) (by decide)
  have g1 := g0.beg h0.1 h0.2
  rw [g0.2.2.2.1] at g1
  refine ev_aload_n (i := 0) dX6_read_29 rfl rfl ?_
  refine ev_aload_n (i := 1) dX6_read_30 rfl rfl ?_
  refine s_callVz (As := [_]) (c_readBar g1) (Nat.le_of_ble_eq_true rfl) lX6_43 kX6_readBar vX6_readBar dX6_read_31 rfl rfl rfl (by decide) rfl (Nat.le_of_ble_eq_true rfl) (fun b1 J1 hq1 => ?_)
  rcases hq1 with ⟨e, q, e1, e2, rfl, hr, hqf⟩ | ⟨x, y, p1, e1, rfl, g2⟩
  · refine s_ifZ_eq (tgt := 74) dX6_read_34 (by decide) (fun h34 => ?_) (fun h34 => ?_)
    · refine ev_iconst (v := 0) dX6_read_74 kc_0 ?_
      exact s_ret0 dX6_read_75 (by
              refine Or.inl ⟨e, q, ?_, hr, hqf, rfl⟩
              unfold q_all
              simp only [e1])
    · exact absurd h34 (by decide)
  · refine s_ifZ_eq (tgt := 74) dX6_read_34 (by decide) (fun h34 => ?_) (fun h34 => ?_)
    · exact absurd h34 (by decide)
    · refine ev_aload_n (i := 0) dX6_read_37 rfl rfl ?_
      refine ev_aload_n (i := 1) dX6_read_38 rfl rfl ?_
      refine s_callVz (As := [_]) (c_readSwells g2 (by simp [upd, nI_0])) (Nat.le_of_ble_eq_true rfl) lX6_47 kX6_readSwells vX6_readSwells dX6_read_39 rfl rfl rfl (by decide) rfl (Nat.le_of_ble_eq_true rfl) (fun b2 J2 hq2 => ?_)
      rcases hq2 with ⟨e, q, e3, e2, rfl, hr, hqf⟩ | ⟨N, p2, C2, e3, rfl, g3⟩
      · refine s_ifZ_eq (tgt := 74) dX6_read_42 (by decide) (fun h42 => ?_) (fun h42 => ?_)
        · refine ev_iconst (v := 0) dX6_read_74 kc_0 ?_
          exact s_ret0 dX6_read_75 (by
              refine Or.inl ⟨e, q, ?_, hr, hqf, rfl⟩
              unfold q_all
              simp only [e1, e3])
        · exact absurd h42 (by decide)
      · refine s_ifZ_eq (tgt := 74) dX6_read_42 (by decide) (fun h42 => ?_) (fun h42 => ?_)
        · exact absurd h42 (by decide)
        · obtain ⟨s1, hN0⟩ := q_sw1_inr e3
          obtain ⟨-, hN20, hC23, hC2o, -, -⟩ := q_swl_ok _ _ _ _ _ _ _ s1 (by simp [upd, nI_0]) rfl
          have hC24 : C2 4 = nI 0 := by rw [hC2o 4 (by omega)]; simp [upd, nI_0]
          refine ev_aload_n (i := 0) dX6_read_45 rfl rfl ?_
          refine ev_aload_n (i := 1) dX6_read_46 rfl rfl ?_
          refine ev_aload_n (i := 2) dX6_read_47 rfl rfl ?_
          refine s_callVz (As := [_, _]) (c_readTowers g3 hC24) (Nat.le_of_ble_eq_true rfl) lX6_50 kX6_readTowers vX6_readTowers dX6_read_48 rfl rfl rfl (by decide) rfl (Nat.le_of_ble_eq_true rfl) (fun b3 J3 hq3 => ?_)
          rcases hq3 with ⟨e, q, e4, e2, rfl, hr, hqf⟩ | ⟨T, p3, C3, F3, e4, rfl, g4⟩
          · refine s_ifZ_eq (tgt := 74) dX6_read_51 (by decide) (fun h51 => ?_) (fun h51 => ?_)
            · refine ev_iconst (v := 0) dX6_read_74 kc_0 ?_
              exact s_ret0 dX6_read_75 (by
              refine Or.inl ⟨e, q, ?_, hr, hqf, rfl⟩
              unfold q_all
              simp only [e1, e3, e4])
            · exact absurd h51 (by decide)
          · refine s_ifZ_eq (tgt := 74) dX6_read_51 (by decide) (fun h51 => ?_) (fun h51 => ?_)
            · exact absurd h51 (by decide)
            · obtain ⟨s2, hT0⟩ := q_sw1_inr e4
              obtain ⟨-, hT3, hC34, hC3o, -⟩ := q_tow_ok _ _ _ _ _ _ _ _ _ s2 hC24 rfl
              have hC35 : C3 5 = nI 0 := by rw [hC3o 5 (by decide) (by omega), hC2o 5 (by omega)]; simp [upd, nI_0]
              refine ev_aload_n (i := 0) dX6_read_54 rfl rfl ?_
              refine ev_aload_n (i := 1) dX6_read_55 rfl rfl ?_
              refine ev_aload_n (i := 2) dX6_read_56 rfl rfl ?_
              refine s_callVz (As := [_, _]) (c_readShips g4 hC35 hC34) (Nat.le_of_ble_eq_true rfl) lX6_54 kX6_readShips vX6_readShips dX6_read_57 rfl rfl rfl (by decide) rfl (Nat.le_of_ble_eq_true rfl) (fun b4 J4 hq4 => ?_)
              rcases hq4 with ⟨e, q, e5, e2, rfl, hr, hqf⟩ | ⟨S, p4, C4, F4, e5, rfl, g5⟩
              · refine s_ifZ_eq (tgt := 74) dX6_read_60 (by decide) (fun h60 => ?_) (fun h60 => ?_)
                · refine ev_iconst (v := 0) dX6_read_74 kc_0 ?_
                  exact s_ret0 dX6_read_75 (by
              refine Or.inl ⟨e, q, ?_, hr, hqf, rfl⟩
              unfold q_all
              simp only [e1, e3, e4, e5])
                · exact absurd h60 (by decide)
              · refine s_ifZ_eq (tgt := 74) dX6_read_60 (by decide) (fun h60 => ?_) (fun h60 => ?_)
                · exact absurd h60 (by decide)
                · refine ev_aload_n (i := 0) dX6_read_63 rfl rfl ?_
                  refine s_callVz (As := []) (c_isAtEnd g5) (Nat.le_of_ble_eq_true rfl) lX6_57 kX6_isAtEnd vX6_isAtEnd dX6_read_64 rfl rfl rfl (by decide) rfl (Nat.le_of_ble_eq_true rfl) (fun b5 J5 hq5 => ?_)
                  rcases hq5 with ⟨e6, rfl, g6⟩ | ⟨e6, rfl, hr, hqf⟩
                  · refine s_ifZ_eq (tgt := 74) dX6_read_67 (by decide) (fun h67 => ?_) (fun h67 => ?_)
                    · exact absurd h67 (by decide)
                    · refine ev_iconst (v := 1) dX6_read_70 kc_1 ?_
                      refine ev_goto (tgt := 75) dX6_read_71 (by decide) ?_
                      exact s_ret1 dX6_read_75 (by
              refine Or.inr ⟨N, T, S, C4, F4, ?_, g6.2.2.1, g6.2.2.2.1, g6.2.2.2.2, rfl⟩
              unfold q_all
              simp only [e1, e3, e4, e5, e6, if_true])
                  · refine s_ifZ_eq (tgt := 74) dX6_read_67 (by decide) (fun h67 => ?_) (fun h67 => ?_)
                    · refine ev_iconst (v := 0) dX6_read_74 kc_0 ?_
                      exact s_ret0 dX6_read_75 (by
              refine Or.inl ⟨1, p4, ?_, hr, hqf, rfl⟩
              unfold q_all
              simp only [e1, e3, e4, e5, e6, if_false])
                    · exact absurd h67 (by decide)
end
