section
variable {l : Launch} {g : nw_G} {sh0 : List nw_Sh} {n : Nat}
theorem k_scene {I : nw_Me} (hn : sh0.length = n) : nw_K l g 0 mX8_init n sh0 [.inr (7, nw_f7)] I 5 27 (nw_sSc n) (fun J => J n 0 = I n 0 ∧ (∀ a, a < n → J a = I a)) := by
  refine ev_aload_n (i := 0) dX8_init_0 rfl rfl ?_
  refine ev_objInit jX8_3 dX8_init_1 (Nat.le_of_ble_eq_true rfl) ?_
  refine ev_aload_n (i := 0) dX8_init_4 rfl rfl ?_
  refine ev_bipush (v := 9) dX8_init_5 kb_9 ?_
  refine ev_putI fX8_9 dX8_init_7 (tl_get (j := 0) hn rfl) rfl (by decide) rfl rfl rfl rfl ?_
  refine ev_aload_n (i := 0) dX8_init_10 rfl rfl ?_
  refine ev_iconst (v := 3) dX8_init_11 kc_3 ?_
  refine tv_newI (N := 3) (j := 1) (kc := 4) (ks := 24) (t' := [.inr (7, [nw_nn, nw_nn, some none, some none, some none, some none, some none]), nw_sI 3]) hn rfl rfl dX8_init_12 (by decide) (by decide) (by decide) ?_
  refine tv_putR (jt := 0) (v := n + 1) (t' := [.inr (7, [nw_nn, nw_nn, nw_rr (n + 1), some none, some none, some none, some none]), nw_sI 3]) hn rfl rfl rfl fX8_17 dX8_init_14 (Nat.le_of_ble_eq_true rfl) (by decide) rfl rfl rfl rfl rfl rfl ?_
  refine ev_aload_n (i := 0) dX8_init_17 rfl rfl ?_
  refine ev_bipush (v := 6) dX8_init_18 kb_6 ?_
  refine tv_newI (N := 6) (j := 2) (kc := 3) (ks := 18) (t' := [.inr (7, [nw_nn, nw_nn, nw_rr (n + 1), some none, some none, some none, some none]), nw_sI 3, nw_sI 6]) hn rfl rfl dX8_init_20 (by decide) (by decide) (by decide) ?_
  refine tv_putR (jt := 0) (v := n + 2) (t' := [.inr (7, [nw_nn, nw_nn, nw_rr (n + 1), nw_rr (n + 2), some none, some none, some none]), nw_sI 3, nw_sI 6]) hn rfl rfl rfl fX8_21 dX8_init_22 (Nat.le_of_ble_eq_true rfl) (by decide) rfl rfl rfl rfl rfl rfl ?_
  refine ev_aload_n (i := 0) dX8_init_25 rfl rfl ?_
  refine ev_bipush (v := 6) dX8_init_26 kb_6 ?_
  refine tv_newI (N := 6) (j := 3) (kc := 2) (ks := 12) (t' := [.inr (7, [nw_nn, nw_nn, nw_rr (n + 1), nw_rr (n + 2), some none, some none, some none]), nw_sI 3, nw_sI 6, nw_sI 6]) hn rfl rfl dX8_init_28 (by decide) (by decide) (by decide) ?_
  refine tv_putR (jt := 0) (v := n + 3) (t' := [.inr (7, [nw_nn, nw_nn, nw_rr (n + 1), nw_rr (n + 2), nw_rr (n + 3), some none, some none]), nw_sI 3, nw_sI 6, nw_sI 6]) hn rfl rfl rfl fX8_24 dX8_init_30 (Nat.le_of_ble_eq_true rfl) (by decide) rfl rfl rfl rfl rfl rfl ?_
  refine ev_aload_n (i := 0) dX8_init_33 rfl rfl ?_
  refine ev_bipush (v := 6) dX8_init_34 kb_6 ?_
  refine tv_newI (N := 6) (j := 4) (kc := 1) (ks := 6) (t' := [.inr (7, [nw_nn, nw_nn, nw_rr (n + 1), nw_rr (n + 2), nw_rr (n + 3), some none, some none]), nw_sI 3, nw_sI 6, nw_sI 6, nw_sI 6]) hn rfl rfl dX8_init_36 (by decide) (by decide) (by decide) ?_
  refine tv_putR (jt := 0) (v := n + 4) (t' := [.inr (7, [nw_nn, nw_nn, nw_rr (n + 1), nw_rr (n + 2), nw_rr (n + 3), nw_rr (n + 4), some none]), nw_sI 3, nw_sI 6, nw_sI 6, nw_sI 6]) hn rfl rfl rfl fX8_27 dX8_init_38 (Nat.le_of_ble_eq_true rfl) (by decide) rfl rfl rfl rfl rfl rfl ?_
  refine ev_aload_n (i := 0) dX8_init_41 rfl rfl ?_
  refine ev_bipush (v := 6) dX8_init_42 kb_6 ?_
  refine tv_newI (N := 6) (j := 5) (kc := 0) (ks := 0) (t' := [.inr (7, [nw_nn, nw_nn, nw_rr (n + 1), nw_rr (n + 2), nw_rr (n + 3), nw_rr (n + 4), some none]), nw_sI 3, nw_sI 6, nw_sI 6, nw_sI 6, nw_sI 6]) hn rfl rfl dX8_init_44 (by decide) (by decide) (by decide) ?_
  refine tv_putR (jt := 0) (v := n + 5) (t' := [.inr (7, [nw_nn, nw_nn, nw_rr (n + 1), nw_rr (n + 2), nw_rr (n + 3), nw_rr (n + 4), nw_rr (n + 5)]), nw_sI 3, nw_sI 6, nw_sI 6, nw_sI 6, nw_sI 6]) hn rfl rfl rfl fX8_30 dX8_init_46 (Nat.le_of_ble_eq_true rfl) (by decide) rfl rfl rfl rfl rfl rfl ?_
  exact ev_return dX8_init_49 ⟨rfl, rfl, by simp [nw_z, nw_up], (fun a ha => by funext i; simp [nw_z, nw_up, show ∀ j : Nat, a ≠ n + j from fun j => by omega, show a ≠ n from by omega])⟩
theorem k_chart {I : nw_Me} (hn : sh0.length = n) : nw_K l g 0 mX2_init n sh0 [.inr (2, nw_f2)] I 4 49 (nw_sCh n) (fun J => (∀ i, J n i = I n i) ∧ (∀ a, a < n → J a = I a)) := by
  refine ev_aload_n (i := 0) dX2_init_0 rfl rfl ?_
  refine ev_objInit jX2_1 dX2_init_1 (Nat.le_of_ble_eq_true rfl) ?_
  refine ev_aload_n (i := 0) dX2_init_4 rfl rfl ?_
  refine ev_bipush (v := 20) dX2_init_5 kb_20 ?_
  refine tv_newI (N := 20) (j := 1) (kc := 3) (ks := 29) (t' := [.inr (2, [nw_nn, nw_nn, nw_nn, nw_nn, nw_nn, some none, some none, some none, some none]), nw_sI 20]) hn rfl rfl dX2_init_7 (by decide) (by decide) (by decide) ?_
  refine tv_putR (jt := 0) (v := n + 1) (t' := [.inr (2, [nw_nn, nw_nn, nw_nn, nw_nn, nw_nn, nw_rr (n + 1), some none, some none, some none]), nw_sI 20]) hn rfl rfl rfl fX2_9 dX2_init_9 (Nat.le_of_ble_eq_true rfl) (by decide) rfl rfl rfl rfl rfl rfl ?_
  refine ev_aload_n (i := 0) dX2_init_12 rfl rfl ?_
  refine ev_bipush (v := 20) dX2_init_13 kb_20 ?_
  refine tv_newI (N := 20) (j := 2) (kc := 2) (ks := 9) (t' := [.inr (2, [nw_nn, nw_nn, nw_nn, nw_nn, nw_nn, nw_rr (n + 1), some none, some none, some none]), nw_sI 20, nw_sI 20]) hn rfl rfl dX2_init_15 (by decide) (by decide) (by decide) ?_
  refine tv_putR (jt := 0) (v := n + 2) (t' := [.inr (2, [nw_nn, nw_nn, nw_nn, nw_nn, nw_nn, nw_rr (n + 1), nw_rr (n + 2), some none, some none]), nw_sI 20, nw_sI 20]) hn rfl rfl rfl fX2_13 dX2_init_17 (Nat.le_of_ble_eq_true rfl) (by decide) rfl rfl rfl rfl rfl rfl ?_
  refine ev_aload_n (i := 0) dX2_init_20 rfl rfl ?_
  refine ev_iconst (v := 3) dX2_init_21 kc_3 ?_
  refine tv_newI (N := 3) (j := 3) (kc := 1) (ks := 6) (t' := [.inr (2, [nw_nn, nw_nn, nw_nn, nw_nn, nw_nn, nw_rr (n + 1), nw_rr (n + 2), some none, some none]), nw_sI 20, nw_sI 20, nw_sI 3]) hn rfl rfl dX2_init_22 (by decide) (by decide) (by decide) ?_
  refine tv_putR (jt := 0) (v := n + 3) (t' := [.inr (2, [nw_nn, nw_nn, nw_nn, nw_nn, nw_nn, nw_rr (n + 1), nw_rr (n + 2), nw_rr (n + 3), some none]), nw_sI 20, nw_sI 20, nw_sI 3]) hn rfl rfl rfl fX2_16 dX2_init_24 (Nat.le_of_ble_eq_true rfl) (by decide) rfl rfl rfl rfl rfl rfl ?_
  refine ev_aload_n (i := 0) dX2_init_27 rfl rfl ?_
  refine ev_bipush (v := 6) dX2_init_28 kb_6 ?_
  refine tv_newI (N := 6) (j := 4) (kc := 0) (ks := 0) (t' := [.inr (2, [nw_nn, nw_nn, nw_nn, nw_nn, nw_nn, nw_rr (n + 1), nw_rr (n + 2), nw_rr (n + 3), some none]), nw_sI 20, nw_sI 20, nw_sI 3, nw_sI 6]) hn rfl rfl dX2_init_30 (by decide) (by decide) (by decide) ?_
  refine tv_putR (jt := 0) (v := n + 4) (t' := [.inr (2, [nw_nn, nw_nn, nw_nn, nw_nn, nw_nn, nw_rr (n + 1), nw_rr (n + 2), nw_rr (n + 3), nw_rr (n + 4)]), nw_sI 20, nw_sI 20, nw_sI 3, nw_sI 6]) hn rfl rfl rfl fX2_19 dX2_init_32 (Nat.le_of_ble_eq_true rfl) (by decide) rfl rfl rfl rfl rfl rfl ?_
  exact ev_return dX2_init_35 ⟨rfl, rfl, fun i => by simp [nw_z, nw_up], (fun a ha => by funext i; simp [nw_z, nw_up, show ∀ j : Nat, a ≠ n + j from fun j => by omega, show a ≠ n from by omega])⟩
theorem k_reader {I : nw_Me} (hn : sh0.length = n) : nw_K l g 0 mX6_init n sh0 [.inr (5, nw_f5)] I 1 160 [.inr (5, [nw_rr (n + 1), nw_nn, nw_nn, nw_nn, nw_nn, nw_nn]), nw_sI 160] (fun J => (∀ i, J n i = I n i) ∧ (∀ a, a < n → J a = I a)) := by
  refine ev_aload_n (i := 0) dX6_init_0 rfl rfl ?_
  refine ev_objInit jX6_1 dX6_init_1 (Nat.le_of_ble_eq_true rfl) ?_
  refine ev_aload_n (i := 0) dX6_init_4 rfl rfl ?_
  refine ev_sipush (v := 160) dX6_init_5 ks_160 ?_
  refine tv_newI (N := 160) (j := 1) (kc := 0) (ks := 0) (t' := [.inr (5, [some none, nw_nn, nw_nn, nw_nn, nw_nn, nw_nn]), nw_sI 160]) hn rfl rfl dX6_init_8 (by decide) (by decide) (by decide) ?_
  refine tv_putR (jt := 0) (v := n + 1) (t' := [.inr (5, [nw_rr (n + 1), nw_nn, nw_nn, nw_nn, nw_nn, nw_nn]), nw_sI 160]) hn rfl rfl rfl fX6_9 dX6_init_10 (Nat.le_of_ble_eq_true rfl) (by decide) rfl rfl rfl rfl rfl rfl ?_
  exact ev_return dX6_init_13 ⟨rfl, rfl, fun i => by simp [nw_z, nw_up], (fun a ha => by funext i; simp [nw_z, nw_up, show ∀ j : Nat, a ≠ n + j from fun j => by omega, show a ≠ n from by omega])⟩
theorem k_asker {I : nw_Me} (hn : sh0.length = n) : nw_K l g 0 mX1_init n sh0 [.inr (1, nw_f1)] I 1 16 [.inr (1, [nw_rr (n + 1), nw_nn, nw_nn, nw_nn, nw_nn, nw_nn]), nw_sI 16] (fun J => (∀ i, J n i = I n i) ∧ (∀ a, a < n → J a = I a)) := by
  refine ev_aload_n (i := 0) dX1_init_0 rfl rfl ?_
  refine ev_objInit jX1_1 dX1_init_1 (Nat.le_of_ble_eq_true rfl) ?_
  refine ev_aload_n (i := 0) dX1_init_4 rfl rfl ?_
  refine ev_bipush (v := 16) dX1_init_5 kb_16 ?_
  refine tv_newI (N := 16) (j := 1) (kc := 0) (ks := 0) (t' := [.inr (1, [some none, nw_nn, nw_nn, nw_nn, nw_nn, nw_nn]), nw_sI 16]) hn rfl rfl dX1_init_7 (by decide) (by decide) (by decide) ?_
  refine tv_putR (jt := 0) (v := n + 1) (t' := [.inr (1, [nw_rr (n + 1), nw_nn, nw_nn, nw_nn, nw_nn, nw_nn]), nw_sI 16]) hn rfl rfl rfl fX1_9 dX1_init_9 (Nat.le_of_ble_eq_true rfl) (by decide) rfl rfl rfl rfl rfl rfl ?_
  exact ev_return dX1_init_12 ⟨rfl, rfl, fun i => by simp [nw_z, nw_up], (fun a ha => by funext i; simp [nw_z, nw_up, show ∀ j : Nat, a ≠ n + j from fun j => by omega, show a ≠ n from by omega])⟩
theorem k_orders {I : nw_Me} (hn : sh0.length = n) : nw_K l g 0 mX5_init n sh0 [.inr (4, nw_f4)] I 8 39 [.inr (4, [nw_rr (n + 1), nw_rr (n + 5), nw_rr (n + 6), nw_rr (n + 7), nw_rr (n + 8), nw_nn]), .inr (104, nw_gf (n + 1) 3), nw_sI 6, nw_sI 6, nw_sI 6, nw_sI 3, nw_sI 3, nw_sI 6, nw_sI 6] (fun J => (∀ a, a < n → J a = I a)) := by
  refine ev_aload_n (i := 0) dX5_init_0 rfl rfl ?_
  refine ev_objInit jX5_1 dX5_init_1 (Nat.le_of_ble_eq_true rfl) ?_
  refine ev_aload_n (i := 0) dX5_init_4 rfl rfl ?_
  refine ev_iconst (v := 3) dX5_init_5 kc_3 ?_
  refine ev_bipush (v := 6) dX5_init_6 kb_6 ?_
  refine tv_multi (j := 1) (N := 3) (K := 6) (kc := 4) (ks := 18) (t' := [.inr (4, [some none, some none, some none, some none, some none, nw_nn]), .inr (104, nw_gf (n + 1) 3), nw_sI 6, nw_sI 6, nw_sI 6]) hn rfl rfl (tb_in (i := 192) (by decide +kernel)) dX5_init_8 (by decide) (by decide) (by decide) (by decide) (by decide) (by decide) ?_
  refine tv_putR (jt := 0) (v := n + 1) (t' := [.inr (4, [nw_rr (n + 1), some none, some none, some none, some none, nw_nn]), .inr (104, nw_gf (n + 1) 3), nw_sI 6, nw_sI 6, nw_sI 6]) hn rfl rfl rfl fX5_11 dX5_init_12 (Nat.le_of_ble_eq_true rfl) (by decide) rfl rfl rfl rfl rfl rfl ?_
  refine ev_aload_n (i := 0) dX5_init_15 rfl rfl ?_
  refine ev_iconst (v := 3) dX5_init_16 kc_3 ?_
  refine tv_newI (N := 3) (j := 5) (kc := 3) (ks := 15) (t' := [.inr (4, [nw_rr (n + 1), some none, some none, some none, some none, nw_nn]), .inr (104, nw_gf (n + 1) 3), nw_sI 6, nw_sI 6, nw_sI 6, nw_sI 3]) hn rfl rfl dX5_init_17 (by decide) (by decide) (by decide) ?_
  refine tv_putR (jt := 0) (v := n + 5) (t' := [.inr (4, [nw_rr (n + 1), nw_rr (n + 5), some none, some none, some none, nw_nn]), .inr (104, nw_gf (n + 1) 3), nw_sI 6, nw_sI 6, nw_sI 6, nw_sI 3]) hn rfl rfl rfl fX5_16 dX5_init_19 (Nat.le_of_ble_eq_true rfl) (by decide) rfl rfl rfl rfl rfl rfl ?_
  refine ev_aload_n (i := 0) dX5_init_22 rfl rfl ?_
  refine ev_iconst (v := 3) dX5_init_23 kc_3 ?_
  refine tv_newI (N := 3) (j := 6) (kc := 2) (ks := 12) (t' := [.inr (4, [nw_rr (n + 1), nw_rr (n + 5), some none, some none, some none, nw_nn]), .inr (104, nw_gf (n + 1) 3), nw_sI 6, nw_sI 6, nw_sI 6, nw_sI 3, nw_sI 3]) hn rfl rfl dX5_init_24 (by decide) (by decide) (by decide) ?_
  refine tv_putR (jt := 0) (v := n + 6) (t' := [.inr (4, [nw_rr (n + 1), nw_rr (n + 5), nw_rr (n + 6), some none, some none, nw_nn]), .inr (104, nw_gf (n + 1) 3), nw_sI 6, nw_sI 6, nw_sI 6, nw_sI 3, nw_sI 3]) hn rfl rfl rfl fX5_20 dX5_init_26 (Nat.le_of_ble_eq_true rfl) (by decide) rfl rfl rfl rfl rfl rfl ?_
  refine ev_aload_n (i := 0) dX5_init_29 rfl rfl ?_
  refine ev_bipush (v := 6) dX5_init_30 kb_6 ?_
  refine tv_newI (N := 6) (j := 7) (kc := 1) (ks := 6) (t' := [.inr (4, [nw_rr (n + 1), nw_rr (n + 5), nw_rr (n + 6), some none, some none, nw_nn]), .inr (104, nw_gf (n + 1) 3), nw_sI 6, nw_sI 6, nw_sI 6, nw_sI 3, nw_sI 3, nw_sI 6]) hn rfl rfl dX5_init_32 (by decide) (by decide) (by decide) ?_
  refine tv_putR (jt := 0) (v := n + 7) (t' := [.inr (4, [nw_rr (n + 1), nw_rr (n + 5), nw_rr (n + 6), nw_rr (n + 7), some none, nw_nn]), .inr (104, nw_gf (n + 1) 3), nw_sI 6, nw_sI 6, nw_sI 6, nw_sI 3, nw_sI 3, nw_sI 6]) hn rfl rfl rfl fX5_23 dX5_init_34 (Nat.le_of_ble_eq_true rfl) (by decide) rfl rfl rfl rfl rfl rfl ?_
  refine ev_aload_n (i := 0) dX5_init_37 rfl rfl ?_
  refine ev_bipush (v := 6) dX5_init_38 kb_6 ?_
  refine tv_newI (N := 6) (j := 8) (kc := 0) (ks := 0) (t' := [.inr (4, [nw_rr (n + 1), nw_rr (n + 5), nw_rr (n + 6), nw_rr (n + 7), some none, nw_nn]), .inr (104, nw_gf (n + 1) 3), nw_sI 6, nw_sI 6, nw_sI 6, nw_sI 3, nw_sI 3, nw_sI 6, nw_sI 6]) hn rfl rfl dX5_init_40 (by decide) (by decide) (by decide) ?_
  refine tv_putR (jt := 0) (v := n + 8) (t' := [.inr (4, [nw_rr (n + 1), nw_rr (n + 5), nw_rr (n + 6), nw_rr (n + 7), nw_rr (n + 8), nw_nn]), .inr (104, nw_gf (n + 1) 3), nw_sI 6, nw_sI 6, nw_sI 6, nw_sI 3, nw_sI 3, nw_sI 6, nw_sI 6]) hn rfl rfl rfl fX5_26 dX5_init_42 (Nat.le_of_ble_eq_true rfl) (by decide) rfl rfl rfl rfl rfl rfl ?_
  exact ev_return dX5_init_45 ⟨rfl, rfl, (fun a ha => by funext i; simp [nw_z, nw_zf, nw_up, show ∀ j : Nat, a ≠ n + j from fun j => by omega, show a ≠ n from by omega, show a < n + 1 from by omega])⟩
abbrev nw_tRo (n : Nat) : List nw_Sh := [.inr (6, [nw_rr (n + 1), nw_rr (n + 2), nw_rr (n + 3)]), nw_sI 8, nw_sI 8, .inr (104, nw_gf (n + 3) 8), nw_sI 40, nw_sI 40, nw_sI 40, nw_sI 40, nw_sI 40, nw_sI 40, nw_sI 40, nw_sI 40]
theorem l_rows0 {I : nw_Me} (hn : sh0.length = n) : ∀ (k p : Nat) (J : nw_Me), p + k = 8 → (∀ r, r < p → J (n + 2) r = -1) → (∀ a, a < n → J a = I a) → nw_Ev l g 0 mX7_init 34 [some (.ref (nw_a g n)), some (.int (nI p))] [] (sh0 ++ nw_tRo n) J 0 0 (fun v sh' J => v = none ∧ sh' = sh0 ++ nw_tRo n ∧ (∀ r, r < 8 → J (n + 2) r = -1) ∧ ∀ a, a < n → J a = I a) := by
  intro k
  induction k with
  | zero =>
    intro p J hp h1 h2
    refine ev_iload_n (i := 1) dX7_init_34 rfl rfl ?_
    refine ev_bipush (v := 8) dX7_init_35 kb_8 ?_
    refine ev_icmp_ge (tgt := 53) dX7_init_37 (by decide) (fun h => ?_) (fun h => ?_)
    · exact ev_return dX7_init_53 ⟨rfl, rfl, fun r hr => h1 r (by omega), h2⟩
    · exact absurd (nI_le (a := 8) (by omega) (by omega)) h
  | succ k ih =>
    intro p J hp h1 h2
    refine ev_iload_n (i := 1) dX7_init_34 rfl rfl ?_
    refine ev_bipush (v := 8) dX7_init_35 kb_8 ?_
    refine ev_icmp_ge (tgt := 53) dX7_init_37 (by decide) (fun h => ?_) (fun h => ?_)
    · exact absurd h (nI_ge (b := 8) (by omega) (by omega))
    · refine ev_aload_n (i := 0) dX7_init_40 rfl rfl ?_
      refine ev_getR fX7_15 dX7_init_41 (tl_get (j := 0) hn rfl) rfl (by decide) ?_
      refine ev_iload_n (i := 1) dX7_init_44 rfl rfl ?_
      refine ev_iconst (v := (-1)) dX7_init_45 kc_m1 ?_
      refine ev_iastN (j := p) dX7_init_46 (tl_get (j := 2) hn rfl) (by omega) (by decide) ?_
      refine ev_iincN (a := p) dX7_init_47 rfl (Nat.le_of_ble_eq_true rfl) rfl ?_
      refine ev_goto (tgt := 34) dX7_init_50 (by decide) ?_
      refine ih (p + 1) (nw_up J (n + 2) p (-1)) (by omega) (fun r hr => ?_) (fun a ha => ?_)
      · rw [nw_up_self]
        by_cases e : r = p
        · rw [e, pk_us]
        · rw [pk_un e]; exact h1 r (by omega)
      · rw [nw_up_ne (by omega)]; exact h2 a ha
theorem k_rows {I : nw_Me} (hn : sh0.length = n) : nw_K l g 0 mX7_init n sh0 [.inr (6, nw_f6)] I 11 344 (nw_tRo n) (fun J => (∀ r, r < 8 → J (n + 2) r = -1) ∧ (∀ a, a < n → J a = I a)) := by
  refine ev_aload_n (i := 0) dX7_init_0 rfl rfl ?_
  refine ev_objInit jX7_3 dX7_init_1 (Nat.le_of_ble_eq_true rfl) ?_
  refine ev_aload_n (i := 0) dX7_init_4 rfl rfl ?_
  refine ev_bipush (v := 8) dX7_init_5 kb_8 ?_
  refine tv_newI (N := 8) (j := 1) (kc := 10) (ks := 336) (t' := [.inr (6, [some none, some none, some none]), nw_sI 8]) hn rfl rfl dX7_init_7 (by decide) (by decide) (by decide) ?_
  refine tv_putR (jt := 0) (v := n + 1) (t' := [.inr (6, [nw_rr (n + 1), some none, some none]), nw_sI 8]) hn rfl rfl rfl fX7_11 dX7_init_9 (Nat.le_of_ble_eq_true rfl) (by decide) rfl rfl rfl rfl rfl rfl ?_
  refine ev_aload_n (i := 0) dX7_init_12 rfl rfl ?_
  refine ev_bipush (v := 8) dX7_init_13 kb_8 ?_
  refine tv_newI (N := 8) (j := 2) (kc := 9) (ks := 328) (t' := [.inr (6, [nw_rr (n + 1), some none, some none]), nw_sI 8, nw_sI 8]) hn rfl rfl dX7_init_15 (by decide) (by decide) (by decide) ?_
  refine tv_putR (jt := 0) (v := n + 2) (t' := [.inr (6, [nw_rr (n + 1), nw_rr (n + 2), some none]), nw_sI 8, nw_sI 8]) hn rfl rfl rfl fX7_15 dX7_init_17 (Nat.le_of_ble_eq_true rfl) (by decide) rfl rfl rfl rfl rfl rfl ?_
  refine ev_aload_n (i := 0) dX7_init_20 rfl rfl ?_
  refine ev_bipush (v := 8) dX7_init_21 kb_8 ?_
  refine ev_bipush (v := 40) dX7_init_23 kb_40 ?_
  refine tv_multi (j := 3) (N := 8) (K := 40) (kc := 0) (ks := 0) (t' := [.inr (6, [nw_rr (n + 1), nw_rr (n + 2), some none]), nw_sI 8, nw_sI 8, .inr (104, nw_gf (n + 3) 8), nw_sI 40, nw_sI 40, nw_sI 40, nw_sI 40, nw_sI 40, nw_sI 40, nw_sI 40, nw_sI 40]) hn rfl rfl (tb_in (i := 28) (by decide +kernel)) dX7_init_25 (by decide) (by decide) (by decide) (by decide) (by decide) (by decide) ?_
  refine tv_putR (jt := 0) (v := n + 3) (t' := [.inr (6, [nw_rr (n + 1), nw_rr (n + 2), nw_rr (n + 3)]), nw_sI 8, nw_sI 8, .inr (104, nw_gf (n + 3) 8), nw_sI 40, nw_sI 40, nw_sI 40, nw_sI 40, nw_sI 40, nw_sI 40, nw_sI 40, nw_sI 40]) hn rfl rfl rfl fX7_20 dX7_init_29 (Nat.le_of_ble_eq_true rfl) (by decide) rfl rfl rfl rfl rfl rfl ?_
  refine ev_iconst (v := 0) dX7_init_32 kc_0 ?_
  refine ev_istore_n (i := 1) dX7_init_33 rfl (Nat.le_of_ble_eq_true rfl) rfl ?_
  exact l_rows0 hn 8 0 _ rfl (fun r hr => absurd hr (Nat.not_lt_zero r)) (fun a ha => by funext i; simp [nw_z, nw_zf, nw_up, show ∀ j : Nat, a ≠ n + j from fun j => by omega, show a ≠ n from by omega, show a < n + 3 from by omega])
abbrev nw_tIm (n : Nat) : List nw_Sh := .inr (3, [nw_rr (n + 1), nw_rr (n + 6), nw_nn]) :: (nw_sCh (n + 1) ++ nw_sSc (n + 6))
theorem k_image {I : nw_Me} (hn : sh0.length = n) : nw_K l g 1 mX3_init n sh0 [.inr (3, nw_f3)] I 11 92 (nw_tIm n) (fun J => (∀ i, J n i = I n i) ∧ (∀ a, a < n → J a = I a)) := by
  refine ev_aload_n (i := 0) dX3_init_0 rfl rfl ?_
  refine ev_objInit jX3_1 dX3_init_1 (Nat.le_of_ble_eq_true rfl) ?_
  refine ev_aload_n (i := 0) dX3_init_4 rfl rfl ?_
  refine tv_new (j := 1) (N := 9) (fs := nw_f2) (kc := 10) (ks := 83) (t' := [.inr (3, [some none, some none, nw_nn]), .inr (2, nw_f2)]) hn rfl rfl (tb_in (i := 248) (by decide +kernel)) (ci := 2) rfl (tb_in (i := 68) (by decide +kernel)) (kX2_init.2.1) dX3_init_5 (by decide) df2 ?_
  refine ev_dup dX3_init_8 rfl ?_
  refine tv_callN (kc1 := 4) (ks1 := 49) (kc := 6) (ks := 34) (((k_chart (n := n + 1) (tl_len hn rfl)).deep (d1 := 0) (Nat.le_of_ble_eq_true rfl)).shift (tp := [.inr (3, [some none, some none, nw_nn])]) (t := [.inr (3, [some none, some none, nw_nn]), .inr (2, nw_f2)]) (t' := [.inr (3, [some none, some none, nw_nn]), .inr (2, [nw_nn, nw_nn, nw_nn, nw_nn, nw_nn, nw_rr (n + 2), nw_rr (n + 3), nw_rr (n + 4), nw_rr (n + 5)]), nw_sI 20, nw_sI 20, nw_sI 3, nw_sI 6]) rfl rfl) lX3_9 kX2_init iX2_init dX3_init_9 rfl (Nat.le_of_ble_eq_true rfl) (Nat.le_of_ble_eq_true rfl) ?_
  rintro J1 ⟨-, e1⟩
  refine tv_putR (jt := 0) (v := n + 1) (t' := [.inr (3, [nw_rr (n + 1), some none, nw_nn]), .inr (2, [nw_nn, nw_nn, nw_nn, nw_nn, nw_nn, nw_rr (n + 2), nw_rr (n + 3), nw_rr (n + 4), nw_rr (n + 5)]), nw_sI 20, nw_sI 20, nw_sI 3, nw_sI 6]) hn rfl rfl rfl fX3_10 dX3_init_12 (Nat.le_of_ble_eq_true rfl) (by decide) rfl rfl rfl rfl rfl rfl ?_
  refine ev_aload_n (i := 0) dX3_init_15 rfl rfl ?_
  refine tv_new (j := 6) (N := 7) (fs := nw_f7) (kc := 5) (ks := 27) (t' := [.inr (3, [nw_rr (n + 1), some none, nw_nn]), .inr (2, [nw_nn, nw_nn, nw_nn, nw_nn, nw_nn, nw_rr (n + 2), nw_rr (n + 3), nw_rr (n + 4), nw_rr (n + 5)]), nw_sI 20, nw_sI 20, nw_sI 3, nw_sI 6, .inr (7, nw_f7)]) hn rfl rfl (tb_in (i := 250) (by decide +kernel)) (ci := 7) rfl (tb_in (i := 126) (by decide +kernel)) (kX8_init.2.1) dX3_init_16 (by decide) df7 ?_
  refine ev_dup dX3_init_19 rfl ?_
  refine tv_callN (kc1 := 5) (ks1 := 27) (kc := 0) (ks := 0) (((k_scene (n := n + 6) (tl_len hn rfl)).deep (d1 := 0) (Nat.le_of_ble_eq_true rfl)).shift (tp := [.inr (3, [nw_rr (n + 1), some none, nw_nn]), .inr (2, [nw_nn, nw_nn, nw_nn, nw_nn, nw_nn, nw_rr (n + 2), nw_rr (n + 3), nw_rr (n + 4), nw_rr (n + 5)]), nw_sI 20, nw_sI 20, nw_sI 3, nw_sI 6]) (t := [.inr (3, [nw_rr (n + 1), some none, nw_nn]), .inr (2, [nw_nn, nw_nn, nw_nn, nw_nn, nw_nn, nw_rr (n + 2), nw_rr (n + 3), nw_rr (n + 4), nw_rr (n + 5)]), nw_sI 20, nw_sI 20, nw_sI 3, nw_sI 6, .inr (7, nw_f7)]) (t' := [.inr (3, [nw_rr (n + 1), some none, nw_nn]), .inr (2, [nw_nn, nw_nn, nw_nn, nw_nn, nw_nn, nw_rr (n + 2), nw_rr (n + 3), nw_rr (n + 4), nw_rr (n + 5)]), nw_sI 20, nw_sI 20, nw_sI 3, nw_sI 6, .inr (7, [nw_nn, nw_nn, nw_rr (n + 7), nw_rr (n + 8), nw_rr (n + 9), nw_rr (n + 10), nw_rr (n + 11)]), nw_sI 3, nw_sI 6, nw_sI 6, nw_sI 6, nw_sI 6]) rfl rfl) lX3_18 kX8_init iX8_init dX3_init_20 rfl (Nat.le_of_ble_eq_true rfl) (Nat.le_of_ble_eq_true rfl) ?_
  rintro J2 ⟨-, e2⟩
  refine tv_putR (jt := 0) (v := n + 6) (t' := [.inr (3, [nw_rr (n + 1), nw_rr (n + 6), nw_nn]), .inr (2, [nw_nn, nw_nn, nw_nn, nw_nn, nw_nn, nw_rr (n + 2), nw_rr (n + 3), nw_rr (n + 4), nw_rr (n + 5)]), nw_sI 20, nw_sI 20, nw_sI 3, nw_sI 6, .inr (7, [nw_nn, nw_nn, nw_rr (n + 7), nw_rr (n + 8), nw_rr (n + 9), nw_rr (n + 10), nw_rr (n + 11)]), nw_sI 3, nw_sI 6, nw_sI 6, nw_sI 6, nw_sI 6]) hn rfl rfl rfl fX3_19 dX3_init_23 (Nat.le_of_ble_eq_true rfl) (by decide) rfl rfl rfl rfl rfl rfl ?_
  refine ev_return dX3_init_26 ⟨rfl, rfl, fun i => ?_, fun a ha => ?_⟩
  · rw [e2 n (by omega), nw_z_ne (by omega), e1 n (by omega), nw_z_ne (by omega)]
  · rw [e2 a (by omega), nw_z_ne (by omega), e1 a (by omega), nw_z_ne (by omega)]
end
