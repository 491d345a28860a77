section
variable {l : Launch} {g : nw_G} {sh0 : List nw_Sh} {n : Nat}
def nw_tAr (n k : Nat) : List (Option (Option Nat)) := ((List.range k).map fun j => some (some (n + (2 + 6 * j)))) ++ List.replicate (24 - k) (some none)
def nw_tAs (n k : Nat) : List nw_Sh := (List.range k).flatMap fun j => nw_sSc (n + (2 + 6 * j))
def nw_tAc (n k : Nat) : List nw_Sh := .inr (0, [nw_rr (n + 1), nw_nn, nw_nn]) :: .inr (102, nw_tAr n k) :: nw_tAs n k
theorem nw_tAs_s (n k : Nat) : nw_tAs n (k + 1) = nw_tAs n k ++ nw_sSc (n + (2 + 6 * k)) := by
  unfold nw_tAs
  rw [List.range_succ, List.flatMap_append]
  simp
theorem nw_tAs_len (n : Nat) : ∀ k, (nw_tAs n k).length = 6 * k
  | 0 => rfl
  | k + 1 => by
    rw [nw_tAs_s, List.length_append, nw_tAs_len n k]
    rfl
theorem nw_tAc_len (n k : Nat) : (nw_tAc n k).length = 2 + 6 * k := by
  unfold nw_tAc
  rw [List.length_cons, List.length_cons, nw_tAs_len]
  omega
theorem nw_tAr_len (n : Nat) {k : Nat} (h : k ≤ 24) : (nw_tAr n k).length = 24 := by
  unfold nw_tAr
  simp
  omega
theorem nw_tAr_s (n : Nat) {k : Nat} (h : k < 24) : (nw_tAr n k).set k (some (some (n + (2 + 6 * k)))) = nw_tAr n (k + 1) := by
  unfold nw_tAr
  rw [List.set_append_right _ _ (by simp), List.range_succ, List.map_append, show 24 - k = (24 - (k + 1)) + 1 by omega, List.replicate_succ]
  simp
theorem nw_tAc_s (n : Nat) {k : Nat} (h : k < 24) : (nw_tAc n k ++ nw_sSc (n + (2 + 6 * k))).set 1 (.inr (100 + 2, (nw_tAr n k).set k (some (some (n + (2 + 6 * k)))))) = nw_tAc n (k + 1) := by
  rw [nw_tAr_s n h]
  unfold nw_tAc
  rw [nw_tAs_s]
  rfl
theorem nw_tAc_v (n k : Nat) : (nw_tAc n k ++ nw_sSc (n + (2 + 6 * k)))[2 + 6 * k]? = some (.inr (7, [nw_nn, nw_nn, nw_rr (n + (2 + 6 * k) + 1), nw_rr (n + (2 + 6 * k) + 2), nw_rr (n + (2 + 6 * k) + 3), nw_rr (n + (2 + 6 * k) + 4), nw_rr (n + (2 + 6 * k) + 5)])) := by
  rw [List.getElem?_append_right (by rw [nw_tAc_len]; omega), nw_tAc_len, Nat.sub_self]
  rfl
theorem l_acts0 {I : nw_Me} (hn : sh0.length = n) : ∀ (m k : Nat) (J : nw_Me), k + m = 24 → (∀ i, J n i = I n i) → (∀ a, a < n → J a = I a) → nw_Ev l g 1 mX0_init 15 [some (.ref (nw_a g n)), some (.int (nI k))] [] (sh0 ++ nw_tAc n k) J (6 * m) (34 * m) (fun v sh' J => v = none ∧ sh' = sh0 ++ nw_tAc n 24 ∧ (∀ i, J n i = I n i) ∧ ∀ a, a < n → J a = I a) := by
  intro m
  induction m with
  | zero =>
    intro k J hk h1 h2
    obtain rfl : k = 24 := by omega
    refine ev_iload_n (i := 1) dX0_init_15 rfl rfl ?_
    refine ev_bipush (v := 24) dX0_init_16 kb_24 ?_
    refine ev_icmp_ge (tgt := 40) dX0_init_18 (by decide) (fun h => ?_) (fun h => ?_)
    · exact ev_return dX0_init_40 ⟨rfl, rfl, h1, h2⟩
    · exact absurd (by decide) h
  | succ m ih =>
    intro k J hk h1 h2
    refine ev_iload_n (i := 1) dX0_init_15 rfl rfl ?_
    refine ev_bipush (v := 24) dX0_init_16 kb_24 ?_
    refine ev_icmp_ge (tgt := 40) dX0_init_18 (by decide) (fun h => ?_) (fun h => ?_)
    · exact absurd h (nI_ge (b := 24) (by omega) (by omega))
    · refine ev_rm (kc1 := 5 + 6 * m + 1) (ks1 := 27 + 34 * m + 7) (by omega) (by omega) ?_
      refine ev_aload_n (i := 0) dX0_init_21 rfl rfl ?_
      refine ev_getR fX0_11 dX0_init_22 (tl_get (j := 0) hn rfl) rfl (by decide) ?_
      refine ev_iload_n (i := 1) dX0_init_25 rfl rfl ?_
      refine tv_new (j := 2 + 6 * k) (N := 7) (fs := nw_f7) (kc := 5 + 6 * m) (ks := 27 + 34 * m) (t' := nw_tAc n k ++ [.inr (7, nw_f7)]) hn (nw_tAc_len n k) rfl (tb_in (i := 172) (by decide +kernel)) (ci := 7) rfl (tb_in (i := 126) (by decide +kernel)) (kX8_init.2.1) dX0_init_26 (by decide) df7 ?_
      refine ev_dup dX0_init_29 rfl ?_
      refine tv_callN (kc1 := 5) (ks1 := 27) (kc := 6 * m) (ks := 34 * m) ((k_scene (n := n + (2 + 6 * k)) (tl_len hn (nw_tAc_len n k))).shift (tp := nw_tAc n k) (t := nw_tAc n k ++ [.inr (7, nw_f7)]) (t' := nw_tAc n k ++ nw_sSc (n + (2 + 6 * k))) rfl rfl) lX0_15 kX8_init iX8_init dX0_init_30 rfl (Nat.le_of_ble_eq_true rfl) (Nat.le_of_ble_eq_true rfl) ?_
      rintro J1 ⟨-, e1⟩
      refine tv_aast (jt := 1) (q := 2) (v := n + (2 + 6 * k)) (ci := 7) (fs := nw_tAr n k) (i0 := k) (t' := nw_tAc n (k + 1)) hn rfl rfl (nw_tAc_s n (by omega)) dX0_init_33 rfl (tl_get hn (nw_tAc_v n k)) (by decide) rfl (by rw [nw_tAr_len n (by omega)]; exact pk_in k 24 (by omega)) (nI_clamp (by omega)) ?_
      refine ev_iincN (a := k) dX0_init_34 rfl (Nat.le_of_ble_eq_true rfl) rfl ?_
      refine ev_goto (tgt := 15) dX0_init_37 (by decide) ?_
      refine ih (k + 1) J1 (by omega) (fun i => ?_) (fun a ha => ?_)
      · rw [e1 n (by omega), nw_z_ne (by omega)]
        exact h1 i
      · rw [e1 a (by omega), nw_z_ne (by omega)]
        exact h2 a ha
theorem k_acts {I : nw_Me} (hn : sh0.length = n) : nw_K l g 1 mX0_init n sh0 [.inr (0, nw_f0)] I 145 840 (nw_tAc n 24) (fun J => (∀ i, J n i = I n i) ∧ ∀ a, a < n → J a = I a) := by
  refine ev_aload_n (i := 0) dX0_init_0 rfl rfl ?_
  refine ev_objInit jX0_1 dX0_init_1 (Nat.le_of_ble_eq_true rfl) ?_
  refine ev_aload_n (i := 0) dX0_init_4 rfl rfl ?_
  refine ev_bipush (v := 24) dX0_init_5 kb_24 ?_
  refine tv_anew (j := 1) (N := 24) (q := 2) (kc := 144) (ks := 816) (t' := [.inr (0, [some none, nw_nn, nw_nn]), .inr (102, List.replicate 24 (some none))]) hn rfl rfl (tb_in (i := 172) (by decide +kernel)) (fun s h => h.2.2.2.2.2.2.2.2.2.2.2.1) rfl dX0_init_7 (by decide) (by decide) (by decide) ?_
  refine tv_putR (jt := 0) (v := n + 1) (t' := [.inr (0, [nw_rr (n + 1), nw_nn, nw_nn]), .inr (102, List.replicate 24 (some none))]) hn rfl rfl rfl fX0_11 dX0_init_10 (Nat.le_of_ble_eq_true rfl) (by decide) rfl rfl rfl rfl rfl rfl ?_
  refine ev_iconst (v := 0) dX0_init_13 kc_0 ?_
  refine ev_istore_n (i := 1) dX0_init_14 rfl (Nat.le_of_ble_eq_true rfl) rfl ?_
  refine ev_sh (sh' := sh0 ++ nw_tAc n 0) rfl ?_
  exact l_acts0 hn 24 0 _ rfl (fun i => by rw [nw_z_ne (by omega)]) (fun a ha => by rw [nw_z_ne (by omega)])
abbrev nw_tMo (n : Nat) : List nw_Sh := [.inr (9, [nw_rr (n + 1), nw_rr (n + 2), nw_rr (n + 3), nw_nn, nw_rr (n + 4), nw_rr (n + 5), nw_nn, nw_nn, nw_rr (n + 6), nw_rr (n + 7), nw_rr (n + 8), nw_rr (n + 9), nw_rr (n + 10), nw_rr (n + 11), nw_nn, nw_nn, nw_nn, nw_nn, nw_nn, nw_nn, nw_nn, nw_nn, nw_rr (n + 12), nw_rr (n + 13), nw_rr (n + 14), nw_rr (n + 15), nw_rr (n + 16), nw_rr (n + 17), nw_nn]), nw_sI 8, nw_sI 8, nw_sI 320, nw_sI 40, nw_sI 160, nw_sI 55, nw_sI 29, nw_sI 55, nw_sI 168, .inl (1, 2), nw_sI 696, nw_sI 3, nw_sI 6, nw_sI 29, nw_sI 6, nw_sI 6, nw_sI 16]
theorem l_model0 {I : nw_Me} (hn : sh0.length = n) : ∀ (k p : Nat) (J : nw_Me), p + k = 8 → (∀ r, r < p → J (n + 1) r = -1) → (∀ i, J n i = I n i) → (∀ i, J (n + 6) i = 0) → (∀ i, J (n + 7) i = 0) → (∀ i, J (n + 10) i = 0) → (∀ a, a < n → J a = I a) → nw_Ev l g 0 mX10_init 144 [some (.ref (nw_a g n)), some (.int (nI p))] [] (sh0 ++ nw_tMo n) J 0 0 (fun v sh' J => v = none ∧ sh' = sh0 ++ nw_tMo n ∧ (∀ i, J n i = I n i) ∧ (∀ r, r < 8 → J (n + 1) r = -1) ∧ (∀ i, J (n + 6) i = 0) ∧ (∀ i, J (n + 7) i = 0) ∧ (∀ i, J (n + 10) i = 0) ∧ ∀ a, a < n → J a = I a) := by
  intro k
  induction k with
  | zero =>
    intro p J hp h1 h2 h3 h4 h5 h6
    refine ev_iload_n (i := 1) dX10_init_144 rfl rfl ?_
    refine ev_bipush (v := 8) dX10_init_145 kb_8 ?_
    refine ev_icmp_ge (tgt := 163) dX10_init_147 (by decide) (fun h => ?_) (fun h => ?_)
    · exact ev_return dX10_init_163 ⟨rfl, rfl, h2, fun r hr => h1 r (by omega), h3, h4, h5, h6⟩
    · exact absurd (nI_le (a := 8) (by omega) (by omega)) h
  | succ k ih =>
    intro p J hp h1 h2 h3 h4 h5 h6
    refine ev_iload_n (i := 1) dX10_init_144 rfl rfl ?_
    refine ev_bipush (v := 8) dX10_init_145 kb_8 ?_
    refine ev_icmp_ge (tgt := 163) dX10_init_147 (by decide) (fun h => ?_) (fun h => ?_)
    · exact absurd h (nI_ge (b := 8) (by omega) (by omega))
    · refine ev_aload_n (i := 0) dX10_init_150 rfl rfl ?_
      refine ev_getR fX10_7 dX10_init_151 (tl_get (j := 0) hn rfl) rfl (by decide) ?_
      refine ev_iload_n (i := 1) dX10_init_154 rfl rfl ?_
      refine ev_iconst (v := (-1)) dX10_init_155 kc_m1 ?_
      refine ev_iastN (j := p) dX10_init_156 (tl_get (j := 1) hn rfl) (by omega) (by decide) ?_
      refine ev_iincN (a := p) dX10_init_157 rfl (Nat.le_of_ble_eq_true rfl) rfl ?_
      refine ev_goto (tgt := 144) dX10_init_160 (by decide) ?_
      refine ih (p + 1) (nw_up J (n + 1) p (-1)) (by omega) (fun r hr => ?_) (fun i => ?_) (fun i => ?_) (fun i => ?_) (fun i => ?_) (fun a ha => ?_)
      · rw [nw_up_self]
        by_cases e : r = p
        · rw [e, pk_us]
        · rw [pk_un e]; exact h1 r (by omega)
      · rw [nw_up_ne (by omega)]; exact h2 i
      · rw [nw_up_ne (by omega)]; exact h3 i
      · rw [nw_up_ne (by omega)]; exact h4 i
      · rw [nw_up_ne (by omega)]; exact h5 i
      · rw [nw_up_ne (by omega)]; exact h6 a ha
theorem k_model {I : nw_Me} (hn : sh0.length = n) : nw_K l g 0 mX10_init n sh0 [.inr (9, nw_f9)] I 17 1607 (nw_tMo n) (fun J => (∀ i, J n i = I n i) ∧ (∀ r, r < 8 → J (n + 1) r = -1) ∧ (∀ i, J (n + 6) i = 0) ∧ (∀ i, J (n + 7) i = 0) ∧ (∀ i, J (n + 10) i = 0) ∧ ∀ a, a < n → J a = I a) := by
  refine ev_aload_n (i := 0) dX10_init_0 rfl rfl ?_
  refine ev_objInit jX10_1 dX10_init_1 (Nat.le_of_ble_eq_true rfl) ?_
  refine ev_aload_n (i := 0) dX10_init_4 rfl rfl ?_
  refine ev_bipush (v := 8) dX10_init_5 kb_8 ?_
  refine tv_newI (N := 8) (j := 1) (kc := 16) (ks := 1599) (t' := [.inr (9, [some none, some none, some none, nw_nn, some none, some none, nw_nn, nw_nn, some none, some none, some none, some none, some none, some none, nw_nn, nw_nn, nw_nn, nw_nn, nw_nn, nw_nn, nw_nn, nw_nn, some none, some none, some none, some none, some none, some none, nw_nn]), nw_sI 8]) hn rfl rfl dX10_init_7 (by decide) (by decide) (by decide) ?_
  refine tv_putR (jt := 0) (v := n + 1) (t' := [.inr (9, [nw_rr (n + 1), some none, some none, nw_nn, some none, some none, nw_nn, nw_nn, some none, some none, some none, some none, some none, some none, nw_nn, nw_nn, nw_nn, nw_nn, nw_nn, nw_nn, nw_nn, nw_nn, some none, some none, some none, some none, some none, some none, nw_nn]), nw_sI 8]) hn rfl rfl rfl fX10_7 dX10_init_9 (Nat.le_of_ble_eq_true rfl) (by decide) rfl rfl rfl rfl rfl rfl ?_
  refine ev_aload_n (i := 0) dX10_init_12 rfl rfl ?_
  refine ev_bipush (v := 8) dX10_init_13 kb_8 ?_
  refine tv_newI (N := 8) (j := 2) (kc := 15) (ks := 1591) (t' := [.inr (9, [nw_rr (n + 1), some none, some none, nw_nn, some none, some none, nw_nn, nw_nn, some none, some none, some none, some none, some none, some none, nw_nn, nw_nn, nw_nn, nw_nn, nw_nn, nw_nn, nw_nn, nw_nn, some none, some none, some none, some none, some none, some none, nw_nn]), nw_sI 8, nw_sI 8]) hn rfl rfl dX10_init_15 (by decide) (by decide) (by decide) ?_
  refine tv_putR (jt := 0) (v := n + 2) (t' := [.inr (9, [nw_rr (n + 1), nw_rr (n + 2), some none, nw_nn, some none, some none, nw_nn, nw_nn, some none, some none, some none, some none, some none, some none, nw_nn, nw_nn, nw_nn, nw_nn, nw_nn, nw_nn, nw_nn, nw_nn, some none, some none, some none, some none, some none, some none, nw_nn]), nw_sI 8, nw_sI 8]) hn rfl rfl rfl fX10_13 dX10_init_17 (Nat.le_of_ble_eq_true rfl) (by decide) rfl rfl rfl rfl rfl rfl ?_
  refine ev_aload_n (i := 0) dX10_init_20 rfl rfl ?_
  refine ev_sipush (v := 320) dX10_init_21 ks_320 ?_
  refine tv_newI (N := 320) (j := 3) (kc := 14) (ks := 1271) (t' := [.inr (9, [nw_rr (n + 1), nw_rr (n + 2), some none, nw_nn, some none, some none, nw_nn, nw_nn, some none, some none, some none, some none, some none, some none, nw_nn, nw_nn, nw_nn, nw_nn, nw_nn, nw_nn, nw_nn, nw_nn, some none, some none, some none, some none, some none, some none, nw_nn]), nw_sI 8, nw_sI 8, nw_sI 320]) hn rfl rfl dX10_init_24 (by decide) (by decide) (by decide) ?_
  refine tv_putR (jt := 0) (v := n + 3) (t' := [.inr (9, [nw_rr (n + 1), nw_rr (n + 2), nw_rr (n + 3), nw_nn, some none, some none, nw_nn, nw_nn, some none, some none, some none, some none, some none, some none, nw_nn, nw_nn, nw_nn, nw_nn, nw_nn, nw_nn, nw_nn, nw_nn, some none, some none, some none, some none, some none, some none, nw_nn]), nw_sI 8, nw_sI 8, nw_sI 320]) hn rfl rfl rfl fX10_16 dX10_init_26 (Nat.le_of_ble_eq_true rfl) (by decide) rfl rfl rfl rfl rfl rfl ?_
  refine ev_aload_n (i := 0) dX10_init_29 rfl rfl ?_
  refine ev_bipush (v := 40) dX10_init_30 kb_40 ?_
  refine tv_newI (N := 40) (j := 4) (kc := 13) (ks := 1231) (t' := [.inr (9, [nw_rr (n + 1), nw_rr (n + 2), nw_rr (n + 3), nw_nn, some none, some none, nw_nn, nw_nn, some none, some none, some none, some none, some none, some none, nw_nn, nw_nn, nw_nn, nw_nn, nw_nn, nw_nn, nw_nn, nw_nn, some none, some none, some none, some none, some none, some none, nw_nn]), nw_sI 8, nw_sI 8, nw_sI 320, nw_sI 40]) hn rfl rfl dX10_init_32 (by decide) (by decide) (by decide) ?_
  refine tv_putR (jt := 0) (v := n + 4) (t' := [.inr (9, [nw_rr (n + 1), nw_rr (n + 2), nw_rr (n + 3), nw_nn, nw_rr (n + 4), some none, nw_nn, nw_nn, some none, some none, some none, some none, some none, some none, nw_nn, nw_nn, nw_nn, nw_nn, nw_nn, nw_nn, nw_nn, nw_nn, some none, some none, some none, some none, some none, some none, nw_nn]), nw_sI 8, nw_sI 8, nw_sI 320, nw_sI 40]) hn rfl rfl rfl fX10_19 dX10_init_34 (Nat.le_of_ble_eq_true rfl) (by decide) rfl rfl rfl rfl rfl rfl ?_
  refine ev_aload_n (i := 0) dX10_init_37 rfl rfl ?_
  refine ev_sipush (v := 160) dX10_init_38 ks_160 ?_
  refine tv_newI (N := 160) (j := 5) (kc := 12) (ks := 1071) (t' := [.inr (9, [nw_rr (n + 1), nw_rr (n + 2), nw_rr (n + 3), nw_nn, nw_rr (n + 4), some none, nw_nn, nw_nn, some none, some none, some none, some none, some none, some none, nw_nn, nw_nn, nw_nn, nw_nn, nw_nn, nw_nn, nw_nn, nw_nn, some none, some none, some none, some none, some none, some none, nw_nn]), nw_sI 8, nw_sI 8, nw_sI 320, nw_sI 40, nw_sI 160]) hn rfl rfl dX10_init_41 (by decide) (by decide) (by decide) ?_
  refine tv_putR (jt := 0) (v := n + 5) (t' := [.inr (9, [nw_rr (n + 1), nw_rr (n + 2), nw_rr (n + 3), nw_nn, nw_rr (n + 4), nw_rr (n + 5), nw_nn, nw_nn, some none, some none, some none, some none, some none, some none, nw_nn, nw_nn, nw_nn, nw_nn, nw_nn, nw_nn, nw_nn, nw_nn, some none, some none, some none, some none, some none, some none, nw_nn]), nw_sI 8, nw_sI 8, nw_sI 320, nw_sI 40, nw_sI 160]) hn rfl rfl rfl fX10_22 dX10_init_43 (Nat.le_of_ble_eq_true rfl) (by decide) rfl rfl rfl rfl rfl rfl ?_
  refine ev_aload_n (i := 0) dX10_init_46 rfl rfl ?_
  refine ev_bipush (v := 55) dX10_init_47 kb_55 ?_
  refine tv_newI (N := 55) (j := 6) (kc := 11) (ks := 1016) (t' := [.inr (9, [nw_rr (n + 1), nw_rr (n + 2), nw_rr (n + 3), nw_nn, nw_rr (n + 4), nw_rr (n + 5), nw_nn, nw_nn, some none, some none, some none, some none, some none, some none, nw_nn, nw_nn, nw_nn, nw_nn, nw_nn, nw_nn, nw_nn, nw_nn, some none, some none, some none, some none, some none, some none, nw_nn]), nw_sI 8, nw_sI 8, nw_sI 320, nw_sI 40, nw_sI 160, nw_sI 55]) hn rfl rfl dX10_init_49 (by decide) (by decide) (by decide) ?_
  refine tv_putR (jt := 0) (v := n + 6) (t' := [.inr (9, [nw_rr (n + 1), nw_rr (n + 2), nw_rr (n + 3), nw_nn, nw_rr (n + 4), nw_rr (n + 5), nw_nn, nw_nn, nw_rr (n + 6), some none, some none, some none, some none, some none, nw_nn, nw_nn, nw_nn, nw_nn, nw_nn, nw_nn, nw_nn, nw_nn, some none, some none, some none, some none, some none, some none, nw_nn]), nw_sI 8, nw_sI 8, nw_sI 320, nw_sI 40, nw_sI 160, nw_sI 55]) hn rfl rfl rfl fX10_25 dX10_init_51 (Nat.le_of_ble_eq_true rfl) (by decide) rfl rfl rfl rfl rfl rfl ?_
  refine ev_aload_n (i := 0) dX10_init_54 rfl rfl ?_
  refine ev_bipush (v := 29) dX10_init_55 kb_29 ?_
  refine tv_newI (N := 29) (j := 7) (kc := 10) (ks := 987) (t' := [.inr (9, [nw_rr (n + 1), nw_rr (n + 2), nw_rr (n + 3), nw_nn, nw_rr (n + 4), nw_rr (n + 5), nw_nn, nw_nn, nw_rr (n + 6), some none, some none, some none, some none, some none, nw_nn, nw_nn, nw_nn, nw_nn, nw_nn, nw_nn, nw_nn, nw_nn, some none, some none, some none, some none, some none, some none, nw_nn]), nw_sI 8, nw_sI 8, nw_sI 320, nw_sI 40, nw_sI 160, nw_sI 55, nw_sI 29]) hn rfl rfl dX10_init_57 (by decide) (by decide) (by decide) ?_
  refine tv_putR (jt := 0) (v := n + 7) (t' := [.inr (9, [nw_rr (n + 1), nw_rr (n + 2), nw_rr (n + 3), nw_nn, nw_rr (n + 4), nw_rr (n + 5), nw_nn, nw_nn, nw_rr (n + 6), nw_rr (n + 7), some none, some none, some none, some none, nw_nn, nw_nn, nw_nn, nw_nn, nw_nn, nw_nn, nw_nn, nw_nn, some none, some none, some none, some none, some none, some none, nw_nn]), nw_sI 8, nw_sI 8, nw_sI 320, nw_sI 40, nw_sI 160, nw_sI 55, nw_sI 29]) hn rfl rfl rfl fX10_28 dX10_init_59 (Nat.le_of_ble_eq_true rfl) (by decide) rfl rfl rfl rfl rfl rfl ?_
  refine ev_aload_n (i := 0) dX10_init_62 rfl rfl ?_
  refine ev_bipush (v := 55) dX10_init_63 kb_55 ?_
  refine tv_newI (N := 55) (j := 8) (kc := 9) (ks := 932) (t' := [.inr (9, [nw_rr (n + 1), nw_rr (n + 2), nw_rr (n + 3), nw_nn, nw_rr (n + 4), nw_rr (n + 5), nw_nn, nw_nn, nw_rr (n + 6), nw_rr (n + 7), some none, some none, some none, some none, nw_nn, nw_nn, nw_nn, nw_nn, nw_nn, nw_nn, nw_nn, nw_nn, some none, some none, some none, some none, some none, some none, nw_nn]), nw_sI 8, nw_sI 8, nw_sI 320, nw_sI 40, nw_sI 160, nw_sI 55, nw_sI 29, nw_sI 55]) hn rfl rfl dX10_init_65 (by decide) (by decide) (by decide) ?_
  refine tv_putR (jt := 0) (v := n + 8) (t' := [.inr (9, [nw_rr (n + 1), nw_rr (n + 2), nw_rr (n + 3), nw_nn, nw_rr (n + 4), nw_rr (n + 5), nw_nn, nw_nn, nw_rr (n + 6), nw_rr (n + 7), nw_rr (n + 8), some none, some none, some none, nw_nn, nw_nn, nw_nn, nw_nn, nw_nn, nw_nn, nw_nn, nw_nn, some none, some none, some none, some none, some none, some none, nw_nn]), nw_sI 8, nw_sI 8, nw_sI 320, nw_sI 40, nw_sI 160, nw_sI 55, nw_sI 29, nw_sI 55]) hn rfl rfl rfl fX10_31 dX10_init_67 (Nat.le_of_ble_eq_true rfl) (by decide) rfl rfl rfl rfl rfl rfl ?_
  refine ev_aload_n (i := 0) dX10_init_70 rfl rfl ?_
  refine ev_sipush (v := 168) dX10_init_71 ks_168 ?_
  refine tv_newI (N := 168) (j := 9) (kc := 8) (ks := 764) (t' := [.inr (9, [nw_rr (n + 1), nw_rr (n + 2), nw_rr (n + 3), nw_nn, nw_rr (n + 4), nw_rr (n + 5), nw_nn, nw_nn, nw_rr (n + 6), nw_rr (n + 7), nw_rr (n + 8), some none, some none, some none, nw_nn, nw_nn, nw_nn, nw_nn, nw_nn, nw_nn, nw_nn, nw_nn, some none, some none, some none, some none, some none, some none, nw_nn]), nw_sI 8, nw_sI 8, nw_sI 320, nw_sI 40, nw_sI 160, nw_sI 55, nw_sI 29, nw_sI 55, nw_sI 168]) hn rfl rfl dX10_init_74 (by decide) (by decide) (by decide) ?_
  refine tv_putR (jt := 0) (v := n + 9) (t' := [.inr (9, [nw_rr (n + 1), nw_rr (n + 2), nw_rr (n + 3), nw_nn, nw_rr (n + 4), nw_rr (n + 5), nw_nn, nw_nn, nw_rr (n + 6), nw_rr (n + 7), nw_rr (n + 8), nw_rr (n + 9), some none, some none, nw_nn, nw_nn, nw_nn, nw_nn, nw_nn, nw_nn, nw_nn, nw_nn, some none, some none, some none, some none, some none, some none, nw_nn]), nw_sI 8, nw_sI 8, nw_sI 320, nw_sI 40, nw_sI 160, nw_sI 55, nw_sI 29, nw_sI 55, nw_sI 168]) hn rfl rfl rfl fX10_34 dX10_init_76 (Nat.le_of_ble_eq_true rfl) (by decide) rfl rfl rfl rfl rfl rfl ?_
  refine ev_aload_n (i := 0) dX10_init_79 rfl rfl ?_
  refine ev_iconst (v := 2) dX10_init_80 kc_2 ?_
  refine tv_newZ (N := 2) (j := 10) (kc := 7) (ks := 762) (t' := [.inr (9, [nw_rr (n + 1), nw_rr (n + 2), nw_rr (n + 3), nw_nn, nw_rr (n + 4), nw_rr (n + 5), nw_nn, nw_nn, nw_rr (n + 6), nw_rr (n + 7), nw_rr (n + 8), nw_rr (n + 9), some none, some none, nw_nn, nw_nn, nw_nn, nw_nn, nw_nn, nw_nn, nw_nn, nw_nn, some none, some none, some none, some none, some none, some none, nw_nn]), nw_sI 8, nw_sI 8, nw_sI 320, nw_sI 40, nw_sI 160, nw_sI 55, nw_sI 29, nw_sI 55, nw_sI 168, .inl (1, 2)]) hn rfl rfl dX10_init_81 (by decide) (by decide) (by decide) ?_
  refine tv_putR (jt := 0) (v := n + 10) (t' := [.inr (9, [nw_rr (n + 1), nw_rr (n + 2), nw_rr (n + 3), nw_nn, nw_rr (n + 4), nw_rr (n + 5), nw_nn, nw_nn, nw_rr (n + 6), nw_rr (n + 7), nw_rr (n + 8), nw_rr (n + 9), nw_rr (n + 10), some none, nw_nn, nw_nn, nw_nn, nw_nn, nw_nn, nw_nn, nw_nn, nw_nn, some none, some none, some none, some none, some none, some none, nw_nn]), nw_sI 8, nw_sI 8, nw_sI 320, nw_sI 40, nw_sI 160, nw_sI 55, nw_sI 29, nw_sI 55, nw_sI 168, .inl (1, 2)]) hn rfl rfl rfl fX10_37 dX10_init_83 (Nat.le_of_ble_eq_true rfl) (by decide) rfl rfl rfl rfl rfl rfl ?_
  refine ev_aload_n (i := 0) dX10_init_86 rfl rfl ?_
  refine ev_sipush (v := 696) dX10_init_87 ks_696 ?_
  refine tv_newI (N := 696) (j := 11) (kc := 6) (ks := 66) (t' := [.inr (9, [nw_rr (n + 1), nw_rr (n + 2), nw_rr (n + 3), nw_nn, nw_rr (n + 4), nw_rr (n + 5), nw_nn, nw_nn, nw_rr (n + 6), nw_rr (n + 7), nw_rr (n + 8), nw_rr (n + 9), nw_rr (n + 10), some none, nw_nn, nw_nn, nw_nn, nw_nn, nw_nn, nw_nn, nw_nn, nw_nn, some none, some none, some none, some none, some none, some none, nw_nn]), nw_sI 8, nw_sI 8, nw_sI 320, nw_sI 40, nw_sI 160, nw_sI 55, nw_sI 29, nw_sI 55, nw_sI 168, .inl (1, 2), nw_sI 696]) hn rfl rfl dX10_init_90 (by decide) (by decide) (by decide) ?_
  refine tv_putR (jt := 0) (v := n + 11) (t' := [.inr (9, [nw_rr (n + 1), nw_rr (n + 2), nw_rr (n + 3), nw_nn, nw_rr (n + 4), nw_rr (n + 5), nw_nn, nw_nn, nw_rr (n + 6), nw_rr (n + 7), nw_rr (n + 8), nw_rr (n + 9), nw_rr (n + 10), nw_rr (n + 11), nw_nn, nw_nn, nw_nn, nw_nn, nw_nn, nw_nn, nw_nn, nw_nn, some none, some none, some none, some none, some none, some none, nw_nn]), nw_sI 8, nw_sI 8, nw_sI 320, nw_sI 40, nw_sI 160, nw_sI 55, nw_sI 29, nw_sI 55, nw_sI 168, .inl (1, 2), nw_sI 696]) hn rfl rfl rfl fX10_41 dX10_init_92 (Nat.le_of_ble_eq_true rfl) (by decide) rfl rfl rfl rfl rfl rfl ?_
  refine ev_aload_n (i := 0) dX10_init_95 rfl rfl ?_
  refine ev_iconst (v := 3) dX10_init_96 kc_3 ?_
  refine tv_newI (N := 3) (j := 12) (kc := 5) (ks := 63) (t' := [.inr (9, [nw_rr (n + 1), nw_rr (n + 2), nw_rr (n + 3), nw_nn, nw_rr (n + 4), nw_rr (n + 5), nw_nn, nw_nn, nw_rr (n + 6), nw_rr (n + 7), nw_rr (n + 8), nw_rr (n + 9), nw_rr (n + 10), nw_rr (n + 11), nw_nn, nw_nn, nw_nn, nw_nn, nw_nn, nw_nn, nw_nn, nw_nn, some none, some none, some none, some none, some none, some none, nw_nn]), nw_sI 8, nw_sI 8, nw_sI 320, nw_sI 40, nw_sI 160, nw_sI 55, nw_sI 29, nw_sI 55, nw_sI 168, .inl (1, 2), nw_sI 696, nw_sI 3]) hn rfl rfl dX10_init_97 (by decide) (by decide) (by decide) ?_
  refine tv_putR (jt := 0) (v := n + 12) (t' := [.inr (9, [nw_rr (n + 1), nw_rr (n + 2), nw_rr (n + 3), nw_nn, nw_rr (n + 4), nw_rr (n + 5), nw_nn, nw_nn, nw_rr (n + 6), nw_rr (n + 7), nw_rr (n + 8), nw_rr (n + 9), nw_rr (n + 10), nw_rr (n + 11), nw_nn, nw_nn, nw_nn, nw_nn, nw_nn, nw_nn, nw_nn, nw_nn, nw_rr (n + 12), some none, some none, some none, some none, some none, nw_nn]), nw_sI 8, nw_sI 8, nw_sI 320, nw_sI 40, nw_sI 160, nw_sI 55, nw_sI 29, nw_sI 55, nw_sI 168, .inl (1, 2), nw_sI 696, nw_sI 3]) hn rfl rfl rfl fX10_44 dX10_init_99 (Nat.le_of_ble_eq_true rfl) (by decide) rfl rfl rfl rfl rfl rfl ?_
  refine ev_aload_n (i := 0) dX10_init_102 rfl rfl ?_
  refine ev_bipush (v := 6) dX10_init_103 kb_6 ?_
  refine tv_newI (N := 6) (j := 13) (kc := 4) (ks := 57) (t' := [.inr (9, [nw_rr (n + 1), nw_rr (n + 2), nw_rr (n + 3), nw_nn, nw_rr (n + 4), nw_rr (n + 5), nw_nn, nw_nn, nw_rr (n + 6), nw_rr (n + 7), nw_rr (n + 8), nw_rr (n + 9), nw_rr (n + 10), nw_rr (n + 11), nw_nn, nw_nn, nw_nn, nw_nn, nw_nn, nw_nn, nw_nn, nw_nn, nw_rr (n + 12), some none, some none, some none, some none, some none, nw_nn]), nw_sI 8, nw_sI 8, nw_sI 320, nw_sI 40, nw_sI 160, nw_sI 55, nw_sI 29, nw_sI 55, nw_sI 168, .inl (1, 2), nw_sI 696, nw_sI 3, nw_sI 6]) hn rfl rfl dX10_init_105 (by decide) (by decide) (by decide) ?_
  refine tv_putR (jt := 0) (v := n + 13) (t' := [.inr (9, [nw_rr (n + 1), nw_rr (n + 2), nw_rr (n + 3), nw_nn, nw_rr (n + 4), nw_rr (n + 5), nw_nn, nw_nn, nw_rr (n + 6), nw_rr (n + 7), nw_rr (n + 8), nw_rr (n + 9), nw_rr (n + 10), nw_rr (n + 11), nw_nn, nw_nn, nw_nn, nw_nn, nw_nn, nw_nn, nw_nn, nw_nn, nw_rr (n + 12), nw_rr (n + 13), some none, some none, some none, some none, nw_nn]), nw_sI 8, nw_sI 8, nw_sI 320, nw_sI 40, nw_sI 160, nw_sI 55, nw_sI 29, nw_sI 55, nw_sI 168, .inl (1, 2), nw_sI 696, nw_sI 3, nw_sI 6]) hn rfl rfl rfl fX10_47 dX10_init_107 (Nat.le_of_ble_eq_true rfl) (by decide) rfl rfl rfl rfl rfl rfl ?_
  refine ev_aload_n (i := 0) dX10_init_110 rfl rfl ?_
  refine ev_bipush (v := 29) dX10_init_111 kb_29 ?_
  refine tv_newI (N := 29) (j := 14) (kc := 3) (ks := 28) (t' := [.inr (9, [nw_rr (n + 1), nw_rr (n + 2), nw_rr (n + 3), nw_nn, nw_rr (n + 4), nw_rr (n + 5), nw_nn, nw_nn, nw_rr (n + 6), nw_rr (n + 7), nw_rr (n + 8), nw_rr (n + 9), nw_rr (n + 10), nw_rr (n + 11), nw_nn, nw_nn, nw_nn, nw_nn, nw_nn, nw_nn, nw_nn, nw_nn, nw_rr (n + 12), nw_rr (n + 13), some none, some none, some none, some none, nw_nn]), nw_sI 8, nw_sI 8, nw_sI 320, nw_sI 40, nw_sI 160, nw_sI 55, nw_sI 29, nw_sI 55, nw_sI 168, .inl (1, 2), nw_sI 696, nw_sI 3, nw_sI 6, nw_sI 29]) hn rfl rfl dX10_init_113 (by decide) (by decide) (by decide) ?_
  refine tv_putR (jt := 0) (v := n + 14) (t' := [.inr (9, [nw_rr (n + 1), nw_rr (n + 2), nw_rr (n + 3), nw_nn, nw_rr (n + 4), nw_rr (n + 5), nw_nn, nw_nn, nw_rr (n + 6), nw_rr (n + 7), nw_rr (n + 8), nw_rr (n + 9), nw_rr (n + 10), nw_rr (n + 11), nw_nn, nw_nn, nw_nn, nw_nn, nw_nn, nw_nn, nw_nn, nw_nn, nw_rr (n + 12), nw_rr (n + 13), nw_rr (n + 14), some none, some none, some none, nw_nn]), nw_sI 8, nw_sI 8, nw_sI 320, nw_sI 40, nw_sI 160, nw_sI 55, nw_sI 29, nw_sI 55, nw_sI 168, .inl (1, 2), nw_sI 696, nw_sI 3, nw_sI 6, nw_sI 29]) hn rfl rfl rfl fX10_50 dX10_init_115 (Nat.le_of_ble_eq_true rfl) (by decide) rfl rfl rfl rfl rfl rfl ?_
  refine ev_aload_n (i := 0) dX10_init_118 rfl rfl ?_
  refine ev_bipush (v := 6) dX10_init_119 kb_6 ?_
  refine tv_newI (N := 6) (j := 15) (kc := 2) (ks := 22) (t' := [.inr (9, [nw_rr (n + 1), nw_rr (n + 2), nw_rr (n + 3), nw_nn, nw_rr (n + 4), nw_rr (n + 5), nw_nn, nw_nn, nw_rr (n + 6), nw_rr (n + 7), nw_rr (n + 8), nw_rr (n + 9), nw_rr (n + 10), nw_rr (n + 11), nw_nn, nw_nn, nw_nn, nw_nn, nw_nn, nw_nn, nw_nn, nw_nn, nw_rr (n + 12), nw_rr (n + 13), nw_rr (n + 14), some none, some none, some none, nw_nn]), nw_sI 8, nw_sI 8, nw_sI 320, nw_sI 40, nw_sI 160, nw_sI 55, nw_sI 29, nw_sI 55, nw_sI 168, .inl (1, 2), nw_sI 696, nw_sI 3, nw_sI 6, nw_sI 29, nw_sI 6]) hn rfl rfl dX10_init_121 (by decide) (by decide) (by decide) ?_
  refine tv_putR (jt := 0) (v := n + 15) (t' := [.inr (9, [nw_rr (n + 1), nw_rr (n + 2), nw_rr (n + 3), nw_nn, nw_rr (n + 4), nw_rr (n + 5), nw_nn, nw_nn, nw_rr (n + 6), nw_rr (n + 7), nw_rr (n + 8), nw_rr (n + 9), nw_rr (n + 10), nw_rr (n + 11), nw_nn, nw_nn, nw_nn, nw_nn, nw_nn, nw_nn, nw_nn, nw_nn, nw_rr (n + 12), nw_rr (n + 13), nw_rr (n + 14), nw_rr (n + 15), some none, some none, nw_nn]), nw_sI 8, nw_sI 8, nw_sI 320, nw_sI 40, nw_sI 160, nw_sI 55, nw_sI 29, nw_sI 55, nw_sI 168, .inl (1, 2), nw_sI 696, nw_sI 3, nw_sI 6, nw_sI 29, nw_sI 6]) hn rfl rfl rfl fX10_53 dX10_init_123 (Nat.le_of_ble_eq_true rfl) (by decide) rfl rfl rfl rfl rfl rfl ?_
  refine ev_aload_n (i := 0) dX10_init_126 rfl rfl ?_
  refine ev_bipush (v := 6) dX10_init_127 kb_6 ?_
  refine tv_newI (N := 6) (j := 16) (kc := 1) (ks := 16) (t' := [.inr (9, [nw_rr (n + 1), nw_rr (n + 2), nw_rr (n + 3), nw_nn, nw_rr (n + 4), nw_rr (n + 5), nw_nn, nw_nn, nw_rr (n + 6), nw_rr (n + 7), nw_rr (n + 8), nw_rr (n + 9), nw_rr (n + 10), nw_rr (n + 11), nw_nn, nw_nn, nw_nn, nw_nn, nw_nn, nw_nn, nw_nn, nw_nn, nw_rr (n + 12), nw_rr (n + 13), nw_rr (n + 14), nw_rr (n + 15), some none, some none, nw_nn]), nw_sI 8, nw_sI 8, nw_sI 320, nw_sI 40, nw_sI 160, nw_sI 55, nw_sI 29, nw_sI 55, nw_sI 168, .inl (1, 2), nw_sI 696, nw_sI 3, nw_sI 6, nw_sI 29, nw_sI 6, nw_sI 6]) hn rfl rfl dX10_init_129 (by decide) (by decide) (by decide) ?_
  refine tv_putR (jt := 0) (v := n + 16) (t' := [.inr (9, [nw_rr (n + 1), nw_rr (n + 2), nw_rr (n + 3), nw_nn, nw_rr (n + 4), nw_rr (n + 5), nw_nn, nw_nn, nw_rr (n + 6), nw_rr (n + 7), nw_rr (n + 8), nw_rr (n + 9), nw_rr (n + 10), nw_rr (n + 11), nw_nn, nw_nn, nw_nn, nw_nn, nw_nn, nw_nn, nw_nn, nw_nn, nw_rr (n + 12), nw_rr (n + 13), nw_rr (n + 14), nw_rr (n + 15), nw_rr (n + 16), some none, nw_nn]), nw_sI 8, nw_sI 8, nw_sI 320, nw_sI 40, nw_sI 160, nw_sI 55, nw_sI 29, nw_sI 55, nw_sI 168, .inl (1, 2), nw_sI 696, nw_sI 3, nw_sI 6, nw_sI 29, nw_sI 6, nw_sI 6]) hn rfl rfl rfl fX10_56 dX10_init_131 (Nat.le_of_ble_eq_true rfl) (by decide) rfl rfl rfl rfl rfl rfl ?_
  refine ev_aload_n (i := 0) dX10_init_134 rfl rfl ?_
  refine ev_bipush (v := 16) dX10_init_135 kb_16 ?_
  refine tv_newI (N := 16) (j := 17) (kc := 0) (ks := 0) (t' := [.inr (9, [nw_rr (n + 1), nw_rr (n + 2), nw_rr (n + 3), nw_nn, nw_rr (n + 4), nw_rr (n + 5), nw_nn, nw_nn, nw_rr (n + 6), nw_rr (n + 7), nw_rr (n + 8), nw_rr (n + 9), nw_rr (n + 10), nw_rr (n + 11), nw_nn, nw_nn, nw_nn, nw_nn, nw_nn, nw_nn, nw_nn, nw_nn, nw_rr (n + 12), nw_rr (n + 13), nw_rr (n + 14), nw_rr (n + 15), nw_rr (n + 16), some none, nw_nn]), nw_sI 8, nw_sI 8, nw_sI 320, nw_sI 40, nw_sI 160, nw_sI 55, nw_sI 29, nw_sI 55, nw_sI 168, .inl (1, 2), nw_sI 696, nw_sI 3, nw_sI 6, nw_sI 29, nw_sI 6, nw_sI 6, nw_sI 16]) hn rfl rfl dX10_init_137 (by decide) (by decide) (by decide) ?_
  refine tv_putR (jt := 0) (v := n + 17) (t' := [.inr (9, [nw_rr (n + 1), nw_rr (n + 2), nw_rr (n + 3), nw_nn, nw_rr (n + 4), nw_rr (n + 5), nw_nn, nw_nn, nw_rr (n + 6), nw_rr (n + 7), nw_rr (n + 8), nw_rr (n + 9), nw_rr (n + 10), nw_rr (n + 11), nw_nn, nw_nn, nw_nn, nw_nn, nw_nn, nw_nn, nw_nn, nw_nn, nw_rr (n + 12), nw_rr (n + 13), nw_rr (n + 14), nw_rr (n + 15), nw_rr (n + 16), nw_rr (n + 17), nw_nn]), nw_sI 8, nw_sI 8, nw_sI 320, nw_sI 40, nw_sI 160, nw_sI 55, nw_sI 29, nw_sI 55, nw_sI 168, .inl (1, 2), nw_sI 696, nw_sI 3, nw_sI 6, nw_sI 29, nw_sI 6, nw_sI 6, nw_sI 16]) hn rfl rfl rfl fX10_59 dX10_init_139 (Nat.le_of_ble_eq_true rfl) (by decide) rfl rfl rfl rfl rfl rfl ?_
  refine ev_iconst (v := 0) dX10_init_142 kc_0 ?_
  refine ev_istore_n (i := 1) dX10_init_143 rfl (Nat.le_of_ble_eq_true rfl) rfl ?_
  refine l_model0 hn 8 0 _ rfl (fun r hr => absurd hr (Nat.not_lt_zero r)) (fun i => ?_) (fun i => ?_) (fun i => ?_) (fun i => ?_) (fun a ha => ?_)
  · simp [nw_z]
  · simp [nw_z]
  · simp [nw_z]
  · simp [nw_z]
  · funext i; simp [nw_z, show ∀ j : Nat, a ≠ n + j from fun j => by omega]
end
