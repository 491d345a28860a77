section
variable {l : Launch} {g : nw_G} {I : nw_Me} {N T S : Nat} {b : Bool}
/-! NinthWave: what holds of its cells, and its methods. -/
def nv_sok (T S : Nat) (F : Nat → Int32) : Prop := nv_fok F S ∧ (∀ p q, p < S → q < S → F (5 + p) = F (5 + q) → p = q) ∧ (∃ v, v ≤ 999 ∧ F 0 = nI v) ∧ (∃ k, 2 ≤ k ∧ k ≤ 12 ∧ F 1 = nI k) ∧ ∀ s, s < S → ∃ t, t < T ∧ F (11 + s) = nI t
def nv_kok (N : Nat) (C : Nat → Int32) : Prop := ∀ j, j < N → ∃ t, 1 ≤ t ∧ t ≤ 5 ∧ C (6 + j) = nI t
def nv_W (I : nw_Me) (b : Bool) (N T S : Nat) : Prop := I 0 10 = nw_bi b ∧ nv_cok (nv_cf I 15) N T S ∧ ((b = true ∧ 0 < N ∧ 0 < T ∧ nv_kok N (nv_cf I 15) ∧ nv_sok T S (nv_fl I 25)) ∨ (b = false ∧ N = 0 ∧ T = 0 ∧ S = 0))
theorem nv_in_S {x : Int32} {S : Nat} (hS : S < 2 ^ 30) (h : nv_in x 0 (nI S - 1) = true) : ∃ s, s < S ∧ x = nI s := by
  simp only [nv_in, Bool.and_eq_true, decide_eq_true_eq] at h
  obtain ⟨s, hs, rfl⟩ := nI_of h.1
  refine ⟨s, ?_, rfl⟩
  cases S with
  | zero =>
    exfalso
    refine h.2 ?_
    have e : nI 0 - 1 = (-1 : Int32) := by decide
    rw [e]
    rw [Int32.lt_iff_toInt_lt, nI_toInt hs]
    have e2 : (-1 : Int32).toInt = -1 := by decide
    rw [e2]
    omega
  | succ S =>
    have h2 := h.2
    rw [nI_pred, nI_ltI (by omega) hs] at h2
    omega
theorem nv_in_T {S s : Nat} (hS : S < 2 ^ 30) (h : s < S) : nv_in (nI s) 0 (nI S - 1) = true := by
  simp only [nv_in, Bool.and_eq_true, decide_eq_true_eq]
  refine ⟨nI_pos (by omega), ?_⟩
  cases S with
  | zero => omega
  | succ S => rw [nI_pred, nI_ltI (by omega) (by omega)]; omega
theorem nv_in_n {x : Int32} {a c : Nat} (h : nv_in x (nI a) (nI c) = true) (hc : c < 2 ^ 31) (ha : a < 2 ^ 31) : ∃ n, a ≤ n ∧ n ≤ c ∧ x = nI n := by
  simp only [nv_in, Bool.and_eq_true, decide_eq_true_eq] at h
  obtain ⟨n, hn, rfl⟩ := nI_of (x := x) (fun q => h.1 (by rw [Int32.lt_iff_toInt_lt] at q ⊢; rw [nI_toInt ha]; have e : (0 : Int32).toInt = 0 := by decide
                                                          rw [e] at q; omega))
  rw [nI_ltI hn ha, nI_ltI hc hn] at h
  exact ⟨n, by omega, by omega, rfl⟩
theorem c_isRow (x : Int32) : nw_dZ l g 1 mX9_isRow [.ref (nw_a g 0), .int x] I (nv_in x 0 7) I := by
  refine ⟨(Nat.le_of_ble_eq_true rfl), ?_⟩
  refine ev_iload_n (i := 1) dX9_isRow_0 rfl rfl ?_
  refine ev_iconst (v := 0) dX9_isRow_1 kc_0 ?_
  refine ev_bipush (v := 7) dX9_isRow_2 kb_7 ?_
  refine s_dSz (As := [_, _, _]) (c_within _ _ _) (Nat.le_of_ble_eq_true rfl) lX9_75 kX9_within sX9_within dX9_isRow_4 rfl rfl (Nat.le_of_ble_eq_true rfl) ?_
  exact s_retZ dX9_isRow_7 ⟨rfl, rfl⟩
theorem c_isSwell (x : Int32) : nw_dZ l g 1 mX9_isSwell [.ref (nw_a g 0), .int x] I (nv_in x 0 (I 15 2 - 1)) I := by
  refine ⟨(Nat.le_of_ble_eq_true rfl), ?_⟩
  refine ev_iload_n (i := 1) dX9_isSwell_0 rfl rfl ?_
  refine ev_iconst (v := 0) dX9_isSwell_1 kc_0 ?_
  refine ev_aload_n (i := 0) dX9_isSwell_2 rfl rfl ?_
  refine ev_getR fX9_26 dX9_isSwell_3 rfl rfl (by decide) ?_
  refine ev_getI fX9_153 dX9_isSwell_6 rfl rfl (by decide) ?_
  refine ev_iconst (v := 1) dX9_isSwell_9 kc_1 ?_
  refine ev_isub dX9_isSwell_10 ?_
  refine s_dSz (As := [_, _, _]) (c_within _ _ _) (Nat.le_of_ble_eq_true rfl) lX9_75 kX9_within sX9_within dX9_isSwell_11 rfl rfl (Nat.le_of_ble_eq_true rfl) ?_
  exact s_retZ dX9_isSwell_14 ⟨rfl, rfl⟩
theorem c_isTower (x : Int32) : nw_dZ l g 1 mX9_isTower [.ref (nw_a g 0), .int x] I (nv_in x 0 (I 15 3 - 1)) I := by
  refine ⟨(Nat.le_of_ble_eq_true rfl), ?_⟩
  refine ev_iload_n (i := 1) dX9_isTower_0 rfl rfl ?_
  refine ev_iconst (v := 0) dX9_isTower_1 kc_0 ?_
  refine ev_aload_n (i := 0) dX9_isTower_2 rfl rfl ?_
  refine ev_getR fX9_26 dX9_isTower_3 rfl rfl (by decide) ?_
  refine ev_getI fX9_274 dX9_isTower_6 rfl rfl (by decide) ?_
  refine ev_iconst (v := 1) dX9_isTower_9 kc_1 ?_
  refine ev_isub dX9_isTower_10 ?_
  refine s_dSz (As := [_, _, _]) (c_within _ _ _) (Nat.le_of_ble_eq_true rfl) lX9_75 kX9_within sX9_within dX9_isTower_11 rfl rfl (Nat.le_of_ble_eq_true rfl) ?_
  exact s_retZ dX9_isTower_14 ⟨rfl, rfl⟩
theorem c_isShip (x : Int32) : nw_dZ l g 1 mX9_isShip [.ref (nw_a g 0), .int x] I (nv_in x 0 (I 15 4 - 1)) I := by
  refine ⟨(Nat.le_of_ble_eq_true rfl), ?_⟩
  refine ev_iload_n (i := 1) dX9_isShip_0 rfl rfl ?_
  refine ev_iconst (v := 0) dX9_isShip_1 kc_0 ?_
  refine ev_aload_n (i := 0) dX9_isShip_2 rfl rfl ?_
  refine ev_getR fX9_26 dX9_isShip_3 rfl rfl (by decide) ?_
  refine ev_getI fX9_250 dX9_isShip_6 rfl rfl (by decide) ?_
  refine ev_iconst (v := 1) dX9_isShip_9 kc_1 ?_
  refine ev_isub dX9_isShip_10 ?_
  refine s_dSz (As := [_, _, _]) (c_within _ _ _) (Nat.le_of_ble_eq_true rfl) lX9_75 kX9_within sX9_within dX9_isShip_11 rfl rfl (Nat.le_of_ble_eq_true rfl) ?_
  exact s_retZ dX9_isShip_14 ⟨rfl, rfl⟩
theorem c_found (x : Int32) : nw_dI l g 0 mX9_found [.ref (nw_a g 0), .int x] I (-1000010 - x) (nw_up I 0 12 x) := by
  refine ⟨(Nat.le_of_ble_eq_true rfl), ?_⟩
  refine ev_aload_n (i := 0) dX9_found_0 rfl rfl ?_
  refine ev_iload_n (i := 1) dX9_found_1 rfl rfl ?_
  refine ev_putI fX9_335 dX9_found_2 rfl rfl (by decide) rfl rfl rfl rfl ?_
  refine ev_ldcw qX9_338 dX9_found_5 ?_
  refine ev_iload_n (i := 1) dX9_found_8 rfl rfl ?_
  refine ev_isub dX9_found_9 ?_
  exact s_retI dX9_found_10 ⟨rfl, rfl⟩
theorem c_fine (x : Int32) : nw_dI l g 0 mX9_fine [.ref (nw_a g 0), .int x] I x (nw_up I 0 12 0) := by
  refine ⟨(Nat.le_of_ble_eq_true rfl), ?_⟩
  refine ev_aload_n (i := 0) dX9_fine_0 rfl rfl ?_
  refine ev_iconst (v := 0) dX9_fine_1 kc_0 ?_
  refine ev_putI fX9_335 dX9_fine_2 rfl rfl (by decide) rfl rfl rfl rfl ?_
  refine ev_iload_n (i := 1) dX9_fine_5 rfl rfl ?_
  exact s_retI dX9_fine_6 ⟨rfl, rfl⟩
theorem x_row (x lane n : Int32) : nw_cI l g 2 mX9_row [.ref (nw_a g 0), .int x, .int lane, .int n] I (fun r I' => (r = -1000001 ∧ I' = I ∧ (nv_in x 0 7 = false ∨ nv_in lane 0 2 = false ∨ ¬ n ≤ 40)) ∨ (r = -1000010 - 4 ∧ I' = nw_up I 0 12 4 ∧ nv_in x 0 7 = true ∧ nv_in lane 0 2 = true ∧ n ≤ 40 ∧ ¬ 0 ≤ n) ∨ ∃ q m, x = nI q ∧ q < 8 ∧ n = nI m ∧ m ≤ 40 ∧ nv_in lane 0 2 = true ∧ r = n ∧ I' 0 12 = 0 ∧ I' 0 10 = I 0 10 ∧ I' 0 11 = I 0 11 ∧ I' 2 = upd (I 2) q lane ∧ I' 3 = upd (I 3) q n ∧ (∀ i, i < m → I' (5 + q) i = 0) ∧ ∀ k, k ≠ 0 → k ≠ 2 → k ≠ 3 → k ≠ 5 + q → I' k = I k) := by
  refine ⟨(Nat.le_of_ble_eq_true rfl), ?_⟩
  refine ev_aload_n (i := 0) dX9_row_0 rfl rfl ?_
  refine ev_iload_n (i := 1) dX9_row_1 rfl rfl ?_
  refine s_dVz (As := [_]) (c_isRow _) (Nat.le_of_ble_eq_true rfl) lX9_71 kX9_isRow vX9_isRow dX9_row_2 rfl rfl rfl (by decide) rfl (Nat.le_of_ble_eq_true rfl) ?_
  refine s_ifZ_eq (tgt := 23) dX9_row_5 (by decide) (fun h5 => ?_) (fun h5 => ?_)
  · refine ev_ldc qX9_79 dX9_row_23 ?_
    exact s_retI dX9_row_25 (by
      first
        | exact Or.inl ⟨rfl, rfl, by first | exact Or.inl h5 | exact Or.inr (Or.inl h14) | exact Or.inr (Or.inr h20)⟩
        | exact Or.inr (Or.inl ⟨rfl, rfl, h5, h14, h20, h27⟩)
        | exact Or.inr (Or.inr ⟨r, m, rfl, hr, rfl, hm, h14, rfl, by rw [nw_up_self, pk_us], by rw [nw_up_self, pk_un (by decide), hq.2.2.2 0 (by decide) (by decide) (by omega)], by rw [nw_up_self, pk_un (by decide), hq.2.2.2 0 (by decide) (by decide) (by omega)], by rw [nw_up_ne (by decide)]; exact hq.1, by rw [nw_up_ne (by decide)]; exact hq.2.1, fun i hi => by rw [nw_up_ne (by omega)]; exact hq.2.2.1 i hi, fun k k0 k2 k3 k5 => by rw [nw_up_ne k0]; exact hq.2.2.2 k k2 k3 k5⟩))
  · refine ev_iload_n (i := 2) dX9_row_8 rfl rfl ?_
    refine ev_iconst (v := 0) dX9_row_9 kc_0 ?_
    refine ev_iconst (v := 2) dX9_row_10 kc_2 ?_
    refine s_dSz (As := [_, _, _]) (c_within _ _ _) (Nat.le_of_ble_eq_true rfl) lX9_75 kX9_within sX9_within dX9_row_11 rfl rfl (Nat.le_of_ble_eq_true rfl) ?_
    refine s_ifZ_eq (tgt := 23) dX9_row_14 (by decide) (fun h14 => ?_) (fun h14 => ?_)
    · refine ev_ldc qX9_79 dX9_row_23 ?_
      exact s_retI dX9_row_25 (by
      first
        | exact Or.inl ⟨rfl, rfl, by first | exact Or.inl h5 | exact Or.inr (Or.inl h14) | exact Or.inr (Or.inr h20)⟩
        | exact Or.inr (Or.inl ⟨rfl, rfl, h5, h14, h20, h27⟩)
        | exact Or.inr (Or.inr ⟨r, m, rfl, hr, rfl, hm, h14, rfl, by rw [nw_up_self, pk_us], by rw [nw_up_self, pk_un (by decide), hq.2.2.2 0 (by decide) (by decide) (by omega)], by rw [nw_up_self, pk_un (by decide), hq.2.2.2 0 (by decide) (by decide) (by omega)], by rw [nw_up_ne (by decide)]; exact hq.1, by rw [nw_up_ne (by decide)]; exact hq.2.1, fun i hi => by rw [nw_up_ne (by omega)]; exact hq.2.2.1 i hi, fun k k0 k2 k3 k5 => by rw [nw_up_ne k0]; exact hq.2.2.2 k k2 k3 k5⟩))
    · refine ev_iload_n (i := 3) dX9_row_17 rfl rfl ?_
      refine ev_bipush (v := 40) dX9_row_18 kb_40 ?_
      refine ev_icmp_le (tgt := 26) dX9_row_20 (by decide) (fun h20 => ?_) (fun h20 => ?_)
      · refine ev_iload_n (i := 3) dX9_row_26 rfl rfl ?_
        refine ev_if_ge (tgt := 36) dX9_row_27 (by decide) (fun h27 => ?_) (fun h27 => ?_)
        · obtain ⟨r, hr, rfl⟩ := nv_in_S (S := 8) (by decide) h5
          have e40 : (40 : Int32) = nI 40 := by decide
          obtain ⟨m, hm0, rfl⟩ := nI_of (Int32.not_lt.mpr h27)
          have hm : m ≤ 40 := by rw [e40] at h20; exact (nI_leI (by omega) (by decide)).mp h20
          refine ev_aload_n (i := 0) dX9_row_36 rfl rfl ?_
          refine ev_getR fX9_10 dX9_row_37 rfl rfl (by decide) ?_
          refine ev_iload_n (i := 1) dX9_row_40 rfl rfl ?_
          refine ev_iload_n (i := 2) dX9_row_41 rfl rfl ?_
          refine ev_iload_n (i := 3) dX9_row_42 rfl rfl ?_
          refine s_callVv (As := [_, _, _]) (c_make hr hm _) (Nat.le_of_ble_eq_true rfl) lX9_84 kX7_make vX7_make dX9_row_43 rfl rfl rfl (by decide) rfl (Nat.le_of_ble_eq_true rfl) (fun J hq => ?_)
          refine ev_aload_n (i := 0) dX9_row_46 rfl rfl ?_
          refine ev_iload_n (i := 3) dX9_row_47 rfl rfl ?_
          refine s_dVi (As := [_]) (c_fine _) (Nat.le_of_ble_eq_true rfl) lX9_88 kX9_fine vX9_fine dX9_row_48 rfl rfl rfl (by decide) rfl (Nat.le_of_ble_eq_true rfl) ?_
          exact s_retI dX9_row_51 (by
      first
        | exact Or.inl ⟨rfl, rfl, by first | exact Or.inl h5 | exact Or.inr (Or.inl h14) | exact Or.inr (Or.inr h20)⟩
        | exact Or.inr (Or.inl ⟨rfl, rfl, h5, h14, h20, h27⟩)
        | exact Or.inr (Or.inr ⟨r, m, rfl, hr, rfl, hm, h14, rfl, by rw [nw_up_self, pk_us], by rw [nw_up_self, pk_un (by decide), hq.2.2.2 0 (by decide) (by decide) (by omega)], by rw [nw_up_self, pk_un (by decide), hq.2.2.2 0 (by decide) (by decide) (by omega)], by rw [nw_up_ne (by decide)]; exact hq.1, by rw [nw_up_ne (by decide)]; exact hq.2.1, fun i hi => by rw [nw_up_ne (by omega)]; exact hq.2.2.1 i hi, fun k k0 k2 k3 k5 => by rw [nw_up_ne k0]; exact hq.2.2.2 k k2 k3 k5⟩))
        · refine ev_aload_n (i := 0) dX9_row_30 rfl rfl ?_
          refine ev_iconst (v := 4) dX9_row_31 kc_4 ?_
          refine s_dVi (As := [_]) (c_found _) (Nat.le_of_ble_eq_true rfl) lX9_80 kX9_found vX9_found dX9_row_32 rfl rfl rfl (by decide) rfl (Nat.le_of_ble_eq_true rfl) ?_
          exact s_retI dX9_row_35 (by
      first
        | exact Or.inl ⟨rfl, rfl, by first | exact Or.inl h5 | exact Or.inr (Or.inl h14) | exact Or.inr (Or.inr h20)⟩
        | exact Or.inr (Or.inl ⟨rfl, rfl, h5, h14, h20, h27⟩)
        | exact Or.inr (Or.inr ⟨r, m, rfl, hr, rfl, hm, h14, rfl, by rw [nw_up_self, pk_us], by rw [nw_up_self, pk_un (by decide), hq.2.2.2 0 (by decide) (by decide) (by omega)], by rw [nw_up_self, pk_un (by decide), hq.2.2.2 0 (by decide) (by decide) (by omega)], by rw [nw_up_ne (by decide)]; exact hq.1, by rw [nw_up_ne (by decide)]; exact hq.2.1, fun i hi => by rw [nw_up_ne (by omega)]; exact hq.2.2.1 i hi, fun k k0 k2 k3 k5 => by rw [nw_up_ne k0]; exact hq.2.2.2 k k2 k3 k5⟩))
      · refine ev_ldc qX9_79 dX9_row_23 ?_
        exact s_retI dX9_row_25 (by
      first
        | exact Or.inl ⟨rfl, rfl, by first | exact Or.inl h5 | exact Or.inr (Or.inl h14) | exact Or.inr (Or.inr h20)⟩
        | exact Or.inr (Or.inl ⟨rfl, rfl, h5, h14, h20, h27⟩)
        | exact Or.inr (Or.inr ⟨r, m, rfl, hr, rfl, hm, h14, rfl, by rw [nw_up_self, pk_us], by rw [nw_up_self, pk_un (by decide), hq.2.2.2 0 (by decide) (by decide) (by omega)], by rw [nw_up_self, pk_un (by decide), hq.2.2.2 0 (by decide) (by decide) (by omega)], by rw [nw_up_ne (by decide)]; exact hq.1, by rw [nw_up_ne (by decide)]; exact hq.2.1, fun i hi => by rw [nw_up_ne (by omega)]; exact hq.2.2.1 i hi, fun k k0 k2 k3 k5 => by rw [nw_up_ne k0]; exact hq.2.2.2 k k2 k3 k5⟩))
def R_set (lanes sizes : Nat → Int32) (x i v : Int32) : Int32 := if nv_in x 0 7 then (if sizes x.toNatClampNeg = -1 then -1000010 - 1 else if nv_has (sizes x.toNatClampNeg) i 1 then nv_cut (lanes x.toNatClampNeg) v else -1000010 - 2) else -1000001
def M_set (I : nw_Me) (x i v : Int32) : nw_Me := if nv_in x 0 7 then (if I 3 x.toNatClampNeg = -1 then nw_up I 0 12 1 else if nv_has (I 3 x.toNatClampNeg) i 1 then nw_up (nw_up I (5 + x.toNatClampNeg) i.toNatClampNeg (nv_cut (I 2 x.toNatClampNeg) v)) 0 12 0 else nw_up I 0 12 2) else I
theorem x_set (x i v : Int32) (hz : ∀ r, r < 8 → nv_sz (I 3 r)) : nw_dI l g 2 mX9_set [.ref (nw_a g 0), .int x, .int i, .int v] I (R_set (I 2) (I 3) x i v) (M_set I x i v) := by
  refine ⟨(Nat.le_of_ble_eq_true rfl), ?_⟩
  refine ev_aload_n (i := 0) dX9_set_0 rfl rfl ?_
  refine ev_iload_n (i := 1) dX9_set_1 rfl rfl ?_
  refine s_dVz (As := [_]) (c_isRow _) (Nat.le_of_ble_eq_true rfl) lX9_71 kX9_isRow vX9_isRow dX9_set_2 rfl rfl rfl (by decide) rfl (Nat.le_of_ble_eq_true rfl) ?_
  refine s_ifZ_ne (tgt := 11) dX9_set_5 (by decide) (fun h5 => ?_) (fun h5 => ?_)
  · have h5' := h5
    obtain ⟨r, hr, rfl⟩ := nv_in_S (S := 8) (by decide) h5
    have ec : (nI r).toNatClampNeg = r := nI_clamp (by omega)
    refine ev_aload_n (i := 0) dX9_set_11 rfl rfl ?_
    refine ev_getR fX9_10 dX9_set_12 rfl rfl (by decide) ?_
    refine ev_iload_n (i := 1) dX9_set_15 rfl rfl ?_
    refine s_dVz (As := [_]) (c_isMissing hr) (Nat.le_of_ble_eq_true rfl) lX9_91 kX7_isMissing vX7_isMissing dX9_set_16 rfl rfl rfl (by decide) rfl (Nat.le_of_ble_eq_true rfl) ?_
    refine s_ifZ_eq (tgt := 28) dX9_set_19 (by decide) (fun h19 => ?_) (fun h19 => ?_)
    · refine ev_aload_n (i := 0) dX9_set_28 rfl rfl ?_
      refine ev_getR fX9_10 dX9_set_29 rfl rfl (by decide) ?_
      refine ev_iload_n (i := 1) dX9_set_32 rfl rfl ?_
      refine ev_iload_n (i := 2) dX9_set_33 rfl rfl ?_
      refine ev_iconst (v := 1) dX9_set_34 kc_1 ?_
      refine s_dVz (As := [_, _, _]) (c_hasPlaces hr _ _) (Nat.le_of_ble_eq_true rfl) lX9_94 kX7_hasPlaces vX7_hasPlaces dX9_set_35 rfl rfl rfl (by decide) rfl (Nat.le_of_ble_eq_true rfl) ?_
      refine s_ifZ_ne (tgt := 47) dX9_set_38 (by decide) (fun h38 => ?_) (fun h38 => ?_)
      · have hi := nv_has_1 (hz r hr) h38
        obtain ⟨j, hi40, rfl⟩ := vp_in_of hi (by decide)
        have ej : (nI j).toNatClampNeg = j := nI_clamp (by omega)
        refine ev_aload_n (i := 0) dX9_set_47 rfl rfl ?_
        refine ev_aload_n (i := 0) dX9_set_48 rfl rfl ?_
        refine ev_getR fX9_10 dX9_set_49 rfl rfl (by decide) ?_
        refine ev_iload_n (i := 1) dX9_set_52 rfl rfl ?_
        refine ev_iload_n (i := 2) dX9_set_53 rfl rfl ?_
        refine ev_iload_n (i := 3) dX9_set_54 rfl rfl ?_
        refine s_dVi (As := [_, _, _]) (c_put hr hi40 _) (Nat.le_of_ble_eq_true rfl) lX9_97 kX7_put vX7_put dX9_set_55 rfl rfl rfl (by decide) rfl (Nat.le_of_ble_eq_true rfl) ?_
        refine s_dVi (As := [_]) (c_fine _) (Nat.le_of_ble_eq_true rfl) lX9_88 kX9_fine vX9_fine dX9_set_58 rfl rfl rfl (by decide) rfl (Nat.le_of_ble_eq_true rfl) ?_
        exact s_retI dX9_set_61 ⟨by simp_all [R_set], by simp_all [M_set]⟩
      · refine ev_aload_n (i := 0) dX9_set_41 rfl rfl ?_
        refine ev_iconst (v := 2) dX9_set_42 kc_2 ?_
        refine s_dVi (As := [_]) (c_found _) (Nat.le_of_ble_eq_true rfl) lX9_80 kX9_found vX9_found dX9_set_43 rfl rfl rfl (by decide) rfl (Nat.le_of_ble_eq_true rfl) ?_
        exact s_retI dX9_set_46 ⟨by simp_all [R_set], by simp_all [M_set]⟩
    · refine ev_aload_n (i := 0) dX9_set_22 rfl rfl ?_
      refine ev_iconst (v := 1) dX9_set_23 kc_1 ?_
      refine s_dVi (As := [_]) (c_found _) (Nat.le_of_ble_eq_true rfl) lX9_80 kX9_found vX9_found dX9_set_24 rfl rfl rfl (by decide) rfl (Nat.le_of_ble_eq_true rfl) ?_
      exact s_retI dX9_set_27 ⟨by simp_all [R_set], by simp_all [M_set]⟩
  · refine ev_ldc qX9_79 dX9_set_8 ?_
    exact s_retI dX9_set_10 ⟨by simp_all [R_set], by simp_all [M_set]⟩
def R_copy (lanes sizes : Nat → Int32) (a i c j n : Int32) : Int32 := if nv_in a 0 7 && nv_in c 0 7 then (if sizes a.toNatClampNeg = -1 ∨ sizes c.toNatClampNeg = -1 then -1000010 - 1 else if lanes a.toNatClampNeg = lanes c.toNatClampNeg then (if nv_has (sizes a.toNatClampNeg) i n && nv_has (sizes c.toNatClampNeg) j n then n else -1000010 - 2) else -1000010 - 5) else -1000001
def M_copy (I : nw_Me) (a i c j n : Int32) : nw_Me := if nv_in a 0 7 && nv_in c 0 7 then (if I 3 a.toNatClampNeg = -1 ∨ I 3 c.toNatClampNeg = -1 then nw_up I 0 12 1 else if I 2 a.toNatClampNeg = I 2 c.toNatClampNeg then (if nv_has (I 3 a.toNatClampNeg) i n && nv_has (I 3 c.toNatClampNeg) j n then nw_up (nw_cp I (5 + a.toNatClampNeg) i.toNatClampNeg (5 + c.toNatClampNeg) j.toNatClampNeg n.toNatClampNeg) 0 12 0 else nw_up I 0 12 2) else nw_up I 0 12 5) else I
theorem x_copy (a i c j n : Int32) (hz : ∀ r, r < 8 → nv_sz (I 3 r)) : nw_dI l g 2 mX9_copy [.ref (nw_a g 0), .int a, .int i, .int c, .int j, .int n] I (R_copy (I 2) (I 3) a i c j n) (M_copy I a i c j n) := by
  refine ⟨(Nat.le_of_ble_eq_true rfl), ?_⟩
  refine ev_aload_n (i := 0) dX9_copy_0 rfl rfl ?_
  refine ev_iload_n (i := 1) dX9_copy_1 rfl rfl ?_
  refine s_dVz (As := [_]) (c_isRow _) (Nat.le_of_ble_eq_true rfl) lX9_71 kX9_isRow vX9_isRow dX9_copy_2 rfl rfl rfl (by decide) rfl (Nat.le_of_ble_eq_true rfl) ?_
  refine s_ifZ_eq (tgt := 16) dX9_copy_5 (by decide) (fun h5 => ?_) (fun h5 => ?_)
  · refine ev_ldc qX9_79 dX9_copy_16 ?_
    exact s_retI dX9_copy_18 ⟨by simp_all [R_copy], by simp_all [M_copy]⟩
  · refine ev_aload_n (i := 0) dX9_copy_8 rfl rfl ?_
    refine ev_iload_n (i := 3) dX9_copy_9 rfl rfl ?_
    refine s_dVz (As := [_]) (c_isRow _) (Nat.le_of_ble_eq_true rfl) lX9_71 kX9_isRow vX9_isRow dX9_copy_10 rfl rfl rfl (by decide) rfl (Nat.le_of_ble_eq_true rfl) ?_
    refine s_ifZ_ne (tgt := 19) dX9_copy_13 (by decide) (fun h13 => ?_) (fun h13 => ?_)
    · have h5' := h5
      have h13' := h13
      obtain ⟨r, hr, rfl⟩ := nv_in_S (S := 8) (by decide) h5
      obtain ⟨s, hs, rfl⟩ := nv_in_S (S := 8) (by decide) h13
      have ec : (nI r).toNatClampNeg = r := nI_clamp (by omega)
      have es : (nI s).toNatClampNeg = s := nI_clamp (by omega)
      refine ev_aload_n (i := 0) dX9_copy_19 rfl rfl ?_
      refine ev_getR fX9_10 dX9_copy_20 rfl rfl (by decide) ?_
      refine ev_iload_n (i := 1) dX9_copy_23 rfl rfl ?_
      refine s_dVz (As := [_]) (c_isMissing hr) (Nat.le_of_ble_eq_true rfl) lX9_91 kX7_isMissing vX7_isMissing dX9_copy_24 rfl rfl rfl (by decide) rfl (Nat.le_of_ble_eq_true rfl) ?_
      refine s_ifZ_ne (tgt := 41) dX9_copy_27 (by decide) (fun h27 => ?_) (fun h27 => ?_)
      · refine ev_aload_n (i := 0) dX9_copy_41 rfl rfl ?_
        refine ev_iconst (v := 1) dX9_copy_42 kc_1 ?_
        refine s_dVi (As := [_]) (c_found _) (Nat.le_of_ble_eq_true rfl) lX9_80 kX9_found vX9_found dX9_copy_43 rfl rfl rfl (by decide) rfl (Nat.le_of_ble_eq_true rfl) ?_
        exact s_retI dX9_copy_46 ⟨by simp_all [R_copy], by simp_all [M_copy]⟩
      · refine ev_aload_n (i := 0) dX9_copy_30 rfl rfl ?_
        refine ev_getR fX9_10 dX9_copy_31 rfl rfl (by decide) ?_
        refine ev_iload_n (i := 3) dX9_copy_34 rfl rfl ?_
        refine s_dVz (As := [_]) (c_isMissing hs) (Nat.le_of_ble_eq_true rfl) lX9_91 kX7_isMissing vX7_isMissing dX9_copy_35 rfl rfl rfl (by decide) rfl (Nat.le_of_ble_eq_true rfl) ?_
        refine s_ifZ_eq (tgt := 47) dX9_copy_38 (by decide) (fun h38 => ?_) (fun h38 => ?_)
        · refine ev_aload_n (i := 0) dX9_copy_47 rfl rfl ?_
          refine ev_getR fX9_10 dX9_copy_48 rfl rfl (by decide) ?_
          refine ev_iload_n (i := 1) dX9_copy_51 rfl rfl ?_
          refine ev_iload_n (i := 3) dX9_copy_52 rfl rfl ?_
          refine s_dVz (As := [_, _]) (c_alike hr hs) (Nat.le_of_ble_eq_true rfl) lX9_101 kX7_alike vX7_alike dX9_copy_53 rfl rfl rfl (by decide) rfl (Nat.le_of_ble_eq_true rfl) ?_
          refine s_ifZ_ne (tgt := 65) dX9_copy_56 (by decide) (fun h56 => ?_) (fun h56 => ?_)
          · refine ev_aload_n (i := 0) dX9_copy_65 rfl rfl ?_
            refine ev_getR fX9_10 dX9_copy_66 rfl rfl (by decide) ?_
            refine ev_iload_n (i := 1) dX9_copy_69 rfl rfl ?_
            refine ev_iload_n (i := 2) dX9_copy_70 rfl rfl ?_
            refine ev_iload dX9_copy_71 rfl ?_
            refine s_dVz (As := [_, _, _]) (c_hasPlaces hr _ _) (Nat.le_of_ble_eq_true rfl) lX9_94 kX7_hasPlaces vX7_hasPlaces dX9_copy_73 rfl rfl rfl (by decide) rfl (Nat.le_of_ble_eq_true rfl) ?_
            refine s_ifZ_eq (tgt := 94) dX9_copy_76 (by decide) (fun h76 => ?_) (fun h76 => ?_)
            · refine ev_aload_n (i := 0) dX9_copy_94 rfl rfl ?_
              refine ev_iconst (v := 2) dX9_copy_95 kc_2 ?_
              refine s_dVi (As := [_]) (c_found _) (Nat.le_of_ble_eq_true rfl) lX9_80 kX9_found vX9_found dX9_copy_96 rfl rfl rfl (by decide) rfl (Nat.le_of_ble_eq_true rfl) ?_
              exact s_retI dX9_copy_99 ⟨by simp_all [R_copy], by simp_all [M_copy]⟩
            · refine ev_aload_n (i := 0) dX9_copy_79 rfl rfl ?_
              refine ev_getR fX9_10 dX9_copy_80 rfl rfl (by decide) ?_
              refine ev_iload_n (i := 3) dX9_copy_83 rfl rfl ?_
              refine ev_iload dX9_copy_84 rfl ?_
              refine ev_iload dX9_copy_86 rfl ?_
              refine s_dVz (As := [_, _, _]) (c_hasPlaces hs _ _) (Nat.le_of_ble_eq_true rfl) lX9_94 kX7_hasPlaces vX7_hasPlaces dX9_copy_88 rfl rfl rfl (by decide) rfl (Nat.le_of_ble_eq_true rfl) ?_
              refine s_ifZ_ne (tgt := 100) dX9_copy_91 (by decide) (fun h91 => ?_) (fun h91 => ?_)
              · have h76' := h76
                have h91' := h91
                obtain ⟨i0, n0, m0, rfl, rfl, e3, g1, g2⟩ := nv_has_in (hz r hr) h76
                obtain ⟨j0, n1, m1, rfl, e4, e5, g3, g4⟩ := nv_has_in (hz s hs) h91
                have e6 : n0 = n1 := (nI_eq (by omega) (by omega)).mp e4
                subst e6
                have ei : (nI i0).toNatClampNeg = i0 := nI_clamp (by omega)
                have ej : (nI j0).toNatClampNeg = j0 := nI_clamp (by omega)
                have en : (nI n0).toNatClampNeg = n0 := nI_clamp (by omega)
                refine ev_aload_n (i := 0) dX9_copy_100 rfl rfl ?_
                refine ev_getR fX9_10 dX9_copy_101 rfl rfl (by decide) ?_
                refine ev_iload_n (i := 1) dX9_copy_104 rfl rfl ?_
                refine ev_iload_n (i := 2) dX9_copy_105 rfl rfl ?_
                refine ev_iload_n (i := 3) dX9_copy_106 rfl rfl ?_
                refine ev_iload dX9_copy_107 rfl ?_
                refine ev_iload dX9_copy_109 rfl ?_
                refine s_dVv (As := [_, _, _, _, _]) (c_move hr hs (i := i0) (j := j0) (n := n0) (by omega) (by omega)) (Nat.le_of_ble_eq_true rfl) lX9_105 kX7_move vX7_move dX9_copy_111 rfl rfl rfl (by decide) rfl (Nat.le_of_ble_eq_true rfl) ?_
                refine ev_aload_n (i := 0) dX9_copy_114 rfl rfl ?_
                refine ev_iload dX9_copy_115 rfl ?_
                refine s_dVi (As := [_]) (c_fine _) (Nat.le_of_ble_eq_true rfl) lX9_88 kX9_fine vX9_fine dX9_copy_117 rfl rfl rfl (by decide) rfl (Nat.le_of_ble_eq_true rfl) ?_
                exact s_retI dX9_copy_120 ⟨by simp_all [R_copy], by simp_all [M_copy]⟩
              · refine ev_aload_n (i := 0) dX9_copy_94 rfl rfl ?_
                refine ev_iconst (v := 2) dX9_copy_95 kc_2 ?_
                refine s_dVi (As := [_]) (c_found _) (Nat.le_of_ble_eq_true rfl) lX9_80 kX9_found vX9_found dX9_copy_96 rfl rfl rfl (by decide) rfl (Nat.le_of_ble_eq_true rfl) ?_
                exact s_retI dX9_copy_99 ⟨by simp_all [R_copy], by simp_all [M_copy]⟩
          · refine ev_aload_n (i := 0) dX9_copy_59 rfl rfl ?_
            refine ev_iconst (v := 5) dX9_copy_60 kc_5 ?_
            refine s_dVi (As := [_]) (c_found _) (Nat.le_of_ble_eq_true rfl) lX9_80 kX9_found vX9_found dX9_copy_61 rfl rfl rfl (by decide) rfl (Nat.le_of_ble_eq_true rfl) ?_
            exact s_retI dX9_copy_64 ⟨by simp_all [R_copy], by simp_all [M_copy]⟩
        · refine ev_aload_n (i := 0) dX9_copy_41 rfl rfl ?_
          refine ev_iconst (v := 1) dX9_copy_42 kc_1 ?_
          refine s_dVi (As := [_]) (c_found _) (Nat.le_of_ble_eq_true rfl) lX9_80 kX9_found vX9_found dX9_copy_43 rfl rfl rfl (by decide) rfl (Nat.le_of_ble_eq_true rfl) ?_
          exact s_retI dX9_copy_46 ⟨by simp_all [R_copy], by simp_all [M_copy]⟩
    · refine ev_ldc qX9_79 dX9_copy_16 ?_
      exact s_retI dX9_copy_18 ⟨by simp_all [R_copy], by simp_all [M_copy]⟩
def R_drop (sizes : Nat → Int32) (x : Int32) : Int32 := if nv_in x 0 7 then (if sizes x.toNatClampNeg = -1 then -1000010 - 1 else sizes x.toNatClampNeg) else -1000001
def M_drop (I : nw_Me) (x : Int32) : nw_Me := if nv_in x 0 7 then (if I 3 x.toNatClampNeg = -1 then nw_up I 0 12 1 else nw_up (nw_up I 3 x.toNatClampNeg (-1)) 0 12 0) else I
theorem x_drop (x : Int32) : nw_dI l g 2 mX9_drop [.ref (nw_a g 0), .int x] I (R_drop (I 3) x) (M_drop I x) := by
  refine ⟨(Nat.le_of_ble_eq_true rfl), ?_⟩
  refine ev_aload_n (i := 0) dX9_drop_0 rfl rfl ?_
  refine ev_iload_n (i := 1) dX9_drop_1 rfl rfl ?_
  refine s_dVz (As := [_]) (c_isRow _) (Nat.le_of_ble_eq_true rfl) lX9_71 kX9_isRow vX9_isRow dX9_drop_2 rfl rfl rfl (by decide) rfl (Nat.le_of_ble_eq_true rfl) ?_
  refine s_ifZ_ne (tgt := 11) dX9_drop_5 (by decide) (fun h5 => ?_) (fun h5 => ?_)
  · have h5' := h5
    obtain ⟨r, hr, rfl⟩ := nv_in_S (S := 8) (by decide) h5
    have ec : (nI r).toNatClampNeg = r := nI_clamp (by omega)
    refine ev_aload_n (i := 0) dX9_drop_11 rfl rfl ?_
    refine ev_getR fX9_10 dX9_drop_12 rfl rfl (by decide) ?_
    refine ev_iload_n (i := 1) dX9_drop_15 rfl rfl ?_
    refine s_dVz (As := [_]) (c_isMissing hr) (Nat.le_of_ble_eq_true rfl) lX9_91 kX7_isMissing vX7_isMissing dX9_drop_16 rfl rfl rfl (by decide) rfl (Nat.le_of_ble_eq_true rfl) ?_
    refine s_ifZ_eq (tgt := 28) dX9_drop_19 (by decide) (fun h19 => ?_) (fun h19 => ?_)
    · refine ev_aload_n (i := 0) dX9_drop_28 rfl rfl ?_
      refine ev_aload_n (i := 0) dX9_drop_29 rfl rfl ?_
      refine ev_getR fX9_10 dX9_drop_30 rfl rfl (by decide) ?_
      refine ev_iload_n (i := 1) dX9_drop_33 rfl rfl ?_
      refine s_dVi (As := [_]) (c_lose hr) (Nat.le_of_ble_eq_true rfl) lX9_109 kX7_lose vX7_lose dX9_drop_34 rfl rfl rfl (by decide) rfl (Nat.le_of_ble_eq_true rfl) ?_
      refine s_dVi (As := [_]) (c_fine _) (Nat.le_of_ble_eq_true rfl) lX9_88 kX9_fine vX9_fine dX9_drop_37 rfl rfl rfl (by decide) rfl (Nat.le_of_ble_eq_true rfl) ?_
      exact s_retI dX9_drop_40 ⟨by simp_all [R_drop], by simp_all [M_drop]⟩
    · refine ev_aload_n (i := 0) dX9_drop_22 rfl rfl ?_
      refine ev_iconst (v := 1) dX9_drop_23 kc_1 ?_
      refine s_dVi (As := [_]) (c_found _) (Nat.le_of_ble_eq_true rfl) lX9_80 kX9_found vX9_found dX9_drop_24 rfl rfl rfl (by decide) rfl (Nat.le_of_ble_eq_true rfl) ?_
      exact s_retI dX9_drop_27 ⟨by simp_all [R_drop], by simp_all [M_drop]⟩
  · refine ev_ldc qX9_79 dX9_drop_8 ?_
    exact s_retI dX9_drop_10 ⟨by simp_all [R_drop], by simp_all [M_drop]⟩
theorem c_isFull : nw_dZ l g 0 mX6_isFull [.ref (nw_a g 13)] I (decide (¬ I 13 1 < 160)) I := by
  refine ⟨(Nat.le_of_ble_eq_true rfl), ?_⟩
  refine ev_aload_n (i := 0) dX6_isFull_0 rfl rfl ?_
  refine ev_getI fX6_13 dX6_isFull_1 rfl rfl (by decide) ?_
  refine ev_sipush (v := 160) dX6_isFull_4 ks_160 ?_
  refine ev_icmp_lt (tgt := 14) dX6_isFull_7 (by decide) (fun h7 => ?_) (fun h7 => ?_)
  · refine ev_iconst (v := 0) dX6_isFull_14 kc_0 ?_
    exact s_ret0 dX6_isFull_15 ⟨by simp [*], rfl⟩
  · refine ev_iconst (v := 1) dX6_isFull_10 kc_1 ?_
    refine ev_goto (tgt := 15) dX6_isFull_11 (by decide) ?_
    exact s_ret1 dX6_isFull_15 ⟨by simp [*], rfl⟩
theorem c_append {n : Nat} (hn : I 13 1 = nI n) (h : n < 160) (x : Int32) : nw_dI l g 1 mX6_append [.ref (nw_a g 13), .int x] I (nI (n + 1)) (nw_up (nw_up I 14 n x) 13 1 (nI (n + 1))) := by
  refine ⟨(Nat.le_of_ble_eq_true rfl), ?_⟩
  have e160 : (160 : Int32) = nI 160 := by decide
  refine ev_aload_n (i := 0) dX6_append_0 rfl rfl ?_
  refine s_dVz (As := []) (c_isFull) (Nat.le_of_ble_eq_true rfl) lX6_17 kX6_isFull vX6_isFull dX6_append_1 rfl rfl rfl (by decide) rfl (Nat.le_of_ble_eq_true rfl) ?_
  refine s_ifZ_ne (tgt := 27) dX6_append_4 (by decide) (fun h4 => ?_) (fun h4 => ?_)
  · exact absurd (of_decide_eq_true h4) (fun q => q (by rw [hn, e160]; exact nI_lt h (by decide)))
  · refine ev_aload_n (i := 0) dX6_append_7 rfl rfl ?_
    refine ev_getR fX6_9 dX6_append_8 rfl rfl (by decide) ?_
    refine ev_aload_n (i := 0) dX6_append_11 rfl rfl ?_
    refine ev_getI fX6_13 dX6_append_12 rfl rfl (by decide) ?_
    rw [hn]
    refine ev_iload_n (i := 1) dX6_append_15 rfl rfl ?_
    refine ev_iastN dX6_append_16 rfl h (by decide) ?_
    refine ev_aload_n (i := 0) dX6_append_17 rfl rfl ?_
    refine ev_dup dX6_append_18 rfl ?_
    refine ev_getI fX6_13 dX6_append_19 rfl rfl (by decide) ?_
    rw [nw_up_ne (by decide), hn]
    refine ev_iconst (v := 1) dX6_append_22 kc_1 ?_
    refine ev_iadd dX6_append_23 ?_
    rw [nI_1]
    refine ev_putI fX6_13 dX6_append_24 rfl rfl (by decide) rfl rfl rfl rfl ?_
    refine ev_aload_n (i := 0) dX6_append_27 rfl rfl ?_
    refine ev_getI fX6_13 dX6_append_28 rfl rfl (by decide) ?_
    exact s_retI dX6_append_31 ⟨by simp [nw_up], rfl⟩
theorem x_feed {n : Nat} (hn : I 13 1 = nI n) (h160 : n ≤ 160) (x : Int32) : nw_dI l g 2 mX9_feed [.ref (nw_a g 0), .int x] I (if nv_in x 0 255 then (if n = 160 then -1000003 else nI (n + 1)) else -1000001) (if nv_in x 0 255 then (if n = 160 then I else nw_up (nw_up I 14 n x) 13 1 (nI (n + 1))) else I) := by
  refine ⟨(Nat.le_of_ble_eq_true rfl), ?_⟩
  have e160 : (160 : Int32) = nI 160 := by decide
  refine ev_iload_n (i := 1) dX9_feed_0 rfl rfl ?_
  refine ev_iconst (v := 0) dX9_feed_1 kc_0 ?_
  refine ev_sipush (v := 255) dX9_feed_2 ks_255 ?_
  refine s_dSz (As := [_, _, _]) (c_within _ _ _) (Nat.le_of_ble_eq_true rfl) lX9_75 kX9_within sX9_within dX9_feed_5 rfl rfl (Nat.le_of_ble_eq_true rfl) ?_
  refine s_ifZ_ne (tgt := 14) dX9_feed_8 (by decide) (fun h8 => ?_) (fun h8 => ?_)
  · refine ev_aload_n (i := 0) dX9_feed_14 rfl rfl ?_
    refine ev_getR fX9_19 dX9_feed_15 rfl rfl (by decide) ?_
    refine s_dVz (As := []) (c_isFull) (Nat.le_of_ble_eq_true rfl) lX9_112 kX6_isFull vX6_isFull dX9_feed_18 rfl rfl rfl (by decide) rfl (Nat.le_of_ble_eq_true rfl) ?_
    refine s_ifZ_eq (tgt := 27) dX9_feed_21 (by decide) (fun h21 => ?_) (fun h21 => ?_)
    · have hlt : n < 160 := by
        have := of_decide_eq_false h21
        rw [Decidable.not_not, hn, e160, nI_ltI (by omega) (by decide)] at this
        exact this
      refine ev_aload_n (i := 0) dX9_feed_27 rfl rfl ?_
      refine ev_getR fX9_19 dX9_feed_28 rfl rfl (by decide) ?_
      refine ev_iload_n (i := 1) dX9_feed_31 rfl rfl ?_
      refine s_dVi (As := [_]) (c_append hn hlt _) (Nat.le_of_ble_eq_true rfl) lX9_117 kX6_append vX6_append dX9_feed_32 rfl rfl rfl (by decide) rfl (Nat.le_of_ble_eq_true rfl) ?_
      exact s_retI dX9_feed_35 (by
      first
        | (rw [if_neg (by rw [h8]; decide), if_neg (by rw [h8]; decide)]; exact ⟨rfl, rfl⟩)
        | (rw [if_pos h8, if_pos heq, if_pos h8, if_pos heq]; exact ⟨rfl, rfl⟩)
        | (rw [if_pos h8, if_neg (by omega), if_pos h8, if_neg (by omega)]; exact ⟨rfl, rfl⟩))
    · have heq : n = 160 := by
        have := of_decide_eq_true h21
        rw [hn, e160, nI_ltI (by omega) (by decide)] at this
        omega
      refine ev_ldc qX9_116 dX9_feed_24 ?_
      exact s_retI dX9_feed_26 (by
      first
        | (rw [if_neg (by rw [h8]; decide), if_neg (by rw [h8]; decide)]; exact ⟨rfl, rfl⟩)
        | (rw [if_pos h8, if_pos heq, if_pos h8, if_pos heq]; exact ⟨rfl, rfl⟩)
        | (rw [if_pos h8, if_neg (by omega), if_pos h8, if_neg (by omega)]; exact ⟨rfl, rfl⟩))
  · refine ev_ldc qX9_79 dX9_feed_11 ?_
    exact s_retI dX9_feed_13 (by
      first
        | (rw [if_neg (by rw [h8]; decide), if_neg (by rw [h8]; decide)]; exact ⟨rfl, rfl⟩)
        | (rw [if_pos h8, if_pos heq, if_pos h8, if_pos heq]; exact ⟨rfl, rfl⟩)
        | (rw [if_pos h8, if_neg (by omega), if_pos h8, if_neg (by omega)]; exact ⟨rfl, rfl⟩))
theorem x_fault : nw_dI l g 0 mX9_fault [.ref (nw_a g 0)] I (I 0 11) I := by
  refine ⟨(Nat.le_of_ble_eq_true rfl), ?_⟩
  refine ev_aload_n (i := 0) dX9_fault_0 rfl rfl ?_
  refine ev_getI fX9_131 dX9_fault_1 rfl rfl (by decide) ?_
  exact s_retI dX9_fault_4 ⟨rfl, rfl⟩
theorem x_status : nw_dI l g 0 mX9_status [.ref (nw_a g 0)] I (I 0 12) I := by
  refine ⟨(Nat.le_of_ble_eq_true rfl), ?_⟩
  refine ev_aload_n (i := 0) dX9_status_0 rfl rfl ?_
  refine ev_getI fX9_335 dX9_status_1 rfl rfl (by decide) ?_
  exact s_retI dX9_status_4 ⟨rfl, rfl⟩
end
