section
variable {l : Launch} {g : nw_G} {I : nw_Me}
theorem nw_it_get : ∀ r, r < 8 → ([nw_rr 5, nw_rr 6, nw_rr 7, nw_rr 8, nw_rr 9, nw_rr 10, nw_rr 11, nw_rr 12] : List (Option (Option Nat)))[r]? = some (some (some (5 + r))) := by decide +kernel
theorem nw_ah_get : ∀ r, r < 24 → ([nw_rr 39, nw_rr 45, nw_rr 51, nw_rr 57, nw_rr 63, nw_rr 69, nw_rr 75, nw_rr 81, nw_rr 87, nw_rr 93, nw_rr 99, nw_rr 105, nw_rr 111, nw_rr 117, nw_rr 123, nw_rr 129, nw_rr 135, nw_rr 141, nw_rr 147, nw_rr 153, nw_rr 159, nw_rr 165, nw_rr 171, nw_rr 177] : List (Option (Option Nat)))[r]? = some (some (some (39 + 6 * r))) := by decide +kernel
theorem nw_im_get : ∀ r, r < 2 → ([nw_rr 195, nw_rr 207] : List (Option (Option Nat)))[r]? = some (some (some (195 + 12 * r))) := by decide +kernel
theorem nw_wa_get : ∀ r, r < 3 → ([nw_rr 185, nw_rr 186, nw_rr 187] : List (Option (Option Nat)))[r]? = some (some (some (185 + r))) := by decide +kernel
theorem nw_row_sh (r : Nat) (hr : r < 8) : nw_SH[5 + r]? = some (nw_sI 40) := by
  match r, hr with
  | 0, _ => exact rfl
  | 1, _ => exact rfl
  | 2, _ => exact rfl
  | 3, _ => exact rfl
  | 4, _ => exact rfl
  | 5, _ => exact rfl
  | 6, _ => exact rfl
  | 7, _ => exact rfl
  | k + 8, h => exact absurd h (by omega)
theorem nw_wa_sh (r : Nat) (hr : r < 3) : nw_SH[185 + r]? = some (nw_sI 6) := by
  match r, hr with
  | 0, _ => exact rfl
  | 1, _ => exact rfl
  | 2, _ => exact rfl
  | k + 3, h => exact absurd h (by omega)
theorem nw_ah_sc (j : Nat) (hj : j < 24) : nw_iSc (39 + 6 * j) := by
  match j, hj with
  | 0, _ => exact ⟨rfl, rfl, rfl, rfl, rfl, rfl⟩
  | 1, _ => exact ⟨rfl, rfl, rfl, rfl, rfl, rfl⟩
  | 2, _ => exact ⟨rfl, rfl, rfl, rfl, rfl, rfl⟩
  | 3, _ => exact ⟨rfl, rfl, rfl, rfl, rfl, rfl⟩
  | 4, _ => exact ⟨rfl, rfl, rfl, rfl, rfl, rfl⟩
  | 5, _ => exact ⟨rfl, rfl, rfl, rfl, rfl, rfl⟩
  | 6, _ => exact ⟨rfl, rfl, rfl, rfl, rfl, rfl⟩
  | 7, _ => exact ⟨rfl, rfl, rfl, rfl, rfl, rfl⟩
  | 8, _ => exact ⟨rfl, rfl, rfl, rfl, rfl, rfl⟩
  | 9, _ => exact ⟨rfl, rfl, rfl, rfl, rfl, rfl⟩
  | 10, _ => exact ⟨rfl, rfl, rfl, rfl, rfl, rfl⟩
  | 11, _ => exact ⟨rfl, rfl, rfl, rfl, rfl, rfl⟩
  | 12, _ => exact ⟨rfl, rfl, rfl, rfl, rfl, rfl⟩
  | 13, _ => exact ⟨rfl, rfl, rfl, rfl, rfl, rfl⟩
  | 14, _ => exact ⟨rfl, rfl, rfl, rfl, rfl, rfl⟩
  | 15, _ => exact ⟨rfl, rfl, rfl, rfl, rfl, rfl⟩
  | 16, _ => exact ⟨rfl, rfl, rfl, rfl, rfl, rfl⟩
  | 17, _ => exact ⟨rfl, rfl, rfl, rfl, rfl, rfl⟩
  | 18, _ => exact ⟨rfl, rfl, rfl, rfl, rfl, rfl⟩
  | 19, _ => exact ⟨rfl, rfl, rfl, rfl, rfl, rfl⟩
  | 20, _ => exact ⟨rfl, rfl, rfl, rfl, rfl, rfl⟩
  | 21, _ => exact ⟨rfl, rfl, rfl, rfl, rfl, rfl⟩
  | 22, _ => exact ⟨rfl, rfl, rfl, rfl, rfl, rfl⟩
  | 23, _ => exact ⟨rfl, rfl, rfl, rfl, rfl, rfl⟩
  | k + 24, h => exact absurd h (by omega)
theorem nw_sc25 : nw_iSc 25 := ⟨rfl, rfl, rfl, rfl, rfl, rfl⟩
theorem nw_sc31 : nw_iSc 31 := ⟨rfl, rfl, rfl, rfl, rfl, rfl⟩
theorem nw_ch15 : nw_iCh 15 := ⟨rfl, rfl, rfl, rfl, rfl⟩
theorem nw_ch20 : nw_iCh 20 := ⟨rfl, rfl, rfl, rfl, rfl⟩
def nw_iIm (b : Nat) : Prop := nw_SH[b]? = some (.inr (3, [nw_rr (b + 1), nw_rr (b + 6), nw_nn])) ∧ nw_iCh (b + 1) ∧ nw_iSc (b + 6)
theorem nw_im195 : nw_iIm 195 := ⟨rfl, ⟨rfl, rfl, rfl, rfl, rfl⟩, ⟨rfl, rfl, rfl, rfl, rfl, rfl⟩⟩
theorem nw_im207 : nw_iIm 207 := ⟨rfl, ⟨rfl, rfl, rfl, rfl, rfl⟩, ⟨rfl, rfl, rfl, rfl, rfl, rfl⟩⟩
theorem nw_im_im : ∀ k, k < 2 → nw_iIm (195 + 12 * k) := fun k hk => by
  rcases (show k = 0 ∨ k = 1 by omega) with rfl | rfl
  · exact nw_im195
  · exact nw_im207
theorem c_isMissing {r : Nat} (hr : r < 8) : nw_dZ l g 0 mX7_isMissing [.ref (nw_a g 1), .int (nI r)] I (decide (I 3 r = -1)) I := by
  refine ⟨(Nat.le_of_ble_eq_true rfl), ?_⟩
  refine ev_aload_n (i := 0) dX7_isMissing_0 rfl rfl ?_
  refine ev_getR fX7_15 dX7_isMissing_1 rfl rfl (by decide) ?_
  refine ev_iload_n (i := 1) dX7_isMissing_4 rfl rfl ?_
  refine ev_ialdN dX7_isMissing_5 rfl hr (by decide) ?_
  refine ev_iconst (v := (-1)) dX7_isMissing_6 kc_m1 ?_
  refine ev_icmp_ne (tgt := 14) dX7_isMissing_7 (by decide) (fun h7 => ?_) (fun h7 => ?_)
  · refine ev_iconst (v := 0) dX7_isMissing_14 kc_0 ?_
    exact s_ret0 dX7_isMissing_15 ⟨by simp [*], rfl⟩
  · refine ev_iconst (v := 1) dX7_isMissing_10 kc_1 ?_
    refine ev_goto (tgt := 15) dX7_isMissing_11 (by decide) ?_
    exact s_ret1 dX7_isMissing_15 ⟨by simp [*], rfl⟩
theorem c_alike {r q : Nat} (hr : r < 8) (hq : q < 8) : nw_dZ l g 0 mX7_alike [.ref (nw_a g 1), .int (nI r), .int (nI q)] I (decide (I 2 r = I 2 q)) I := by
  refine ⟨(Nat.le_of_ble_eq_true rfl), ?_⟩
  refine ev_aload_n (i := 0) dX7_alike_0 rfl rfl ?_
  refine ev_getR fX7_11 dX7_alike_1 rfl rfl (by decide) ?_
  refine ev_iload_n (i := 1) dX7_alike_4 rfl rfl ?_
  refine ev_ialdN dX7_alike_5 rfl hr (by decide) ?_
  refine ev_aload_n (i := 0) dX7_alike_6 rfl rfl ?_
  refine ev_getR fX7_11 dX7_alike_7 rfl rfl (by decide) ?_
  refine ev_iload_n (i := 2) dX7_alike_10 rfl rfl ?_
  refine ev_ialdN dX7_alike_11 rfl hq (by decide) ?_
  refine ev_icmp_ne (tgt := 19) dX7_alike_12 (by decide) (fun h12 => ?_) (fun h12 => ?_)
  · refine ev_iconst (v := 0) dX7_alike_19 kc_0 ?_
    exact s_ret0 dX7_alike_20 ⟨by simp [*], rfl⟩
  · refine ev_iconst (v := 1) dX7_alike_15 kc_1 ?_
    refine ev_goto (tgt := 20) dX7_alike_16 (by decide) ?_
    exact s_ret1 dX7_alike_20 ⟨by simp [*], rfl⟩
def nv_has (s i n : Int32) : Bool := decide (¬ i < 0) && (decide (¬ n < 0) && decide (¬ s - n < i))
theorem c_hasPlaces {r : Nat} (hr : r < 8) (i n : Int32) : nw_dZ l g 0 mX7_hasPlaces [.ref (nw_a g 1), .int (nI r), .int i, .int n] I (nv_has (I 3 r) i n) I := by
  refine ⟨(Nat.le_of_ble_eq_true rfl), ?_⟩
  refine ev_iload_n (i := 2) dX7_hasPlaces_0 rfl rfl ?_
  refine ev_if_lt (tgt := 24) dX7_hasPlaces_1 (by decide) (fun h1 => ?_) (fun h1 => ?_)
  · refine ev_iconst (v := 0) dX7_hasPlaces_24 kc_0 ?_
    exact s_ret0 dX7_hasPlaces_25 ⟨by simp [nv_has, *], rfl⟩
  · refine ev_iload_n (i := 3) dX7_hasPlaces_4 rfl rfl ?_
    refine ev_if_lt (tgt := 24) dX7_hasPlaces_5 (by decide) (fun h5 => ?_) (fun h5 => ?_)
    · refine ev_iconst (v := 0) dX7_hasPlaces_24 kc_0 ?_
      exact s_ret0 dX7_hasPlaces_25 ⟨by simp [nv_has, *], rfl⟩
    · refine ev_iload_n (i := 2) dX7_hasPlaces_8 rfl rfl ?_
      refine ev_aload_n (i := 0) dX7_hasPlaces_9 rfl rfl ?_
      refine ev_getR fX7_15 dX7_hasPlaces_10 rfl rfl (by decide) ?_
      refine ev_iload_n (i := 1) dX7_hasPlaces_13 rfl rfl ?_
      refine ev_ialdN dX7_hasPlaces_14 rfl hr (by decide) ?_
      refine ev_iload_n (i := 3) dX7_hasPlaces_15 rfl rfl ?_
      refine ev_isub dX7_hasPlaces_16 ?_
      refine ev_icmp_gt (tgt := 24) dX7_hasPlaces_17 (by decide) (fun h17 => ?_) (fun h17 => ?_)
      · refine ev_iconst (v := 0) dX7_hasPlaces_24 kc_0 ?_
        exact s_ret0 dX7_hasPlaces_25 ⟨by simp [nv_has, *], rfl⟩
      · refine ev_iconst (v := 1) dX7_hasPlaces_20 kc_1 ?_
        refine ev_goto (tgt := 25) dX7_hasPlaces_21 (by decide) ?_
        exact s_ret1 dX7_hasPlaces_25 ⟨by simp [nv_has, *], rfl⟩
theorem l_make {r m : Nat} (hr : r < 8) (hm : m ≤ 40) (lane : Int32) : ∀ (k p : Nat) (J : nw_Me), p + k = m → nw_S l g 0 mX7_make 17 [some (.ref (nw_a g 1)), some (.int (nI r)), some (.int lane), some (.int (nI m)), some (.int (nI p))] [] J (nw_qV (fun I' => (∀ i, p ≤ i → i < m → I' (5 + r) i = 0) ∧ (∀ i, i < p → I' (5 + r) i = J (5 + r) i) ∧ ∀ q, q ≠ 5 + r → I' q = J q)) := by
  intro k
  induction k with
  | zero =>
    intro p J hp
    refine ev_iload dX7_make_17 rfl ?_
    refine ev_iload_n (i := 3) dX7_make_19 rfl rfl ?_
    refine ev_icmp_ge (tgt := 39) dX7_make_20 (by decide) (fun h20 => ?_) (fun h20 => ?_)
    · exact s_retV dX7_make_39 ⟨fun i h1 h2 => by omega, fun _ _ => rfl, fun _ _ => rfl⟩
    · exact absurd (nI_le (by omega) (by omega)) h20
  | succ k ih =>
    intro p J hp
    refine ev_iload dX7_make_17 rfl ?_
    refine ev_iload_n (i := 3) dX7_make_19 rfl rfl ?_
    refine ev_icmp_ge (tgt := 39) dX7_make_20 (by decide) (fun h20 => ?_) (fun h20 => ?_)
    · exact absurd h20 (nI_ge (by omega) (by omega))
    · refine ev_aload_n (i := 0) dX7_make_23 rfl rfl ?_
      refine ev_getR fX7_20 dX7_make_24 rfl rfl (by decide) ?_
      refine ev_iload_n (i := 1) dX7_make_27 rfl rfl ?_
      refine ev_aaldN (t := 4) (q := 5 + r) rfl rfl dX7_make_28 rfl hr (by decide) (nw_it_get r hr) ?_
      refine ev_iload dX7_make_29 rfl ?_
      refine ev_iconst (v := 0) dX7_make_31 kc_0 ?_
      refine ev_iastN dX7_make_32 (nw_row_sh r hr) (show p < 40 by omega) (by decide) ?_
      refine ev_iincm (m := 1) dX7_make_33 kc_1 rfl (Nat.le_of_ble_eq_true rfl) rfl ?_
      refine ev_goto (tgt := 17) dX7_make_36 (by decide) ?_
      rw [nI_1]
      refine s_postV (ih (p + 1) _ (by omega)) (fun I1 q => ⟨fun i h1 h2 => ?_, fun i h1 => ?_, fun j hj => (q.2.2 j hj).trans (nw_up_ne hj)⟩)
      · by_cases e : i = p
        · subst e
          rw [q.2.1 i (by omega), nw_up_self, pk_us]
        · exact q.1 i (by omega) h2
      · rw [q.2.1 i (by omega), nw_up_self, pk_un (by omega)]
theorem c_make {r m : Nat} (hr : r < 8) (hm : m ≤ 40) (lane : Int32) : nw_cV l g 0 mX7_make [.ref (nw_a g 1), .int (nI r), .int lane, .int (nI m)] I (fun I' => I' 2 = upd (I 2) r lane ∧ I' 3 = upd (I 3) r (nI m) ∧ (∀ i, i < m → I' (5 + r) i = 0) ∧ ∀ q, q ≠ 2 → q ≠ 3 → q ≠ 5 + r → I' q = I q) := by
  refine ⟨(Nat.le_of_ble_eq_true rfl), ?_⟩
  refine ev_aload_n (i := 0) dX7_make_0 rfl rfl ?_
  refine ev_getR fX7_11 dX7_make_1 rfl rfl (by decide) ?_
  refine ev_iload_n (i := 1) dX7_make_4 rfl rfl ?_
  refine ev_iload_n (i := 2) dX7_make_5 rfl rfl ?_
  refine ev_iastN dX7_make_6 rfl hr (by decide) ?_
  refine ev_aload_n (i := 0) dX7_make_7 rfl rfl ?_
  refine ev_getR fX7_15 dX7_make_8 rfl rfl (by decide) ?_
  refine ev_iload_n (i := 1) dX7_make_11 rfl rfl ?_
  refine ev_iload_n (i := 3) dX7_make_12 rfl rfl ?_
  refine ev_iastN dX7_make_13 rfl hr (by decide) ?_
  refine ev_iconst (v := 0) dX7_make_14 kc_0 ?_
  refine ev_istore dX7_make_15 (Nat.le_of_ble_eq_true rfl) rfl ?_
  refine s_postV (l_make hr hm lane m 0 _ (by omega)) (fun I1 q => ⟨?_, ?_, fun i h => q.1 i (by omega) h, fun j h1 h2 h3 => ?_⟩)
  · rw [q.2.2 2 (by omega), nw_up_ne (by decide), nw_up_self]
  · rw [q.2.2 3 (by omega), nw_up_self, nw_up_ne (by decide)]
  · rw [q.2.2 j h3, nw_up_ne h2, nw_up_ne h1]
def nv_cut (lane v : Int32) : Int32 := if lane = 0 then v.toInt8.toInt32 else if lane = 1 then v.toInt16.toInt32 else v
theorem c_put {r i : Nat} (hr : r < 8) (hi : i < 40) (v : Int32) : nw_dI l g 0 mX7_put [.ref (nw_a g 1), .int (nI r), .int (nI i), .int v] I (nv_cut (I 2 r) v) (nw_up I (5 + r) i (nv_cut (I 2 r) v)) := by
  refine ⟨(Nat.le_of_ble_eq_true rfl), ?_⟩
  refine ev_aload_n (i := 0) dX7_put_0 rfl rfl ?_
  refine ev_getR fX7_11 dX7_put_1 rfl rfl (by decide) ?_
  refine ev_iload_n (i := 1) dX7_put_4 rfl rfl ?_
  refine ev_ialdN dX7_put_5 rfl hr (by decide) ?_
  refine ev_if_ne (tgt := 14) dX7_put_6 (by decide) (fun h6 => ?_) (fun h6 => ?_)
  · refine ev_aload_n (i := 0) dX7_put_14 rfl rfl ?_
    refine ev_getR fX7_11 dX7_put_15 rfl rfl (by decide) ?_
    refine ev_iload_n (i := 1) dX7_put_18 rfl rfl ?_
    refine ev_ialdN dX7_put_19 rfl hr (by decide) ?_
    refine ev_iconst (v := 1) dX7_put_20 kc_1 ?_
    refine ev_icmp_ne (tgt := 29) dX7_put_21 (by decide) (fun h21 => ?_) (fun h21 => ?_)
    · refine ev_iload_n (i := 3) dX7_put_29 rfl rfl ?_
      refine ev_istore dX7_put_30 (Nat.le_of_ble_eq_true rfl) rfl ?_
      refine ev_aload_n (i := 0) dX7_put_32 rfl rfl ?_
      refine ev_getR fX7_20 dX7_put_33 rfl rfl (by decide) ?_
      refine ev_iload_n (i := 1) dX7_put_36 rfl rfl ?_
      refine ev_aaldN (t := 4) (q := 5 + r) rfl rfl dX7_put_37 rfl hr (by decide) (nw_it_get r hr) ?_
      refine ev_iload_n (i := 2) dX7_put_38 rfl rfl ?_
      refine ev_iload dX7_put_39 rfl ?_
      refine ev_iastN dX7_put_41 (nw_row_sh r hr) hi (by decide) ?_
      refine ev_iload dX7_put_42 rfl ?_
      exact s_retI dX7_put_44 ⟨by simp [nv_cut, *], by simp [nv_cut, *]⟩
    · refine ev_iload_n (i := 3) dX7_put_24 rfl rfl ?_
      refine ev_i2s dX7_put_25 ?_
      refine ev_goto (tgt := 30) dX7_put_26 (by decide) ?_
      refine ev_istore dX7_put_30 (Nat.le_of_ble_eq_true rfl) rfl ?_
      refine ev_aload_n (i := 0) dX7_put_32 rfl rfl ?_
      refine ev_getR fX7_20 dX7_put_33 rfl rfl (by decide) ?_
      refine ev_iload_n (i := 1) dX7_put_36 rfl rfl ?_
      refine ev_aaldN (t := 4) (q := 5 + r) rfl rfl dX7_put_37 rfl hr (by decide) (nw_it_get r hr) ?_
      refine ev_iload_n (i := 2) dX7_put_38 rfl rfl ?_
      refine ev_iload dX7_put_39 rfl ?_
      refine ev_iastN dX7_put_41 (nw_row_sh r hr) hi (by decide) ?_
      refine ev_iload dX7_put_42 rfl ?_
      exact s_retI dX7_put_44 ⟨by simp [nv_cut, *], by simp [nv_cut, *]⟩
  · refine ev_iload_n (i := 3) dX7_put_9 rfl rfl ?_
    refine ev_i2b dX7_put_10 ?_
    refine ev_goto (tgt := 30) dX7_put_11 (by decide) ?_
    refine ev_istore dX7_put_30 (Nat.le_of_ble_eq_true rfl) rfl ?_
    refine ev_aload_n (i := 0) dX7_put_32 rfl rfl ?_
    refine ev_getR fX7_20 dX7_put_33 rfl rfl (by decide) ?_
    refine ev_iload_n (i := 1) dX7_put_36 rfl rfl ?_
    refine ev_aaldN (t := 4) (q := 5 + r) rfl rfl dX7_put_37 rfl hr (by decide) (nw_it_get r hr) ?_
    refine ev_iload_n (i := 2) dX7_put_38 rfl rfl ?_
    refine ev_iload dX7_put_39 rfl ?_
    refine ev_iastN dX7_put_41 (nw_row_sh r hr) hi (by decide) ?_
    refine ev_iload dX7_put_42 rfl ?_
    exact s_retI dX7_put_44 ⟨by simp [nv_cut, *], by simp [nv_cut, *]⟩
theorem c_move {a b : Nat} (ha : a < 8) (hb : b < 8) {i j n : Nat} (h1 : i + n ≤ 40) (h2 : j + n ≤ 40) : nw_dV l g 0 mX7_move [.ref (nw_a g 1), .int (nI a), .int (nI i), .int (nI b), .int (nI j), .int (nI n)] I (nw_cp I (5 + a) i (5 + b) j n) := by
  refine ⟨(Nat.le_of_ble_eq_true rfl), ?_⟩
  refine ev_aload_n (i := 0) dX7_move_0 rfl rfl ?_
  refine ev_getR fX7_20 dX7_move_1 rfl rfl (by decide) ?_
  refine ev_iload_n (i := 1) dX7_move_4 rfl rfl ?_
  refine ev_aaldN (t := 4) (q := 5 + a) rfl rfl dX7_move_5 rfl ha (by decide) (nw_it_get a ha) ?_
  refine ev_iload_n (i := 2) dX7_move_6 rfl rfl ?_
  refine ev_aload_n (i := 0) dX7_move_7 rfl rfl ?_
  refine ev_getR fX7_20 dX7_move_8 rfl rfl (by decide) ?_
  refine ev_iload_n (i := 3) dX7_move_11 rfl rfl ?_
  refine ev_aaldN (t := 4) (q := 5 + b) rfl rfl dX7_move_12 rfl hb (by decide) (nw_it_get b hb) ?_
  refine ev_iload dX7_move_13 rfl ?_
  refine ev_iload dX7_move_15 rfl ?_
  refine ev_copy jX7_23 dX7_move_17 (nw_row_sh a ha) (nw_row_sh b hb) (nI_pos (by omega)) (nI_pos (by omega)) (nI_pos (by omega)) (by rw [nI_clamp (by omega), nI_clamp (by omega)]; omega) (by rw [nI_clamp (by omega), nI_clamp (by omega)]; omega) (Nat.le_of_ble_eq_true rfl) ?_
  exact s_retV dX7_move_20 (by rw [nI_clamp (by omega), nI_clamp (by omega), nI_clamp (by omega)])
theorem c_lose {r : Nat} (hr : r < 8) : nw_dI l g 0 mX7_lose [.ref (nw_a g 1), .int (nI r)] I (I 3 r) (nw_up I 3 r (-1)) := by
  refine ⟨(Nat.le_of_ble_eq_true rfl), ?_⟩
  refine ev_aload_n (i := 0) dX7_lose_0 rfl rfl ?_
  refine ev_getR fX7_15 dX7_lose_1 rfl rfl (by decide) ?_
  refine ev_iload_n (i := 1) dX7_lose_4 rfl rfl ?_
  refine ev_ialdN dX7_lose_5 rfl hr (by decide) ?_
  refine ev_istore_n (i := 2) dX7_lose_6 rfl (Nat.le_of_ble_eq_true rfl) rfl ?_
  refine ev_aload_n (i := 0) dX7_lose_7 rfl rfl ?_
  refine ev_getR fX7_15 dX7_lose_8 rfl rfl (by decide) ?_
  refine ev_iload_n (i := 1) dX7_lose_11 rfl rfl ?_
  refine ev_iconst (v := (-1)) dX7_lose_12 kc_m1 ?_
  refine ev_iastN dX7_lose_13 rfl hr (by decide) ?_
  refine ev_iload_n (i := 2) dX7_lose_14 rfl rfl ?_
  exact s_retI dX7_lose_15 ⟨rfl, rfl⟩
/-- a row's size is -1 or at most 40 -/
def nv_sz (s : Int32) : Prop := s = -1 ∨ ∃ m, m ≤ 40 ∧ s = nI m
theorem nv_has_in {s i n : Int32} (hs : nv_sz s) (h : nv_has s i n = true) : ∃ i0 n0 m, i = nI i0 ∧ n = nI n0 ∧ s = nI m ∧ i0 + n0 ≤ m ∧ m ≤ 40 := by
  simp only [nv_has, Bool.and_eq_true, decide_eq_true_eq] at h
  obtain ⟨h1, h2, h3⟩ := h
  obtain ⟨i0, hi, rfl⟩ := nI_of h1
  obtain ⟨n0, hn, rfl⟩ := nI_of h2
  rw [Int32.lt_iff_toInt_lt, nI_toInt hi] at h3
  rcases hs with rfl | ⟨m, hm, rfl⟩
  · exfalso
    have e : ((-1 : Int32) - nI n0).toInt = -1 - (n0 : Int) := by
      rw [Int32.toInt_sub, nI_toInt hn]
      have : (-1 : Int32).toInt = -1 := by decide
      rw [this, Int.bmod_eq_of_le (by omega) (by omega)]
    rw [e] at h3
    omega
  · have e : (nI m - nI n0).toInt = (m : Int) - n0 := by
      rw [Int32.toInt_sub, nI_toInt hn, nI_toInt (by omega), Int.bmod_eq_of_le (by omega) (by omega)]
    rw [e] at h3
    exact ⟨i0, n0, m, rfl, rfl, rfl, by omega, hm⟩
theorem nv_has_of {i n m : Nat} (hm : m ≤ 40) (h : i + n ≤ m) : nv_has (nI m) (nI i) (nI n) = true := by
  simp only [nv_has, Bool.and_eq_true, decide_eq_true_eq]
  refine ⟨nI_pos (by omega), nI_pos (by omega), ?_⟩
  rw [pk_sub (by omega), nI_ltI (by omega) (by omega)]
  omega
theorem nv_has_1 {s i : Int32} (hs : nv_sz s) (h : nv_has s i 1 = true) : vp_in i 40 := by
  obtain ⟨i0, n0, m, rfl, e1, e2, h1, h2⟩ := nv_has_in hs h
  refine vp_in_nI ?_ (by decide)
  rcases Nat.eq_zero_or_pos n0 with e | e
  · subst e
    exact absurd e1 (by decide)
  · omega
theorem c_item {r : Nat} (hr : r < 8) (hz : nv_sz (I 3 r)) (i : Int32) : nw_dI l g 1 mX7_item [.ref (nw_a g 1), .int (nI r), .int i] I (if nv_has (I 3 r) i 1 then I (5 + r) i.toNatClampNeg else -1000000) I := by
  refine ⟨(Nat.le_of_ble_eq_true rfl), ?_⟩
  refine ev_aload_n (i := 0) dX7_item_0 rfl rfl ?_
  refine ev_iload_n (i := 1) dX7_item_1 rfl rfl ?_
  refine ev_iload_n (i := 2) dX7_item_2 rfl rfl ?_
  refine ev_iconst (v := 1) dX7_item_3 kc_1 ?_
  refine s_dVz (As := [_, _, _]) (c_hasPlaces hr i 1) (Nat.le_of_ble_eq_true rfl) lX7_29 kX7_hasPlaces vX7_hasPlaces dX7_item_4 rfl rfl rfl (by decide) rfl (Nat.le_of_ble_eq_true rfl) ?_
  refine s_ifZ_eq (tgt := 21) dX7_item_7 (by decide) (fun h7 => ?_) (fun h7 => ?_)
  · refine ev_ldc qX7_33 dX7_item_21 ?_
    exact s_retI dX7_item_23 ⟨by simp [h7], rfl⟩
  · refine ev_aload_n (i := 0) dX7_item_10 rfl rfl ?_
    refine ev_getR fX7_20 dX7_item_11 rfl rfl (by decide) ?_
    refine ev_iload_n (i := 1) dX7_item_14 rfl rfl ?_
    refine ev_aaldN (t := 4) (q := 5 + r) rfl rfl dX7_item_15 rfl hr (by decide) (nw_it_get r hr) ?_
    refine ev_iload_n (i := 2) dX7_item_16 rfl rfl ?_
    refine ev_iald dX7_item_17 (nw_row_sh r hr) (nv_has_1 hz h7) ?_
    refine ev_goto (tgt := 23) dX7_item_18 (by decide) ?_
    exact s_retI dX7_item_23 ⟨by simp [h7], rfl⟩
def p_rise (f : Nat → Int32) (most : Int32) : Nat → Nat → Int32 → Bool
  | 0, _, _ => true
  | n + 1, k, ah => if f k ≤ ah then false else if f k ≤ most then p_rise f most n (k + 1) (f k) else false
theorem l_rises {r i n : Nat} (hr : r < 8) (h40 : i + n ≤ 40) (most : Int32) : ∀ (k p : Nat) (ah : Int32) (z : Option Value), p + k = i + n → i ≤ p → nw_S l g 0 mX7_rises 6 [some (.ref (nw_a g 1)), some (.int (nI r)), some (.int (nI i)), some (.int (nI n)), some (.int most), some (.int ah), some (.int (nI p)), z] [] I (nw_qZ (fun b I' => b = p_rise (I (5 + r)) most k p ah ∧ I' = I)) := by
  intro k
  induction k with
  | zero =>
    intro p ah z hp hi
    refine ev_iload dX7_rises_6 rfl ?_
    refine ev_iload_n (i := 2) dX7_rises_8 rfl rfl ?_
    refine ev_iload_n (i := 3) dX7_rises_9 rfl rfl ?_
    refine ev_iadd dX7_rises_10 ?_
    rw [nI_add]
    refine ev_icmp_ge (tgt := 51) dX7_rises_11 (by decide) (fun h11 => ?_) (fun h11 => ?_)
    · refine ev_iconst (v := 1) dX7_rises_51 kc_1 ?_
      exact s_ret1 dX7_rises_52 ⟨rfl, rfl⟩
    · exact absurd (nI_le (by omega) (by omega)) h11
  | succ k ih =>
    intro p ah z hp hi
    refine ev_iload dX7_rises_6 rfl ?_
    refine ev_iload_n (i := 2) dX7_rises_8 rfl rfl ?_
    refine ev_iload_n (i := 3) dX7_rises_9 rfl rfl ?_
    refine ev_iadd dX7_rises_10 ?_
    rw [nI_add]
    refine ev_icmp_ge (tgt := 51) dX7_rises_11 (by decide) (fun h11 => ?_) (fun h11 => ?_)
    · exact absurd h11 (nI_ge (by omega) (by omega))
    · refine ev_aload_n (i := 0) dX7_rises_14 rfl rfl ?_
      refine ev_getR fX7_20 dX7_rises_15 rfl rfl (by decide) ?_
      refine ev_iload_n (i := 1) dX7_rises_18 rfl rfl ?_
      refine ev_aaldN (t := 4) (q := 5 + r) rfl rfl dX7_rises_19 rfl hr (by decide) (nw_it_get r hr) ?_
      refine ev_iload dX7_rises_20 rfl ?_
      refine ev_ialdN dX7_rises_22 (nw_row_sh r hr) (show p < 40 by omega) (by decide) ?_
      refine ev_istore dX7_rises_23 (Nat.le_of_ble_eq_true rfl) rfl ?_
      refine ev_iload dX7_rises_25 rfl ?_
      refine ev_iload dX7_rises_27 rfl ?_
      refine ev_icmp_le (tgt := 39) dX7_rises_29 (by decide) (fun h29 => ?_) (fun h29 => ?_)
      · refine ev_iconst (v := 0) dX7_rises_39 kc_0 ?_
        exact s_ret0 dX7_rises_40 ⟨by simp [p_rise, *], rfl⟩
      · refine ev_iload dX7_rises_32 rfl ?_
        refine ev_iload dX7_rises_34 rfl ?_
        refine ev_icmp_le (tgt := 41) dX7_rises_36 (by decide) (fun h36 => ?_) (fun h36 => ?_)
        · refine ev_iload dX7_rises_41 rfl ?_
          refine ev_istore dX7_rises_43 (Nat.le_of_ble_eq_true rfl) rfl ?_
          refine ev_iincm (m := 1) dX7_rises_45 kc_1 rfl (Nat.le_of_ble_eq_true rfl) rfl ?_
          refine ev_goto (tgt := 6) dX7_rises_48 (by decide) ?_
          rw [nI_1]
          have e : p_rise (I (5 + r)) most (k + 1) p ah = p_rise (I (5 + r)) most k (p + 1) (I (5 + r) p) := by simp [p_rise, h29, h36]
          rw [e]
          exact ih (p + 1) _ _ (by omega) (by omega)
        · refine ev_iconst (v := 0) dX7_rises_39 kc_0 ?_
          exact s_ret0 dX7_rises_40 ⟨by simp [p_rise, *], rfl⟩
theorem c_rises {r i n : Nat} (hr : r < 8) (h40 : i + n ≤ 40) (most : Int32) : nw_dZ l g 0 mX7_rises [.ref (nw_a g 1), .int (nI r), .int (nI i), .int (nI n), .int most] I (p_rise (I (5 + r)) most n i (-1)) I := by
  refine ⟨(Nat.le_of_ble_eq_true rfl), ?_⟩
  refine ev_iconst (v := (-1)) dX7_rises_0 kc_m1 ?_
  refine ev_istore dX7_rises_1 (Nat.le_of_ble_eq_true rfl) rfl ?_
  refine ev_iload_n (i := 2) dX7_rises_3 rfl rfl ?_
  refine ev_istore dX7_rises_4 (Nat.le_of_ble_eq_true rfl) rfl ?_
  exact l_rises hr h40 most n i (-1) _ rfl (Nat.le_refl _)
theorem l_there : ∀ (k p m : Nat), p + k = 8 → nw_S l g 1 mX7_howManyThere 4 [some (.ref (nw_a g 1)), some (.int (nI m)), some (.int (nI p))] [] I (nw_qI (fun r I' => r = nI (m + p_cnt (fun r => !decide (I 3 r = -1)) k p) ∧ I' = I)) := by
  have hS' : (8 : Int32) = nI 8 := by decide
  intro k
  induction k with
  | zero =>
    intro p m hp
    refine ev_iload_n (i := 2) dX7_howManyThere_4 rfl rfl ?_
    refine ev_bipush (v := 8) dX7_howManyThere_5 kb_8 ?_
    refine ev_icmp_ge (tgt := 32) dX7_howManyThere_7 (by decide) (fun h7 => ?_) (fun h7 => ?_)
    · refine ev_iload_n (i := 1) dX7_howManyThere_32 rfl rfl ?_
      exact s_retI dX7_howManyThere_33 ⟨rfl, rfl⟩
    · exact absurd (by rw [hS']; exact nI_le (by omega) (by omega)) h7
  | succ k ih =>
    intro p m hp
    refine ev_iload_n (i := 2) dX7_howManyThere_4 rfl rfl ?_
    refine ev_bipush (v := 8) dX7_howManyThere_5 kb_8 ?_
    refine ev_icmp_ge (tgt := 32) dX7_howManyThere_7 (by decide) (fun h7 => ?_) (fun h7 => ?_)
    · exact absurd h7 (by rw [hS']; exact nI_ge (by omega) (by omega))
    · refine ev_iload_n (i := 1) dX7_howManyThere_10 rfl rfl ?_
      refine ev_aload_n (i := 0) dX7_howManyThere_11 rfl rfl ?_
      refine ev_iload_n (i := 2) dX7_howManyThere_12 rfl rfl ?_
      refine s_dVz (As := [_]) (c_isMissing (show p < 8 by omega)) (Nat.le_of_ble_eq_true rfl) lX7_34 kX7_isMissing vX7_isMissing dX7_howManyThere_13 rfl rfl rfl (by decide) rfl (Nat.le_of_ble_eq_true rfl) ?_
      refine s_ifZ_eq (tgt := 23) dX7_howManyThere_16 (by decide) (fun h16 => ?_) (fun h16 => ?_)
      · refine ev_iconst (v := 1) dX7_howManyThere_23 kc_1 ?_
        refine ev_iadd dX7_howManyThere_24 ?_
        refine ev_istore_n (i := 1) dX7_howManyThere_25 rfl (Nat.le_of_ble_eq_true rfl) rfl ?_
        refine ev_iincm (m := 1) dX7_howManyThere_26 kc_1 rfl (Nat.le_of_ble_eq_true rfl) rfl ?_
        refine ev_goto (tgt := 4) dX7_howManyThere_29 (by decide) ?_
        first
          | rw [p_cnt_t (by simp only [h16]; rfl) m, nI_1, nI_1]; exact ih (p + 1) (m + 1) (by omega)
          | rw [p_cnt_f (by simp only [h16]; rfl) m, nI_1, Int32.add_zero]; exact ih (p + 1) m (by omega)
      · refine ev_iconst (v := 0) dX7_howManyThere_19 kc_0 ?_
        refine ev_goto (tgt := 24) dX7_howManyThere_20 (by decide) ?_
        refine ev_iadd dX7_howManyThere_24 ?_
        refine ev_istore_n (i := 1) dX7_howManyThere_25 rfl (Nat.le_of_ble_eq_true rfl) rfl ?_
        refine ev_iincm (m := 1) dX7_howManyThere_26 kc_1 rfl (Nat.le_of_ble_eq_true rfl) rfl ?_
        refine ev_goto (tgt := 4) dX7_howManyThere_29 (by decide) ?_
        first
          | rw [p_cnt_t (by simp only [h16]; rfl) m, nI_1, nI_1]; exact ih (p + 1) (m + 1) (by omega)
          | rw [p_cnt_f (by simp only [h16]; rfl) m, nI_1, Int32.add_zero]; exact ih (p + 1) m (by omega)
theorem c_there : nw_dI l g 1 mX7_howManyThere [.ref (nw_a g 1)] I (nI (p_cnt (fun r => !decide (I 3 r = -1)) 8 0)) I := by
  refine ⟨(Nat.le_of_ble_eq_true rfl), ?_⟩
  refine ev_iconst (v := 0) dX7_howManyThere_0 kc_0 ?_
  refine ev_istore_n (i := 1) dX7_howManyThere_1 rfl (Nat.le_of_ble_eq_true rfl) rfl ?_
  refine ev_iconst (v := 0) dX7_howManyThere_2 kc_0 ?_
  refine ev_istore_n (i := 2) dX7_howManyThere_3 rfl (Nat.le_of_ble_eq_true rfl) rfl ?_
  have := l_there (l := l) (g := g) (I := I) 8 0 0 rfl
  rw [Nat.zero_add] at this
  exact this
theorem c_keep {a j m : Nat} (hs : nw_iSc a) (hd : a + 6 ≤ 37) (hj : I 37 1 = nI j) (hj2 : j < 24) (hm : I 37 2 = nI m) (hm2 : m ≤ 24) : nw_cV l g 1 mX0_keep [.ref (nw_a g 37), .ref (nw_a g a)] I (fun I' => nv_fl I' (39 + 6 * j) = nv_fl I a ∧ I' 37 1 = nI ((j + 1) % 24) ∧ I' 37 2 = nI (if 24 < m + 1 then 24 else m + 1) ∧ ∀ k, k ≠ 37 → (k < 39 + 6 * j ∨ 39 + 6 * j + 6 ≤ k) → I' k = I k) := by
  refine ⟨(Nat.le_of_ble_eq_true rfl), ?_⟩
  have h24 : (24 : Int32) = nI 24 := by decide
  refine ev_aload_n (i := 0) dX0_keep_0 rfl rfl ?_
  refine ev_getR fX0_11 dX0_keep_1 rfl rfl (by decide) ?_
  refine ev_aload_n (i := 0) dX0_keep_4 rfl rfl ?_
  refine ev_getI fX0_16 dX0_keep_5 rfl rfl (by decide) ?_
  rw [hj]
  refine ev_aaldN (t := 2) (q := 39 + 6 * j) rfl rfl dX0_keep_8 rfl hj2 (by decide) (nw_ah_get j hj2) ?_
  refine ev_aload_n (i := 1) dX0_keep_9 rfl rfl ?_
  refine s_callVv (As := [_]) (c_scBecome (nw_ah_sc j hj2) hs (by omega)) (Nat.le_of_ble_eq_true rfl) lX0_20 kX8_become vX8_become dX0_keep_10 rfl rfl (nw_ah_sc j hj2).1 (by decide) rfl (Nat.le_of_ble_eq_true rfl) (fun J1 hq => ?_)
  refine ev_aload_n (i := 0) dX0_keep_13 rfl rfl ?_
  refine ev_aload_n (i := 0) dX0_keep_14 rfl rfl ?_
  refine ev_getI fX0_16 dX0_keep_15 rfl rfl (by decide) ?_
  rw [hq.2 37 (by omega), hj]
  refine ev_iconst (v := 1) dX0_keep_18 kc_1 ?_
  refine ev_iadd dX0_keep_19 ?_
  refine ev_bipush (v := 24) dX0_keep_20 kb_24 ?_
  refine ev_irem dX0_keep_22 (by decide) ?_
  rw [nI_1, h24, pk_rem (by omega) (by decide) (by decide)]
  refine ev_putI fX0_16 dX0_keep_23 rfl rfl (by decide) rfl rfl rfl rfl ?_
  refine ev_aload_n (i := 0) dX0_keep_26 rfl rfl ?_
  refine ev_aload_n (i := 0) dX0_keep_27 rfl rfl ?_
  refine ev_getI fX0_24 dX0_keep_28 rfl rfl (by decide) ?_
  rw [show nw_up J1 37 1 (nI ((j + 1) % 24)) 37 2 = nI m from by simp [nw_up, hq.2 37 (show 37 < 39 + 6 * j ∨ 39 + 6 * j + 6 ≤ 37 by omega), hm]]
  refine ev_iconst (v := 1) dX0_keep_31 kc_1 ?_
  refine ev_iadd dX0_keep_32 ?_
  refine ev_bipush (v := 24) dX0_keep_33 kb_24 ?_
  refine ev_mmin jX0_27 dX0_keep_35 (Nat.le_of_ble_eq_true rfl) ?_
  refine ev_putI fX0_24 dX0_keep_38 rfl rfl (by decide) rfl rfl rfl rfl ?_
  exact s_retV dX0_keep_41 (by
  refine ⟨?_, ?_, ?_, fun k h1 h2 => ?_⟩
  · rw [← hq.1]
    exact nv_fl_ext (fun k h1 h2 => by rw [nw_up_ne (by omega), nw_up_ne (by omega)])
  · simp [nw_up]
  · rw [nw_up_self, pk_us, nI_1, h24]
    by_cases e : 24 < m + 1
    · rw [if_pos e, if_pos (nI_lt e (by omega))]
    · rw [if_neg e, if_neg (nI_nlt (by omega) (by omega))]
  · rw [nw_up_ne h1, nw_up_ne h1]
    exact hq.2 k h2)
theorem c_takeBack {a j m : Nat} (hs : nw_iSc a) (hd : a + 6 ≤ 37) (hj : I 37 1 = nI j) (hj2 : j < 24) (hm : I 37 2 = nI (m + 1)) : nw_cV l g 1 mX0_takeBack [.ref (nw_a g 37), .ref (nw_a g a)] I (fun I' => nv_fl I' a = nv_fl I (39 + 6 * ((j + 23) % 24)) ∧ I' 37 1 = nI ((j + 23) % 24) ∧ I' 37 2 = nI m ∧ ∀ k, k ≠ 37 → (k < a ∨ a + 6 ≤ k) → I' k = I k) := by
  refine ⟨(Nat.le_of_ble_eq_true rfl), ?_⟩
  have h24 : (24 : Int32) = nI 24 := by decide
  have h1 : (1 : Int32) = nI 1 := by decide
  have hb : (j + 23) % 24 < 24 := Nat.mod_lt _ (by decide)
  refine ev_aload_n (i := 0) dX0_takeBack_0 rfl rfl ?_
  refine ev_aload_n (i := 0) dX0_takeBack_1 rfl rfl ?_
  refine ev_getI fX0_16 dX0_takeBack_2 rfl rfl (by decide) ?_
  rw [hj]
  refine ev_bipush (v := 24) dX0_takeBack_5 kb_24 ?_
  refine ev_iadd dX0_takeBack_7 ?_
  refine ev_iconst (v := 1) dX0_takeBack_8 kc_1 ?_
  refine ev_isub dX0_takeBack_9 ?_
  refine ev_bipush (v := 24) dX0_takeBack_10 kb_24 ?_
  refine ev_irem dX0_takeBack_12 (by decide) ?_
  rw [h24, h1, nI_add, pk_sub (by omega), pk_rem (by omega) (by decide) (by decide), show j + 24 - 1 = j + 23 by omega]
  refine ev_putI fX0_16 dX0_takeBack_13 rfl rfl (by decide) rfl rfl rfl rfl ?_
  refine ev_aload_n (i := 0) dX0_takeBack_16 rfl rfl ?_
  refine ev_dup dX0_takeBack_17 rfl ?_
  refine ev_getI fX0_24 dX0_takeBack_18 rfl rfl (by decide) ?_
  rw [show nw_up I 37 1 (nI ((j + 23) % 24)) 37 2 = nI (m + 1) from by simp [nw_up, hm]]
  refine ev_iconst (v := 1) dX0_takeBack_21 kc_1 ?_
  refine ev_isub dX0_takeBack_22 ?_
  rw [nI_pred]
  refine ev_putI fX0_24 dX0_takeBack_23 rfl rfl (by decide) rfl rfl rfl rfl ?_
  refine ev_aload_n (i := 1) dX0_takeBack_26 rfl rfl ?_
  refine ev_aload_n (i := 0) dX0_takeBack_27 rfl rfl ?_
  refine ev_getR fX0_11 dX0_takeBack_28 rfl rfl (by decide) ?_
  refine ev_aload_n (i := 0) dX0_takeBack_31 rfl rfl ?_
  refine ev_getI fX0_16 dX0_takeBack_32 rfl rfl (by decide) ?_
  rw [show nw_up (nw_up I 37 1 (nI ((j + 23) % 24))) 37 2 (nI m) 37 1 = nI ((j + 23) % 24) from by simp [nw_up]]
  refine ev_aaldN (t := 2) (q := 39 + 6 * ((j + 23) % 24)) rfl rfl dX0_takeBack_35 rfl hb (by decide) (nw_ah_get _ hb) ?_
  refine s_callVv (As := [_]) (c_scBecome hs (nw_ah_sc _ hb) (by omega)) (Nat.le_of_ble_eq_true rfl) lX0_20 kX8_become vX8_become dX0_takeBack_36 rfl rfl hs.1 (by decide) rfl (Nat.le_of_ble_eq_true rfl) (fun J1 hq => ?_)
  exact s_retV dX0_takeBack_39 (by
  refine ⟨?_, ?_, ?_, fun k h1 h2 => ?_⟩
  · rw [hq.1]
    exact nv_fl_ext (fun k h1 h2 => by rw [nw_up_ne (by omega), nw_up_ne (by omega)])
  · rw [hq.2 37 (by omega)]
    simp [nw_up]
  · rw [hq.2 37 (by omega)]
    simp [nw_up]
  · rw [hq.2 k h2, nw_up_ne h1, nw_up_ne h1])
theorem c_forgetAll : nw_dV l g 0 mX0_forgetAll [.ref (nw_a g 37)] I (nw_up I 37 2 0) := by
  refine ⟨(Nat.le_of_ble_eq_true rfl), ?_⟩
  refine ev_aload_n (i := 0) dX0_forgetAll_0 rfl rfl ?_
  refine ev_iconst (v := 0) dX0_forgetAll_1 kc_0 ?_
  refine ev_putI fX0_24 dX0_forgetAll_2 rfl rfl (by decide) rfl rfl rfl rfl ?_
  exact s_retV dX0_forgetAll_5 rfl
theorem c_imKeep {b a c : Nat} (hi : nw_iIm b) (hs : nw_iSc a) (hc : nw_iCh c) (h1 : a + 6 ≤ b) (h2 : c + 5 ≤ b) : nw_cV l g 1 mX3_keep [.ref (nw_a g b), .ref (nw_a g c), .ref (nw_a g a)] I (fun I' => nv_cf I' (b + 1) = nv_cf I c ∧ nv_fl I' (b + 6) = nv_fl I a ∧ I' b 2 = 1 ∧ nv_fr I I' b 12) := by
  refine ⟨(Nat.le_of_ble_eq_true rfl), ?_⟩
  refine ev_aload_n (i := 0) dX3_keep_0 rfl rfl ?_
  refine ev_getR fX3_10 dX3_keep_1 hi.1 rfl (by decide) ?_
  refine ev_aload_n (i := 1) dX3_keep_4 rfl rfl ?_
  refine s_callVv (As := [_]) (c_chBecome hi.2.1 hc (by omega)) (Nat.le_of_ble_eq_true rfl) lX3_23 kX2_become vX2_become dX3_keep_5 rfl rfl hi.2.1.1 (by decide) rfl (Nat.le_of_ble_eq_true rfl) (fun J1 hq => ?_)
  refine ev_aload_n (i := 0) dX3_keep_8 rfl rfl ?_
  refine ev_getR fX3_19 dX3_keep_9 hi.1 rfl (by decide) ?_
  refine ev_aload_n (i := 2) dX3_keep_12 rfl rfl ?_
  refine s_callVv (As := [_]) (c_scBecome hi.2.2 hs (by omega)) (Nat.le_of_ble_eq_true rfl) lX3_27 kX8_become vX8_become dX3_keep_13 rfl rfl hi.2.2.1 (by decide) rfl (Nat.le_of_ble_eq_true rfl) (fun J2 hr => ?_)
  refine ev_aload_n (i := 0) dX3_keep_16 rfl rfl ?_
  refine ev_iconst (v := 1) dX3_keep_17 kc_1 ?_
  refine ev_putI fX3_30 dX3_keep_18 hi.1 rfl (by decide) rfl rfl (by decide) (by decide) ?_
  exact s_retV dX3_keep_21 (by
  refine ⟨?_, ?_, ?_, fun k hk => ?_⟩
  · rw [nv_cf_ext (I := J2) (fun k g1 g2 => nw_up_ne (by omega)), hr.2.cf (by omega)]
    exact hq.1
  · rw [nv_fl_ext (I := J2) (fun k g1 g2 => nw_up_ne (by omega)), hr.1]
    exact hq.2.fl (by omega)
  · rw [nw_up_self, pk_us]
  · rw [nw_up_ne (by omega), hr.2 k (by omega), hq.2 k (by omega)])
end
