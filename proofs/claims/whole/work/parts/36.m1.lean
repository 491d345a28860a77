section
variable {l : Launch} {g : nw_G} {d : Nat} {M : nw_Mt} {pc : Nat} {ls : List (Option Value)} {st : List Value} {I : nw_Me} {sh : List nw_Sh} {kc ks : Nat} {Post : Option Int32 → List nw_Sh → nw_Me → Prop}
theorem ev_iaddN {a b : Nat} (hd : decode M.2.1 pc = .ok (.iadd, 1)) (k : nw_Ev l g d M (pc + 1) ls (.int (nI (a + b)) :: st) sh I kc ks Post) : nw_Ev l g d M pc ls (.int (nI b) :: .int (nI a) :: st) sh I kc ks Post := ev_iadd hd (by rw [nI_add]; exact k)
theorem ev_imulN {a b : Nat} (hd : decode M.2.1 pc = .ok (.imul, 1)) (k : nw_Ev l g d M (pc + 1) ls (.int (nI (a * b)) :: st) sh I kc ks Post) : nw_Ev l g d M pc ls (.int (nI b) :: .int (nI a) :: st) sh I kc ks Post := ev_imul hd (by rw [pk_mul]; exact k)
theorem ev_iincN {i a : Nat} (hd : decode M.2.1 pc = .ok (.iinc i 1, 3)) (hv : ls[i]? = some (some (.int (nI a)))) (hn : i < M.2.2.1) (hnl : nw_nl ls i = true) (k : nw_Ev l g d M (pc + 3) (ls.set i (some (.int (nI (a + 1))))) st sh I kc ks Post) : nw_Ev l g d M pc ls st sh I kc ks Post := ev_iincm hd kc_1 hv hn hnl (by rw [nI_1]; exact k)
end
section
variable {l : Launch} {g : nw_G} {I : nw_Me} {N T S : Nat} {C G : Nat → Int32}
/-! The model's leaves. -/
theorem lg_lt {x y : Int64} : lg_cmp x y < 0 ↔ x < y := by rw [← Int32.not_le, lg_cmp_ge, Int64.not_le]
theorem lg_gt {x y : Int64} : 0 < lg_cmp x y ↔ y < x := by rw [← Int32.not_le, lg_cmp_le, Int64.not_le]
theorem lg_32 {x y : Int32} : x.toInt64 < y.toInt64 ↔ x < y := by rw [Int64.lt_iff_toInt_lt, Int32.lt_iff_toInt_lt, Int32.toInt_toInt64, Int32.toInt_toInt64]
def nv_in64 (n a b : Int64) : Bool := decide (¬ n < a) && decide (¬ b < n)
theorem nv_in64_32 (n a b : Int32) : nv_in64 n.toInt64 a.toInt64 b.toInt64 = nv_in n a b := by unfold nv_in64 nv_in; simp only [lg_32]
theorem m_in64 (n a b : Int64) : nw_dZ l g 0 mX10_in [.long n, .long a, .long b] I (nv_in64 n a b) I := by
  refine ⟨(Nat.le_of_ble_eq_true rfl), ?_⟩
  refine ev_lload_n (i := 0) dX10_in_0 rfl rfl ?_
  refine ev_lload_n (i := 2) dX10_in_1 rfl rfl ?_
  refine ev_lcmp dX10_in_2 ?_
  refine ev_if_lt (tgt := 17) dX10_in_3 (by decide) (fun h3 => ?_) (fun h3 => ?_)
  · refine ev_iconst (v := 0) dX10_in_17 kc_0 ?_
    exact s_ret0 dX10_in_18 ⟨by first | (have q := lg_lt.mp h3; simp [nv_in64, q]) | (have q := ((not_congr lg_lt).mp h3); have q2 := lg_gt.mp h10; simp only [nv_in64, q, q2]; rfl) | (have q := ((not_congr lg_lt).mp h3); have q2 := (not_congr lg_gt).mp h10; simp only [nv_in64, q, q2]; rfl), rfl⟩
  · refine ev_lload_n (i := 0) dX10_in_6 rfl rfl ?_
    refine ev_lload dX10_in_7 rfl ?_
    refine ev_lcmp dX10_in_9 ?_
    refine ev_if_gt (tgt := 17) dX10_in_10 (by decide) (fun h10 => ?_) (fun h10 => ?_)
    · refine ev_iconst (v := 0) dX10_in_17 kc_0 ?_
      exact s_ret0 dX10_in_18 ⟨by first | (have q := lg_lt.mp h3; simp [nv_in64, q]) | (have q := ((not_congr lg_lt).mp h3); have q2 := lg_gt.mp h10; simp only [nv_in64, q, q2]; rfl) | (have q := ((not_congr lg_lt).mp h3); have q2 := (not_congr lg_gt).mp h10; simp only [nv_in64, q, q2]; rfl), rfl⟩
    · refine ev_iconst (v := 1) dX10_in_13 kc_1 ?_
      refine ev_goto (tgt := 18) dX10_in_14 (by decide) ?_
      exact s_ret1 dX10_in_18 ⟨by first | (have q := lg_lt.mp h3; simp [nv_in64, q]) | (have q := ((not_congr lg_lt).mp h3); have q2 := lg_gt.mp h10; simp only [nv_in64, q, q2]; rfl) | (have q := ((not_congr lg_lt).mp h3); have q2 := (not_congr lg_gt).mp h10; simp only [nv_in64, q, q2]; rfl), rfl⟩
theorem m_in (n a b : Int32) {a' b' : Int64} (ha : a.toInt64 = a') (hb : b.toInt64 = b') : nw_dZ l g 0 mX10_in [.long n.toInt64, .long a', .long b'] I (nv_in n a b) I := by
  subst ha hb
  rw [← nv_in64_32]
  exact m_in64 _ _ _
theorem m_most (a b : Int32) : nw_dI l g 0 mX10_most [.int a, .int b] I (nv_max a b) I := by
  refine ⟨(Nat.le_of_ble_eq_true rfl), ?_⟩
  refine ev_iload_n (i := 0) dX10_most_0 rfl rfl ?_
  refine ev_iload_n (i := 1) dX10_most_1 rfl rfl ?_
  refine ev_icmp_le (tgt := 9) dX10_most_2 (by decide) (fun h2 => ?_) (fun h2 => ?_)
  · refine ev_iload_n (i := 1) dX10_most_9 rfl rfl ?_
    exact s_retI dX10_most_10 ⟨by unfold nv_max; split <;> first | rfl | (exfalso; exact h2 (Int32.le_of_lt (by assumption))) | exact Int32.le_antisymm (by assumption) (Int32.not_lt.mp (by assumption)) | exact (Int32.le_antisymm (by assumption) (Int32.not_lt.mp (by assumption))).symm, rfl⟩
  · refine ev_iload_n (i := 0) dX10_most_5 rfl rfl ?_
    refine ev_goto (tgt := 10) dX10_most_6 (by decide) ?_
    exact s_retI dX10_most_10 ⟨by unfold nv_max; split <;> first | rfl | (exfalso; exact h2 (Int32.le_of_lt (by assumption))) | exact Int32.le_antisymm (by assumption) (Int32.not_lt.mp (by assumption)) | exact (Int32.le_antisymm (by assumption) (Int32.not_lt.mp (by assumption))).symm, rfl⟩
theorem m_isRow (x : Int32) : nw_dZ l g 1 mX10_isRow [.int x] I (nv_in x 0 7) I := by
  refine ⟨(Nat.le_of_ble_eq_true rfl), ?_⟩
  refine ev_iload_n (i := 0) dX10_isRow_0 rfl rfl ?_
  refine ev_i2l dX10_isRow_1 ?_
  refine ev_lconst (v := 0) dX10_isRow_2 rfl ?_
  refine ev_ldc2 qX10_62 dX10_isRow_3 ?_
  refine s_dSz (As := [_, _, _]) (m_in _ 0 7 (by decide) (by decide)) (Nat.le_of_ble_eq_true rfl) lX10_64 kX10_in sX10_in dX10_isRow_6 rfl rfl (Nat.le_of_ble_eq_true rfl) ?_
  exact s_retZ dX10_isRow_9 ⟨rfl, rfl⟩
theorem m_finds (x : Int32) : nw_dI l g 0 mX10_finds [.ref (nw_a g 219), .int x] I (-1000010 - x) (nw_up I 219 3 x) := by
  refine ⟨(Nat.le_of_ble_eq_true rfl), ?_⟩
  refine ev_aload_n (i := 0) dX10_finds_0 rfl rfl ?_
  refine ev_iload_n (i := 1) dX10_finds_1 rfl rfl ?_
  refine ev_putI fX10_68 dX10_finds_2 rfl rfl (by decide) rfl rfl rfl rfl ?_
  refine ev_ldc qX10_72 dX10_finds_5 ?_
  refine ev_iload_n (i := 1) dX10_finds_7 rfl rfl ?_
  refine ev_isub dX10_finds_8 ?_
  exact s_retI dX10_finds_9 ⟨rfl, rfl⟩
theorem m_well (x : Int32) : nw_dI l g 0 mX10_well [.ref (nw_a g 219), .int x] I x (nw_up I 219 3 0) := by
  refine ⟨(Nat.le_of_ble_eq_true rfl), ?_⟩
  refine ev_aload_n (i := 0) dX10_well_0 rfl rfl ?_
  refine ev_iconst (v := 0) dX10_well_1 kc_0 ?_
  refine ev_putI fX10_68 dX10_well_2 rfl rfl (by decide) rfl rfl rfl rfl ?_
  refine ev_iload_n (i := 1) dX10_well_5 rfl rfl ?_
  exact s_retI dX10_well_6 ⟨rfl, rfl⟩
theorem m_isSea : nw_dZ l g 0 mX10_isSea [.ref (nw_a g 219)] I (decide (I 225 0 = 1)) I := by
  refine ⟨(Nat.le_of_ble_eq_true rfl), ?_⟩
  refine ev_aload_n (i := 0) dX10_isSea_0 rfl rfl ?_
  refine ev_getR fX10_25 dX10_isSea_1 rfl rfl (by decide) ?_
  refine ev_iconst (v := 0) dX10_isSea_4 kc_0 ?_
  refine ev_ialdN (j := 0) dX10_isSea_5 rfl (by omega) (by decide) ?_
  refine ev_iconst (v := 1) dX10_isSea_6 kc_1 ?_
  refine ev_icmp_ne (tgt := 14) dX10_isSea_7 (by decide) (fun h7 => ?_) (fun h7 => ?_)
  · refine ev_iconst (v := 0) dX10_isSea_14 kc_0 ?_
    exact s_ret0 dX10_isSea_15 ⟨by simp [*], rfl⟩
  · refine ev_iconst (v := 1) dX10_isSea_10 kc_1 ?_
    refine ev_goto (tgt := 15) dX10_isSea_11 (by decide) ?_
    exact s_ret1 dX10_isSea_15 ⟨by simp [*], rfl⟩
theorem m_isShip (x : Int32) : nw_dZ l g 1 mX10_isShip [.ref (nw_a g 219), .int x] I (nv_in x 0 (I 225 5 - 1)) I := by
  refine ⟨(Nat.le_of_ble_eq_true rfl), ?_⟩
  refine ev_iload_n (i := 1) dX10_isShip_0 rfl rfl ?_
  refine ev_i2l dX10_isShip_1 ?_
  refine ev_lconst (v := 0) dX10_isShip_2 rfl ?_
  refine ev_aload_n (i := 0) dX10_isShip_3 rfl rfl ?_
  refine ev_getR fX10_25 dX10_isShip_4 rfl rfl (by decide) ?_
  refine ev_iconst (v := 5) dX10_isShip_7 kc_5 ?_
  refine ev_ialdN (j := 5) dX10_isShip_8 rfl (by omega) (by decide) ?_
  refine ev_iconst (v := 1) dX10_isShip_9 kc_1 ?_
  refine ev_isub dX10_isShip_10 ?_
  refine ev_i2l dX10_isShip_11 ?_
  refine s_dSz (As := [_, _, _]) (m_in _ 0 _ (by decide) rfl) (Nat.le_of_ble_eq_true rfl) lX10_64 kX10_in sX10_in dX10_isShip_12 rfl rfl (Nat.le_of_ble_eq_true rfl) ?_
  exact s_retZ dX10_isShip_15 ⟨rfl, rfl⟩
theorem m_isTower (x : Int32) : nw_dZ l g 1 mX10_isTower [.ref (nw_a g 219), .int x] I (nv_in x 0 (I 225 4 - 1)) I := by
  refine ⟨(Nat.le_of_ble_eq_true rfl), ?_⟩
  refine ev_iload_n (i := 1) dX10_isTower_0 rfl rfl ?_
  refine ev_i2l dX10_isTower_1 ?_
  refine ev_lconst (v := 0) dX10_isTower_2 rfl ?_
  refine ev_aload_n (i := 0) dX10_isTower_3 rfl rfl ?_
  refine ev_getR fX10_25 dX10_isTower_4 rfl rfl (by decide) ?_
  refine ev_iconst (v := 4) dX10_isTower_7 kc_4 ?_
  refine ev_ialdN (j := 4) dX10_isTower_8 rfl (by omega) (by decide) ?_
  refine ev_iconst (v := 1) dX10_isTower_9 kc_1 ?_
  refine ev_isub dX10_isTower_10 ?_
  refine ev_i2l dX10_isTower_11 ?_
  refine s_dSz (As := [_, _, _]) (m_in _ 0 _ (by decide) rfl) (Nat.le_of_ble_eq_true rfl) lX10_64 kX10_in sX10_in dX10_isTower_12 rfl rfl (Nat.le_of_ble_eq_true rfl) ?_
  exact s_retZ dX10_isTower_15 ⟨rfl, rfl⟩
theorem m_isSwell (x : Int32) : nw_dZ l g 1 mX10_isSwell [.ref (nw_a g 219), .int x] I (nv_in x 0 (I 225 3 - 1)) I := by
  refine ⟨(Nat.le_of_ble_eq_true rfl), ?_⟩
  refine ev_iload_n (i := 1) dX10_isSwell_0 rfl rfl ?_
  refine ev_i2l dX10_isSwell_1 ?_
  refine ev_lconst (v := 0) dX10_isSwell_2 rfl ?_
  refine ev_aload_n (i := 0) dX10_isSwell_3 rfl rfl ?_
  refine ev_getR fX10_25 dX10_isSwell_4 rfl rfl (by decide) ?_
  refine ev_iconst (v := 3) dX10_isSwell_7 kc_3 ?_
  refine ev_ialdN (j := 3) dX10_isSwell_8 rfl (by omega) (by decide) ?_
  refine ev_iconst (v := 1) dX10_isSwell_9 kc_1 ?_
  refine ev_isub dX10_isSwell_10 ?_
  refine ev_i2l dX10_isSwell_11 ?_
  refine s_dSz (As := [_, _, _]) (m_in _ 0 _ (by decide) rfl) (Nat.le_of_ble_eq_true rfl) lX10_64 kX10_in sX10_in dX10_isSwell_12 rfl rfl (Nat.le_of_ble_eq_true rfl) ?_
  exact s_retZ dX10_isSwell_15 ⟨rfl, rfl⟩
def nv_kd (k : Int32) : Prop := k = 1 ∨ k = 2 ∨ k = 3 ∨ k = 4 ∨ k = 5
theorem m_lift {k : Int32} (hk : nv_kd k) (h : Int32) : nw_dI l g 1 mX10_lift [.int k, .int h] I (nv_lift k h) I := by
  refine ⟨(Nat.le_of_ble_eq_true rfl), ?_⟩
  refine ev_iload_n (i := 0) dX10_lift_0 rfl rfl ?_
  refine ev_iconst (v := 1) dX10_lift_1 kc_1 ?_
  refine ev_icmp_ne (tgt := 9) dX10_lift_2 (by decide) (fun h2 => ?_) (fun h2 => ?_)
  · refine ev_iload_n (i := 0) dX10_lift_9 rfl rfl ?_
    refine ev_iconst (v := 2) dX10_lift_10 kc_2 ?_
    refine ev_icmp_ne (tgt := 20) dX10_lift_11 (by decide) (fun h11 => ?_) (fun h11 => ?_)
    · refine ev_iload_n (i := 0) dX10_lift_20 rfl rfl ?_
      refine ev_iconst (v := 3) dX10_lift_21 kc_3 ?_
      refine ev_icmp_ne (tgt := 31) dX10_lift_22 (by decide) (fun h22 => ?_) (fun h22 => ?_)
      · refine ev_iload_n (i := 0) dX10_lift_31 rfl rfl ?_
        refine ev_iconst (v := 4) dX10_lift_32 kc_4 ?_
        refine ev_icmp_ne (tgt := 40) dX10_lift_33 (by decide) (fun h33 => ?_) (fun h33 => ?_)
        · refine ev_iconst (v := 0) dX10_lift_40 kc_0 ?_
          refine ev_iload_n (i := 1) dX10_lift_41 rfl rfl ?_
          refine ev_iconst (v := 5) dX10_lift_42 kc_5 ?_
          refine ev_isub dX10_lift_43 ?_
          refine s_dSi (As := [_, _]) (m_most _ _) (Nat.le_of_ble_eq_true rfl) lX10_169 kX10_most sX10_most dX10_lift_44 rfl rfl (Nat.le_of_ble_eq_true rfl) ?_
          exact s_retI dX10_lift_47 ⟨by rcases hk with rfl | rfl | rfl | rfl | rfl <;> first | rfl | (exfalso; first | exact absurd rfl (by assumption) | exact absurd ‹(_ : Int32) = _› (by decide)) | exact Int32.mul_comm _ _, rfl⟩
        · refine ev_iconst (v := 0) dX10_lift_36 kc_0 ?_
          refine ev_goto (tgt := 47) dX10_lift_37 (by decide) ?_
          exact s_retI dX10_lift_47 ⟨by rcases hk with rfl | rfl | rfl | rfl | rfl <;> first | rfl | (exfalso; first | exact absurd rfl (by assumption) | exact absurd ‹(_ : Int32) = _› (by decide)) | exact Int32.mul_comm _ _, rfl⟩
      · refine ev_iconst (v := 2) dX10_lift_25 kc_2 ?_
        refine ev_iload_n (i := 1) dX10_lift_26 rfl rfl ?_
        refine ev_imul dX10_lift_27 ?_
        refine ev_goto (tgt := 47) dX10_lift_28 (by decide) ?_
        exact s_retI dX10_lift_47 ⟨by rcases hk with rfl | rfl | rfl | rfl | rfl <;> first | rfl | (exfalso; first | exact absurd rfl (by assumption) | exact absurd ‹(_ : Int32) = _› (by decide)) | exact Int32.mul_comm _ _, rfl⟩
    · refine ev_iload_n (i := 1) dX10_lift_14 rfl rfl ?_
      refine ev_iconst (v := 2) dX10_lift_15 kc_2 ?_
      refine ev_idiv dX10_lift_16 (by decide) ?_
      refine ev_goto (tgt := 47) dX10_lift_17 (by decide) ?_
      exact s_retI dX10_lift_47 ⟨by rcases hk with rfl | rfl | rfl | rfl | rfl <;> first | rfl | (exfalso; first | exact absurd rfl (by assumption) | exact absurd ‹(_ : Int32) = _› (by decide)) | exact Int32.mul_comm _ _, rfl⟩
  · refine ev_iload_n (i := 1) dX10_lift_5 rfl rfl ?_
    refine ev_goto (tgt := 47) dX10_lift_6 (by decide) ?_
    exact s_retI dX10_lift_47 ⟨by rcases hk with rfl | rfl | rfl | rfl | rfl <;> first | rfl | (exfalso; first | exact absurd rfl (by assumption) | exact absurd ‹(_ : Int32) = _› (by decide)) | exact Int32.mul_comm _ _, rfl⟩
theorem m_counted (s k : Int32) : nw_dI l g 0 mX10_counted [.int s, .int k] I (nv_step s k) I := by
  refine ⟨(Nat.le_of_ble_eq_true rfl), ?_⟩
  refine ev_iload_n (i := 1) dX10_counted_0 rfl rfl ?_
  refine ev_iconst (v := 2) dX10_counted_1 kc_2 ?_
  refine ev_icmp_ne (tgt := 13) dX10_counted_2 (by decide) (fun h2 => ?_) (fun h2 => ?_)
  · refine ev_iload_n (i := 1) dX10_counted_13 rfl rfl ?_
    refine ev_iconst (v := 4) dX10_counted_14 kc_4 ?_
    refine ev_icmp_ne (tgt := 26) dX10_counted_15 (by decide) (fun h15 => ?_) (fun h15 => ?_)
    · refine ev_iload_n (i := 1) dX10_counted_26 rfl rfl ?_
      refine ev_iconst (v := 5) dX10_counted_27 kc_5 ?_
      refine ev_icmp_ne (tgt := 39) dX10_counted_28 (by decide) (fun h28 => ?_) (fun h28 => ?_)
      · refine ev_iconst (v := 1) dX10_counted_39 kc_1 ?_
        exact s_retI dX10_counted_40 ⟨by simp [nv_step, *], rfl⟩
      · refine ev_iload_n (i := 0) dX10_counted_31 rfl rfl ?_
        refine ev_iconst (v := 2) dX10_counted_32 kc_2 ?_
        refine ev_ishr dX10_counted_33 ?_
        refine ev_iconst (v := 1) dX10_counted_34 kc_1 ?_
        refine ev_iand dX10_counted_35 ?_
        refine ev_goto (tgt := 40) dX10_counted_36 (by decide) ?_
        exact s_retI dX10_counted_40 ⟨by simp [nv_step, *], rfl⟩
    · refine ev_iload_n (i := 0) dX10_counted_18 rfl rfl ?_
      refine ev_iconst (v := 1) dX10_counted_19 kc_1 ?_
      refine ev_ishr dX10_counted_20 ?_
      refine ev_iconst (v := 1) dX10_counted_21 kc_1 ?_
      refine ev_iand dX10_counted_22 ?_
      refine ev_goto (tgt := 40) dX10_counted_23 (by decide) ?_
      exact s_retI dX10_counted_40 ⟨by simp [nv_step, *], rfl⟩
  · refine ev_iconst (v := 1) dX10_counted_5 kc_1 ?_
    refine ev_iload_n (i := 0) dX10_counted_6 rfl rfl ?_
    refine ev_iconst (v := 1) dX10_counted_7 kc_1 ?_
    refine ev_iand dX10_counted_8 ?_
    refine ev_iadd dX10_counted_9 ?_
    refine ev_goto (tgt := 40) dX10_counted_10 (by decide) ?_
    exact s_retI dX10_counted_40 ⟨by simp [nv_step, *], rfl⟩
theorem m_isCalled (c s : Int32) {k : Int32} (hk : ¬ k ≤ 0) : nw_dZ l g 0 mX10_isCalled [.int c, .int s, .int k] I (nv_calls c s k) I := by
  refine ⟨(Nat.le_of_ble_eq_true rfl), ?_⟩
  refine ev_iload_n (i := 0) dX10_isCalled_0 rfl rfl ?_
  refine ev_iload_n (i := 1) dX10_isCalled_1 rfl rfl ?_
  refine ev_iadd dX10_isCalled_2 ?_
  refine ev_iload_n (i := 2) dX10_isCalled_3 rfl rfl ?_
  refine ev_idiv dX10_isCalled_4 (nw_ne0 hk) ?_
  refine ev_iload_n (i := 0) dX10_isCalled_5 rfl rfl ?_
  refine ev_iload_n (i := 2) dX10_isCalled_6 rfl rfl ?_
  refine ev_idiv dX10_isCalled_7 (nw_ne0 hk) ?_
  refine ev_icmp_le (tgt := 15) dX10_isCalled_8 (by decide) (fun h8 => ?_) (fun h8 => ?_)
  · refine ev_iconst (v := 0) dX10_isCalled_15 kc_0 ?_
    exact s_ret0 dX10_isCalled_16 ⟨by simp [nv_calls, *], rfl⟩
  · refine ev_iconst (v := 1) dX10_isCalled_11 kc_1 ?_
    refine ev_goto (tgt := 16) dX10_isCalled_12 (by decide) ?_
    exact s_ret1 dX10_isCalled_16 ⟨by simp [nv_calls, *], rfl⟩
/-- the places that count -/
def nl_c (N T S i : Nat) : Prop := (1 ≤ i ∧ i ≤ 5) ∨ (6 ≤ i ∧ i < 6 + N) ∨ (26 ≤ i ∧ i < 26 + N) ∨ (46 ≤ i ∧ i < 46 + T) ∨ (49 ≤ i ∧ i < 49 + S)
def nl_f (T S i : Nat) : Prop := i = 0 ∨ (i = 1 ∧ 0 < T) ∨ (2 ≤ i ∧ i < 2 + T) ∨ (5 ≤ i ∧ i < 5 + S) ∨ (11 ≤ i ∧ i < 11 + S) ∨ (17 ≤ i ∧ i < 17 + S) ∨ (23 ≤ i ∧ i < 23 + S)
def nl_C (N T S : Nat) (C f : Nat → Int32) : Prop := nv_cok C N T S ∧ ∀ i, nl_c N T S i → f i = C i
def nl_F (T S : Nat) (G f : Nat → Int32) : Prop := ∀ i, nl_f T S i → f i = G i
theorem nl_F.upd {f : Nat → Int32} (h : nl_F T S G f) (i : Nat) (v : Int32) : nl_F T S (upd G i v) (upd f i v) := fun j hj => by
  by_cases e : j = i
  · subst e
    rw [pk_us, pk_us]
  · rw [pk_un e, pk_un e]
    exact h j hj
theorem nl_F.ge {f f' : Nat → Int32} (h : nl_F T S G f) (e : ∀ i, i < 29 → f' i = f i) (hT : T ≤ 3) (hS : S ≤ 6) : nl_F T S G f' := fun j hj => by
  rw [e j (by unfold nl_f at hj; omega)]
  exact h j hj
theorem nl_C.n {f : Nat → Int32} (h : nl_C N T S C f) : f 3 = nI N := by rw [h.2 3 (by unfold nl_c; omega)]; exact h.1.1
theorem nl_C.t {f : Nat → Int32} (h : nl_C N T S C f) : f 4 = nI T := by rw [h.2 4 (by unfold nl_c; omega)]; exact h.1.2.1
theorem nl_C.s {f : Nat → Int32} (h : nl_C N T S C f) : f 5 = nI S := by rw [h.2 5 (by unfold nl_c; omega)]; exact h.1.2.2.1
theorem nl_C.hN {f : Nat → Int32} (h : nl_C N T S C f) : N ≤ 20 := h.1.2.2.2.1
theorem nl_C.hT {f : Nat → Int32} (h : nl_C N T S C f) : T ≤ 3 := h.1.2.2.2.2.1
theorem nl_C.hS {f : Nat → Int32} (h : nl_C N T S C f) : S ≤ 6 := h.1.2.2.2.2.2
theorem nv_kok.kd (h : nv_kok N C) (hC : nv_cok C N T S) (h0 : 0 < N) {v : Nat} (hv : v < 2 ^ 31) : nv_kd (p_kind C (nI v)) := by
  unfold p_kind
  rw [p_ix_nI hC.1 hC.2.2.2.1 hv]
  obtain ⟨t, h1, h5, e⟩ := h (v % N) (Nat.mod_lt _ h0)
  rw [e]
  unfold nv_kd
  rcases (show t = 1 ∨ t = 2 ∨ t = 3 ∨ t = 4 ∨ t = 5 by omega) with rfl | rfl | rfl | rfl | rfl <;> decide
theorem m_sortIn (hC : nl_C N T S C (I 225)) (h0 : 0 < N) {v : Nat} (hv : v < 2 ^ 31) : nw_dI l g 0 mX10_sortIn [.ref (nw_a g 219), .int (nI v)] I (p_kind C (nI v)) I := by
  refine ⟨(Nat.le_of_ble_eq_true rfl), ?_⟩
  have hN := hC.n
  have hN2 := hC.hN
  have hm := Nat.mod_lt v h0
  refine ev_aload_n (i := 0) dX10_sortIn_0 rfl rfl ?_
  refine ev_getR fX10_25 dX10_sortIn_1 rfl rfl (by decide) ?_
  refine ev_bipush (v := 6) dX10_sortIn_4 kb_6 ?_
  refine ev_iload_n (i := 1) dX10_sortIn_6 rfl rfl ?_
  refine ev_aload_n (i := 0) dX10_sortIn_7 rfl rfl ?_
  refine ev_getR fX10_25 dX10_sortIn_8 rfl rfl (by decide) ?_
  refine ev_iconst (v := 3) dX10_sortIn_11 kc_3 ?_
  refine ev_ialdN (j := 3) dX10_sortIn_12 rfl (by omega) (by decide) ?_
  rw [hN]
  refine ev_irem dX10_sortIn_13 (nI_ne0 h0 (by omega)) ?_
  rw [pk_rem hv h0 (by omega)]
  refine ev_iaddN (a := 6) (b := (v % N)) dX10_sortIn_14 ?_
  refine ev_ialdN (j := (6 + (v % N))) dX10_sortIn_15 rfl (by omega) (by decide) ?_
  exact s_retI dX10_sortIn_16 ⟨by unfold p_kind; rw [p_ix_nI hC.1.1 hN2 hv]; exact hC.2 _ (by unfold nl_c; omega), rfl⟩
theorem m_heightIn (hC : nl_C N T S C (I 225)) (h0 : 0 < N) {v : Nat} (hv : v < 2 ^ 31) : nw_dI l g 0 mX10_heightIn [.ref (nw_a g 219), .int (nI v)] I (p_hei C (nI v)) I := by
  refine ⟨(Nat.le_of_ble_eq_true rfl), ?_⟩
  have hN := hC.n
  have hN2 := hC.hN
  have hm := Nat.mod_lt v h0
  refine ev_aload_n (i := 0) dX10_heightIn_0 rfl rfl ?_
  refine ev_getR fX10_25 dX10_heightIn_1 rfl rfl (by decide) ?_
  refine ev_bipush (v := 26) dX10_heightIn_4 kb_26 ?_
  refine ev_iload_n (i := 1) dX10_heightIn_6 rfl rfl ?_
  refine ev_aload_n (i := 0) dX10_heightIn_7 rfl rfl ?_
  refine ev_getR fX10_25 dX10_heightIn_8 rfl rfl (by decide) ?_
  refine ev_iconst (v := 3) dX10_heightIn_11 kc_3 ?_
  refine ev_ialdN (j := 3) dX10_heightIn_12 rfl (by omega) (by decide) ?_
  rw [hN]
  refine ev_irem dX10_heightIn_13 (nI_ne0 h0 (by omega)) ?_
  rw [pk_rem hv h0 (by omega)]
  refine ev_iaddN (a := 26) (b := (v % N)) dX10_heightIn_14 ?_
  refine ev_ialdN (j := (26 + (v % N))) dX10_heightIn_15 rfl (by omega) (by decide) ?_
  exact s_retI dX10_heightIn_16 ⟨by unfold p_hei; rw [p_ix_nI hC.1.1 hN2 hv]; exact hC.2 _ (by unfold nl_c; omega), rfl⟩
theorem m_water (hC : nl_C N T S C (I 225)) (w : Int32) {k : Int32} (hk : nv_kd k) (h : Int32) : nw_dI l g 2 mX10_water [.ref (nw_a g 219), .int w, .int k, .int h] I (p_dep C w + nv_lift k h) I := by
  refine ⟨(Nat.le_of_ble_eq_true rfl), ?_⟩
  refine ev_iconst (v := 0) dX10_water_0 kc_0 ?_
  refine ev_aload_n (i := 0) dX10_water_1 rfl rfl ?_
  refine ev_getR fX10_25 dX10_water_2 rfl rfl (by decide) ?_
  refine ev_iconst (v := 1) dX10_water_5 kc_1 ?_
  refine ev_ialdN (j := 1) dX10_water_6 rfl (by omega) (by decide) ?_
  refine ev_aload_n (i := 0) dX10_water_7 rfl rfl ?_
  refine ev_getR fX10_25 dX10_water_8 rfl rfl (by decide) ?_
  refine ev_iconst (v := 2) dX10_water_11 kc_2 ?_
  refine ev_ialdN (j := 2) dX10_water_12 rfl (by omega) (by decide) ?_
  refine ev_iload_n (i := 1) dX10_water_13 rfl rfl ?_
  refine ev_imul dX10_water_14 ?_
  refine ev_bipush (v := 10) dX10_water_15 kb_10 ?_
  refine ev_idiv dX10_water_17 (by decide) ?_
  refine ev_isub dX10_water_18 ?_
  refine s_dSi (As := [_, _]) (m_most _ _) (Nat.le_of_ble_eq_true rfl) lX10_169 kX10_most sX10_most dX10_water_19 rfl rfl (Nat.le_of_ble_eq_true rfl) ?_
  refine ev_iload_n (i := 2) dX10_water_22 rfl rfl ?_
  refine ev_iload_n (i := 3) dX10_water_23 rfl rfl ?_
  refine s_dSi (As := [_, _]) (m_lift hk _) (Nat.le_of_ble_eq_true rfl) lX10_173 kX10_lift sX10_lift dX10_water_24 rfl rfl (Nat.le_of_ble_eq_true rfl) ?_
  refine ev_iadd dX10_water_27 ?_
  exact s_retI dX10_water_28 ⟨by unfold p_dep; rw [hC.2 1 (by unfold nl_c; omega), hC.2 2 (by unfold nl_c; omega)], rfl⟩
theorem m_waterIn (hC : nl_C N T S C (I 225)) (h0 : 0 < N) (hk : nv_kok N C) {v : Nat} (hv : v < 2 ^ 31) : nw_dI l g 3 mX10_waterIn [.ref (nw_a g 219), .int (nI v)] I (p_wat C (nI v)) I := by
  refine ⟨(Nat.le_of_ble_eq_true rfl), ?_⟩
  refine ev_aload_n (i := 0) dX10_waterIn_0 rfl rfl ?_
  refine ev_iload_n (i := 1) dX10_waterIn_1 rfl rfl ?_
  refine ev_aload_n (i := 0) dX10_waterIn_2 rfl rfl ?_
  refine ev_iload_n (i := 1) dX10_waterIn_3 rfl rfl ?_
  refine s_dVi (As := [_]) (m_sortIn hC h0 hv) (Nat.le_of_ble_eq_true rfl) lX10_176 kX10_sortIn vX10_sortIn dX10_waterIn_4 rfl rfl rfl (by decide) rfl (Nat.le_of_ble_eq_true rfl) ?_
  refine ev_aload_n (i := 0) dX10_waterIn_7 rfl rfl ?_
  refine ev_iload_n (i := 1) dX10_waterIn_8 rfl rfl ?_
  refine s_dVi (As := [_]) (m_heightIn hC h0 hv) (Nat.le_of_ble_eq_true rfl) lX10_179 kX10_heightIn vX10_heightIn dX10_waterIn_9 rfl rfl rfl (by decide) rfl (Nat.le_of_ble_eq_true rfl) ?_
  refine s_dVi (As := [_, _, _]) (m_water hC _ (hk.kd hC.1 h0 hv) _) (Nat.le_of_ble_eq_true rfl) lX10_182 kX10_water vX10_water dX10_waterIn_12 rfl rfl rfl (by decide) rfl (Nat.le_of_ble_eq_true rfl) ?_
  exact s_retI dX10_waterIn_15 ⟨rfl, rfl⟩
/-- n places from o on taken out of f -/
def nm_mx (o n : Nat) (f h : Nat → Int32) : Nat → Int32 := fun i => if o ≤ i ∧ i < o + n then f (i - o) else h i
theorem nm_mx_0 (o : Nat) (f h : Nat → Int32) : nm_mx o 0 f h = h := by funext i; unfold nm_mx; rw [if_neg (by omega)]
theorem nm_mx_s (o n : Nat) (f h : Nat → Int32) : upd (nm_mx o n f h) (o + n) (f n) = nm_mx o (n + 1) f h := by
  funext i
  unfold upd nm_mx
  by_cases e : i = o + n
  · subst e
    rw [if_pos rfl, if_pos (by omega), Nat.add_sub_cancel_left]
  · rw [if_neg e]
    by_cases c : o ≤ i ∧ i < o + n
    · rw [if_pos c, if_pos (by omega)]
    · rw [if_neg c, if_neg (by omega)]
theorem nm_mx_in {o n i : Nat} {f h : Nat → Int32} (hi : i < n) : nm_mx o n f h (o + i) = f i := by unfold nm_mx; rw [if_pos (by omega), Nat.add_sub_cancel_left]
theorem nm_mx_out {o n i : Nat} {f h : Nat → Int32} (hi : i < o ∨ o + n ≤ i) : nm_mx o n f h i = h i := by unfold nm_mx; rw [if_neg (by omega)]
theorem l_asNow : ∀ (k p : Nat) (J : nw_Me), p + k = 29 → J 233 = nm_mx 0 p (I 226) (I 233) → (∀ q, q ≠ 233 → J q = I q) → nw_S l g 0 mX10_asNow 2 [some (.ref (nw_a g 219)), some (.int (nI p))] [] J (nw_qV (fun K => K 233 = nm_mx 0 29 (I 226) (I 233) ∧ ∀ q, q ≠ 233 → K q = I q)) := by
  intro k
  induction k with
  | zero =>
    intro p J hp h1 h2
    obtain rfl : p = 29 := by omega
    refine ev_iload_n (i := 1) dX10_asNow_2 rfl rfl ?_
    refine ev_bipush (v := 29) dX10_asNow_3 kb_29 ?_
    refine ev_icmp_ge (tgt := 26) dX10_asNow_5 (by decide) (fun h5 => ?_) (fun h5 => ?_)
    · exact s_retV dX10_asNow_26 ⟨h1, h2⟩
    · exact absurd (by decide) h5
  | succ k ih =>
    intro p J hp h1 h2
    have e29 : (29 : Int32) = nI 29 := by decide
    refine ev_iload_n (i := 1) dX10_asNow_2 rfl rfl ?_
    refine ev_bipush (v := 29) dX10_asNow_3 kb_29 ?_
    refine ev_icmp_ge (tgt := 26) dX10_asNow_5 (by decide) (fun h5 => ?_) (fun h5 => ?_)
    · exact absurd h5 (by rw [e29]; exact nI_ge (by omega) (by omega))
    · refine ev_aload_n (i := 0) dX10_asNow_8 rfl rfl ?_
      refine ev_getR fX10_50 dX10_asNow_9 rfl rfl (by decide) ?_
      refine ev_iload_n (i := 1) dX10_asNow_12 rfl rfl ?_
      refine ev_aload_n (i := 0) dX10_asNow_13 rfl rfl ?_
      refine ev_getR fX10_28 dX10_asNow_14 rfl rfl (by decide) ?_
      refine ev_iload_n (i := 1) dX10_asNow_17 rfl rfl ?_
      refine ev_ialdN (j := p) dX10_asNow_18 rfl (by omega) (by decide) ?_
      refine ev_iastN (j := p) dX10_asNow_19 rfl (by omega) (by decide) ?_
      refine ev_iincN (a := p) dX10_asNow_20 rfl (Nat.le_of_ble_eq_true rfl) rfl ?_
      refine ev_goto (tgt := 2) dX10_asNow_23 (by decide) ?_
      refine ih (p + 1) _ (by omega) ?_ (fun q hq => by rw [nw_up_ne hq]; exact h2 q hq)
      rw [nw_up_self, h2 226 (by decide), h1]
      have e := nm_mx_s 0 p (I 226) (I 233)
      rw [Nat.zero_add] at e
      exact e
theorem m_asNow : nw_cV l g 0 mX10_asNow [.ref (nw_a g 219)] I (fun K => K 233 = nm_mx 0 29 (I 226) (I 233) ∧ ∀ q, q ≠ 233 → K q = I q) := by
  refine ⟨(Nat.le_of_ble_eq_true rfl), ?_⟩
  refine ev_iconst (v := 0) dX10_asNow_0 kc_0 ?_
  refine ev_istore_n (i := 1) dX10_asNow_1 rfl (Nat.le_of_ble_eq_true rfl) rfl ?_
  exact l_asNow 29 0 I (by omega) (nm_mx_0 _ _ _).symm (fun _ _ => rfl)
theorem l_many (hC : nl_C N T S C (I 225)) (hG : nl_F T S G (I 233)) (x : Int32) : ∀ (k p m : Nat), p + k = S → nw_S l g 0 mX10_many 4 [some (.ref (nw_a g 219)), some (.int x), some (.int (nI m)), some (.int (nI p))] [] I (nw_qI (fun r J => r = nI (m + p_cnt (p_isf G x) k p) ∧ J = I)) := by
  have hS := hC.s
  have hS6 := hC.hS
  intro k
  induction k with
  | zero =>
    intro p m hp
    refine ev_iload_n (i := 3) dX10_many_4 rfl rfl ?_
    refine ev_aload_n (i := 0) dX10_many_5 rfl rfl ?_
    refine ev_getR fX10_25 dX10_many_6 rfl rfl (by decide) ?_
    refine ev_iconst (v := 5) dX10_many_9 kc_5 ?_
    refine ev_ialdN (j := 5) dX10_many_10 rfl (by omega) (by decide) ?_
    rw [hS]
    refine ev_icmp_ge (tgt := 41) dX10_many_11 (by decide) (fun h11 => ?_) (fun h11 => ?_)
    · refine ev_iload_n (i := 2) dX10_many_41 rfl rfl ?_
      exact s_retI dX10_many_42 ⟨rfl, rfl⟩
    · exact absurd (nI_le (by omega) (by omega)) h11
  | succ k ih =>
    intro p m hp
    have ep := hG (17 + p) (by unfold nl_f; omega)
    refine ev_iload_n (i := 3) dX10_many_4 rfl rfl ?_
    refine ev_aload_n (i := 0) dX10_many_5 rfl rfl ?_
    refine ev_getR fX10_25 dX10_many_6 rfl rfl (by decide) ?_
    refine ev_iconst (v := 5) dX10_many_9 kc_5 ?_
    refine ev_ialdN (j := 5) dX10_many_10 rfl (by omega) (by decide) ?_
    rw [hS]
    refine ev_icmp_ge (tgt := 41) dX10_many_11 (by decide) (fun h11 => ?_) (fun h11 => ?_)
    · exact absurd h11 (nI_ge (by omega) (by omega))
    · refine ev_iload_n (i := 2) dX10_many_14 rfl rfl ?_
      refine ev_aload_n (i := 0) dX10_many_15 rfl rfl ?_
      refine ev_getR fX10_50 dX10_many_16 rfl rfl (by decide) ?_
      refine ev_bipush (v := 17) dX10_many_19 kb_17 ?_
      refine ev_iload_n (i := 3) dX10_many_21 rfl rfl ?_
      refine ev_iaddN (a := 17) (b := p) dX10_many_22 ?_
      refine ev_ialdN (j := (17 + p)) dX10_many_23 rfl (by omega) (by decide) ?_
      rw [ep]
      refine ev_iload_n (i := 1) dX10_many_24 rfl rfl ?_
      refine ev_icmp_ne (tgt := 32) dX10_many_25 (by decide) (fun h25 => ?_) (fun h25 => ?_)
      · refine ev_iconst (v := 0) dX10_many_32 kc_0 ?_
        refine ev_iadd dX10_many_33 ?_
        refine ev_istore_n (i := 2) dX10_many_34 rfl (Nat.le_of_ble_eq_true rfl) rfl ?_
        refine ev_iincN (a := p) dX10_many_35 rfl (Nat.le_of_ble_eq_true rfl) rfl ?_
        refine ev_goto (tgt := 4) dX10_many_38 (by decide) ?_
        first
          | rw [p_cnt_t (by simp [p_isf, *]) m, nI_1]; exact ih (p + 1) (m + 1) (by omega)
          | rw [p_cnt_f (by simp [p_isf, *]) m, Int32.add_zero]; exact ih (p + 1) m (by omega)
      · refine ev_iconst (v := 1) dX10_many_28 kc_1 ?_
        refine ev_goto (tgt := 33) dX10_many_29 (by decide) ?_
        refine ev_iadd dX10_many_33 ?_
        refine ev_istore_n (i := 2) dX10_many_34 rfl (Nat.le_of_ble_eq_true rfl) rfl ?_
        refine ev_iincN (a := p) dX10_many_35 rfl (Nat.le_of_ble_eq_true rfl) rfl ?_
        refine ev_goto (tgt := 4) dX10_many_38 (by decide) ?_
        first
          | rw [p_cnt_t (by simp [p_isf, *]) m, nI_1]; exact ih (p + 1) (m + 1) (by omega)
          | rw [p_cnt_f (by simp [p_isf, *]) m, Int32.add_zero]; exact ih (p + 1) m (by omega)
theorem m_many (hC : nl_C N T S C (I 225)) (hG : nl_F T S G (I 233)) (x : Int32) : nw_dI l g 0 mX10_many [.ref (nw_a g 219), .int x] I (nI (p_cnt (p_isf G x) S 0)) I := by
  refine ⟨(Nat.le_of_ble_eq_true rfl), ?_⟩
  refine ev_iconst (v := 0) dX10_many_0 kc_0 ?_
  refine ev_istore_n (i := 2) dX10_many_1 rfl (Nat.le_of_ble_eq_true rfl) rfl ?_
  refine ev_iconst (v := 0) dX10_many_2 kc_0 ?_
  refine ev_istore_n (i := 3) dX10_many_3 rfl (Nat.le_of_ble_eq_true rfl) rfl ?_
  have := l_many (l := l) (g := g) hC hG x S 0 0 (by omega)
  rw [Nat.zero_add] at this
  exact this
end
