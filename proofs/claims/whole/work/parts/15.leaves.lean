section
variable {l : Launch} {g : nw_G} {I : nw_Me}
theorem nw_in_lit {n : Nat} {i : Int32} (h : decide (0 ≤ i.toInt ∧ i.toInt < n) = true) : vp_in i n := vp_in_iff.mpr (of_decide_eq_true h)
def nv_in (n a b : Int32) : Bool := decide (¬ n < a) && decide (¬ b < n)
def nv_calls (c s k : Int32) : Bool := decide (¬ k ≤ 0) && decide (¬ (c + s) / k ≤ c / k)
theorem nw_ne0 {k : Int32} (h : ¬ k ≤ 0) : ¬ k = 0 := fun e => h (by rw [e]; decide)
def nv_next (k : Int32) : Int32 := if k < 0 then -1 else if 6 ≤ k then -1 else nw_NEXT k.toNatClampNeg
def nv_step (s k : Int32) : Int32 := if k = 2 then 1 + (s &&& 1) else if k = 4 then (s >>> (1 &&& 31)) &&& 1 else if k = 5 then (s >>> (2 &&& 31)) &&& 1 else 1
def nv_told (c : Int32) : Int32 := if c = 112 then 1 else if c = 115 then 2 else if c = 100 then 3 else if c = 108 then 4 else if c = 109 then 5 else -1
def nv_max (x y : Int32) : Int32 := if x < y then y else x
def nv_lift (k h : Int32) : Int32 := if k = 2 then h / 2 else if k = 3 then h * 2 else if k = 4 then 0 else if k = 5 then nv_max 0 (h - 5) else h
theorem c_within (n a b : Int32) : nw_dZ l g 0 mX9_within [.int n, .int a, .int b] I (nv_in n a b) I := by
  refine ⟨(Nat.le_of_ble_eq_true rfl), ?_⟩
  refine ev_iload_n (i := 0) dX9_within_0 rfl rfl ?_
  refine ev_iload_n (i := 1) dX9_within_1 rfl rfl ?_
  refine ev_icmp_lt (tgt := 14) dX9_within_2 (by decide) (fun h2 => ?_) (fun h2 => ?_)
  · refine ev_iconst (v := 0) dX9_within_14 kc_0 ?_
    exact s_ret0 dX9_within_15 ⟨by simp [nv_in, *], rfl⟩
  · refine ev_iload_n (i := 0) dX9_within_5 rfl rfl ?_
    refine ev_iload_n (i := 2) dX9_within_6 rfl rfl ?_
    refine ev_icmp_gt (tgt := 14) dX9_within_7 (by decide) (fun h7 => ?_) (fun h7 => ?_)
    · refine ev_iconst (v := 0) dX9_within_14 kc_0 ?_
      exact s_ret0 dX9_within_15 ⟨by simp [nv_in, *], rfl⟩
    · refine ev_iconst (v := 1) dX9_within_10 kc_1 ?_
      refine ev_goto (tgt := 15) dX9_within_11 (by decide) ?_
      exact s_ret1 dX9_within_15 ⟨by simp [nv_in, *], rfl⟩
theorem c_calls (c s k : Int32) : nw_dZ l g 0 mX9_calls [.int c, .int s, .int k] I (nv_calls c s k) I := by
  refine ⟨(Nat.le_of_ble_eq_true rfl), ?_⟩
  refine ev_iload_n (i := 2) dX9_calls_0 rfl rfl ?_
  refine ev_if_le (tgt := 19) dX9_calls_1 (by decide) (fun h1 => ?_) (fun h1 => ?_)
  · refine ev_iconst (v := 0) dX9_calls_19 kc_0 ?_
    exact s_ret0 dX9_calls_20 ⟨by simp [nv_calls, *], rfl⟩
  · refine ev_iload_n (i := 0) dX9_calls_4 rfl rfl ?_
    refine ev_iload_n (i := 1) dX9_calls_5 rfl rfl ?_
    refine ev_iadd dX9_calls_6 ?_
    refine ev_iload_n (i := 2) dX9_calls_7 rfl rfl ?_
    refine ev_idiv dX9_calls_8 (nw_ne0 h1) ?_
    refine ev_iload_n (i := 0) dX9_calls_9 rfl rfl ?_
    refine ev_iload_n (i := 2) dX9_calls_10 rfl rfl ?_
    refine ev_idiv dX9_calls_11 (nw_ne0 h1) ?_
    refine ev_icmp_le (tgt := 19) dX9_calls_12 (by decide) (fun h12 => ?_) (fun h12 => ?_)
    · refine ev_iconst (v := 0) dX9_calls_19 kc_0 ?_
      exact s_ret0 dX9_calls_20 ⟨by simp [nv_calls, *], rfl⟩
    · refine ev_iconst (v := 1) dX9_calls_15 kc_1 ?_
      refine ev_goto (tgt := 20) dX9_calls_16 (by decide) ?_
      exact s_ret1 dX9_calls_20 ⟨by simp [nv_calls, *], rfl⟩
theorem c_next (k : Int32) : nw_dI l g 0 mX4_next [.int k] I (nv_next k) I := by
  refine ⟨(Nat.le_of_ble_eq_true rfl), ?_⟩
  refine ev_iload_n (i := 0) dX4_next_0 rfl rfl ?_
  refine ev_if_lt (tgt := 20) dX4_next_1 (by decide) (fun h1 => ?_) (fun h1 => ?_)
  · refine ev_iconst (v := (-1)) dX4_next_20 kc_m1 ?_
    exact s_retI dX4_next_21 ⟨by simp [nv_next, *], rfl⟩
  · refine ev_iload_n (i := 0) dX4_next_4 rfl rfl ?_
    refine ev_gets_next fX4_7 dX4_next_5 ?_
    refine ev_nlen dX4_next_8 ?_
    refine ev_icmp_ge (tgt := 20) dX4_next_9 (by decide) (fun h9 => ?_) (fun h9 => ?_)
    · refine ev_iconst (v := (-1)) dX4_next_20 kc_m1 ?_
      exact s_retI dX4_next_21 ⟨by simp [nv_next, *], rfl⟩
    · refine ev_gets_next fX4_7 dX4_next_12 ?_
      refine ev_iload_n (i := 0) dX4_next_15 rfl rfl ?_
      refine ev_nld dX4_next_16 (vp_in_iff.mpr (by have a1 := Int32.not_lt.mp h1; have a2 := Int32.not_le.mp h9; rw [Int32.le_iff_toInt_le] at a1; rw [Int32.lt_iff_toInt_lt] at a2; exact ⟨a1, a2⟩)) ?_
      refine ev_goto (tgt := 21) dX4_next_17 (by decide) ?_
      exact s_retI dX4_next_21 ⟨by simp [nv_next, *], rfl⟩
theorem c_step (s k : Int32) : nw_dI l g 0 mX4_stepOf [.int s, .int k] I (nv_step s k) I := by
  refine ⟨(Nat.le_of_ble_eq_true rfl), ?_⟩
  refine ev_iload_n (i := 1) dX4_stepOf_0 rfl rfl ?_
  by_cases hw1_2 : k = 2
  · refine ev_tableIn (off := 31) (tgt := 32) dX4_stepOf_1 (by rw [hw1_2]; decide) (by rw [hw1_2]; decide) (by rw [hw1_2]; decide) (by decide) ?_
    refine ev_iconst (v := 1) dX4_stepOf_32 kc_1 ?_
    refine ev_iload_n (i := 0) dX4_stepOf_33 rfl rfl ?_
    refine ev_iconst (v := 1) dX4_stepOf_34 kc_1 ?_
    refine ev_iand dX4_stepOf_35 ?_
    refine ev_iadd dX4_stepOf_36 ?_
    exact s_retI dX4_stepOf_37 ⟨by simp [nv_step, *], rfl⟩
  by_cases hw1_4 : k = 4
  · refine ev_tableIn (off := 37) (tgt := 38) dX4_stepOf_1 (by rw [hw1_4]; decide) (by rw [hw1_4]; decide) (by rw [hw1_4]; decide) (by decide) ?_
    refine ev_iload_n (i := 0) dX4_stepOf_38 rfl rfl ?_
    refine ev_iconst (v := 1) dX4_stepOf_39 kc_1 ?_
    refine ev_ishr dX4_stepOf_40 ?_
    refine ev_iconst (v := 1) dX4_stepOf_41 kc_1 ?_
    refine ev_iand dX4_stepOf_42 ?_
    exact s_retI dX4_stepOf_43 ⟨by simp [nv_step, *], rfl⟩
  by_cases hw1_5 : k = 5
  · refine ev_tableIn (off := 43) (tgt := 44) dX4_stepOf_1 (by rw [hw1_5]; decide) (by rw [hw1_5]; decide) (by rw [hw1_5]; decide) (by decide) ?_
    refine ev_iload_n (i := 0) dX4_stepOf_44 rfl rfl ?_
    refine ev_iconst (v := 2) dX4_stepOf_45 kc_2 ?_
    refine ev_ishr dX4_stepOf_46 ?_
    refine ev_iconst (v := 1) dX4_stepOf_47 kc_1 ?_
    refine ev_iand dX4_stepOf_48 ?_
    exact s_retI dX4_stepOf_49 ⟨by simp [nv_step, *], rfl⟩
  by_cases hw1_3 : k = 3
  · refine ev_tableIn (off := 49) (tgt := 50) dX4_stepOf_1 (by rw [hw1_3]; decide) (by rw [hw1_3]; decide) (by rw [hw1_3]; decide) (by decide) ?_
    refine ev_iconst (v := 1) dX4_stepOf_50 kc_1 ?_
    exact s_retI dX4_stepOf_51 ⟨by simp [nv_step, *], rfl⟩
  have hw1_o : (k).toInt < 2 ∨ 5 < (k).toInt := by
    have e2 : (k).toInt ≠ 2 := fun q => hw1_2 (Int32.toInt_inj.mp (by rw [q]; decide))
    have e3 : (k).toInt ≠ 3 := fun q => hw1_3 (Int32.toInt_inj.mp (by rw [q]; decide))
    have e4 : (k).toInt ≠ 4 := fun q => hw1_4 (Int32.toInt_inj.mp (by rw [q]; decide))
    have e5 : (k).toInt ≠ 5 := fun q => hw1_5 (Int32.toInt_inj.mp (by rw [q]; decide))
    omega
  refine ev_tableOut (tgt := 50) dX4_stepOf_1 hw1_o (by decide) ?_
  refine ev_iconst (v := 1) dX4_stepOf_50 kc_1 ?_
  exact s_retI dX4_stepOf_51 ⟨by simp [nv_step, *], rfl⟩
theorem c_told (c : Int32) : nw_dI l g 0 mX4_toldBy [.int c] I (nv_told c) I := by
  refine ⟨(Nat.le_of_ble_eq_true rfl), ?_⟩
  refine ev_iload_n (i := 0) dX4_toldBy_0 rfl rfl ?_
  by_cases hw1_100 : c = 100
  · refine ev_lookup (off := 55) (tgt := 56) dX4_toldBy_1 (by decide) (by rw [hw1_100]; decide) (by decide) ?_
    refine ev_iconst (v := 3) dX4_toldBy_56 kc_3 ?_
    exact s_retI dX4_toldBy_57 ⟨by simp [nv_told, *], rfl⟩
  by_cases hw1_108 : c = 108
  · refine ev_lookup (off := 57) (tgt := 58) dX4_toldBy_1 (by decide) (by rw [hw1_108]; decide) (by decide) ?_
    refine ev_iconst (v := 4) dX4_toldBy_58 kc_4 ?_
    exact s_retI dX4_toldBy_59 ⟨by simp [nv_told, *], rfl⟩
  by_cases hw1_109 : c = 109
  · refine ev_lookup (off := 59) (tgt := 60) dX4_toldBy_1 (by decide) (by rw [hw1_109]; decide) (by decide) ?_
    refine ev_iconst (v := 5) dX4_toldBy_60 kc_5 ?_
    exact s_retI dX4_toldBy_61 ⟨by simp [nv_told, *], rfl⟩
  by_cases hw1_112 : c = 112
  · refine ev_lookup (off := 51) (tgt := 52) dX4_toldBy_1 (by decide) (by rw [hw1_112]; decide) (by decide) ?_
    refine ev_iconst (v := 1) dX4_toldBy_52 kc_1 ?_
    exact s_retI dX4_toldBy_53 ⟨by simp [nv_told, *], rfl⟩
  by_cases hw1_115 : c = 115
  · refine ev_lookup (off := 53) (tgt := 54) dX4_toldBy_1 (by decide) (by rw [hw1_115]; decide) (by decide) ?_
    refine ev_iconst (v := 2) dX4_toldBy_54 kc_2 ?_
    exact s_retI dX4_toldBy_55 ⟨by simp [nv_told, *], rfl⟩
  have e100 : (c).toInt ≠ 100 := fun q => hw1_100 (Int32.toInt_inj.mp (by rw [q]; decide))
  have e108 : (c).toInt ≠ 108 := fun q => hw1_108 (Int32.toInt_inj.mp (by rw [q]; decide))
  have e109 : (c).toInt ≠ 109 := fun q => hw1_109 (Int32.toInt_inj.mp (by rw [q]; decide))
  have e112 : (c).toInt ≠ 112 := fun q => hw1_112 (Int32.toInt_inj.mp (by rw [q]; decide))
  have e115 : (c).toInt ≠ 115 := fun q => hw1_115 (Int32.toInt_inj.mp (by rw [q]; decide))
  refine ev_lookup (off := 61) (tgt := 62) dX4_toldBy_1 (by decide) (by simp [Op.lookupswitch.offset, e100, Ne.symm e100, e108, Ne.symm e108, e109, Ne.symm e109, e112, Ne.symm e112, e115, Ne.symm e115]) (by decide) ?_
  refine ev_iconst (v := (-1)) dX4_toldBy_62 kc_m1 ?_
  exact s_retI dX4_toldBy_63 ⟨by simp [nv_told, *], rfl⟩
theorem c_lift (k h : Int32) : nw_dI l g 0 mX2_liftOf [.int k, .int h] I (nv_lift k h) I := by
  refine ⟨(Nat.le_of_ble_eq_true rfl), ?_⟩
  refine ev_iload_n (i := 0) dX2_liftOf_0 rfl rfl ?_
  by_cases hw1_2 : k = 2
  · refine ev_tableIn (off := 31) (tgt := 32) dX2_liftOf_1 (by rw [hw1_2]; decide) (by rw [hw1_2]; decide) (by rw [hw1_2]; decide) (by decide) ?_
    refine ev_iload_n (i := 1) dX2_liftOf_32 rfl rfl ?_
    refine ev_iconst (v := 2) dX2_liftOf_33 kc_2 ?_
    refine ev_idiv dX2_liftOf_34 (by decide) ?_
    exact s_retI dX2_liftOf_35 ⟨by simp [nv_lift, nv_max, *], rfl⟩
  by_cases hw1_3 : k = 3
  · refine ev_tableIn (off := 35) (tgt := 36) dX2_liftOf_1 (by rw [hw1_3]; decide) (by rw [hw1_3]; decide) (by rw [hw1_3]; decide) (by decide) ?_
    refine ev_iload_n (i := 1) dX2_liftOf_36 rfl rfl ?_
    refine ev_iconst (v := 2) dX2_liftOf_37 kc_2 ?_
    refine ev_imul dX2_liftOf_38 ?_
    exact s_retI dX2_liftOf_39 ⟨by simp [nv_lift, nv_max, *], rfl⟩
  by_cases hw1_4 : k = 4
  · refine ev_tableIn (off := 39) (tgt := 40) dX2_liftOf_1 (by rw [hw1_4]; decide) (by rw [hw1_4]; decide) (by rw [hw1_4]; decide) (by decide) ?_
    refine ev_iconst (v := 0) dX2_liftOf_40 kc_0 ?_
    exact s_retI dX2_liftOf_41 ⟨by simp [nv_lift, nv_max, *], rfl⟩
  by_cases hw1_5 : k = 5
  · refine ev_tableIn (off := 41) (tgt := 42) dX2_liftOf_1 (by rw [hw1_5]; decide) (by rw [hw1_5]; decide) (by rw [hw1_5]; decide) (by decide) ?_
    refine ev_iconst (v := 0) dX2_liftOf_42 kc_0 ?_
    refine ev_iload_n (i := 1) dX2_liftOf_43 rfl rfl ?_
    refine ev_iconst (v := 5) dX2_liftOf_44 kc_5 ?_
    refine ev_isub dX2_liftOf_45 ?_
    refine ev_mmax jX2_54 dX2_liftOf_46 (Nat.le_of_ble_eq_true rfl) ?_
    exact s_retI dX2_liftOf_49 ⟨by simp [nv_lift, nv_max, *], rfl⟩
  have hw1_o : (k).toInt < 2 ∨ 5 < (k).toInt := by
    have e2 : (k).toInt ≠ 2 := fun q => hw1_2 (Int32.toInt_inj.mp (by rw [q]; decide))
    have e3 : (k).toInt ≠ 3 := fun q => hw1_3 (Int32.toInt_inj.mp (by rw [q]; decide))
    have e4 : (k).toInt ≠ 4 := fun q => hw1_4 (Int32.toInt_inj.mp (by rw [q]; decide))
    have e5 : (k).toInt ≠ 5 := fun q => hw1_5 (Int32.toInt_inj.mp (by rw [q]; decide))
    omega
  refine ev_tableOut (tgt := 50) dX2_liftOf_1 hw1_o (by decide) ?_
  refine ev_iload_n (i := 1) dX2_liftOf_50 rfl rfl ?_
  exact s_retI dX2_liftOf_51 ⟨by simp [nv_lift, nv_max, *], rfl⟩
end
