section
variable {l : Launch} {g : nw_G} {I : nw_Me}
theorem l_cross {a c S : Nat} (hs : nw_iSc a) (hc : nw_iCh c) (hS : nv_cf I c 5 = nI S) (hS6 : S ≤ 6) (hF : nv_fok (nv_fl I a) S) (t w : Int32) : ∀ (k p : Nat) (z : Option Value), p + k = S → nw_S l g 0 mX8_cross 3 [some (.ref (nw_a g a)), some (.ref (nw_a g c)), some (.int t), some (.int w), some (.int (nI p)), z] [] I (nw_qV (fun I' => nv_fl I' a = p_cross (nv_cf I c) w (nv_fl I a) (p_find (nv_fl I a) t k p) ∧ nv_fr I I' a 6)) := by
  have hS' : I c 4 = nI S := (cf5 I c).symm.trans hS
  intro k
  induction k with
  | zero =>
    intro p z hp
    refine ev_iload dX8_cross_3 rfl ?_
    refine ev_aload_n (i := 1) dX8_cross_5 rfl rfl ?_
    refine ev_getI fX8_73 dX8_cross_6 hc.1 rfl (by decide) ?_
    refine ev_icmp_ge (tgt := 83) dX8_cross_9 (by decide) (fun h9 => ?_) (fun h9 => ?_)
    · exact s_retV dX8_cross_83 ⟨rfl, nv_fr.refl _ _ _⟩
    · exact absurd (by rw [hS']; exact nI_le (by omega) (by omega)) h9
  | succ k ih =>
    intro p z hp
    refine ev_iload dX8_cross_3 rfl ?_
    refine ev_aload_n (i := 1) dX8_cross_5 rfl rfl ?_
    refine ev_getI fX8_73 dX8_cross_6 hc.1 rfl (by decide) ?_
    refine ev_icmp_ge (tgt := 83) dX8_cross_9 (by decide) (fun h9 => ?_) (fun h9 => ?_)
    · exact absurd h9 (by rw [hS']; exact nI_ge (by omega) (by omega))
    · refine ev_aload_n (i := 0) dX8_cross_12 rfl rfl ?_
      refine ev_getR fX8_21 dX8_cross_13 hs.1 rfl (by decide) ?_
      refine ev_iload dX8_cross_16 rfl ?_
      refine ev_ialdN dX8_cross_18 hs.2.2.1 (show p < 6 by omega) (by decide) ?_
      obtain ⟨s, hs1, hs2⟩ := hF p (by omega)
      have e1 : (nv_fl I a (5 + p)).toNatClampNeg = s := by rw [hs2]; exact nI_clamp (by omega)
      rw [fl_ord _ _ (by omega)] at hs2
      rw [hs2]
      refine ev_istore dX8_cross_19 (Nat.le_of_ble_eq_true rfl) rfl ?_
      refine ev_aload_n (i := 0) dX8_cross_21 rfl rfl ?_
      refine ev_getR fX8_27 dX8_cross_22 hs.1 rfl (by decide) ?_
      refine ev_iload dX8_cross_25 rfl ?_
      refine ev_ialdN dX8_cross_27 hs.2.2.2.2.1 (show s < 6 by omega) (by decide) ?_
      refine ev_if_ne (tgt := 77) dX8_cross_28 (by decide) (fun h28 => ?_) (fun h28 => ?_)
      · refine ev_iincm (m := 1) dX8_cross_77 kc_1 rfl (Nat.le_of_ble_eq_true rfl) rfl ?_
        refine ev_goto (tgt := 3) dX8_cross_80 (by decide) ?_
        have e : p_find (nv_fl I a) t (k + 1) p = p_find (nv_fl I a) t k (p + 1) := by
          show (if _ then _ else _) = _
          rw [if_neg]
          rw [e1, fl_fat _ _ (by omega), fl_hee _ _ (by omega)]
          exact fun q => by first | exact h28 q.1 | exact h39 q.2
        rw [e, nI_1]
        exact ih (p + 1) _ (by omega)
      · refine ev_aload_n (i := 0) dX8_cross_31 rfl rfl ?_
        refine ev_getR fX8_24 dX8_cross_32 hs.1 rfl (by decide) ?_
        refine ev_iload dX8_cross_35 rfl ?_
        refine ev_ialdN dX8_cross_37 hs.2.2.2.1 (show s < 6 by omega) (by decide) ?_
        refine ev_iload_n (i := 2) dX8_cross_38 rfl rfl ?_
        refine ev_icmp_ne (tgt := 77) dX8_cross_39 (by decide) (fun h39 => ?_) (fun h39 => ?_)
        · refine ev_iincm (m := 1) dX8_cross_77 kc_1 rfl (Nat.le_of_ble_eq_true rfl) rfl ?_
          refine ev_goto (tgt := 3) dX8_cross_80 (by decide) ?_
          have e : p_find (nv_fl I a) t (k + 1) p = p_find (nv_fl I a) t k (p + 1) := by
            show (if _ then _ else _) = _
            rw [if_neg]
            rw [e1, fl_fat _ _ (by omega), fl_hee _ _ (by omega)]
            exact fun q => by first | exact h28 q.1 | exact h39 q.2
          rw [e, nI_1]
          exact ih (p + 1) _ (by omega)
        · refine ev_aload_n (i := 0) dX8_cross_42 rfl rfl ?_
          refine ev_getR fX8_27 dX8_cross_43 hs.1 rfl (by decide) ?_
          refine ev_iload dX8_cross_46 rfl ?_
          refine ev_iload_n (i := 3) dX8_cross_48 rfl rfl ?_
          refine ev_aload_n (i := 1) dX8_cross_49 rfl rfl ?_
          refine ev_getR fX8_76 dX8_cross_50 hc.1 rfl (by decide) ?_
          refine ev_iload dX8_cross_53 rfl ?_
          refine ev_ialdN dX8_cross_55 hc.2.2.2.2 (show s < 6 by omega) (by decide) ?_
          refine ev_icmp_lt (tgt := 63) dX8_cross_56 (by decide) (fun h56 => ?_) (fun h56 => ?_)
          · refine ev_iconst (v := 2) dX8_cross_63 kc_2 ?_
            refine ev_iastN dX8_cross_64 hs.2.2.2.2.1 (show s < 6 by omega) (by decide) ?_
            refine ev_aload_n (i := 0) dX8_cross_65 rfl rfl ?_
            refine ev_getR fX8_30 dX8_cross_66 hs.1 rfl (by decide) ?_
            refine ev_iload dX8_cross_69 rfl ?_
            refine ev_aload_n (i := 0) dX8_cross_71 rfl rfl ?_
            refine ev_getI fX8_33 dX8_cross_72 hs.1 rfl (by decide) ?_
            refine ev_iastN dX8_cross_75 hs.2.2.2.2.2 (show s < 6 by omega) (by decide) ?_
            exact s_retV dX8_cross_76 (by
  have e : p_find (nv_fl I a) t (k + 1) p = some s := by
    show (if _ then _ else _) = _
    rw [if_pos, e1]
    rw [e1, fl_fat _ _ (by omega), fl_hee _ _ (by omega)]
    exact ⟨h28, h39⟩
  rw [e]
  refine ⟨?_, ((nv_fr.refl I a 6).up (by omega) (by omega)).up (by omega) (by omega)⟩
  rw [fl_cro_up _ _ (by omega), fl_fat_up _ _ (by omega), nw_up_ne (by omega)]
  simp [p_cross, cf_dra I c (show s < 6 by omega), h56, fl0])
          · refine ev_iconst (v := 1) dX8_cross_59 kc_1 ?_
            refine ev_goto (tgt := 64) dX8_cross_60 (by decide) ?_
            refine ev_iastN dX8_cross_64 hs.2.2.2.2.1 (show s < 6 by omega) (by decide) ?_
            refine ev_aload_n (i := 0) dX8_cross_65 rfl rfl ?_
            refine ev_getR fX8_30 dX8_cross_66 hs.1 rfl (by decide) ?_
            refine ev_iload dX8_cross_69 rfl ?_
            refine ev_aload_n (i := 0) dX8_cross_71 rfl rfl ?_
            refine ev_getI fX8_33 dX8_cross_72 hs.1 rfl (by decide) ?_
            refine ev_iastN dX8_cross_75 hs.2.2.2.2.2 (show s < 6 by omega) (by decide) ?_
            exact s_retV dX8_cross_76 (by
  have e : p_find (nv_fl I a) t (k + 1) p = some s := by
    show (if _ then _ else _) = _
    rw [if_pos, e1]
    rw [e1, fl_fat _ _ (by omega), fl_hee _ _ (by omega)]
    exact ⟨h28, h39⟩
  rw [e]
  refine ⟨?_, ((nv_fr.refl I a 6).up (by omega) (by omega)).up (by omega) (by omega)⟩
  rw [fl_cro_up _ _ (by omega), fl_fat_up _ _ (by omega), nw_up_ne (by omega)]
  simp [p_cross, cf_dra I c (show s < 6 by omega), h56, fl0])
theorem c_cross {a c S : Nat} (hs : nw_iSc a) (hc : nw_iCh c) (hS : nv_cf I c 5 = nI S) (hS6 : S ≤ 6) (hF : nv_fok (nv_fl I a) S) (t w : Int32) : nw_cV l g 0 mX8_cross [.ref (nw_a g a), .ref (nw_a g c), .int t, .int w] I (fun I' => nv_fl I' a = p_cross (nv_cf I c) w (nv_fl I a) (p_find (nv_fl I a) t S 0) ∧ nv_fr I I' a 6) := by
  refine ⟨(Nat.le_of_ble_eq_true rfl), ?_⟩
  refine ev_iconst (v := 0) dX8_cross_0 kc_0 ?_
  refine ev_istore dX8_cross_1 (Nat.le_of_ble_eq_true rfl) rfl ?_
  exact l_cross hs hc hS hS6 hF t w S 0 _ (by omega)
theorem c_waits {a s : Nat} (hs : nw_iSc a) (h6 : s < 6) : nw_dZ l g 0 mX8_waits [.ref (nw_a g a), .int (nI s)] I (decide (nv_fl I a (17 + s) = 0)) I := by
  refine ⟨(Nat.le_of_ble_eq_true rfl), ?_⟩
  rw [fl_fat _ _ h6]
  refine ev_aload_n (i := 0) dX8_waits_0 rfl rfl ?_
  refine ev_getR fX8_27 dX8_waits_1 hs.1 rfl (by decide) ?_
  refine ev_iload_n (i := 1) dX8_waits_4 rfl rfl ?_
  refine ev_ialdN dX8_waits_5 hs.2.2.2.2.1 h6 (by decide) ?_
  refine ev_if_ne (tgt := 13) dX8_waits_6 (by decide) (fun h6 => ?_) (fun h6 => ?_)
  · refine ev_iconst (v := 0) dX8_waits_13 kc_0 ?_
    exact s_ret0 dX8_waits_14 ⟨by simp [*], rfl⟩
  · refine ev_iconst (v := 1) dX8_waits_9 kc_1 ?_
    refine ev_goto (tgt := 14) dX8_waits_10 (by decide) ?_
    exact s_ret1 dX8_waits_14 ⟨by simp [*], rfl⟩
theorem c_slipBy {a t : Nat} (hs : nw_iSc a) (h3 : t < 3) (b : Int32) : nw_cI l g 0 mX8_slipBy [.ref (nw_a g a), .int (nI t), .int b] I (fun r I' => r = nv_max 0 (nv_fl I a (2 + t) + b) ∧ nv_fl I' a = upd (nv_fl I a) (2 + t) (nv_max 0 (nv_fl I a (2 + t) + b)) ∧ nv_fr I I' a 6) := by
  refine ⟨(Nat.le_of_ble_eq_true rfl), ?_⟩
  rw [fl_cnt _ _ h3]
  refine ev_aload_n (i := 0) dX8_slipBy_0 rfl rfl ?_
  refine ev_getR fX8_17 dX8_slipBy_1 hs.1 rfl (by decide) ?_
  refine ev_iload_n (i := 1) dX8_slipBy_4 rfl rfl ?_
  refine ev_iconst (v := 0) dX8_slipBy_5 kc_0 ?_
  refine ev_aload_n (i := 0) dX8_slipBy_6 rfl rfl ?_
  refine ev_getR fX8_17 dX8_slipBy_7 hs.1 rfl (by decide) ?_
  refine ev_iload_n (i := 1) dX8_slipBy_10 rfl rfl ?_
  refine ev_ialdN dX8_slipBy_11 hs.2.1 h3 (by decide) ?_
  refine ev_iload_n (i := 2) dX8_slipBy_12 rfl rfl ?_
  refine ev_iadd dX8_slipBy_13 ?_
  refine ev_mmax jX8_79 dX8_slipBy_14 (Nat.le_of_ble_eq_true rfl) ?_
  refine ev_iastN dX8_slipBy_17 hs.2.1 h3 (by decide) ?_
  refine ev_aload_n (i := 0) dX8_slipBy_18 rfl rfl ?_
  refine ev_getR fX8_17 dX8_slipBy_19 hs.1 rfl (by decide) ?_
  refine ev_iload_n (i := 1) dX8_slipBy_22 rfl rfl ?_
  refine ev_ialdN dX8_slipBy_23 hs.2.1 h3 (by decide) ?_
  exact s_retI dX8_slipBy_24 ⟨by simp [nw_up, nv_max], fl_cnt_up _ _ h3 _, (nv_fr.refl I a 6).up (by omega) (by omega)⟩
theorem c_overAhead {a s : Nat} (hs : nw_iSc a) (h6 : s < 6) (b : Int32) : nw_dZ l g 0 mX8_isOverAheadOf [.ref (nw_a g a), .int (nI s), .int b] I (decide (nv_fl I a (17 + s) = 1) && (decide (b = -1000000) || decide (¬ b ≤ nv_fl I a (23 + s)))) I := by
  refine ⟨(Nat.le_of_ble_eq_true rfl), ?_⟩
  rw [fl_fat _ _ h6, fl_cro _ _ h6]
  refine ev_aload_n (i := 0) dX8_isOverAheadOf_0 rfl rfl ?_
  refine ev_getR fX8_27 dX8_isOverAheadOf_1 hs.1 rfl (by decide) ?_
  refine ev_iload_n (i := 1) dX8_isOverAheadOf_4 rfl rfl ?_
  refine ev_ialdN dX8_isOverAheadOf_5 hs.2.2.2.2.1 h6 (by decide) ?_
  refine ev_iconst (v := 1) dX8_isOverAheadOf_6 kc_1 ?_
  refine ev_icmp_ne (tgt := 30) dX8_isOverAheadOf_7 (by decide) (fun h7 => ?_) (fun h7 => ?_)
  · refine ev_iconst (v := 0) dX8_isOverAheadOf_30 kc_0 ?_
    exact s_ret0 dX8_isOverAheadOf_31 ⟨by simp [*], rfl⟩
  · refine ev_iload_n (i := 2) dX8_isOverAheadOf_10 rfl rfl ?_
    refine ev_ldc qX8_36 dX8_isOverAheadOf_11 ?_
    refine ev_icmp_eq (tgt := 26) dX8_isOverAheadOf_13 (by decide) (fun h13 => ?_) (fun h13 => ?_)
    · refine ev_iconst (v := 1) dX8_isOverAheadOf_26 kc_1 ?_
      refine ev_goto (tgt := 31) dX8_isOverAheadOf_27 (by decide) ?_
      exact s_ret1 dX8_isOverAheadOf_31 ⟨by simp [*], rfl⟩
    · refine ev_aload_n (i := 0) dX8_isOverAheadOf_16 rfl rfl ?_
      refine ev_getR fX8_30 dX8_isOverAheadOf_17 hs.1 rfl (by decide) ?_
      refine ev_iload_n (i := 1) dX8_isOverAheadOf_20 rfl rfl ?_
      refine ev_ialdN dX8_isOverAheadOf_21 hs.2.2.2.2.2 h6 (by decide) ?_
      refine ev_iload_n (i := 2) dX8_isOverAheadOf_22 rfl rfl ?_
      refine ev_icmp_ge (tgt := 30) dX8_isOverAheadOf_23 (by decide) (fun h23 => ?_) (fun h23 => ?_)
      · refine ev_iconst (v := 0) dX8_isOverAheadOf_30 kc_0 ?_
        exact s_ret0 dX8_isOverAheadOf_31 ⟨by simp [*], rfl⟩
      · refine ev_iconst (v := 1) dX8_isOverAheadOf_26 kc_1 ?_
        refine ev_goto (tgt := 31) dX8_isOverAheadOf_27 (by decide) ?_
        exact s_ret1 dX8_isOverAheadOf_31 ⟨by simp [*], rfl⟩
theorem l_placeOf {a : Nat} (hs : nw_iSc a) (x : Int32) : ∀ (k p : Nat), p + k = 6 → nw_S l g 0 mX8_placeOf 2 [some (.ref (nw_a g a)), some (.int x), some (.int (nI p))] [] I (nw_qI (fun r I' => r = nI (p_place (nv_fl I a) x k p) ∧ I' = I)) := by
  have hS' : (6 : Int32) = nI 6 := by decide
  intro k
  induction k with
  | zero =>
    intro p hp
    refine ev_iload_n (i := 2) dX8_placeOf_2 rfl rfl ?_
    refine ev_bipush (v := 6) dX8_placeOf_3 kb_6 ?_
    refine ev_icmp_ge (tgt := 26) dX8_placeOf_5 (by decide) (fun h5 => ?_) (fun h5 => ?_)
    · refine ev_iconst (v := 0) dX8_placeOf_26 kc_0 ?_
      exact s_retI dX8_placeOf_27 ⟨nI_0.symm, rfl⟩
    · exact absurd (by rw [hS']; exact nI_le (by omega) (by omega)) h5
  | succ k ih =>
    intro p hp
    refine ev_iload_n (i := 2) dX8_placeOf_2 rfl rfl ?_
    refine ev_bipush (v := 6) dX8_placeOf_3 kb_6 ?_
    refine ev_icmp_ge (tgt := 26) dX8_placeOf_5 (by decide) (fun h5 => ?_) (fun h5 => ?_)
    · exact absurd h5 (by rw [hS']; exact nI_ge (by omega) (by omega))
    · refine ev_aload_n (i := 0) dX8_placeOf_8 rfl rfl ?_
      refine ev_getR fX8_21 dX8_placeOf_9 hs.1 rfl (by decide) ?_
      refine ev_iload_n (i := 2) dX8_placeOf_12 rfl rfl ?_
      refine ev_ialdN dX8_placeOf_13 hs.2.2.1 (show p < 6 by omega) (by decide) ?_
      refine ev_iload_n (i := 1) dX8_placeOf_14 rfl rfl ?_
      refine ev_icmp_ne (tgt := 20) dX8_placeOf_15 (by decide) (fun h15 => ?_) (fun h15 => ?_)
      · refine ev_iincm (m := 1) dX8_placeOf_20 kc_1 rfl (Nat.le_of_ble_eq_true rfl) rfl ?_
        refine ev_goto (tgt := 2) dX8_placeOf_23 (by decide) ?_
        have e : p_place (nv_fl I a) x (k + 1) p = p_place (nv_fl I a) x k (p + 1) := by
          show (if _ then _ else _) = _
          rw [if_neg (by rw [fl_ord _ _ (by omega)]; exact h15)]
        rw [e, nI_1]
        exact ih (p + 1) (by omega)
      · refine ev_iload_n (i := 2) dX8_placeOf_18 rfl rfl ?_
        exact s_retI dX8_placeOf_19 ⟨by
  show _ = nI (if _ then _ else _)
  rw [if_pos (by rw [fl_ord _ _ (by omega)]; exact h15)], rfl⟩
theorem c_placeOf {a : Nat} (hs : nw_iSc a) (x : Int32) : nw_dI l g 0 mX8_placeOf [.ref (nw_a g a), .int x] I (nI (p_place (nv_fl I a) x 6 0)) I := by
  refine ⟨(Nat.le_of_ble_eq_true rfl), ?_⟩
  refine ev_iconst (v := 0) dX8_placeOf_0 kc_0 ?_
  refine ev_istore_n (i := 2) dX8_placeOf_1 rfl (Nat.le_of_ble_eq_true rfl) rfl ?_
  exact l_placeOf hs x 6 0 rfl
theorem l_howMany {a c S : Nat} (hs : nw_iSc a) (hc : nw_iCh c) (hS : nv_cf I c 5 = nI S) (hS6 : S ≤ 6) (x : Int32) : ∀ (k p m : Nat), p + k = S → nw_S l g 0 mX8_howMany 5 [some (.ref (nw_a g a)), some (.ref (nw_a g c)), some (.int x), some (.int (nI m)), some (.int (nI p))] [] I (nw_qI (fun r I' => r = nI (m + p_cnt (p_isf (nv_fl I a) x) k p) ∧ I' = I)) := by
  have hS' : I c 4 = nI S := (cf5 I c).symm.trans hS
  intro k
  induction k with
  | zero =>
    intro p m hp
    refine ev_iload dX8_howMany_5 rfl ?_
    refine ev_aload_n (i := 1) dX8_howMany_7 rfl rfl ?_
    refine ev_getI fX8_73 dX8_howMany_8 hc.1 rfl (by decide) ?_
    refine ev_icmp_ge (tgt := 39) dX8_howMany_11 (by decide) (fun h11 => ?_) (fun h11 => ?_)
    · refine ev_iload_n (i := 3) dX8_howMany_39 rfl rfl ?_
      exact s_retI dX8_howMany_40 ⟨rfl, rfl⟩
    · exact absurd (by rw [hS']; exact nI_le (by omega) (by omega)) h11
  | succ k ih =>
    intro p m hp
    refine ev_iload dX8_howMany_5 rfl ?_
    refine ev_aload_n (i := 1) dX8_howMany_7 rfl rfl ?_
    refine ev_getI fX8_73 dX8_howMany_8 hc.1 rfl (by decide) ?_
    refine ev_icmp_ge (tgt := 39) dX8_howMany_11 (by decide) (fun h11 => ?_) (fun h11 => ?_)
    · exact absurd h11 (by rw [hS']; exact nI_ge (by omega) (by omega))
    · refine ev_iload_n (i := 3) dX8_howMany_14 rfl rfl ?_
      refine ev_aload_n (i := 0) dX8_howMany_15 rfl rfl ?_
      refine ev_getR fX8_27 dX8_howMany_16 hs.1 rfl (by decide) ?_
      refine ev_iload dX8_howMany_19 rfl ?_
      refine ev_ialdN dX8_howMany_21 hs.2.2.2.2.1 (show p < 6 by omega) (by decide) ?_
      refine ev_iload_n (i := 2) dX8_howMany_22 rfl rfl ?_
      refine ev_icmp_ne (tgt := 30) dX8_howMany_23 (by decide) (fun h23 => ?_) (fun h23 => ?_)
      · refine ev_iconst (v := 0) dX8_howMany_30 kc_0 ?_
        refine ev_iadd dX8_howMany_31 ?_
        refine ev_istore_n (i := 3) dX8_howMany_32 rfl (Nat.le_of_ble_eq_true rfl) rfl ?_
        refine ev_iincm (m := 1) dX8_howMany_33 kc_1 rfl (Nat.le_of_ble_eq_true rfl) rfl ?_
        refine ev_goto (tgt := 5) dX8_howMany_36 (by decide) ?_
        first
          | rw [p_cnt_t (by simp [p_isf, fl_fat I a (show p < 6 by omega), fl_hee I a (show p < 6 by omega), *]) m, nI_1, nI_1]; exact ih (p + 1) (m + 1) (by omega)
          | rw [p_cnt_f (by simp [p_isf, fl_fat I a (show p < 6 by omega), fl_hee I a (show p < 6 by omega), *]) m, nI_1, Int32.add_zero]; exact ih (p + 1) m (by omega)
      · refine ev_iconst (v := 1) dX8_howMany_26 kc_1 ?_
        refine ev_goto (tgt := 31) dX8_howMany_27 (by decide) ?_
        refine ev_iadd dX8_howMany_31 ?_
        refine ev_istore_n (i := 3) dX8_howMany_32 rfl (Nat.le_of_ble_eq_true rfl) rfl ?_
        refine ev_iincm (m := 1) dX8_howMany_33 kc_1 rfl (Nat.le_of_ble_eq_true rfl) rfl ?_
        refine ev_goto (tgt := 5) dX8_howMany_36 (by decide) ?_
        first
          | rw [p_cnt_t (by simp [p_isf, fl_fat I a (show p < 6 by omega), fl_hee I a (show p < 6 by omega), *]) m, nI_1, nI_1]; exact ih (p + 1) (m + 1) (by omega)
          | rw [p_cnt_f (by simp [p_isf, fl_fat I a (show p < 6 by omega), fl_hee I a (show p < 6 by omega), *]) m, nI_1, Int32.add_zero]; exact ih (p + 1) m (by omega)
theorem c_howMany {a c S : Nat} (hs : nw_iSc a) (hc : nw_iCh c) (hS : nv_cf I c 5 = nI S) (hS6 : S ≤ 6) (x : Int32) : nw_dI l g 0 mX8_howMany [.ref (nw_a g a), .ref (nw_a g c), .int x] I (nI (p_cnt (p_isf (nv_fl I a) x) S 0)) I := by
  refine ⟨(Nat.le_of_ble_eq_true rfl), ?_⟩
  refine ev_iconst (v := 0) dX8_howMany_0 kc_0 ?_
  refine ev_istore_n (i := 3) dX8_howMany_1 rfl (Nat.le_of_ble_eq_true rfl) rfl ?_
  refine ev_iconst (v := 0) dX8_howMany_2 kc_0 ?_
  refine ev_istore dX8_howMany_3 (Nat.le_of_ble_eq_true rfl) rfl ?_
  have := l_howMany (l := l) (g := g) hs hc hS hS6 x S 0 0 (by omega)
  rw [Nat.zero_add] at this
  exact this
theorem l_howManyWait {a c S : Nat} (hs : nw_iSc a) (hc : nw_iCh c) (hS : nv_cf I c 5 = nI S) (hS6 : S ≤ 6) (x : Int32) : ∀ (k p m : Nat), p + k = S → nw_S l g 0 mX8_howManyWaitFor 5 [some (.ref (nw_a g a)), some (.ref (nw_a g c)), some (.int x), some (.int (nI m)), some (.int (nI p))] [] I (nw_qI (fun r I' => r = nI (m + p_cnt (p_wf (nv_fl I a) x) k p) ∧ I' = I)) := by
  have hS' : I c 4 = nI S := (cf5 I c).symm.trans hS
  intro k
  induction k with
  | zero =>
    intro p m hp
    refine ev_iload dX8_howManyWaitFor_5 rfl ?_
    refine ev_aload_n (i := 1) dX8_howManyWaitFor_7 rfl rfl ?_
    refine ev_getI fX8_73 dX8_howManyWaitFor_8 hc.1 rfl (by decide) ?_
    refine ev_icmp_ge (tgt := 49) dX8_howManyWaitFor_11 (by decide) (fun h11 => ?_) (fun h11 => ?_)
    · refine ev_iload_n (i := 3) dX8_howManyWaitFor_49 rfl rfl ?_
      exact s_retI dX8_howManyWaitFor_50 ⟨rfl, rfl⟩
    · exact absurd (by rw [hS']; exact nI_le (by omega) (by omega)) h11
  | succ k ih =>
    intro p m hp
    refine ev_iload dX8_howManyWaitFor_5 rfl ?_
    refine ev_aload_n (i := 1) dX8_howManyWaitFor_7 rfl rfl ?_
    refine ev_getI fX8_73 dX8_howManyWaitFor_8 hc.1 rfl (by decide) ?_
    refine ev_icmp_ge (tgt := 49) dX8_howManyWaitFor_11 (by decide) (fun h11 => ?_) (fun h11 => ?_)
    · exact absurd h11 (by rw [hS']; exact nI_ge (by omega) (by omega))
    · refine ev_iload_n (i := 3) dX8_howManyWaitFor_14 rfl rfl ?_
      refine ev_aload_n (i := 0) dX8_howManyWaitFor_15 rfl rfl ?_
      refine ev_getR fX8_27 dX8_howManyWaitFor_16 hs.1 rfl (by decide) ?_
      refine ev_iload dX8_howManyWaitFor_19 rfl ?_
      refine ev_ialdN dX8_howManyWaitFor_21 hs.2.2.2.2.1 (show p < 6 by omega) (by decide) ?_
      refine ev_if_ne (tgt := 40) dX8_howManyWaitFor_22 (by decide) (fun h22 => ?_) (fun h22 => ?_)
      · refine ev_iconst (v := 0) dX8_howManyWaitFor_40 kc_0 ?_
        refine ev_iadd dX8_howManyWaitFor_41 ?_
        refine ev_istore_n (i := 3) dX8_howManyWaitFor_42 rfl (Nat.le_of_ble_eq_true rfl) rfl ?_
        refine ev_iincm (m := 1) dX8_howManyWaitFor_43 kc_1 rfl (Nat.le_of_ble_eq_true rfl) rfl ?_
        refine ev_goto (tgt := 5) dX8_howManyWaitFor_46 (by decide) ?_
        first
          | rw [p_cnt_t (by simp [p_wf, fl_fat I a (show p < 6 by omega), fl_hee I a (show p < 6 by omega), *]) m, nI_1, nI_1]; exact ih (p + 1) (m + 1) (by omega)
          | rw [p_cnt_f (by simp [p_wf, fl_fat I a (show p < 6 by omega), fl_hee I a (show p < 6 by omega), *]) m, nI_1, Int32.add_zero]; exact ih (p + 1) m (by omega)
      · refine ev_aload_n (i := 0) dX8_howManyWaitFor_25 rfl rfl ?_
        refine ev_getR fX8_24 dX8_howManyWaitFor_26 hs.1 rfl (by decide) ?_
        refine ev_iload dX8_howManyWaitFor_29 rfl ?_
        refine ev_ialdN dX8_howManyWaitFor_31 hs.2.2.2.1 (show p < 6 by omega) (by decide) ?_
        refine ev_iload_n (i := 2) dX8_howManyWaitFor_32 rfl rfl ?_
        refine ev_icmp_ne (tgt := 40) dX8_howManyWaitFor_33 (by decide) (fun h33 => ?_) (fun h33 => ?_)
        · refine ev_iconst (v := 0) dX8_howManyWaitFor_40 kc_0 ?_
          refine ev_iadd dX8_howManyWaitFor_41 ?_
          refine ev_istore_n (i := 3) dX8_howManyWaitFor_42 rfl (Nat.le_of_ble_eq_true rfl) rfl ?_
          refine ev_iincm (m := 1) dX8_howManyWaitFor_43 kc_1 rfl (Nat.le_of_ble_eq_true rfl) rfl ?_
          refine ev_goto (tgt := 5) dX8_howManyWaitFor_46 (by decide) ?_
          first
            | rw [p_cnt_t (by simp [p_wf, fl_fat I a (show p < 6 by omega), fl_hee I a (show p < 6 by omega), *]) m, nI_1, nI_1]; exact ih (p + 1) (m + 1) (by omega)
            | rw [p_cnt_f (by simp [p_wf, fl_fat I a (show p < 6 by omega), fl_hee I a (show p < 6 by omega), *]) m, nI_1, Int32.add_zero]; exact ih (p + 1) m (by omega)
        · refine ev_iconst (v := 1) dX8_howManyWaitFor_36 kc_1 ?_
          refine ev_goto (tgt := 41) dX8_howManyWaitFor_37 (by decide) ?_
          refine ev_iadd dX8_howManyWaitFor_41 ?_
          refine ev_istore_n (i := 3) dX8_howManyWaitFor_42 rfl (Nat.le_of_ble_eq_true rfl) rfl ?_
          refine ev_iincm (m := 1) dX8_howManyWaitFor_43 kc_1 rfl (Nat.le_of_ble_eq_true rfl) rfl ?_
          refine ev_goto (tgt := 5) dX8_howManyWaitFor_46 (by decide) ?_
          first
            | rw [p_cnt_t (by simp [p_wf, fl_fat I a (show p < 6 by omega), fl_hee I a (show p < 6 by omega), *]) m, nI_1, nI_1]; exact ih (p + 1) (m + 1) (by omega)
            | rw [p_cnt_f (by simp [p_wf, fl_fat I a (show p < 6 by omega), fl_hee I a (show p < 6 by omega), *]) m, nI_1, Int32.add_zero]; exact ih (p + 1) m (by omega)
theorem c_howManyWait {a c S : Nat} (hs : nw_iSc a) (hc : nw_iCh c) (hS : nv_cf I c 5 = nI S) (hS6 : S ≤ 6) (x : Int32) : nw_dI l g 0 mX8_howManyWaitFor [.ref (nw_a g a), .ref (nw_a g c), .int x] I (nI (p_cnt (p_wf (nv_fl I a) x) S 0)) I := by
  refine ⟨(Nat.le_of_ble_eq_true rfl), ?_⟩
  refine ev_iconst (v := 0) dX8_howManyWaitFor_0 kc_0 ?_
  refine ev_istore_n (i := 3) dX8_howManyWaitFor_1 rfl (Nat.le_of_ble_eq_true rfl) rfl ?_
  refine ev_iconst (v := 0) dX8_howManyWaitFor_2 kc_0 ?_
  refine ev_istore dX8_howManyWaitFor_3 (Nat.le_of_ble_eq_true rfl) rfl ?_
  have := l_howManyWait (l := l) (g := g) hs hc hS hS6 x S 0 0 (by omega)
  rw [Nat.zero_add] at this
  exact this
theorem l_begin {a : Nat} (hs : nw_iSc a) : ∀ (k p : Nat) (J : nw_Me), p + k = 6 → nw_S l g 0 mX8_begin 13 [some (.ref (nw_a g a)), some (.int (nI p))] [] J (nw_qV (fun I' => nv_fl I' a = p_beg k p (nv_fl J a) ∧ nv_fr J I' a 6)) := by
  have hS' : (6 : Int32) = nI 6 := by decide
  intro k
  induction k with
  | zero =>
    intro p J hp
    refine ev_iload_n (i := 1) dX8_begin_13 rfl rfl ?_
    refine ev_bipush (v := 6) dX8_begin_14 kb_6 ?_
    refine ev_icmp_ge (tgt := 47) dX8_begin_16 (by decide) (fun h16 => ?_) (fun h16 => ?_)
    · exact s_retV dX8_begin_47 ⟨rfl, nv_fr.refl _ _ _⟩
    · exact absurd (by rw [hS']; exact nI_le (by omega) (by omega)) h16
  | succ k ih =>
    intro p J hp
    refine ev_iload_n (i := 1) dX8_begin_13 rfl rfl ?_
    refine ev_bipush (v := 6) dX8_begin_14 kb_6 ?_
    refine ev_icmp_ge (tgt := 47) dX8_begin_16 (by decide) (fun h16 => ?_) (fun h16 => ?_)
    · exact absurd h16 (by rw [hS']; exact nI_ge (by omega) (by omega))
    · refine ev_aload_n (i := 0) dX8_begin_19 rfl rfl ?_
      refine ev_getR fX8_21 dX8_begin_20 hs.1 rfl (by decide) ?_
      refine ev_iload_n (i := 1) dX8_begin_23 rfl rfl ?_
      refine ev_iload_n (i := 1) dX8_begin_24 rfl rfl ?_
      refine ev_iastN dX8_begin_25 hs.2.2.1 (show p < 6 by omega) (by decide) ?_
      refine ev_aload_n (i := 0) dX8_begin_26 rfl rfl ?_
      refine ev_getR fX8_27 dX8_begin_27 hs.1 rfl (by decide) ?_
      refine ev_iload_n (i := 1) dX8_begin_30 rfl rfl ?_
      refine ev_iconst (v := 0) dX8_begin_31 kc_0 ?_
      refine ev_iastN dX8_begin_32 hs.2.2.2.2.1 (show p < 6 by omega) (by decide) ?_
      refine ev_aload_n (i := 0) dX8_begin_33 rfl rfl ?_
      refine ev_getR fX8_30 dX8_begin_34 hs.1 rfl (by decide) ?_
      refine ev_iload_n (i := 1) dX8_begin_37 rfl rfl ?_
      refine ev_ldc qX8_36 dX8_begin_38 ?_
      refine ev_iastN dX8_begin_40 hs.2.2.2.2.2 (show p < 6 by omega) (by decide) ?_
      refine ev_iincm (m := 1) dX8_begin_41 kc_1 rfl (Nat.le_of_ble_eq_true rfl) rfl ?_
      refine ev_goto (tgt := 13) dX8_begin_44 (by decide) ?_
      rw [nI_1]
      refine s_postV (ih (p + 1) _ (by omega)) (fun I1 q => ?_)
      rw [fl_cro_up _ _ (by omega), fl_fat_up _ _ (by omega), fl_ord_up _ _ (by omega)] at q
      exact ⟨q.1, ((((nv_fr.refl J a 6).up (by omega) (by omega)).up (by omega) (by omega)).up (by omega) (by omega)).trans q.2⟩
theorem c_begin {a : Nat} (hs : nw_iSc a) : nw_cV l g 0 mX8_begin [.ref (nw_a g a)] I (fun I' => nv_fl I' a = p_beg 6 0 (upd (upd (nv_fl I a) 0 0) 1 9) ∧ nv_fr I I' a 6) := by
  refine ⟨(Nat.le_of_ble_eq_true rfl), ?_⟩
  refine ev_aload_n (i := 0) dX8_begin_0 rfl rfl ?_
  refine ev_iconst (v := 0) dX8_begin_1 kc_0 ?_
  refine ev_putI fX8_33 dX8_begin_2 hs.1 rfl (by decide) rfl rfl rfl rfl ?_
  refine ev_aload_n (i := 0) dX8_begin_5 rfl rfl ?_
  refine ev_bipush (v := 9) dX8_begin_6 kb_9 ?_
  refine ev_putI fX8_9 dX8_begin_8 hs.1 rfl (by decide) rfl rfl rfl rfl ?_
  refine ev_iconst (v := 0) dX8_begin_11 kc_0 ?_
  refine ev_istore_n (i := 1) dX8_begin_12 rfl (Nat.le_of_ble_eq_true rfl) rfl ?_
  refine s_postV (l_begin hs 6 0 _ rfl) (fun I1 q => ?_)
  rw [fl_w_up _ _ (by omega), fl_w_up _ _ (by omega)] at q
  exact ⟨q.1, (((nv_fr.refl I a 6).up (by omega) (by omega)).up (by omega) (by omega)).trans q.2⟩
end
