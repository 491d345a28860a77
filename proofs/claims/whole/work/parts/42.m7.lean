section
variable {l : Launch} {g : nw_G} {I : nw_Me} {N T S : Nat} {C F G : Nat → Int32} {b : Bool} {L : List (Nat → Int32)}
theorem l_mrow {q : Nat} {lane n : Int32} (hq : q < 8) : ∀ (k p : Nat) (J : nw_Me), p + k = 40 → J 222 = nm_mx (40 * q) p (fun _ => 0) (I 222) → (∀ x, x ≠ 222 → J x = I x) → nw_S l g 2 mX10_row 55 [some (.ref (nw_a g 219)), some (.int (nI q)), some (.int lane), some (.int n), some (.int (nI p))] [] J (nw_qI (fun r K => r = n ∧ K 219 = upd (I 219) 3 0 ∧ K 222 = nm_mx (40 * q) 40 (fun _ => 0) (I 222) ∧ ∀ x, x ≠ 219 → x ≠ 222 → K x = I x)) := by
  have e40 : (40 : Int32) = nI 40 := by decide
  intro k
  induction k with
  | zero =>
    intro p J hp h1 h2
    obtain rfl : p = 40 := by omega
    refine ev_iload dX10_row_55 rfl ?_
    refine ev_bipush (v := 40) dX10_row_57 kb_40 ?_
    refine ev_icmp_ge (tgt := 81) dX10_row_59 (by decide) (fun h59 => ?_) (fun h59 => ?_)
    · refine ev_aload_n (i := 0) dX10_row_81 rfl rfl ?_
      refine ev_iload_n (i := 3) dX10_row_82 rfl rfl ?_
      refine s_dVi (As := [_]) (m_well _) (Nat.le_of_ble_eq_true rfl) lX10_84 kX10_well vX10_well dX10_row_83 rfl rfl rfl (by decide) rfl (Nat.le_of_ble_eq_true rfl) ?_
      exact s_retI dX10_row_86 ⟨rfl, by rw [nw_up_self, h2 219 (by decide)], by rw [nw_up_ne (by decide)]; exact h1, fun x a c => by rw [nw_up_ne a]; exact h2 x c⟩
    · exact absurd (by decide) h59
  | succ k ih =>
    intro p J hp h1 h2
    refine ev_iload dX10_row_55 rfl ?_
    refine ev_bipush (v := 40) dX10_row_57 kb_40 ?_
    refine ev_icmp_ge (tgt := 81) dX10_row_59 (by decide) (fun h59 => ?_) (fun h59 => ?_)
    · exact absurd h59 (by rw [e40]; exact nI_ge (by omega) (by omega))
    · refine ev_aload_n (i := 0) dX10_row_62 rfl rfl ?_
      refine ev_getR fX10_16 dX10_row_63 rfl rfl (by decide) ?_
      refine ev_bipush (v := 40) dX10_row_66 kb_40 ?_
      refine ev_iload_n (i := 1) dX10_row_68 rfl rfl ?_
      refine ev_imulN (a := 40) (b := q) dX10_row_69 ?_
      refine ev_iload dX10_row_70 rfl ?_
      refine ev_iaddN (a := (40 * q)) (b := p) dX10_row_72 ?_
      refine ev_iconst (v := 0) dX10_row_73 kc_0 ?_
      refine ev_iastN (j := ((40 * q) + p)) dX10_row_74 rfl (by omega) (by decide) ?_
      refine ev_iincN (a := p) dX10_row_75 rfl (Nat.le_of_ble_eq_true rfl) rfl ?_
      refine ev_goto (tgt := 55) dX10_row_78 (by decide) ?_
      refine ih (p + 1) _ (by omega) ?_ (fun x hx => by rw [nw_up_ne hx]; exact h2 x hx)
      rw [nw_up_self, h1]
      exact nm_mx_s (40 * q) p (fun _ => 0) (I 222)
theorem m_row (x lane n : Int32) : nw_cI l g 2 mX10_row [.ref (nw_a g 219), .int x, .int lane, .int n] I (fun r K => (r = -1000001 ∧ K = I ∧ (nv_in x 0 7 = false ∨ nv_in lane 0 2 = false ∨ ¬ n ≤ 40)) ∨ (r = -1000010 - 4 ∧ K = nw_up I 219 3 4 ∧ nv_in x 0 7 = true ∧ nv_in lane 0 2 = true ∧ n ≤ 40 ∧ ¬ 0 ≤ n) ∨ ∃ q m, x = nI q ∧ q < 8 ∧ n = nI m ∧ m ≤ 40 ∧ nv_in lane 0 2 = true ∧ r = n ∧ K 219 = upd (I 219) 3 0 ∧ K 220 = upd (I 220) q lane ∧ K 221 = upd (I 221) q n ∧ K 222 = nm_mx (40 * q) 40 (fun _ => 0) (I 222) ∧ ∀ k, k ≠ 219 → k ≠ 220 → k ≠ 221 → k ≠ 222 → K k = I k) := by
  refine ⟨(Nat.le_of_ble_eq_true rfl), ?_⟩
  refine ev_iload_n (i := 1) dX10_row_0 rfl rfl ?_
  refine s_dSz (As := [_]) (m_isRow _) (Nat.le_of_ble_eq_true rfl) lX10_73 kX10_isRow sX10_isRow dX10_row_1 rfl rfl (Nat.le_of_ble_eq_true rfl) ?_
  refine s_ifZ_eq (tgt := 25) dX10_row_4 (by decide) (fun h4 => ?_) (fun h4 => ?_)
  · refine ev_ldc qX10_79 dX10_row_25 ?_
    exact s_retI dX10_row_27 (Or.inl ⟨rfl, rfl, by first | exact Or.inl h4 | exact Or.inr (Or.inl h16) | exact Or.inr (Or.inr h22)⟩)
  · refine ev_iload_n (i := 2) dX10_row_7 rfl rfl ?_
    refine ev_i2l dX10_row_8 ?_
    refine ev_lconst (v := 0) dX10_row_9 rfl ?_
    refine ev_ldc2 qX10_77 dX10_row_10 ?_
    refine s_dSz (As := [_, _, _]) (m_in _ 0 2 (by decide) (by decide)) (Nat.le_of_ble_eq_true rfl) lX10_64 kX10_in sX10_in dX10_row_13 rfl rfl (Nat.le_of_ble_eq_true rfl) ?_
    refine s_ifZ_eq (tgt := 25) dX10_row_16 (by decide) (fun h16 => ?_) (fun h16 => ?_)
    · refine ev_ldc qX10_79 dX10_row_25 ?_
      exact s_retI dX10_row_27 (Or.inl ⟨rfl, rfl, by first | exact Or.inl h4 | exact Or.inr (Or.inl h16) | exact Or.inr (Or.inr h22)⟩)
    · refine ev_iload_n (i := 3) dX10_row_19 rfl rfl ?_
      refine ev_bipush (v := 40) dX10_row_20 kb_40 ?_
      refine ev_icmp_le (tgt := 28) dX10_row_22 (by decide) (fun h22 => ?_) (fun h22 => ?_)
      · refine ev_iload_n (i := 3) dX10_row_28 rfl rfl ?_
        refine ev_if_ge (tgt := 38) dX10_row_29 (by decide) (fun h29 => ?_) (fun h29 => ?_)
        · obtain ⟨q, hq, rfl⟩ := nv_in_S (S := 8) (by decide) h4
          have e40 : (40 : Int32) = nI 40 := by decide
          obtain ⟨m, hm0, rfl⟩ := nI_of (Int32.not_lt.mpr h29)
          have hm : m ≤ 40 := by rw [e40] at h22; exact (nI_leI (by omega) (by decide)).mp h22
          refine ev_aload_n (i := 0) dX10_row_38 rfl rfl ?_
          refine ev_getR fX10_7 dX10_row_39 rfl rfl (by decide) ?_
          refine ev_iload_n (i := 1) dX10_row_42 rfl rfl ?_
          refine ev_iload_n (i := 2) dX10_row_43 rfl rfl ?_
          refine ev_iastN (j := q) dX10_row_44 rfl (by omega) (by decide) ?_
          refine ev_aload_n (i := 0) dX10_row_45 rfl rfl ?_
          refine ev_getR fX10_13 dX10_row_46 rfl rfl (by decide) ?_
          refine ev_iload_n (i := 1) dX10_row_49 rfl rfl ?_
          refine ev_iload_n (i := 3) dX10_row_50 rfl rfl ?_
          refine ev_iastN (j := q) dX10_row_51 rfl (by omega) (by decide) ?_
          refine ev_iconst (v := 0) dX10_row_52 kc_0 ?_
          refine ev_istore dX10_row_53 (Nat.le_of_ble_eq_true rfl) rfl ?_
          refine s_postI (l_mrow (I := nw_up (nw_up I 220 q lane) 221 q (nI m)) hq 40 0 _ (by omega) (nm_mx_0 _ _ _).symm (fun _ _ => rfl)) (fun r K h => Or.inr (Or.inr ⟨q, m, rfl, hq, rfl, hm, h16, h.1, ?_, ?_, ?_, ?_, fun k a c d e => ?_⟩))
          · rw [h.2.1, nw_up_ne (by decide), nw_up_ne (by decide)]
          · rw [h.2.2.2 220 (by decide) (by decide), nw_up_ne (by decide), nw_up_self]
          · rw [h.2.2.2 221 (by decide) (by decide), nw_up_self, nw_up_ne (by decide)]
          · rw [h.2.2.1, nw_up_ne (by decide), nw_up_ne (by decide)]
          · rw [h.2.2.2 k a e, nw_up_ne d, nw_up_ne c]
        · refine ev_aload_n (i := 0) dX10_row_32 rfl rfl ?_
          refine ev_iconst (v := 4) dX10_row_33 kc_4 ?_
          refine s_dVi (As := [_]) (m_finds _) (Nat.le_of_ble_eq_true rfl) lX10_80 kX10_finds vX10_finds dX10_row_34 rfl rfl rfl (by decide) rfl (Nat.le_of_ble_eq_true rfl) ?_
          exact s_retI dX10_row_37 (Or.inr (Or.inl ⟨rfl, rfl, h4, h16, h22, h29⟩))
      · refine ev_ldc qX10_79 dX10_row_25 ?_
        exact s_retI dX10_row_27 (Or.inl ⟨rfl, rfl, by first | exact Or.inl h4 | exact Or.inr (Or.inl h16) | exact Or.inr (Or.inr h22)⟩)
theorem m_set (hz : ∀ q, q < 8 → ¬ I 220 q < 0 → ∃ m, m ≤ 40 ∧ I 221 q = nI m) (x i v : Int32) : nw_cI l g 2 mX10_set [.ref (nw_a g 219), .int x, .int i, .int v] I (fun r K => (nv_in x 0 7 = false ∧ r = -1000001 ∧ K = I) ∨ ∃ q, q < 8 ∧ x = nI q ∧ ((I 220 q < 0 ∧ r = -1000010 - 1 ∧ K = nw_up I 219 3 1) ∨ (¬ I 220 q < 0 ∧ nv_in i 0 (I 221 q - 1) = false ∧ r = -1000010 - 2 ∧ K = nw_up I 219 3 2) ∨ (¬ I 220 q < 0 ∧ nv_in i 0 (I 221 q - 1) = true ∧ ∃ j, j < 40 ∧ i = nI j ∧ r = (nv_cut (I 220 q) v) ∧ K = nw_up (nw_up I 222 (40 * q + j) (nv_cut (I 220 q) v)) 219 3 0))) := by
  refine ⟨(Nat.le_of_ble_eq_true rfl), ?_⟩
  refine ev_iload_n (i := 1) dX10_set_0 rfl rfl ?_
  refine s_dSz (As := [_]) (m_isRow _) (Nat.le_of_ble_eq_true rfl) lX10_73 kX10_isRow sX10_isRow dX10_set_1 rfl rfl (Nat.le_of_ble_eq_true rfl) ?_
  refine s_ifZ_ne (tgt := 10) dX10_set_4 (by decide) (fun h4 => ?_) (fun h4 => ?_)
  · obtain ⟨q, hq, rfl⟩ := nv_in_S (S := 8) (by decide) h4
    refine ev_aload_n (i := 0) dX10_set_10 rfl rfl ?_
    refine ev_getR fX10_7 dX10_set_11 rfl rfl (by decide) ?_
    refine ev_iload_n (i := 1) dX10_set_14 rfl rfl ?_
    refine ev_ialdN (j := q) dX10_set_15 rfl (by omega) (by decide) ?_
    refine ev_if_ge (tgt := 25) dX10_set_16 (by decide) (fun h16 => ?_) (fun h16 => ?_)
    · refine ev_iload_n (i := 2) dX10_set_25 rfl rfl ?_
      refine ev_i2l dX10_set_26 ?_
      refine ev_lconst (v := 0) dX10_set_27 rfl ?_
      refine ev_aload_n (i := 0) dX10_set_28 rfl rfl ?_
      refine ev_getR fX10_13 dX10_set_29 rfl rfl (by decide) ?_
      refine ev_iload_n (i := 1) dX10_set_32 rfl rfl ?_
      refine ev_ialdN (j := q) dX10_set_33 rfl (by omega) (by decide) ?_
      refine ev_iconst (v := 1) dX10_set_34 kc_1 ?_
      refine ev_isub dX10_set_35 ?_
      refine ev_i2l dX10_set_36 ?_
      refine s_dSz (As := [_, _, _]) (m_in _ 0 _ (by decide) rfl) (Nat.le_of_ble_eq_true rfl) lX10_64 kX10_in sX10_in dX10_set_37 rfl rfl (Nat.le_of_ble_eq_true rfl) ?_
      refine s_ifZ_ne (tgt := 49) dX10_set_40 (by decide) (fun h40 => ?_) (fun h40 => ?_)
      · obtain ⟨m, hm, em⟩ := hz q hq (Int32.not_lt.mpr h16)
        have h40 := h40
        obtain ⟨j, hj, rfl⟩ : ∃ j, j < m ∧ i = nI j := nv_in_S (S := m) (by omega) (by rw [← em]; exact h40)
        refine ev_aload_n (i := 0) dX10_set_49 rfl rfl ?_
        refine ev_getR fX10_7 dX10_set_50 rfl rfl (by decide) ?_
        refine ev_iload_n (i := 1) dX10_set_53 rfl rfl ?_
        refine ev_ialdN (j := q) dX10_set_54 rfl (by omega) (by decide) ?_
        refine ev_if_ne (tgt := 63) dX10_set_55 (by decide) (fun h55 => ?_) (fun h55 => ?_)
        · refine ev_aload_n (i := 0) dX10_set_63 rfl rfl ?_
          refine ev_getR fX10_7 dX10_set_64 rfl rfl (by decide) ?_
          refine ev_iload_n (i := 1) dX10_set_67 rfl rfl ?_
          refine ev_ialdN (j := q) dX10_set_68 rfl (by omega) (by decide) ?_
          refine ev_iconst (v := 1) dX10_set_69 kc_1 ?_
          refine ev_icmp_ne (tgt := 78) dX10_set_70 (by decide) (fun h70 => ?_) (fun h70 => ?_)
          · refine ev_iload_n (i := 3) dX10_set_78 rfl rfl ?_
            refine ev_istore dX10_set_79 (Nat.le_of_ble_eq_true rfl) rfl ?_
            refine ev_aload_n (i := 0) dX10_set_81 rfl rfl ?_
            refine ev_getR fX10_16 dX10_set_82 rfl rfl (by decide) ?_
            refine ev_bipush (v := 40) dX10_set_85 kb_40 ?_
            refine ev_iload_n (i := 1) dX10_set_87 rfl rfl ?_
            refine ev_imulN (a := 40) (b := q) dX10_set_88 ?_
            refine ev_iload_n (i := 2) dX10_set_89 rfl rfl ?_
            refine ev_iaddN (a := (40 * q)) (b := j) dX10_set_90 ?_
            refine ev_iload dX10_set_91 rfl ?_
            refine ev_iastN (j := ((40 * q) + j)) dX10_set_93 rfl (by omega) (by decide) ?_
            refine ev_aload_n (i := 0) dX10_set_94 rfl rfl ?_
            refine ev_iload dX10_set_95 rfl ?_
            refine s_dVi (As := [_]) (m_well _) (Nat.le_of_ble_eq_true rfl) lX10_84 kX10_well vX10_well dX10_set_97 rfl rfl rfl (by decide) rfl (Nat.le_of_ble_eq_true rfl) ?_
            exact s_retI dX10_set_100 (by
          refine Or.inr ⟨q, hq, rfl, Or.inr (Or.inr ⟨Int32.not_lt.mpr h16, h40, j, by omega, rfl, ?_, ?_⟩)⟩
          · first | (simp [nv_cut, h55]; done) | (simp [nv_cut, h55, h70]; done)
          · first | (simp [nv_cut, h55]; done) | (simp [nv_cut, h55, h70]; done))
          · refine ev_iload_n (i := 3) dX10_set_73 rfl rfl ?_
            refine ev_i2s dX10_set_74 ?_
            refine ev_goto (tgt := 79) dX10_set_75 (by decide) ?_
            refine ev_istore dX10_set_79 (Nat.le_of_ble_eq_true rfl) rfl ?_
            refine ev_aload_n (i := 0) dX10_set_81 rfl rfl ?_
            refine ev_getR fX10_16 dX10_set_82 rfl rfl (by decide) ?_
            refine ev_bipush (v := 40) dX10_set_85 kb_40 ?_
            refine ev_iload_n (i := 1) dX10_set_87 rfl rfl ?_
            refine ev_imulN (a := 40) (b := q) dX10_set_88 ?_
            refine ev_iload_n (i := 2) dX10_set_89 rfl rfl ?_
            refine ev_iaddN (a := (40 * q)) (b := j) dX10_set_90 ?_
            refine ev_iload dX10_set_91 rfl ?_
            refine ev_iastN (j := ((40 * q) + j)) dX10_set_93 rfl (by omega) (by decide) ?_
            refine ev_aload_n (i := 0) dX10_set_94 rfl rfl ?_
            refine ev_iload dX10_set_95 rfl ?_
            refine s_dVi (As := [_]) (m_well _) (Nat.le_of_ble_eq_true rfl) lX10_84 kX10_well vX10_well dX10_set_97 rfl rfl rfl (by decide) rfl (Nat.le_of_ble_eq_true rfl) ?_
            exact s_retI dX10_set_100 (by
          refine Or.inr ⟨q, hq, rfl, Or.inr (Or.inr ⟨Int32.not_lt.mpr h16, h40, j, by omega, rfl, ?_, ?_⟩)⟩
          · first | (simp [nv_cut, h55]; done) | (simp [nv_cut, h55, h70]; done)
          · first | (simp [nv_cut, h55]; done) | (simp [nv_cut, h55, h70]; done))
        · refine ev_iload_n (i := 3) dX10_set_58 rfl rfl ?_
          refine ev_i2b dX10_set_59 ?_
          refine ev_goto (tgt := 79) dX10_set_60 (by decide) ?_
          refine ev_istore dX10_set_79 (Nat.le_of_ble_eq_true rfl) rfl ?_
          refine ev_aload_n (i := 0) dX10_set_81 rfl rfl ?_
          refine ev_getR fX10_16 dX10_set_82 rfl rfl (by decide) ?_
          refine ev_bipush (v := 40) dX10_set_85 kb_40 ?_
          refine ev_iload_n (i := 1) dX10_set_87 rfl rfl ?_
          refine ev_imulN (a := 40) (b := q) dX10_set_88 ?_
          refine ev_iload_n (i := 2) dX10_set_89 rfl rfl ?_
          refine ev_iaddN (a := (40 * q)) (b := j) dX10_set_90 ?_
          refine ev_iload dX10_set_91 rfl ?_
          refine ev_iastN (j := ((40 * q) + j)) dX10_set_93 rfl (by omega) (by decide) ?_
          refine ev_aload_n (i := 0) dX10_set_94 rfl rfl ?_
          refine ev_iload dX10_set_95 rfl ?_
          refine s_dVi (As := [_]) (m_well _) (Nat.le_of_ble_eq_true rfl) lX10_84 kX10_well vX10_well dX10_set_97 rfl rfl rfl (by decide) rfl (Nat.le_of_ble_eq_true rfl) ?_
          exact s_retI dX10_set_100 (by
          refine Or.inr ⟨q, hq, rfl, Or.inr (Or.inr ⟨Int32.not_lt.mpr h16, h40, j, by omega, rfl, ?_, ?_⟩)⟩
          · first | (simp [nv_cut, h55]; done) | (simp [nv_cut, h55, h70]; done)
          · first | (simp [nv_cut, h55]; done) | (simp [nv_cut, h55, h70]; done))
      · refine ev_aload_n (i := 0) dX10_set_43 rfl rfl ?_
        refine ev_iconst (v := 2) dX10_set_44 kc_2 ?_
        refine s_dVi (As := [_]) (m_finds _) (Nat.le_of_ble_eq_true rfl) lX10_80 kX10_finds vX10_finds dX10_set_45 rfl rfl rfl (by decide) rfl (Nat.le_of_ble_eq_true rfl) ?_
        exact s_retI dX10_set_48 (Or.inr ⟨q, hq, rfl, Or.inr (Or.inl ⟨Int32.not_lt.mpr h16, h40, rfl, rfl⟩)⟩)
    · refine ev_aload_n (i := 0) dX10_set_19 rfl rfl ?_
      refine ev_iconst (v := 1) dX10_set_20 kc_1 ?_
      refine s_dVi (As := [_]) (m_finds _) (Nat.le_of_ble_eq_true rfl) lX10_80 kX10_finds vX10_finds dX10_set_21 rfl rfl rfl (by decide) rfl (Nat.le_of_ble_eq_true rfl) ?_
      exact s_retI dX10_set_24 (Or.inr ⟨q, hq, rfl, Or.inl ⟨Int32.not_le.mp h16, rfl, rfl⟩⟩)
  · refine ev_ldc qX10_79 dX10_set_7 ?_
    exact s_retI dX10_set_9 (Or.inl ⟨h4, rfl, rfl⟩)
theorem m_drop (x : Int32) : nw_cI l g 2 mX10_drop [.ref (nw_a g 219), .int x] I (fun r K => (nv_in x 0 7 = false ∧ r = -1000001 ∧ K = I) ∨ ∃ q, q < 8 ∧ x = nI q ∧ ((I 220 q < 0 ∧ r = -1000010 - 1 ∧ K = nw_up I 219 3 1) ∨ (¬ I 220 q < 0 ∧ r = I 221 q ∧ K = nw_up (nw_up I 220 q (-1)) 219 3 0))) := by
  refine ⟨(Nat.le_of_ble_eq_true rfl), ?_⟩
  refine ev_iload_n (i := 1) dX10_drop_0 rfl rfl ?_
  refine s_dSz (As := [_]) (m_isRow _) (Nat.le_of_ble_eq_true rfl) lX10_73 kX10_isRow sX10_isRow dX10_drop_1 rfl rfl (Nat.le_of_ble_eq_true rfl) ?_
  refine s_ifZ_ne (tgt := 10) dX10_drop_4 (by decide) (fun h4 => ?_) (fun h4 => ?_)
  · obtain ⟨q, hq, rfl⟩ := nv_in_S (S := 8) (by decide) h4
    refine ev_aload_n (i := 0) dX10_drop_10 rfl rfl ?_
    refine ev_getR fX10_7 dX10_drop_11 rfl rfl (by decide) ?_
    refine ev_iload_n (i := 1) dX10_drop_14 rfl rfl ?_
    refine ev_ialdN (j := q) dX10_drop_15 rfl (by omega) (by decide) ?_
    refine ev_if_ge (tgt := 25) dX10_drop_16 (by decide) (fun h16 => ?_) (fun h16 => ?_)
    · refine ev_aload_n (i := 0) dX10_drop_25 rfl rfl ?_
      refine ev_getR fX10_7 dX10_drop_26 rfl rfl (by decide) ?_
      refine ev_iload_n (i := 1) dX10_drop_29 rfl rfl ?_
      refine ev_iconst (v := (-1)) dX10_drop_30 kc_m1 ?_
      refine ev_iastN (j := q) dX10_drop_31 rfl (by omega) (by decide) ?_
      refine ev_aload_n (i := 0) dX10_drop_32 rfl rfl ?_
      refine ev_aload_n (i := 0) dX10_drop_33 rfl rfl ?_
      refine ev_getR fX10_13 dX10_drop_34 rfl rfl (by decide) ?_
      refine ev_iload_n (i := 1) dX10_drop_37 rfl rfl ?_
      refine ev_ialdN (j := q) dX10_drop_38 rfl (by omega) (by decide) ?_
      refine s_dVi (As := [_]) (m_well _) (Nat.le_of_ble_eq_true rfl) lX10_84 kX10_well vX10_well dX10_drop_39 rfl rfl rfl (by decide) rfl (Nat.le_of_ble_eq_true rfl) ?_
      exact s_retI dX10_drop_42 (Or.inr ⟨q, hq, rfl, Or.inr ⟨Int32.not_lt.mpr h16, by rw [nw_up_ne (by decide)], rfl⟩⟩)
    · refine ev_aload_n (i := 0) dX10_drop_19 rfl rfl ?_
      refine ev_iconst (v := 1) dX10_drop_20 kc_1 ?_
      refine s_dVi (As := [_]) (m_finds _) (Nat.le_of_ble_eq_true rfl) lX10_80 kX10_finds vX10_finds dX10_drop_21 rfl rfl rfl (by decide) rfl (Nat.le_of_ble_eq_true rfl) ?_
      exact s_retI dX10_drop_24 (Or.inr ⟨q, hq, rfl, Or.inl ⟨Int32.not_le.mp h16, rfl, rfl⟩⟩)
  · refine ev_ldc qX10_79 dX10_drop_7 ?_
    exact s_retI dX10_drop_9 (Or.inl ⟨h4, rfl, rfl⟩)
theorem m_feed {n : Nat} (hn : I 219 6 = nI n) (h160 : n ≤ 160) (x : Int32) : nw_dI l g 1 mX10_feed [.ref (nw_a g 219), .int x] I (if nv_in x 0 255 then (if n = 160 then -1000003 else nI (n + 1)) else -1000001) (if nv_in x 0 255 then (if n = 160 then I else nw_up (nw_up I 224 n x) 219 6 (nI (n + 1))) else I) := by
  refine ⟨(Nat.le_of_ble_eq_true rfl), ?_⟩
  have e160 : (160 : Int32) = nI 160 := by decide
  refine ev_iload_n (i := 1) dX10_feed_0 rfl rfl ?_
  refine ev_i2l dX10_feed_1 ?_
  refine ev_lconst (v := 0) dX10_feed_2 rfl ?_
  refine ev_ldc2 qX10_87 dX10_feed_3 ?_
  refine s_dSz (As := [_, _, _]) (m_in _ 0 255 (by decide) (by decide)) (Nat.le_of_ble_eq_true rfl) lX10_64 kX10_in sX10_in dX10_feed_6 rfl rfl (Nat.le_of_ble_eq_true rfl) ?_
  refine s_ifZ_ne (tgt := 15) dX10_feed_9 (by decide) (fun h9 => ?_) (fun h9 => ?_)
  · refine ev_aload_n (i := 0) dX10_feed_15 rfl rfl ?_
    refine ev_getI fX10_89 dX10_feed_16 rfl rfl (by decide) ?_
    refine ev_sipush (v := 160) dX10_feed_19 ks_160 ?_
    rw [hn]
    refine ev_icmp_ne (tgt := 28) dX10_feed_22 (by decide) (fun h22 => ?_) (fun h22 => ?_)
    · have hne : ¬ n = 160 := fun q => h22 (by rw [e160, q])
      refine ev_aload_n (i := 0) dX10_feed_28 rfl rfl ?_
      refine ev_getR fX10_22 dX10_feed_29 rfl rfl (by decide) ?_
      refine ev_aload_n (i := 0) dX10_feed_32 rfl rfl ?_
      refine ev_getI fX10_89 dX10_feed_33 rfl rfl (by decide) ?_
      rw [hn]
      refine ev_iload_n (i := 1) dX10_feed_36 rfl rfl ?_
      refine ev_iastN (j := n) dX10_feed_37 rfl (by omega) (by decide) ?_
      refine ev_aload_n (i := 0) dX10_feed_38 rfl rfl ?_
      refine ev_dup dX10_feed_39 rfl ?_
      refine ev_getI fX10_89 dX10_feed_40 rfl rfl (by decide) ?_
      rw [nw_up_ne (by decide), hn]
      refine ev_iconst (v := 1) dX10_feed_43 kc_1 ?_
      refine ev_iaddN (a := n) (b := 1) dX10_feed_44 ?_
      refine ev_putI fX10_89 dX10_feed_45 rfl rfl (by decide) rfl rfl rfl rfl ?_
      refine ev_aload_n (i := 0) dX10_feed_48 rfl rfl ?_
      refine ev_getI fX10_89 dX10_feed_49 rfl rfl (by decide) ?_
      rw [nw_up_self, pk_us]
      exact s_retI dX10_feed_52 ⟨by rw [if_pos h9, if_neg hne], by rw [if_pos h9, if_neg hne]⟩
    · refine ev_ldc qX10_92 dX10_feed_25 ?_
      exact s_retI dX10_feed_27 (by
      have e : n = 160 := by rw [e160] at h22; exact (nI_eq (by omega) (by decide)).mp h22
      exact ⟨by rw [if_pos h9, if_pos e], by rw [if_pos h9, if_pos e]⟩)
  · refine ev_ldc qX10_79 dX10_feed_12 ?_
    exact s_retI dX10_feed_14 ⟨by rw [if_neg (by rw [h9]; decide)], by rw [if_neg (by rw [h9]; decide)]⟩
theorem nv_has_64 {m : Nat} {i n : Int32} (hm : m ≤ 40) : nv_has (nI m) i n = (decide (¬ i < 0) && (decide (¬ n < 0) && decide (¬ (nI m).toInt64 < i.toInt64 + n.toInt64))) := by
  unfold nv_has
  by_cases h1 : i < 0
  · simp [h1]
  by_cases h2 : n < 0
  · simp [h2]
  obtain ⟨a, ha, rfl⟩ := nI_of h1
  obtain ⟨c, hc, rfl⟩ := nI_of h2
  have e : (nI m - nI c < nI a) ↔ ((nI m).toInt64 < (nI a).toInt64 + (nI c).toInt64) := by
    rw [nI_l (by omega), nI_l ha, nI_l hc, lN_add, pk_lLT (by omega) (by omega)]
    by_cases hmc : c ≤ m
    · rw [pk_sub hmc, nI_ltI (by omega) ha]
      omega
    · have hn : (nI m - nI c).toInt = (m : Int) - c := by
        have e0 : nI m - nI c = -(nI (c - m)) := by
          rw [← pk_sub (show m ≤ c by omega), Int32.neg_sub]
        rw [e0, Int32.toInt_neg, nI_toInt (by omega), Int.bmod_eq_of_le (by omega) (by omega)]
        omega
      rw [Int32.lt_iff_toInt_lt, hn, nI_toInt ha]
      omega
  simp only [e]
theorem l_mcopy2 {a i c j n : Nat} (hc : c < 8) (hj : j + n ≤ 40) (fm : Nat → Int32) : ∀ (k p : Nat) (J : nw_Me), p + k = n → (∀ t, t < n → J 223 t = fm t) → J 222 = nm_mx (40 * c + j) p fm (I 222) → (∀ x, x ≠ 222 → x ≠ 223 → J x = I x) → nw_S l g 2 mX10_copy 157 [some (.ref (nw_a g 219)), some (.int (nI a)), some (.int (nI i)), some (.int (nI c)), some (.int (nI j)), some (.int (nI n)), some (.int (nI p))] [] J (nw_qI (fun r K => r = nI n ∧ K 219 = upd (I 219) 3 0 ∧ K 222 = nm_mx (40 * c + j) n fm (I 222) ∧ ∀ x, x ≠ 219 → x ≠ 222 → x ≠ 223 → K x = I x)) := by
  intro k
  induction k with
  | zero =>
    intro p J hp h0 h1 h2
    obtain rfl : p = n := by omega
    refine ev_iload dX10_copy_157 rfl ?_
    refine ev_iload dX10_copy_159 rfl ?_
    refine ev_icmp_ge (tgt := 192) dX10_copy_161 (by decide) (fun h161 => ?_) (fun h161 => ?_)
    · refine ev_aload_n (i := 0) dX10_copy_192 rfl rfl ?_
      refine ev_iload dX10_copy_193 rfl ?_
      refine s_dVi (As := [_]) (m_well _) (Nat.le_of_ble_eq_true rfl) lX10_84 kX10_well vX10_well dX10_copy_195 rfl rfl rfl (by decide) rfl (Nat.le_of_ble_eq_true rfl) ?_
      exact s_retI dX10_copy_198 ⟨rfl, by rw [nw_up_self, h2 219 (by decide) (by decide)], by rw [nw_up_ne (by decide)]; exact h1, fun x q1 q2 q3 => by rw [nw_up_ne q1]; exact h2 x q2 q3⟩
    · exact absurd (nI_le (by omega) (by omega)) h161
  | succ k ih =>
    intro p J hp h0 h1 h2
    refine ev_iload dX10_copy_157 rfl ?_
    refine ev_iload dX10_copy_159 rfl ?_
    refine ev_icmp_ge (tgt := 192) dX10_copy_161 (by decide) (fun h161 => ?_) (fun h161 => ?_)
    · exact absurd h161 (nI_ge (by omega) (by omega))
    · refine ev_aload_n (i := 0) dX10_copy_164 rfl rfl ?_
      refine ev_getR fX10_16 dX10_copy_165 rfl rfl (by decide) ?_
      refine ev_bipush (v := 40) dX10_copy_168 kb_40 ?_
      refine ev_iload_n (i := 3) dX10_copy_170 rfl rfl ?_
      refine ev_imulN (a := 40) (b := c) dX10_copy_171 ?_
      refine ev_iload dX10_copy_172 rfl ?_
      refine ev_iaddN (a := (40 * c)) (b := j) dX10_copy_174 ?_
      refine ev_iload dX10_copy_175 rfl ?_
      refine ev_iaddN (a := ((40 * c) + j)) (b := p) dX10_copy_177 ?_
      refine ev_aload_n (i := 0) dX10_copy_178 rfl rfl ?_
      refine ev_getR fX10_19 dX10_copy_179 rfl rfl (by decide) ?_
      refine ev_iload dX10_copy_182 rfl ?_
      refine ev_ialdN (j := p) dX10_copy_184 rfl (by omega) (by decide) ?_
      rw [h0 p (by omega)]
      refine ev_iastN (j := (((40 * c) + j) + p)) dX10_copy_185 rfl (by omega) (by decide) ?_
      refine ev_iincN (a := p) dX10_copy_186 rfl (Nat.le_of_ble_eq_true rfl) rfl ?_
      refine ev_goto (tgt := 157) dX10_copy_189 (by decide) ?_
      refine ih (p + 1) _ (by omega) (fun t ht => by rw [nw_up_ne (by decide)]; exact h0 t ht) ?_ (fun x q1 q2 => by rw [nw_up_ne q1]; exact h2 x q1 q2)
      rw [nw_up_self, h1]
      exact nm_mx_s (40 * c + j) p fm (I 222)
theorem l_mcopy1 {a i c j n : Nat} (ha : a < 8) (hc : c < 8) (hi : i + n ≤ 40) (hj : j + n ≤ 40) : ∀ (k p : Nat) (J : nw_Me), p + k = n → (∀ t, t < p → J 223 t = I 222 (40 * a + i + t)) → (∀ x, x ≠ 223 → J x = I x) → nw_S l g 2 mX10_copy 120 [some (.ref (nw_a g 219)), some (.int (nI a)), some (.int (nI i)), some (.int (nI c)), some (.int (nI j)), some (.int (nI n)), some (.int (nI p))] [] J (nw_qI (fun r K => r = nI n ∧ K 219 = upd (I 219) 3 0 ∧ K 222 = nm_mx (40 * c + j) n (fun t => I 222 (40 * a + i + t)) (I 222) ∧ ∀ x, x ≠ 219 → x ≠ 222 → x ≠ 223 → K x = I x)) := by
  intro k
  induction k with
  | zero =>
    intro p J hp h1 h2
    obtain rfl : p = n := by omega
    refine ev_iload dX10_copy_120 rfl ?_
    refine ev_iload dX10_copy_122 rfl ?_
    refine ev_icmp_ge (tgt := 154) dX10_copy_124 (by decide) (fun h124 => ?_) (fun h124 => ?_)
    · refine ev_iconst (v := 0) dX10_copy_154 kc_0 ?_
      refine ev_istore dX10_copy_155 (Nat.le_of_ble_eq_true rfl) rfl ?_
      exact l_mcopy2 hc hj (fun t => I 222 (40 * a + i + t)) p 0 J (by omega) h1 (by rw [nm_mx_0]; exact h2 222 (by decide)) (fun x q1 q2 => h2 x q2)
    · exact absurd (nI_le (by omega) (by omega)) h124
  | succ k ih =>
    intro p J hp h1 h2
    refine ev_iload dX10_copy_120 rfl ?_
    refine ev_iload dX10_copy_122 rfl ?_
    refine ev_icmp_ge (tgt := 154) dX10_copy_124 (by decide) (fun h124 => ?_) (fun h124 => ?_)
    · exact absurd h124 (nI_ge (by omega) (by omega))
    · refine ev_aload_n (i := 0) dX10_copy_127 rfl rfl ?_
      refine ev_getR fX10_19 dX10_copy_128 rfl rfl (by decide) ?_
      refine ev_iload dX10_copy_131 rfl ?_
      refine ev_aload_n (i := 0) dX10_copy_133 rfl rfl ?_
      refine ev_getR fX10_16 dX10_copy_134 rfl rfl (by decide) ?_
      refine ev_bipush (v := 40) dX10_copy_137 kb_40 ?_
      refine ev_iload_n (i := 1) dX10_copy_139 rfl rfl ?_
      refine ev_imulN (a := 40) (b := a) dX10_copy_140 ?_
      refine ev_iload_n (i := 2) dX10_copy_141 rfl rfl ?_
      refine ev_iaddN (a := (40 * a)) (b := i) dX10_copy_142 ?_
      refine ev_iload dX10_copy_143 rfl ?_
      refine ev_iaddN (a := ((40 * a) + i)) (b := p) dX10_copy_145 ?_
      refine ev_ialdN (j := (((40 * a) + i) + p)) dX10_copy_146 rfl (by omega) (by decide) ?_
      rw [h2 222 (by decide)]
      refine ev_iastN (j := p) dX10_copy_147 rfl (by omega) (by decide) ?_
      refine ev_iincN (a := p) dX10_copy_148 rfl (Nat.le_of_ble_eq_true rfl) rfl ?_
      refine ev_goto (tgt := 120) dX10_copy_151 (by decide) ?_
      refine ih (p + 1) _ (by omega) (fun t ht => ?_) (fun x q1 => by rw [nw_up_ne q1]; exact h2 x q1)
      rw [nw_up_self]
      by_cases e : t = p
      · rw [e, pk_us]
      · rw [pk_un e]
        exact h1 t (by omega)
theorem m_copy (hz : ∀ q, q < 8 → ¬ I 220 q < 0 → ∃ m, m ≤ 40 ∧ I 221 q = nI m) (x i y j n : Int32) : nw_cI l g 2 mX10_copy [.ref (nw_a g 219), .int x, .int i, .int y, .int j, .int n] I (fun r K => ((nv_in x 0 7 && nv_in y 0 7) = false ∧ r = -1000001 ∧ K = I) ∨ ∃ a c, a < 8 ∧ c < 8 ∧ x = nI a ∧ y = nI c ∧ (((I 220 a < 0 ∨ I 220 c < 0) ∧ r = -1000010 - 1 ∧ K = nw_up I 219 3 1) ∨ (¬ I 220 a < 0 ∧ ¬ I 220 c < 0 ∧ ((¬ I 220 a = I 220 c ∧ r = -1000010 - 5 ∧ K = nw_up I 219 3 5) ∨ (I 220 a = I 220 c ∧ (((nv_has (I 221 a) i n && nv_has (I 221 c) j n) = false ∧ r = -1000010 - 2 ∧ K = nw_up I 219 3 2) ∨ ∃ i0 j0 n0, i = nI i0 ∧ j = nI j0 ∧ n = nI n0 ∧ i0 + n0 ≤ 40 ∧ j0 + n0 ≤ 40 ∧ (nv_has (I 221 a) i n && nv_has (I 221 c) j n) = true ∧ r = nI n0 ∧ K 219 = upd (I 219) 3 0 ∧ K 222 = nm_mx (40 * c + j0) n0 (fun t => I 222 (40 * a + i0 + t)) (I 222) ∧ ∀ k, k ≠ 219 → k ≠ 222 → k ≠ 223 → K k = I k)))))) := by
  refine ⟨(Nat.le_of_ble_eq_true rfl), ?_⟩
  refine ev_iload_n (i := 1) dX10_copy_0 rfl rfl ?_
  refine s_dSz (As := [_]) (m_isRow _) (Nat.le_of_ble_eq_true rfl) lX10_73 kX10_isRow sX10_isRow dX10_copy_1 rfl rfl (Nat.le_of_ble_eq_true rfl) ?_
  refine s_ifZ_eq (tgt := 14) dX10_copy_4 (by decide) (fun h4 => ?_) (fun h4 => ?_)
  · refine ev_ldc qX10_79 dX10_copy_14 ?_
    exact s_retI dX10_copy_16 (Or.inl ⟨by first | (simp [h4]; done) | (simp [h11]; done), rfl, rfl⟩)
  · refine ev_iload_n (i := 3) dX10_copy_7 rfl rfl ?_
    refine s_dSz (As := [_]) (m_isRow _) (Nat.le_of_ble_eq_true rfl) lX10_73 kX10_isRow sX10_isRow dX10_copy_8 rfl rfl (Nat.le_of_ble_eq_true rfl) ?_
    refine s_ifZ_ne (tgt := 17) dX10_copy_11 (by decide) (fun h11 => ?_) (fun h11 => ?_)
    · obtain ⟨a, ha, rfl⟩ := nv_in_S (S := 8) (by decide) h4
      obtain ⟨c, hc, rfl⟩ := nv_in_S (S := 8) (by decide) h11
      refine ev_aload_n (i := 0) dX10_copy_17 rfl rfl ?_
      refine ev_getR fX10_7 dX10_copy_18 rfl rfl (by decide) ?_
      refine ev_iload_n (i := 1) dX10_copy_21 rfl rfl ?_
      refine ev_ialdN (j := a) dX10_copy_22 rfl (by omega) (by decide) ?_
      refine ev_if_lt (tgt := 35) dX10_copy_23 (by decide) (fun h23 => ?_) (fun h23 => ?_)
      · refine ev_aload_n (i := 0) dX10_copy_35 rfl rfl ?_
        refine ev_iconst (v := 1) dX10_copy_36 kc_1 ?_
        refine s_dVi (As := [_]) (m_finds _) (Nat.le_of_ble_eq_true rfl) lX10_80 kX10_finds vX10_finds dX10_copy_37 rfl rfl rfl (by decide) rfl (Nat.le_of_ble_eq_true rfl) ?_
        exact s_retI dX10_copy_40 (Or.inr ⟨a, c, ha, hc, rfl, rfl, Or.inl ⟨by first | exact Or.inl h23 | exact Or.inr (Int32.not_le.mp h32), rfl, rfl⟩⟩)
      · refine ev_aload_n (i := 0) dX10_copy_26 rfl rfl ?_
        refine ev_getR fX10_7 dX10_copy_27 rfl rfl (by decide) ?_
        refine ev_iload_n (i := 3) dX10_copy_30 rfl rfl ?_
        refine ev_ialdN (j := c) dX10_copy_31 rfl (by omega) (by decide) ?_
        refine ev_if_ge (tgt := 41) dX10_copy_32 (by decide) (fun h32 => ?_) (fun h32 => ?_)
        · refine ev_aload_n (i := 0) dX10_copy_41 rfl rfl ?_
          refine ev_getR fX10_7 dX10_copy_42 rfl rfl (by decide) ?_
          refine ev_iload_n (i := 1) dX10_copy_45 rfl rfl ?_
          refine ev_ialdN (j := a) dX10_copy_46 rfl (by omega) (by decide) ?_
          refine ev_aload_n (i := 0) dX10_copy_47 rfl rfl ?_
          refine ev_getR fX10_7 dX10_copy_48 rfl rfl (by decide) ?_
          refine ev_iload_n (i := 3) dX10_copy_51 rfl rfl ?_
          refine ev_ialdN (j := c) dX10_copy_52 rfl (by omega) (by decide) ?_
          refine ev_icmp_eq (tgt := 62) dX10_copy_53 (by decide) (fun h53 => ?_) (fun h53 => ?_)
          · obtain ⟨m1, hm1, em1⟩ := hz a ha h23
            obtain ⟨m2, hm2, em2⟩ := hz c hc (Int32.not_lt.mpr h32)
            have k1 := nv_has_64 (m := m1) (i := i) (n := n) hm1
            have k2 := nv_has_64 (m := m2) (i := j) (n := n) hm2
            rw [← em1] at k1
            rw [← em2] at k2
            refine ev_iload_n (i := 2) dX10_copy_62 rfl rfl ?_
            refine ev_if_lt (tgt := 111) dX10_copy_63 (by decide) (fun h63 => ?_) (fun h63 => ?_)
            · refine ev_aload_n (i := 0) dX10_copy_111 rfl rfl ?_
              refine ev_iconst (v := 2) dX10_copy_112 kc_2 ?_
              refine s_dVi (As := [_]) (m_finds _) (Nat.le_of_ble_eq_true rfl) lX10_80 kX10_finds vX10_finds dX10_copy_113 rfl rfl rfl (by decide) rfl (Nat.le_of_ble_eq_true rfl) ?_
              exact s_retI dX10_copy_116 (Or.inr ⟨a, c, ha, hc, rfl, rfl, Or.inr ⟨h23, Int32.not_lt.mpr h32, Or.inr ⟨h53, Or.inl ⟨by
                      rw [k1, k2]
                      first
                        | (simp [h63]; done)
                        | (simp [h68]; done)
                        | (simp [h73]; done)
                        | (have q := lg_gt.mp h90; simp [q]; done)
                        | (have q := Int64.not_le.mp ((not_congr (lg_cmp_le _ _)).mp h108); simp [q]; done), rfl, rfl⟩⟩⟩⟩)
            · refine ev_iload dX10_copy_66 rfl ?_
              refine ev_if_lt (tgt := 111) dX10_copy_68 (by decide) (fun h68 => ?_) (fun h68 => ?_)
              · refine ev_aload_n (i := 0) dX10_copy_111 rfl rfl ?_
                refine ev_iconst (v := 2) dX10_copy_112 kc_2 ?_
                refine s_dVi (As := [_]) (m_finds _) (Nat.le_of_ble_eq_true rfl) lX10_80 kX10_finds vX10_finds dX10_copy_113 rfl rfl rfl (by decide) rfl (Nat.le_of_ble_eq_true rfl) ?_
                exact s_retI dX10_copy_116 (Or.inr ⟨a, c, ha, hc, rfl, rfl, Or.inr ⟨h23, Int32.not_lt.mpr h32, Or.inr ⟨h53, Or.inl ⟨by
                      rw [k1, k2]
                      first
                        | (simp [h63]; done)
                        | (simp [h68]; done)
                        | (simp [h73]; done)
                        | (have q := lg_gt.mp h90; simp [q]; done)
                        | (have q := Int64.not_le.mp ((not_congr (lg_cmp_le _ _)).mp h108); simp [q]; done), rfl, rfl⟩⟩⟩⟩)
              · refine ev_iload dX10_copy_71 rfl ?_
                refine ev_if_lt (tgt := 111) dX10_copy_73 (by decide) (fun h73 => ?_) (fun h73 => ?_)
                · refine ev_aload_n (i := 0) dX10_copy_111 rfl rfl ?_
                  refine ev_iconst (v := 2) dX10_copy_112 kc_2 ?_
                  refine s_dVi (As := [_]) (m_finds _) (Nat.le_of_ble_eq_true rfl) lX10_80 kX10_finds vX10_finds dX10_copy_113 rfl rfl rfl (by decide) rfl (Nat.le_of_ble_eq_true rfl) ?_
                  exact s_retI dX10_copy_116 (Or.inr ⟨a, c, ha, hc, rfl, rfl, Or.inr ⟨h23, Int32.not_lt.mpr h32, Or.inr ⟨h53, Or.inl ⟨by
                      rw [k1, k2]
                      first
                        | (simp [h63]; done)
                        | (simp [h68]; done)
                        | (simp [h73]; done)
                        | (have q := lg_gt.mp h90; simp [q]; done)
                        | (have q := Int64.not_le.mp ((not_congr (lg_cmp_le _ _)).mp h108); simp [q]; done), rfl, rfl⟩⟩⟩⟩)
                · refine ev_iload_n (i := 2) dX10_copy_76 rfl rfl ?_
                  refine ev_i2l dX10_copy_77 ?_
                  refine ev_iload dX10_copy_78 rfl ?_
                  refine ev_i2l dX10_copy_80 ?_
                  refine ev_ladd dX10_copy_81 ?_
                  refine ev_aload_n (i := 0) dX10_copy_82 rfl rfl ?_
                  refine ev_getR fX10_13 dX10_copy_83 rfl rfl (by decide) ?_
                  refine ev_iload_n (i := 1) dX10_copy_86 rfl rfl ?_
                  refine ev_ialdN (j := a) dX10_copy_87 rfl (by omega) (by decide) ?_
                  refine ev_i2l dX10_copy_88 ?_
                  refine ev_lcmp dX10_copy_89 ?_
                  refine ev_if_gt (tgt := 111) dX10_copy_90 (by decide) (fun h90 => ?_) (fun h90 => ?_)
                  · refine ev_aload_n (i := 0) dX10_copy_111 rfl rfl ?_
                    refine ev_iconst (v := 2) dX10_copy_112 kc_2 ?_
                    refine s_dVi (As := [_]) (m_finds _) (Nat.le_of_ble_eq_true rfl) lX10_80 kX10_finds vX10_finds dX10_copy_113 rfl rfl rfl (by decide) rfl (Nat.le_of_ble_eq_true rfl) ?_
                    exact s_retI dX10_copy_116 (Or.inr ⟨a, c, ha, hc, rfl, rfl, Or.inr ⟨h23, Int32.not_lt.mpr h32, Or.inr ⟨h53, Or.inl ⟨by
                      rw [k1, k2]
                      first
                        | (simp [h63]; done)
                        | (simp [h68]; done)
                        | (simp [h73]; done)
                        | (have q := lg_gt.mp h90; simp [q]; done)
                        | (have q := Int64.not_le.mp ((not_congr (lg_cmp_le _ _)).mp h108); simp [q]; done), rfl, rfl⟩⟩⟩⟩)
                  · refine ev_iload dX10_copy_93 rfl ?_
                    refine ev_i2l dX10_copy_95 ?_
                    refine ev_iload dX10_copy_96 rfl ?_
                    refine ev_i2l dX10_copy_98 ?_
                    refine ev_ladd dX10_copy_99 ?_
                    refine ev_aload_n (i := 0) dX10_copy_100 rfl rfl ?_
                    refine ev_getR fX10_13 dX10_copy_101 rfl rfl (by decide) ?_
                    refine ev_iload_n (i := 3) dX10_copy_104 rfl rfl ?_
                    refine ev_ialdN (j := c) dX10_copy_105 rfl (by omega) (by decide) ?_
                    refine ev_i2l dX10_copy_106 ?_
                    refine ev_lcmp dX10_copy_107 ?_
                    refine ev_if_le (tgt := 117) dX10_copy_108 (by decide) (fun h108 => ?_) (fun h108 => ?_)
                    · have e1 : nv_has (I 221 a) i n = true := by rw [k1]; rw [decide_eq_true h63, decide_eq_true h73, decide_eq_true (p := ¬ (I 221 a).toInt64 < i.toInt64 + n.toInt64) (fun q => h90 (lg_gt.mpr q))]; rfl
                      have e2 : nv_has (I 221 c) j n = true := by rw [k2]; rw [decide_eq_true h68, decide_eq_true h73, decide_eq_true (p := ¬ (I 221 c).toInt64 < j.toInt64 + n.toInt64) (fun q => Int64.not_le.mpr q ((lg_cmp_le _ _).mp h108))]; rfl
                      have E1 := e1
                      have E2 := e2
                      rw [em1] at e1
                      rw [em2] at e2
                      obtain ⟨i0, n0, m3, rfl, rfl, q3, q4, q5⟩ := nv_has_in (Or.inr ⟨m1, hm1, rfl⟩) e1
                      obtain ⟨j0, n1, m4, rfl, q6, q7, q8, q9⟩ := nv_has_in (Or.inr ⟨m2, hm2, rfl⟩) e2
                      refine ev_iconst (v := 0) dX10_copy_117 kc_0 ?_
                      refine ev_istore dX10_copy_118 (Nat.le_of_ble_eq_true rfl) rfl ?_
                      have q10 : n0 = n1 := (nI_eq (by omega) (by omega)).mp q6
                      refine s_postI (l_mcopy1 ha hc (i := i0) (j := j0) (n := n0) (by omega) (by omega) n0 0 I (by omega) (fun t ht => by omega) (fun _ _ => rfl)) (fun r K h => Or.inr ⟨a, c, ha, hc, rfl, rfl, Or.inr ⟨h23, Int32.not_lt.mpr h32, Or.inr ⟨h53, Or.inr ⟨i0, j0, n0, rfl, rfl, rfl, by omega, by omega, by rw [E1, E2]; rfl, h.1, h.2.1, h.2.2.1, h.2.2.2⟩⟩⟩⟩)
                    · refine ev_aload_n (i := 0) dX10_copy_111 rfl rfl ?_
                      refine ev_iconst (v := 2) dX10_copy_112 kc_2 ?_
                      refine s_dVi (As := [_]) (m_finds _) (Nat.le_of_ble_eq_true rfl) lX10_80 kX10_finds vX10_finds dX10_copy_113 rfl rfl rfl (by decide) rfl (Nat.le_of_ble_eq_true rfl) ?_
                      exact s_retI dX10_copy_116 (Or.inr ⟨a, c, ha, hc, rfl, rfl, Or.inr ⟨h23, Int32.not_lt.mpr h32, Or.inr ⟨h53, Or.inl ⟨by
                      rw [k1, k2]
                      first
                        | (simp [h63]; done)
                        | (simp [h68]; done)
                        | (simp [h73]; done)
                        | (have q := lg_gt.mp h90; simp [q]; done)
                        | (have q := Int64.not_le.mp ((not_congr (lg_cmp_le _ _)).mp h108); simp [q]; done), rfl, rfl⟩⟩⟩⟩)
          · refine ev_aload_n (i := 0) dX10_copy_56 rfl rfl ?_
            refine ev_iconst (v := 5) dX10_copy_57 kc_5 ?_
            refine s_dVi (As := [_]) (m_finds _) (Nat.le_of_ble_eq_true rfl) lX10_80 kX10_finds vX10_finds dX10_copy_58 rfl rfl rfl (by decide) rfl (Nat.le_of_ble_eq_true rfl) ?_
            exact s_retI dX10_copy_61 (Or.inr ⟨a, c, ha, hc, rfl, rfl, Or.inr ⟨h23, Int32.not_lt.mpr h32, Or.inl ⟨h53, rfl, rfl⟩⟩⟩)
        · refine ev_aload_n (i := 0) dX10_copy_35 rfl rfl ?_
          refine ev_iconst (v := 1) dX10_copy_36 kc_1 ?_
          refine s_dVi (As := [_]) (m_finds _) (Nat.le_of_ble_eq_true rfl) lX10_80 kX10_finds vX10_finds dX10_copy_37 rfl rfl rfl (by decide) rfl (Nat.le_of_ble_eq_true rfl) ?_
          exact s_retI dX10_copy_40 (Or.inr ⟨a, c, ha, hc, rfl, rfl, Or.inl ⟨by first | exact Or.inl h23 | exact Or.inr (Int32.not_le.mp h32), rfl, rfl⟩⟩)
    · refine ev_ldc qX10_79 dX10_copy_14 ?_
      exact s_retI dX10_copy_16 (Or.inl ⟨by first | (simp [h4]; done) | (simp [h11]; done), rfl, rfl⟩)
end
