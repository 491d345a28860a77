section
variable {l : Launch} {g : nw_G} {I : nw_Me} {N T S : Nat} {C F G : Nat → Int32} {b : Bool} {L : List (Nat → Int32)} {it : Nat → Int32} {fr i n1 L0 : Nat} {se : Int32}
theorem l_has0 {z1 c : Int32} {nx w : Nat} {z10 z11 : Option Value} : nw_S l g 1 mX10_hasCalled 25 [some (.ref (nw_a g 219)), some (.int z1), some (.int se), some (.int (nI fr)), some (.int (nI (n1 + 1))), some (.int c), some (.int (nI nx)), some (.int (nI L0)), some (.int 0), some (.int (nI w)), z10, z11] [] I (nw_qZ (fun b J => b = false ∧ J = I)) := by
  refine ev_iload dX10_hasCalled_25 rfl ?_
  refine ev_iload dX10_hasCalled_27 rfl ?_
  refine ev_icmp_gt (tgt := 132) dX10_hasCalled_29 (by decide) (fun h29 => ?_) (fun h29 => ?_)
  · refine ev_iload dX10_hasCalled_132 rfl ?_
    exact s_ret0 dX10_hasCalled_134 ⟨rfl, rfl⟩
  · refine ev_iload dX10_hasCalled_32 rfl ?_
    refine ev_if_eq (tgt := 132) dX10_hasCalled_34 (by decide) (fun _ => ?_) (fun h => absurd (by decide) h)
    refine ev_iload dX10_hasCalled_132 rfl ?_
    exact s_ret0 dX10_hasCalled_134 ⟨rfl, rfl⟩
theorem l_has {z1 : Int32} (hC : nl_C N T S C (I 225)) (h0 : 0 < N) (hF1 : I 226 1 = F 1) (hl : ¬ F 1 ≤ 0) (hit : ∀ j, j < n1 + 1 → I 222 (fr + j) = it (i + j)) (hfr : fr + (n1 + 1) ≤ 320) (hL : it (i + n1) = nI L0) (hL2 : L0 ≤ 399) : ∀ (m w nx : Nat) (c : Int32) (z10 z11 : Option Value), w + m = L0 + 1 → nx < n1 + 1 → nw_S l g 1 mX10_hasCalled 25 [some (.ref (nw_a g 219)), some (.int z1), some (.int se), some (.int (nI fr)), some (.int (nI (n1 + 1))), some (.int c), some (.int (nI nx)), some (.int (nI L0)), some (.int 1), some (.int (nI w)), z10, z11] [] I (nw_qZ (fun b J => b = p_fits C (F 1) se it m w (i + nx) c ∧ J = I)) := by
  intro m
  induction m with
  | zero =>
    intro w nx c z10 z11 hw hnx
    have hgt : nI L0 < nI w := nI_lt (by omega) (by omega)
    refine ev_iload dX10_hasCalled_25 rfl ?_
    refine ev_iload dX10_hasCalled_27 rfl ?_
    refine ev_icmp_gt (tgt := 132) dX10_hasCalled_29 (by decide) (fun h29 => ?_) (fun h29 => ?_)
    · refine ev_iload dX10_hasCalled_132 rfl ?_
      exact s_ret1 dX10_hasCalled_134 ⟨rfl, rfl⟩
    · exact absurd hgt h29
  | succ m ih =>
    intro w nx c z10 z11 hw hnx
    have hng : ¬ nI L0 < nI w := nI_nlt (by omega) (by omega)
    have ei := hit nx hnx
    have ep : p_fits C (F 1) se it (m + 1) w (i + nx) c = if nv_calls c (nv_step se (p_kind C (nI w))) (F 1) = decide (it (i + nx) = nI w) then p_fits C (F 1) se it m (w + 1) (if it (i + nx) = nI w then i + nx + 1 else i + nx) (c + nv_step se (p_kind C (nI w))) else false := rfl
    refine ev_iload dX10_hasCalled_25 rfl ?_
    refine ev_iload dX10_hasCalled_27 rfl ?_
    refine ev_icmp_gt (tgt := 132) dX10_hasCalled_29 (by decide) (fun h29 => ?_) (fun h29 => ?_)
    · exact absurd h29 hng
    · refine ev_iload dX10_hasCalled_32 rfl ?_
      refine ev_if_eq (tgt := 132) dX10_hasCalled_34 (by decide) (fun h => absurd h (by decide)) (fun _ => ?_)
      refine ev_iload_n (i := 2) dX10_hasCalled_37 rfl rfl ?_
      refine ev_aload_n (i := 0) dX10_hasCalled_38 rfl rfl ?_
      refine ev_iload dX10_hasCalled_39 rfl ?_
      refine s_dVi (As := [_]) (m_sortIn hC h0 (show w < 2 ^ 31 by omega)) (Nat.le_of_ble_eq_true rfl) lX10_176 kX10_sortIn vX10_sortIn dX10_hasCalled_41 rfl rfl rfl (by decide) rfl (Nat.le_of_ble_eq_true rfl) ?_
      refine s_dSi (As := [_, _]) (m_counted _ _) (Nat.le_of_ble_eq_true rfl) lX10_186 kX10_counted sX10_counted dX10_hasCalled_44 rfl rfl (Nat.le_of_ble_eq_true rfl) ?_
      refine ev_istore dX10_hasCalled_47 (Nat.le_of_ble_eq_true rfl) rfl ?_
      refine ev_aload_n (i := 0) dX10_hasCalled_49 rfl rfl ?_
      refine ev_getR fX10_16 dX10_hasCalled_50 rfl rfl (by decide) ?_
      refine ev_iload_n (i := 3) dX10_hasCalled_53 rfl rfl ?_
      refine ev_iload dX10_hasCalled_54 rfl ?_
      refine ev_iaddN (a := fr) (b := nx) dX10_hasCalled_56 ?_
      refine ev_ialdN (j := (fr + nx)) dX10_hasCalled_57 rfl (by omega) (by decide) ?_
      rw [ei]
      refine ev_iload dX10_hasCalled_58 rfl ?_
      refine ev_icmp_ne (tgt := 67) dX10_hasCalled_60 (by decide) (fun h60 => ?_) (fun h60 => ?_)
      · refine ev_iconst (v := 0) dX10_hasCalled_67 kc_0 ?_
        refine ev_istore dX10_hasCalled_68 (Nat.le_of_ble_eq_true rfl) rfl ?_
        refine ev_iload dX10_hasCalled_70 rfl ?_
        refine ev_iload dX10_hasCalled_72 rfl ?_
        refine ev_aload_n (i := 0) dX10_hasCalled_74 rfl rfl ?_
        refine ev_getR fX10_28 dX10_hasCalled_75 rfl rfl (by decide) ?_
        refine ev_iconst (v := 1) dX10_hasCalled_78 kc_1 ?_
        refine ev_ialdN (j := 1) dX10_hasCalled_79 rfl (by omega) (by decide) ?_
        rw [hF1]
        refine s_dSz (As := [_, _, _]) (m_isCalled _ _ hl) (Nat.le_of_ble_eq_true rfl) lX10_189 kX10_isCalled sX10_isCalled dX10_hasCalled_80 rfl rfl (Nat.le_of_ble_eq_true rfl) ?_
        refine ev_iload dX10_hasCalled_83 rfl ?_
        refine ev_icmp_ne (tgt := 92) dX10_hasCalled_85 (by decide) (fun h85 => ?_) (fun h85 => ?_)
        · refine ev_iconst (v := 0) dX10_hasCalled_92 kc_0 ?_
          refine ev_istore dX10_hasCalled_93 (Nat.le_of_ble_eq_true rfl) rfl ?_
          refine ev_iload dX10_hasCalled_95 rfl ?_
          refine ev_iload dX10_hasCalled_97 rfl ?_
          refine ev_if_eq (tgt := 115) dX10_hasCalled_99 (by decide) (fun _ => ?_) (fun h => absurd (by decide) h)
          refine ev_iconst (v := 0) dX10_hasCalled_115 kc_0 ?_
          refine ev_iaddN (a := nx) (b := 0) dX10_hasCalled_116 ?_
          refine ev_istore dX10_hasCalled_117 (Nat.le_of_ble_eq_true rfl) rfl ?_
          refine ev_iload dX10_hasCalled_119 rfl ?_
          refine ev_iload dX10_hasCalled_121 rfl ?_
          refine ev_iadd dX10_hasCalled_123 ?_
          refine ev_istore dX10_hasCalled_124 (Nat.le_of_ble_eq_true rfl) rfl ?_
          refine ev_iincN (a := w) dX10_hasCalled_126 rfl (Nat.le_of_ble_eq_true rfl) rfl ?_
          refine ev_goto (tgt := 25) dX10_hasCalled_129 (by decide) ?_
          first
            | (have hn : ¬ nv_calls c (nv_step se (p_kind C (nI w))) (F 1) = decide (it (i + nx) = nI w) := by
                 intro q
                 rw [q] at h85
                 first
                   | (rw [decide_eq_true h60] at h85; exact h85 rfl)
                   | (rw [decide_eq_false h60] at h85; exact h85 rfl)
               rw [ep, if_neg hn]
               exact l_has0)
            | (have hy : nv_calls c (nv_step se (p_kind C (nI w))) (F 1) = decide (it (i + nx) = nI w) := by
                 rw [decide_eq_true h60]
                 exact nw_bi_1.mp h85
               rw [ep, if_pos hy, if_pos h60]
               have hlt : nx < n1 := Nat.not_le.mp (fun q => h108 (nI_le q (by omega)))
               exact ih (w + 1) (nx + 1) _ _ _ (by omega) (by omega))
            | (have hy : nv_calls c (nv_step se (p_kind C (nI w))) (F 1) = decide (it (i + nx) = nI w) := by
                 rw [decide_eq_true h60]
                 exact nw_bi_1.mp h85
               rw [ep, if_pos hy, if_pos h60]
               have hge : n1 ≤ nx := (nI_leI (by omega) (by omega)).mp h108
               have e1 : nx = n1 := by omega
               have e2 : w = L0 := by
                 rw [e1, hL] at h60
                 exact ((nI_eq (by omega) (by omega)).mp h60).symm
               have e3 : m = 0 := by omega
               subst e3
               exact ih (w + 1) nx _ _ _ (by omega) hnx)
            | (have hy : nv_calls c (nv_step se (p_kind C (nI w))) (F 1) = decide (it (i + nx) = nI w) := by
                 rw [decide_eq_false h60]
                 exact nw_bi_0.mp h85
               rw [ep, if_pos hy, if_neg h60]
               exact ih (w + 1) nx _ _ _ (by omega) hnx)
        · refine ev_iconst (v := 1) dX10_hasCalled_88 kc_1 ?_
          refine ev_goto (tgt := 93) dX10_hasCalled_89 (by decide) ?_
          refine ev_istore dX10_hasCalled_93 (Nat.le_of_ble_eq_true rfl) rfl ?_
          refine ev_iload dX10_hasCalled_95 rfl ?_
          refine ev_iload dX10_hasCalled_97 rfl ?_
          refine ev_if_eq (tgt := 115) dX10_hasCalled_99 (by decide) (fun _ => ?_) (fun h => absurd (by decide) h)
          refine ev_iconst (v := 0) dX10_hasCalled_115 kc_0 ?_
          refine ev_iaddN (a := nx) (b := 0) dX10_hasCalled_116 ?_
          refine ev_istore dX10_hasCalled_117 (Nat.le_of_ble_eq_true rfl) rfl ?_
          refine ev_iload dX10_hasCalled_119 rfl ?_
          refine ev_iload dX10_hasCalled_121 rfl ?_
          refine ev_iadd dX10_hasCalled_123 ?_
          refine ev_istore dX10_hasCalled_124 (Nat.le_of_ble_eq_true rfl) rfl ?_
          refine ev_iincN (a := w) dX10_hasCalled_126 rfl (Nat.le_of_ble_eq_true rfl) rfl ?_
          refine ev_goto (tgt := 25) dX10_hasCalled_129 (by decide) ?_
          first
            | (have hn : ¬ nv_calls c (nv_step se (p_kind C (nI w))) (F 1) = decide (it (i + nx) = nI w) := by
                 intro q
                 rw [q] at h85
                 first
                   | (rw [decide_eq_true h60] at h85; exact h85 rfl)
                   | (rw [decide_eq_false h60] at h85; exact h85 rfl)
               rw [ep, if_neg hn]
               exact l_has0)
            | (have hy : nv_calls c (nv_step se (p_kind C (nI w))) (F 1) = decide (it (i + nx) = nI w) := by
                 rw [decide_eq_true h60]
                 exact nw_bi_1.mp h85
               rw [ep, if_pos hy, if_pos h60]
               have hlt : nx < n1 := Nat.not_le.mp (fun q => h108 (nI_le q (by omega)))
               exact ih (w + 1) (nx + 1) _ _ _ (by omega) (by omega))
            | (have hy : nv_calls c (nv_step se (p_kind C (nI w))) (F 1) = decide (it (i + nx) = nI w) := by
                 rw [decide_eq_true h60]
                 exact nw_bi_1.mp h85
               rw [ep, if_pos hy, if_pos h60]
               have hge : n1 ≤ nx := (nI_leI (by omega) (by omega)).mp h108
               have e1 : nx = n1 := by omega
               have e2 : w = L0 := by
                 rw [e1, hL] at h60
                 exact ((nI_eq (by omega) (by omega)).mp h60).symm
               have e3 : m = 0 := by omega
               subst e3
               exact ih (w + 1) nx _ _ _ (by omega) hnx)
            | (have hy : nv_calls c (nv_step se (p_kind C (nI w))) (F 1) = decide (it (i + nx) = nI w) := by
                 rw [decide_eq_false h60]
                 exact nw_bi_0.mp h85
               rw [ep, if_pos hy, if_neg h60]
               exact ih (w + 1) nx _ _ _ (by omega) hnx)
      · refine ev_iconst (v := 1) dX10_hasCalled_63 kc_1 ?_
        refine ev_goto (tgt := 68) dX10_hasCalled_64 (by decide) ?_
        refine ev_istore dX10_hasCalled_68 (Nat.le_of_ble_eq_true rfl) rfl ?_
        refine ev_iload dX10_hasCalled_70 rfl ?_
        refine ev_iload dX10_hasCalled_72 rfl ?_
        refine ev_aload_n (i := 0) dX10_hasCalled_74 rfl rfl ?_
        refine ev_getR fX10_28 dX10_hasCalled_75 rfl rfl (by decide) ?_
        refine ev_iconst (v := 1) dX10_hasCalled_78 kc_1 ?_
        refine ev_ialdN (j := 1) dX10_hasCalled_79 rfl (by omega) (by decide) ?_
        rw [hF1]
        refine s_dSz (As := [_, _, _]) (m_isCalled _ _ hl) (Nat.le_of_ble_eq_true rfl) lX10_189 kX10_isCalled sX10_isCalled dX10_hasCalled_80 rfl rfl (Nat.le_of_ble_eq_true rfl) ?_
        refine ev_iload dX10_hasCalled_83 rfl ?_
        refine ev_icmp_ne (tgt := 92) dX10_hasCalled_85 (by decide) (fun h85 => ?_) (fun h85 => ?_)
        · refine ev_iconst (v := 0) dX10_hasCalled_92 kc_0 ?_
          refine ev_istore dX10_hasCalled_93 (Nat.le_of_ble_eq_true rfl) rfl ?_
          refine ev_iload dX10_hasCalled_95 rfl ?_
          refine ev_iload dX10_hasCalled_97 rfl ?_
          refine ev_if_eq (tgt := 115) dX10_hasCalled_99 (by decide) (fun h => absurd h (by decide)) (fun _ => ?_)
          refine ev_iload dX10_hasCalled_102 rfl ?_
          refine ev_iload dX10_hasCalled_104 rfl ?_
          refine ev_iconst (v := 1) dX10_hasCalled_106 kc_1 ?_
          refine ev_isub dX10_hasCalled_107 ?_
          rw [nI_pred]
          refine ev_icmp_ge (tgt := 115) dX10_hasCalled_108 (by decide) (fun h108 => ?_) (fun h108 => ?_)
          · refine ev_iconst (v := 0) dX10_hasCalled_115 kc_0 ?_
            refine ev_iaddN (a := nx) (b := 0) dX10_hasCalled_116 ?_
            refine ev_istore dX10_hasCalled_117 (Nat.le_of_ble_eq_true rfl) rfl ?_
            refine ev_iload dX10_hasCalled_119 rfl ?_
            refine ev_iload dX10_hasCalled_121 rfl ?_
            refine ev_iadd dX10_hasCalled_123 ?_
            refine ev_istore dX10_hasCalled_124 (Nat.le_of_ble_eq_true rfl) rfl ?_
            refine ev_iincN (a := w) dX10_hasCalled_126 rfl (Nat.le_of_ble_eq_true rfl) rfl ?_
            refine ev_goto (tgt := 25) dX10_hasCalled_129 (by decide) ?_
            first
              | (have hn : ¬ nv_calls c (nv_step se (p_kind C (nI w))) (F 1) = decide (it (i + nx) = nI w) := by
                   intro q
                   rw [q] at h85
                   first
                     | (rw [decide_eq_true h60] at h85; exact h85 rfl)
                     | (rw [decide_eq_false h60] at h85; exact h85 rfl)
                 rw [ep, if_neg hn]
                 exact l_has0)
              | (have hy : nv_calls c (nv_step se (p_kind C (nI w))) (F 1) = decide (it (i + nx) = nI w) := by
                   rw [decide_eq_true h60]
                   exact nw_bi_1.mp h85
                 rw [ep, if_pos hy, if_pos h60]
                 have hlt : nx < n1 := Nat.not_le.mp (fun q => h108 (nI_le q (by omega)))
                 exact ih (w + 1) (nx + 1) _ _ _ (by omega) (by omega))
              | (have hy : nv_calls c (nv_step se (p_kind C (nI w))) (F 1) = decide (it (i + nx) = nI w) := by
                   rw [decide_eq_true h60]
                   exact nw_bi_1.mp h85
                 rw [ep, if_pos hy, if_pos h60]
                 have hge : n1 ≤ nx := (nI_leI (by omega) (by omega)).mp h108
                 have e1 : nx = n1 := by omega
                 have e2 : w = L0 := by
                   rw [e1, hL] at h60
                   exact ((nI_eq (by omega) (by omega)).mp h60).symm
                 have e3 : m = 0 := by omega
                 subst e3
                 exact ih (w + 1) nx _ _ _ (by omega) hnx)
              | (have hy : nv_calls c (nv_step se (p_kind C (nI w))) (F 1) = decide (it (i + nx) = nI w) := by
                   rw [decide_eq_false h60]
                   exact nw_bi_0.mp h85
                 rw [ep, if_pos hy, if_neg h60]
                 exact ih (w + 1) nx _ _ _ (by omega) hnx)
          · refine ev_iconst (v := 1) dX10_hasCalled_111 kc_1 ?_
            refine ev_goto (tgt := 116) dX10_hasCalled_112 (by decide) ?_
            refine ev_iaddN (a := nx) (b := 1) dX10_hasCalled_116 ?_
            refine ev_istore dX10_hasCalled_117 (Nat.le_of_ble_eq_true rfl) rfl ?_
            refine ev_iload dX10_hasCalled_119 rfl ?_
            refine ev_iload dX10_hasCalled_121 rfl ?_
            refine ev_iadd dX10_hasCalled_123 ?_
            refine ev_istore dX10_hasCalled_124 (Nat.le_of_ble_eq_true rfl) rfl ?_
            refine ev_iincN (a := w) dX10_hasCalled_126 rfl (Nat.le_of_ble_eq_true rfl) rfl ?_
            refine ev_goto (tgt := 25) dX10_hasCalled_129 (by decide) ?_
            first
              | (have hn : ¬ nv_calls c (nv_step se (p_kind C (nI w))) (F 1) = decide (it (i + nx) = nI w) := by
                   intro q
                   rw [q] at h85
                   first
                     | (rw [decide_eq_true h60] at h85; exact h85 rfl)
                     | (rw [decide_eq_false h60] at h85; exact h85 rfl)
                 rw [ep, if_neg hn]
                 exact l_has0)
              | (have hy : nv_calls c (nv_step se (p_kind C (nI w))) (F 1) = decide (it (i + nx) = nI w) := by
                   rw [decide_eq_true h60]
                   exact nw_bi_1.mp h85
                 rw [ep, if_pos hy, if_pos h60]
                 have hlt : nx < n1 := Nat.not_le.mp (fun q => h108 (nI_le q (by omega)))
                 exact ih (w + 1) (nx + 1) _ _ _ (by omega) (by omega))
              | (have hy : nv_calls c (nv_step se (p_kind C (nI w))) (F 1) = decide (it (i + nx) = nI w) := by
                   rw [decide_eq_true h60]
                   exact nw_bi_1.mp h85
                 rw [ep, if_pos hy, if_pos h60]
                 have hge : n1 ≤ nx := (nI_leI (by omega) (by omega)).mp h108
                 have e1 : nx = n1 := by omega
                 have e2 : w = L0 := by
                   rw [e1, hL] at h60
                   exact ((nI_eq (by omega) (by omega)).mp h60).symm
                 have e3 : m = 0 := by omega
                 subst e3
                 exact ih (w + 1) nx _ _ _ (by omega) hnx)
              | (have hy : nv_calls c (nv_step se (p_kind C (nI w))) (F 1) = decide (it (i + nx) = nI w) := by
                   rw [decide_eq_false h60]
                   exact nw_bi_0.mp h85
                 rw [ep, if_pos hy, if_neg h60]
                 exact ih (w + 1) nx _ _ _ (by omega) hnx)
        · refine ev_iconst (v := 1) dX10_hasCalled_88 kc_1 ?_
          refine ev_goto (tgt := 93) dX10_hasCalled_89 (by decide) ?_
          refine ev_istore dX10_hasCalled_93 (Nat.le_of_ble_eq_true rfl) rfl ?_
          refine ev_iload dX10_hasCalled_95 rfl ?_
          refine ev_iload dX10_hasCalled_97 rfl ?_
          refine ev_if_eq (tgt := 115) dX10_hasCalled_99 (by decide) (fun h => absurd h (by decide)) (fun _ => ?_)
          refine ev_iload dX10_hasCalled_102 rfl ?_
          refine ev_iload dX10_hasCalled_104 rfl ?_
          refine ev_iconst (v := 1) dX10_hasCalled_106 kc_1 ?_
          refine ev_isub dX10_hasCalled_107 ?_
          rw [nI_pred]
          refine ev_icmp_ge (tgt := 115) dX10_hasCalled_108 (by decide) (fun h108 => ?_) (fun h108 => ?_)
          · refine ev_iconst (v := 0) dX10_hasCalled_115 kc_0 ?_
            refine ev_iaddN (a := nx) (b := 0) dX10_hasCalled_116 ?_
            refine ev_istore dX10_hasCalled_117 (Nat.le_of_ble_eq_true rfl) rfl ?_
            refine ev_iload dX10_hasCalled_119 rfl ?_
            refine ev_iload dX10_hasCalled_121 rfl ?_
            refine ev_iadd dX10_hasCalled_123 ?_
            refine ev_istore dX10_hasCalled_124 (Nat.le_of_ble_eq_true rfl) rfl ?_
            refine ev_iincN (a := w) dX10_hasCalled_126 rfl (Nat.le_of_ble_eq_true rfl) rfl ?_
            refine ev_goto (tgt := 25) dX10_hasCalled_129 (by decide) ?_
            first
              | (have hn : ¬ nv_calls c (nv_step se (p_kind C (nI w))) (F 1) = decide (it (i + nx) = nI w) := by
                   intro q
                   rw [q] at h85
                   first
                     | (rw [decide_eq_true h60] at h85; exact h85 rfl)
                     | (rw [decide_eq_false h60] at h85; exact h85 rfl)
                 rw [ep, if_neg hn]
                 exact l_has0)
              | (have hy : nv_calls c (nv_step se (p_kind C (nI w))) (F 1) = decide (it (i + nx) = nI w) := by
                   rw [decide_eq_true h60]
                   exact nw_bi_1.mp h85
                 rw [ep, if_pos hy, if_pos h60]
                 have hlt : nx < n1 := Nat.not_le.mp (fun q => h108 (nI_le q (by omega)))
                 exact ih (w + 1) (nx + 1) _ _ _ (by omega) (by omega))
              | (have hy : nv_calls c (nv_step se (p_kind C (nI w))) (F 1) = decide (it (i + nx) = nI w) := by
                   rw [decide_eq_true h60]
                   exact nw_bi_1.mp h85
                 rw [ep, if_pos hy, if_pos h60]
                 have hge : n1 ≤ nx := (nI_leI (by omega) (by omega)).mp h108
                 have e1 : nx = n1 := by omega
                 have e2 : w = L0 := by
                   rw [e1, hL] at h60
                   exact ((nI_eq (by omega) (by omega)).mp h60).symm
                 have e3 : m = 0 := by omega
                 subst e3
                 exact ih (w + 1) nx _ _ _ (by omega) hnx)
              | (have hy : nv_calls c (nv_step se (p_kind C (nI w))) (F 1) = decide (it (i + nx) = nI w) := by
                   rw [decide_eq_false h60]
                   exact nw_bi_0.mp h85
                 rw [ep, if_pos hy, if_neg h60]
                 exact ih (w + 1) nx _ _ _ (by omega) hnx)
          · refine ev_iconst (v := 1) dX10_hasCalled_111 kc_1 ?_
            refine ev_goto (tgt := 116) dX10_hasCalled_112 (by decide) ?_
            refine ev_iaddN (a := nx) (b := 1) dX10_hasCalled_116 ?_
            refine ev_istore dX10_hasCalled_117 (Nat.le_of_ble_eq_true rfl) rfl ?_
            refine ev_iload dX10_hasCalled_119 rfl ?_
            refine ev_iload dX10_hasCalled_121 rfl ?_
            refine ev_iadd dX10_hasCalled_123 ?_
            refine ev_istore dX10_hasCalled_124 (Nat.le_of_ble_eq_true rfl) rfl ?_
            refine ev_iincN (a := w) dX10_hasCalled_126 rfl (Nat.le_of_ble_eq_true rfl) rfl ?_
            refine ev_goto (tgt := 25) dX10_hasCalled_129 (by decide) ?_
            first
              | (have hn : ¬ nv_calls c (nv_step se (p_kind C (nI w))) (F 1) = decide (it (i + nx) = nI w) := by
                   intro q
                   rw [q] at h85
                   first
                     | (rw [decide_eq_true h60] at h85; exact h85 rfl)
                     | (rw [decide_eq_false h60] at h85; exact h85 rfl)
                 rw [ep, if_neg hn]
                 exact l_has0)
              | (have hy : nv_calls c (nv_step se (p_kind C (nI w))) (F 1) = decide (it (i + nx) = nI w) := by
                   rw [decide_eq_true h60]
                   exact nw_bi_1.mp h85
                 rw [ep, if_pos hy, if_pos h60]
                 have hlt : nx < n1 := Nat.not_le.mp (fun q => h108 (nI_le q (by omega)))
                 exact ih (w + 1) (nx + 1) _ _ _ (by omega) (by omega))
              | (have hy : nv_calls c (nv_step se (p_kind C (nI w))) (F 1) = decide (it (i + nx) = nI w) := by
                   rw [decide_eq_true h60]
                   exact nw_bi_1.mp h85
                 rw [ep, if_pos hy, if_pos h60]
                 have hge : n1 ≤ nx := (nI_leI (by omega) (by omega)).mp h108
                 have e1 : nx = n1 := by omega
                 have e2 : w = L0 := by
                   rw [e1, hL] at h60
                   exact ((nI_eq (by omega) (by omega)).mp h60).symm
                 have e3 : m = 0 := by omega
                 subst e3
                 exact ih (w + 1) nx _ _ _ (by omega) hnx)
              | (have hy : nv_calls c (nv_step se (p_kind C (nI w))) (F 1) = decide (it (i + nx) = nI w) := by
                   rw [decide_eq_false h60]
                   exact nw_bi_0.mp h85
                 rw [ep, if_pos hy, if_neg h60]
                 exact ih (w + 1) nx _ _ _ (by omega) hnx)
theorem m_hasCalled (hC : nl_C N T S C (I 225)) (h0 : 0 < N) (hF1 : I 226 1 = F 1) (hl : ¬ F 1 ≤ 0) (hit : ∀ j, j < n1 + 1 → I 222 (fr + j) = it (i + j)) (hfr : fr + (n1 + 1) ≤ 320) (hL : it (i + n1) = nI L0) (hL2 : L0 ≤ 399) (c : Int32) : nw_dZ l g 1 mX10_hasCalled [.ref (nw_a g 219), .int c, .int se, .int (nI fr), .int (nI (n1 + 1))] I (p_fits C (F 1) se it (L0 + 1) 0 i c) I := by
  refine ⟨(Nat.le_of_ble_eq_true rfl), ?_⟩
  refine ev_iload_n (i := 1) dX10_hasCalled_0 rfl rfl ?_
  refine ev_istore dX10_hasCalled_1 (Nat.le_of_ble_eq_true rfl) rfl ?_
  refine ev_iconst (v := 0) dX10_hasCalled_3 kc_0 ?_
  refine ev_istore dX10_hasCalled_4 (Nat.le_of_ble_eq_true rfl) rfl ?_
  refine ev_aload_n (i := 0) dX10_hasCalled_6 rfl rfl ?_
  refine ev_getR fX10_16 dX10_hasCalled_7 rfl rfl (by decide) ?_
  refine ev_iload_n (i := 3) dX10_hasCalled_10 rfl rfl ?_
  refine ev_iload dX10_hasCalled_11 rfl ?_
  refine ev_iaddN (a := fr) (b := (n1 + 1)) dX10_hasCalled_13 ?_
  refine ev_iconst (v := 1) dX10_hasCalled_14 kc_1 ?_
  refine ev_isub dX10_hasCalled_15 ?_
  rw [show nI (fr + (n1 + 1)) - 1 = nI (fr + n1) from nI_pred _]
  refine ev_ialdN (j := (fr + n1)) dX10_hasCalled_16 rfl (by omega) (by decide) ?_
  rw [hit n1 (by omega), hL]
  refine ev_istore dX10_hasCalled_17 (Nat.le_of_ble_eq_true rfl) rfl ?_
  refine ev_iconst (v := 1) dX10_hasCalled_19 kc_1 ?_
  refine ev_istore dX10_hasCalled_20 (Nat.le_of_ble_eq_true rfl) rfl ?_
  refine ev_iconst (v := 0) dX10_hasCalled_22 kc_0 ?_
  refine ev_istore dX10_hasCalled_23 (Nat.le_of_ble_eq_true rfl) rfl ?_
  exact l_has hC h0 hF1 hl hit hfr hL hL2 (L0 + 1) 0 0 c _ _ (by omega) (by omega)
theorem i64_lt1 {v : Int32} : v.toInt64 < 0 ↔ v ≤ -1 := by
  rw [Int64.lt_iff_toInt_lt, Int32.toInt_toInt64, Int32.le_iff_toInt_le]
  have e1 : (0 : Int64).toInt = 0 := by decide
  have e2 : (-1 : Int32).toInt = -1 := by decide
  omega
theorem i64_le {v u : Int32} : v.toInt64 < u.toInt64 + 1 ↔ v ≤ u := by
  have h : (u.toInt64 + 1).toInt = u.toInt + 1 := by
    rw [Int64.toInt_add, Int32.toInt_toInt64]
    have e1 : (1 : Int64).toInt = 1 := by decide
    rw [e1, Int.bmod_eq_of_le]
    · have := u.minValue_le_toInt; have e : Int32.minValue.toInt = -2147483648 := by decide
      omega
    · have := u.toInt_le; have e : Int32.maxValue.toInt = 2147483647 := by decide
      omega
  rw [Int64.lt_iff_toInt_lt, h, Int32.toInt_toInt64, Int32.le_iff_toInt_le]
  omega
theorem i64_399 {v : Int32} : (399 : Int64) < v.toInt64 ↔ ¬ v ≤ 399 := by
  rw [Int32.not_le, ← lg_32]
  rfl
theorem l_mrise {r n : Nat} {z2 w : Int32} {z7 z8 z9 : Option Value} {f : Nat → Int32} {Pp : Int32 → nw_Me → Prop} (hn : n ≤ 40) (hf : ∀ j, j < n → I 222 (fr + j) = f (i + j)) (hfr : fr + n ≤ 320) (kf : p_rise f 399 n i (-1) = false → Pp (-1000001) I) (kt : p_rise f 399 n i (-1) = true → nw_S l g 2 mX10_log 154 [some (.ref (nw_a g 219)), some (.int (nI r)), some (.int z2), some (.int (nI n)), some (.int w), some (.int (nI fr)), some (.int (nI n)), z7, z8, z9] [] I (nw_qI Pp)) : ∀ (m k : Nat), k + m = n → p_rise f 399 n i (-1) = p_rise f 399 m (i + k) (if k = 0 then -1 else f (i + (k - 1))) → nw_S l g 2 mX10_log 95 [some (.ref (nw_a g 219)), some (.int (nI r)), some (.int z2), some (.int (nI n)), some (.int w), some (.int (nI fr)), some (.int (nI k)), z7, z8, z9] [] I (nw_qI Pp) := by
  intro m
  induction m with
  | zero =>
    intro k hk he
    obtain rfl : k = n := by omega
    refine ev_iload dX10_log_95 rfl ?_
    refine ev_iload_n (i := 3) dX10_log_97 rfl rfl ?_
    refine ev_icmp_ge (tgt := 154) dX10_log_98 (by decide) (fun h98 => ?_) (fun h98 => ?_)
    · exact kt (he.trans rfl)
    · exact absurd (nI_le (by omega) (by omega)) h98
  | succ m ih =>
    intro k hk he
    have ef := hf k (by omega)
    have ep : p_rise f 399 (m + 1) (i + k) (if k = 0 then -1 else f (i + (k - 1))) = if f (i + k) ≤ (if k = 0 then -1 else f (i + (k - 1))) then false else if f (i + k) ≤ 399 then p_rise f 399 m (i + (k + 1)) (f (i + k)) else false := rfl
    by_cases hk0 : k = 0
    · subst hk0
      refine ev_iload dX10_log_95 rfl ?_
      refine ev_iload_n (i := 3) dX10_log_97 rfl rfl ?_
      refine ev_icmp_ge (tgt := 154) dX10_log_98 (by decide) (fun h98 => ?_) (fun h98 => ?_)
      · exact absurd h98 (nI_ge (by omega) (by omega))
      · refine ev_aload_n (i := 0) dX10_log_101 rfl rfl ?_
        refine ev_getR fX10_16 dX10_log_102 rfl rfl (by decide) ?_
        refine ev_iload dX10_log_105 rfl ?_
        refine ev_iload dX10_log_107 rfl ?_
        refine ev_iaddN (a := fr) (b := 0) dX10_log_109 ?_
        refine ev_ialdN (j := (fr + 0)) dX10_log_110 rfl (by omega) (by decide) ?_
        rw [ef]
        refine ev_i2l dX10_log_111 ?_
        refine ev_iload dX10_log_112 rfl ?_
        refine ev_if_ne (tgt := 121) dX10_log_114 (by decide) (fun h114 => ?_) (fun h114 => ?_)
        · exact absurd nI_0 h114
        · refine ev_lconst (v := 0) dX10_log_117 rfl ?_
          refine ev_goto (tgt := 136) dX10_log_118 (by decide) ?_
          refine ev_ldc2 qX10_256 dX10_log_136 ?_
          refine s_dSz (As := [_, _, _]) (m_in64 _ _ _) (Nat.le_of_ble_eq_true rfl) lX10_64 kX10_in sX10_in dX10_log_139 rfl rfl (Nat.le_of_ble_eq_true rfl) ?_
          refine s_ifZ_ne (tgt := 148) dX10_log_142 (by decide) (fun h142 => ?_) (fun h142 => ?_)
          · refine ev_iincN (a := 0) dX10_log_148 rfl (Nat.le_of_ble_eq_true rfl) rfl ?_
            refine ev_goto (tgt := 95) dX10_log_151 (by decide) ?_
            refine ih (0 + 1) (by omega) ?_
            rw [he, ep, if_pos rfl]
            unfold nv_in64 at h142
            simp only [Bool.and_eq_true, decide_eq_true_eq] at h142
            rw [if_neg (fun q => h142.1 (i64_lt1.mpr q)), if_pos (Decidable.byContradiction (fun q => h142.2 (i64_399.mpr q)))]
            rfl
          · refine ev_ldc qX10_79 dX10_log_145 ?_
            exact s_retI dX10_log_147 (kf (by
          rw [he, ep, if_pos rfl]
          unfold nv_in64 at h142
          by_cases q : f (i + 0) ≤ -1
          · rw [if_pos q]
          · rw [if_neg q]
            by_cases q2 : f (i + 0) ≤ 399
            · exfalso
              rw [decide_eq_true (p := ¬ (f (i + 0)).toInt64 < 0) (fun w => q (i64_lt1.mp w)), decide_eq_true (p := ¬ (399 : Int64) < (f (i + 0)).toInt64) (fun w => i64_399.mp w q2)] at h142
              cases h142
            · rw [if_neg q2]))
    · have ef2 := hf (k - 1) (by omega)
      refine ev_iload dX10_log_95 rfl ?_
      refine ev_iload_n (i := 3) dX10_log_97 rfl rfl ?_
      refine ev_icmp_ge (tgt := 154) dX10_log_98 (by decide) (fun h98 => ?_) (fun h98 => ?_)
      · exact absurd h98 (nI_ge (by omega) (by omega))
      · refine ev_aload_n (i := 0) dX10_log_101 rfl rfl ?_
        refine ev_getR fX10_16 dX10_log_102 rfl rfl (by decide) ?_
        refine ev_iload dX10_log_105 rfl ?_
        refine ev_iload dX10_log_107 rfl ?_
        refine ev_iaddN (a := fr) (b := k) dX10_log_109 ?_
        refine ev_ialdN (j := (fr + k)) dX10_log_110 rfl (by omega) (by decide) ?_
        rw [ef]
        refine ev_i2l dX10_log_111 ?_
        refine ev_iload dX10_log_112 rfl ?_
        refine ev_if_ne (tgt := 121) dX10_log_114 (by decide) (fun h114 => ?_) (fun h114 => ?_)
        · refine ev_aload_n (i := 0) dX10_log_121 rfl rfl ?_
          refine ev_getR fX10_16 dX10_log_122 rfl rfl (by decide) ?_
          refine ev_iload dX10_log_125 rfl ?_
          refine ev_iload dX10_log_127 rfl ?_
          refine ev_iaddN (a := fr) (b := k) dX10_log_129 ?_
          refine ev_iconst (v := 1) dX10_log_130 kc_1 ?_
          refine ev_isub dX10_log_131 ?_
          rw [show nI (fr + k) - 1 = nI (fr + (k - 1)) by rw [show fr + k = fr + (k - 1) + 1 by omega]; exact nI_pred _]
          refine ev_ialdN (j := (fr + (k - 1))) dX10_log_132 rfl (by omega) (by decide) ?_
          rw [ef2]
          refine ev_i2l dX10_log_133 ?_
          refine ev_lconst (v := 1) dX10_log_134 rfl ?_
          refine ev_ladd dX10_log_135 ?_
          refine ev_ldc2 qX10_256 dX10_log_136 ?_
          refine s_dSz (As := [_, _, _]) (m_in64 _ _ _) (Nat.le_of_ble_eq_true rfl) lX10_64 kX10_in sX10_in dX10_log_139 rfl rfl (Nat.le_of_ble_eq_true rfl) ?_
          refine s_ifZ_ne (tgt := 148) dX10_log_142 (by decide) (fun h142 => ?_) (fun h142 => ?_)
          · refine ev_iincN (a := k) dX10_log_148 rfl (Nat.le_of_ble_eq_true rfl) rfl ?_
            refine ev_goto (tgt := 95) dX10_log_151 (by decide) ?_
            refine ih (k + 1) (by omega) ?_
            rw [he, ep, if_neg hk0]
            unfold nv_in64 at h142
            simp only [Bool.and_eq_true, decide_eq_true_eq] at h142
            rw [if_neg (fun q => h142.1 (i64_le.mpr q)), if_pos (Decidable.byContradiction (fun q => h142.2 (i64_399.mpr q)))]
            rfl
          · refine ev_ldc qX10_79 dX10_log_145 ?_
            exact s_retI dX10_log_147 (kf (by
          rw [he, ep, if_neg hk0]
          unfold nv_in64 at h142
          by_cases q : f (i + k) ≤ f (i + (k - 1))
          · rw [if_pos q]
          · rw [if_neg q]
            by_cases q2 : f (i + k) ≤ 399
            · exfalso
              rw [decide_eq_true (p := ¬ (f (i + k)).toInt64 < (f (i + (k - 1))).toInt64 + 1) (fun w => q (i64_le.mp w)), decide_eq_true (p := ¬ (399 : Int64) < (f (i + k)).toInt64) (fun w => i64_399.mp w q2)] at h142
              cases h142
            · rw [if_neg q2]))
        · exact absurd h114 (nI_ne0 (by omega) (by omega))
theorem p_logs_t2 {fit : Nat → Bool} {n p : Nat} {r : Int32 × Int32} (h : fit p = true) : p_logs fit (n + 1) p r = p_logs fit n (p + 1) (r.1 + 1, if r.1 = 0 then nI p else r.2) := p_logs_t h
theorem l_mlogs {r : Nat} {z2 w : Int32} (hC : nl_C N T S C (I 225)) (h0 : 0 < N) (hF1 : I 226 1 = F 1) (hl : ¬ F 1 ≤ 0) (hit : ∀ j, j < n1 + 1 → I 222 (fr + j) = it (i + j)) (hfr : fr + (n1 + 1) ≤ 320) (hL : it (i + n1) = nI L0) (hL2 : L0 ≤ 399) : ∀ (m p c : Nat) (s : Int32 × Int32) (z9 : Option Value), p + m = 72 → c ≤ p → nm_pr s c → nw_S l g 2 mX10_log 164 [some (.ref (nw_a g 219)), some (.int (nI r)), some (.int z2), some (.int (nI (n1 + 1))), some (.int w), some (.int (nI fr)), some (.int s.1), some (.int s.2), some (.int (nI p)), z9] [] I (nw_qI (fun a J => a = (if w = 0 then (p_logs (fun p => p_fits C (F 1) (nI (p % 8)) it (L0 + 1) 0 i (nI (p / 8))) m p s).1 else (p_logs (fun p => p_fits C (F 1) (nI (p % 8)) it (L0 + 1) 0 i (nI (p / 8))) m p s).2) ∧ J = nw_up I 219 3 0)) := by
  have e72 : (72 : Int32) = nI 72 := by decide
  intro m
  induction m with
  | zero =>
    intro p c s z9 hp hc hs
    obtain rfl : p = 72 := by omega
    refine ev_iload dX10_log_164 rfl ?_
    refine ev_bipush (v := 72) dX10_log_166 kb_72 ?_
    refine ev_icmp_ge (tgt := 232) dX10_log_168 (by decide) (fun h168 => ?_) (fun h168 => ?_)
    · refine ev_aload_n (i := 0) dX10_log_232 rfl rfl ?_
      refine ev_iload dX10_log_233 rfl ?_
      refine ev_if_ne (tgt := 243) dX10_log_235 (by decide) (fun h235 => ?_) (fun h235 => ?_)
      · refine ev_iload dX10_log_243 rfl ?_
        refine s_dVi (As := [_]) (m_well _) (Nat.le_of_ble_eq_true rfl) lX10_84 kX10_well vX10_well dX10_log_245 rfl rfl rfl (by decide) rfl (Nat.le_of_ble_eq_true rfl) ?_
        exact s_retI dX10_log_248 ⟨by first | (rw [if_pos h235]; rfl) | (rw [if_neg h235]; rfl), rfl⟩
      · refine ev_iload dX10_log_238 rfl ?_
        refine ev_goto (tgt := 245) dX10_log_240 (by decide) ?_
        refine s_dVi (As := [_]) (m_well _) (Nat.le_of_ble_eq_true rfl) lX10_84 kX10_well vX10_well dX10_log_245 rfl rfl rfl (by decide) rfl (Nat.le_of_ble_eq_true rfl) ?_
        exact s_retI dX10_log_248 ⟨by first | (rw [if_pos h235]; rfl) | (rw [if_neg h235]; rfl), rfl⟩
    · exact absurd (by decide) h168
  | succ m ih =>
    intro p c s z9 hp hc hs
    have ed : nI p / 8 = nI (p / 8) := pk_div (d := 8) (by omega) (by decide) (by decide)
    have er : nI p - nI p / 8 * 8 = nI (p % 8) := pk_rem (d := 8) (by omega) (by decide) (by decide)
    refine ev_iload dX10_log_164 rfl ?_
    refine ev_bipush (v := 72) dX10_log_166 kb_72 ?_
    refine ev_icmp_ge (tgt := 232) dX10_log_168 (by decide) (fun h168 => ?_) (fun h168 => ?_)
    · exact absurd h168 (by rw [e72]; exact nI_ge (by omega) (by omega))
    · refine ev_aload_n (i := 0) dX10_log_171 rfl rfl ?_
      refine ev_iload dX10_log_172 rfl ?_
      refine ev_bipush (v := 8) dX10_log_174 kb_8 ?_
      refine ev_idiv dX10_log_176 (by decide) ?_
      rw [ed]
      refine ev_iload dX10_log_177 rfl ?_
      refine ev_bipush (v := 8) dX10_log_179 kb_8 ?_
      refine ev_irem dX10_log_181 (by decide) ?_
      rw [er]
      refine ev_iload dX10_log_182 rfl ?_
      refine ev_iload_n (i := 3) dX10_log_184 rfl rfl ?_
      refine s_dVz (As := [_, _, _, _]) (m_hasCalled (se := nI (p % 8)) hC h0 hF1 hl hit hfr hL hL2 (nI (p / 8))) (Nat.le_of_ble_eq_true rfl) lX10_258 kX10_hasCalled vX10_hasCalled dX10_log_185 rfl rfl rfl (by decide) rfl (Nat.le_of_ble_eq_true rfl) ?_
      refine ev_istore dX10_log_188 (Nat.le_of_ble_eq_true rfl) rfl ?_
      refine ev_iload dX10_log_190 rfl ?_
      refine ev_iload dX10_log_192 rfl ?_
      refine s_ifZ_eq (tgt := 201) dX10_log_194 (by decide) (fun h194 => ?_) (fun h194 => ?_)
      · refine ev_iconst (v := 0) dX10_log_201 kc_0 ?_
        refine ev_iadd dX10_log_202 ?_
        refine ev_istore dX10_log_203 (Nat.le_of_ble_eq_true rfl) rfl ?_
        refine ev_iload dX10_log_205 rfl ?_
        refine s_ifZ_eq (tgt := 222) dX10_log_207 (by decide) (fun h207 => ?_) (fun h207 => ?_)
        · refine ev_iload dX10_log_222 rfl ?_
          refine ev_istore dX10_log_224 (Nat.le_of_ble_eq_true rfl) rfl ?_
          refine ev_iincN (a := p) dX10_log_226 rfl (Nat.le_of_ble_eq_true rfl) rfl ?_
          refine ev_goto (tgt := 164) dX10_log_229 (by decide) ?_
          first
            | (have hh : (fun p => p_fits C (F 1) (nI (p % 8)) it (L0 + 1) 0 i (nI (p / 8))) p = true := h194
               have er2 : (if s.1 = 0 then nI p else s.2) = nI p := if_pos ((hs.z (by omega)).mpr h214)
               have hp2 := hs.t (w := p) (by omega) (by omega)
               rw [er2] at hp2
               rw [p_logs_t hh, er2]
               exact ih (p + 1) (c + 1) (s.1 + 1, nI p) _ (by omega) (by omega) hp2)
            | (have hh : (fun p => p_fits C (F 1) (nI (p % 8)) it (L0 + 1) 0 i (nI (p / 8))) p = true := h194
               have er2 : (if s.1 = 0 then nI p else s.2) = s.2 := if_neg (fun q => h214 ((hs.z (by omega)).mp q))
               have hp2 := hs.t (w := p) (by omega) (by omega)
               rw [er2] at hp2
               rw [p_logs_t hh, er2]
               exact ih (p + 1) (c + 1) (s.1 + 1, s.2) _ (by omega) (by omega) hp2)
            | (have hh : (fun p => p_fits C (F 1) (nI (p % 8)) it (L0 + 1) 0 i (nI (p / 8))) p = false := h194
               rw [Int32.add_zero, p_logs_f hh]
               exact ih (p + 1) c s _ (by omega) (by omega) hs)
            | (rw [h194] at h207; cases h207)
        · refine ev_iload dX10_log_210 rfl ?_
          refine ev_ldc qX10_165 dX10_log_212 ?_
          refine ev_icmp_ne (tgt := 222) dX10_log_214 (by decide) (fun h214 => ?_) (fun h214 => ?_)
          · refine ev_iload dX10_log_222 rfl ?_
            refine ev_istore dX10_log_224 (Nat.le_of_ble_eq_true rfl) rfl ?_
            refine ev_iincN (a := p) dX10_log_226 rfl (Nat.le_of_ble_eq_true rfl) rfl ?_
            refine ev_goto (tgt := 164) dX10_log_229 (by decide) ?_
            first
              | (have hh : (fun p => p_fits C (F 1) (nI (p % 8)) it (L0 + 1) 0 i (nI (p / 8))) p = true := h194
                 have er2 : (if s.1 = 0 then nI p else s.2) = nI p := if_pos ((hs.z (by omega)).mpr h214)
                 have hp2 := hs.t (w := p) (by omega) (by omega)
                 rw [er2] at hp2
                 rw [p_logs_t hh, er2]
                 exact ih (p + 1) (c + 1) (s.1 + 1, nI p) _ (by omega) (by omega) hp2)
              | (have hh : (fun p => p_fits C (F 1) (nI (p % 8)) it (L0 + 1) 0 i (nI (p / 8))) p = true := h194
                 have er2 : (if s.1 = 0 then nI p else s.2) = s.2 := if_neg (fun q => h214 ((hs.z (by omega)).mp q))
                 have hp2 := hs.t (w := p) (by omega) (by omega)
                 rw [er2] at hp2
                 rw [p_logs_t hh, er2]
                 exact ih (p + 1) (c + 1) (s.1 + 1, s.2) _ (by omega) (by omega) hp2)
              | (have hh : (fun p => p_fits C (F 1) (nI (p % 8)) it (L0 + 1) 0 i (nI (p / 8))) p = false := h194
                 rw [Int32.add_zero, p_logs_f hh]
                 exact ih (p + 1) c s _ (by omega) (by omega) hs)
              | (rw [h194] at h207; cases h207)
          · refine ev_iload dX10_log_217 rfl ?_
            refine ev_goto (tgt := 224) dX10_log_219 (by decide) ?_
            refine ev_istore dX10_log_224 (Nat.le_of_ble_eq_true rfl) rfl ?_
            refine ev_iincN (a := p) dX10_log_226 rfl (Nat.le_of_ble_eq_true rfl) rfl ?_
            refine ev_goto (tgt := 164) dX10_log_229 (by decide) ?_
            first
              | (have hh : (fun p => p_fits C (F 1) (nI (p % 8)) it (L0 + 1) 0 i (nI (p / 8))) p = true := h194
                 have er2 : (if s.1 = 0 then nI p else s.2) = nI p := if_pos ((hs.z (by omega)).mpr h214)
                 have hp2 := hs.t (w := p) (by omega) (by omega)
                 rw [er2] at hp2
                 rw [p_logs_t hh, er2]
                 exact ih (p + 1) (c + 1) (s.1 + 1, nI p) _ (by omega) (by omega) hp2)
              | (have hh : (fun p => p_fits C (F 1) (nI (p % 8)) it (L0 + 1) 0 i (nI (p / 8))) p = true := h194
                 have er2 : (if s.1 = 0 then nI p else s.2) = s.2 := if_neg (fun q => h214 ((hs.z (by omega)).mp q))
                 have hp2 := hs.t (w := p) (by omega) (by omega)
                 rw [er2] at hp2
                 rw [p_logs_t hh, er2]
                 exact ih (p + 1) (c + 1) (s.1 + 1, s.2) _ (by omega) (by omega) hp2)
              | (have hh : (fun p => p_fits C (F 1) (nI (p % 8)) it (L0 + 1) 0 i (nI (p / 8))) p = false := h194
                 rw [Int32.add_zero, p_logs_f hh]
                 exact ih (p + 1) c s _ (by omega) (by omega) hs)
              | (rw [h194] at h207; cases h207)
      · refine ev_iconst (v := 1) dX10_log_197 kc_1 ?_
        refine ev_goto (tgt := 202) dX10_log_198 (by decide) ?_
        refine ev_iadd dX10_log_202 ?_
        refine ev_istore dX10_log_203 (Nat.le_of_ble_eq_true rfl) rfl ?_
        refine ev_iload dX10_log_205 rfl ?_
        refine s_ifZ_eq (tgt := 222) dX10_log_207 (by decide) (fun h207 => ?_) (fun h207 => ?_)
        · refine ev_iload dX10_log_222 rfl ?_
          refine ev_istore dX10_log_224 (Nat.le_of_ble_eq_true rfl) rfl ?_
          refine ev_iincN (a := p) dX10_log_226 rfl (Nat.le_of_ble_eq_true rfl) rfl ?_
          refine ev_goto (tgt := 164) dX10_log_229 (by decide) ?_
          first
            | (have hh : (fun p => p_fits C (F 1) (nI (p % 8)) it (L0 + 1) 0 i (nI (p / 8))) p = true := h194
               have er2 : (if s.1 = 0 then nI p else s.2) = nI p := if_pos ((hs.z (by omega)).mpr h214)
               have hp2 := hs.t (w := p) (by omega) (by omega)
               rw [er2] at hp2
               rw [p_logs_t hh, er2]
               exact ih (p + 1) (c + 1) (s.1 + 1, nI p) _ (by omega) (by omega) hp2)
            | (have hh : (fun p => p_fits C (F 1) (nI (p % 8)) it (L0 + 1) 0 i (nI (p / 8))) p = true := h194
               have er2 : (if s.1 = 0 then nI p else s.2) = s.2 := if_neg (fun q => h214 ((hs.z (by omega)).mp q))
               have hp2 := hs.t (w := p) (by omega) (by omega)
               rw [er2] at hp2
               rw [p_logs_t hh, er2]
               exact ih (p + 1) (c + 1) (s.1 + 1, s.2) _ (by omega) (by omega) hp2)
            | (have hh : (fun p => p_fits C (F 1) (nI (p % 8)) it (L0 + 1) 0 i (nI (p / 8))) p = false := h194
               rw [Int32.add_zero, p_logs_f hh]
               exact ih (p + 1) c s _ (by omega) (by omega) hs)
            | (rw [h194] at h207; cases h207)
        · refine ev_iload dX10_log_210 rfl ?_
          refine ev_ldc qX10_165 dX10_log_212 ?_
          refine ev_icmp_ne (tgt := 222) dX10_log_214 (by decide) (fun h214 => ?_) (fun h214 => ?_)
          · refine ev_iload dX10_log_222 rfl ?_
            refine ev_istore dX10_log_224 (Nat.le_of_ble_eq_true rfl) rfl ?_
            refine ev_iincN (a := p) dX10_log_226 rfl (Nat.le_of_ble_eq_true rfl) rfl ?_
            refine ev_goto (tgt := 164) dX10_log_229 (by decide) ?_
            first
              | (have hh : (fun p => p_fits C (F 1) (nI (p % 8)) it (L0 + 1) 0 i (nI (p / 8))) p = true := h194
                 have er2 : (if s.1 = 0 then nI p else s.2) = nI p := if_pos ((hs.z (by omega)).mpr h214)
                 have hp2 := hs.t (w := p) (by omega) (by omega)
                 rw [er2] at hp2
                 rw [p_logs_t hh, er2]
                 exact ih (p + 1) (c + 1) (s.1 + 1, nI p) _ (by omega) (by omega) hp2)
              | (have hh : (fun p => p_fits C (F 1) (nI (p % 8)) it (L0 + 1) 0 i (nI (p / 8))) p = true := h194
                 have er2 : (if s.1 = 0 then nI p else s.2) = s.2 := if_neg (fun q => h214 ((hs.z (by omega)).mp q))
                 have hp2 := hs.t (w := p) (by omega) (by omega)
                 rw [er2] at hp2
                 rw [p_logs_t hh, er2]
                 exact ih (p + 1) (c + 1) (s.1 + 1, s.2) _ (by omega) (by omega) hp2)
              | (have hh : (fun p => p_fits C (F 1) (nI (p % 8)) it (L0 + 1) 0 i (nI (p / 8))) p = false := h194
                 rw [Int32.add_zero, p_logs_f hh]
                 exact ih (p + 1) c s _ (by omega) (by omega) hs)
              | (rw [h194] at h207; cases h207)
          · refine ev_iload dX10_log_217 rfl ?_
            refine ev_goto (tgt := 224) dX10_log_219 (by decide) ?_
            refine ev_istore dX10_log_224 (Nat.le_of_ble_eq_true rfl) rfl ?_
            refine ev_iincN (a := p) dX10_log_226 rfl (Nat.le_of_ble_eq_true rfl) rfl ?_
            refine ev_goto (tgt := 164) dX10_log_229 (by decide) ?_
            first
              | (have hh : (fun p => p_fits C (F 1) (nI (p % 8)) it (L0 + 1) 0 i (nI (p / 8))) p = true := h194
                 have er2 : (if s.1 = 0 then nI p else s.2) = nI p := if_pos ((hs.z (by omega)).mpr h214)
                 have hp2 := hs.t (w := p) (by omega) (by omega)
                 rw [er2] at hp2
                 rw [p_logs_t hh, er2]
                 exact ih (p + 1) (c + 1) (s.1 + 1, nI p) _ (by omega) (by omega) hp2)
              | (have hh : (fun p => p_fits C (F 1) (nI (p % 8)) it (L0 + 1) 0 i (nI (p / 8))) p = true := h194
                 have er2 : (if s.1 = 0 then nI p else s.2) = s.2 := if_neg (fun q => h214 ((hs.z (by omega)).mp q))
                 have hp2 := hs.t (w := p) (by omega) (by omega)
                 rw [er2] at hp2
                 rw [p_logs_t hh, er2]
                 exact ih (p + 1) (c + 1) (s.1 + 1, s.2) _ (by omega) (by omega) hp2)
              | (have hh : (fun p => p_fits C (F 1) (nI (p % 8)) it (L0 + 1) 0 i (nI (p / 8))) p = false := h194
                 rw [Int32.add_zero, p_logs_f hh]
                 exact ih (p + 1) c s _ (by omega) (by omega) hs)
              | (rw [h194] at h207; cases h207)
theorem m_log (hW : nm_W I b N T S C F) (f it : Nat → Nat → Int32) (hz : ∀ q, q < 8 → ¬ I 220 q < 0 → ∃ m, m ≤ 40 ∧ I 221 q = nI m ∧ ∀ k, k < m → I 222 (40 * q + k) = f q k ∧ it q k = f q k) (x i n w : Int32) : nw_cI l g 2 mX10_log [.ref (nw_a g 219), .int x, .int i, .int n, .int w] I (fun a J => (b = false ∧ a = -1000002 ∧ J = I) ∨ (b = true ∧ (nv_in x 0 7 && (nv_in n 1 20 && nv_in w 0 1)) = false ∧ a = -1000001 ∧ J = I) ∨ (b = true ∧ nv_in n 1 20 = true ∧ nv_in w 0 1 = true ∧ ∃ r, r < 8 ∧ x = nI r ∧ ((I 220 r < 0 ∧ a = -1000010 - 1 ∧ J = nw_up I 219 3 1) ∨ (¬ I 220 r < 0 ∧ nv_has (I 221 r) i n = false ∧ a = -1000010 - 2 ∧ J = nw_up I 219 3 2) ∨ (¬ I 220 r < 0 ∧ nv_has (I 221 r) i n = true ∧ ∃ i0 n0, i = nI i0 ∧ n = nI n0 ∧ 1 ≤ n0 ∧ n0 ≤ 20 ∧ i0 + n0 ≤ 40 ∧ ((p_rise (f r) 399 n0 i0 (-1) = false ∧ a = -1000001 ∧ J = I) ∨ (p_rise (f r) 399 n0 i0 (-1) = true ∧ ∃ L, L ≤ 399 ∧ f r (i0 + n0 - 1) = nI L ∧ a = (if w = 0 then (p_logs (fun p => p_fits C (F 1) (nI (p % 8)) (it r) (L + 1) 0 i0 (nI (p / 8))) 72 0 (0, -1000000)).1 else (p_logs (fun p => p_fits C (F 1) (nI (p % 8)) (it r) (L + 1) 0 i0 (nI (p / 8))) 72 0 (0, -1000000)).2) ∧ J = nw_up I 219 3 0)))))) := by
  refine ⟨(Nat.le_of_ble_eq_true rfl), ?_⟩
  obtain ⟨hb, hC, hF, hor⟩ := id hW
  have hbd := hW.bd
  have hN := hC.n
  have hT := hC.t
  have hS := hC.s
  have hN2 := hC.hN
  have hT3 := hC.hT
  have hS6 := hC.hS
  refine ev_aload_n (i := 0) dX10_log_0 rfl rfl ?_
  refine s_dVz (As := []) (m_isSea) (Nat.le_of_ble_eq_true rfl) lX10_196 kX10_isSea vX10_isSea dX10_log_1 rfl rfl rfl (by decide) rfl (Nat.le_of_ble_eq_true rfl) ?_
  rw [hbd]
  refine s_ifZ_ne (tgt := 10) dX10_log_4 (by decide) (fun h4 => ?_) (fun h4 => ?_)
  · refine ev_iload_n (i := 1) dX10_log_10 rfl rfl ?_
    refine s_dSz (As := [_]) (m_isRow _) (Nat.le_of_ble_eq_true rfl) lX10_73 kX10_isRow sX10_isRow dX10_log_11 rfl rfl (Nat.le_of_ble_eq_true rfl) ?_
    refine s_ifZ_eq (tgt := 40) dX10_log_14 (by decide) (fun h14 => ?_) (fun h14 => ?_)
    · refine ev_ldc qX10_79 dX10_log_40 ?_
      exact s_retI dX10_log_42 (Or.inr (Or.inl ⟨h4, by first | (simp [h14]; done) | (simp [h26]; done) | (simp [h37]; done), rfl, rfl⟩))
    · refine ev_iload_n (i := 3) dX10_log_17 rfl rfl ?_
      refine ev_i2l dX10_log_18 ?_
      refine ev_lconst (v := 1) dX10_log_19 rfl ?_
      refine ev_ldc2 qX10_254 dX10_log_20 ?_
      refine s_dSz (As := [_, _, _]) (m_in _ 1 20 (by decide) (by decide)) (Nat.le_of_ble_eq_true rfl) lX10_64 kX10_in sX10_in dX10_log_23 rfl rfl (Nat.le_of_ble_eq_true rfl) ?_
      refine s_ifZ_eq (tgt := 40) dX10_log_26 (by decide) (fun h26 => ?_) (fun h26 => ?_)
      · refine ev_ldc qX10_79 dX10_log_40 ?_
        exact s_retI dX10_log_42 (Or.inr (Or.inl ⟨h4, by first | (simp [h14]; done) | (simp [h26]; done) | (simp [h37]; done), rfl, rfl⟩))
      · refine ev_iload dX10_log_29 rfl ?_
        refine ev_i2l dX10_log_31 ?_
        refine ev_lconst (v := 0) dX10_log_32 rfl ?_
        refine ev_lconst (v := 1) dX10_log_33 rfl ?_
        refine s_dSz (As := [_, _, _]) (m_in _ 0 1 (by decide) (by decide)) (Nat.le_of_ble_eq_true rfl) lX10_64 kX10_in sX10_in dX10_log_34 rfl rfl (Nat.le_of_ble_eq_true rfl) ?_
        refine s_ifZ_ne (tgt := 43) dX10_log_37 (by decide) (fun h37 => ?_) (fun h37 => ?_)
        · obtain ⟨q, hq, rfl⟩ := nv_in_S (S := 8) (by decide) h14
          obtain ⟨n0, hn1, hn2, rfl⟩ := nv_in_n (a := 1) (c := 20) h26 (by decide) (by decide)
          refine ev_aload_n (i := 0) dX10_log_43 rfl rfl ?_
          refine ev_getR fX10_7 dX10_log_44 rfl rfl (by decide) ?_
          refine ev_iload_n (i := 1) dX10_log_47 rfl rfl ?_
          refine ev_ialdN (j := q) dX10_log_48 rfl (by omega) (by decide) ?_
          refine ev_if_ge (tgt := 58) dX10_log_49 (by decide) (fun h49 => ?_) (fun h49 => ?_)
          · obtain ⟨m, hm, em, hmf⟩ := hz q hq (Int32.not_lt.mpr h49)
            have k1 := nv_has_64 (m := m) (i := i) (n := nI n0) hm
            rw [← em] at k1
            refine ev_iload_n (i := 2) dX10_log_58 rfl rfl ?_
            refine ev_if_lt (tgt := 78) dX10_log_59 (by decide) (fun h59 => ?_) (fun h59 => ?_)
            · refine ev_aload_n (i := 0) dX10_log_78 rfl rfl ?_
              refine ev_iconst (v := 2) dX10_log_79 kc_2 ?_
              refine s_dVi (As := [_]) (m_finds _) (Nat.le_of_ble_eq_true rfl) lX10_80 kX10_finds vX10_finds dX10_log_80 rfl rfl rfl (by decide) rfl (Nat.le_of_ble_eq_true rfl) ?_
              exact s_retI dX10_log_83 (Or.inr (Or.inr ⟨h4, h26, h37, q, hq, rfl, Or.inr (Or.inl ⟨Int32.not_lt.mpr h49, by
              rw [k1]
              first
                | (simp [h59]; done)
                | (have q := Int64.not_le.mp ((not_congr (lg_cmp_le _ _)).mp h75); simp [q]; done), rfl, rfl⟩)⟩))
            · refine ev_iload_n (i := 2) dX10_log_62 rfl rfl ?_
              refine ev_i2l dX10_log_63 ?_
              refine ev_iload_n (i := 3) dX10_log_64 rfl rfl ?_
              refine ev_i2l dX10_log_65 ?_
              refine ev_ladd dX10_log_66 ?_
              refine ev_aload_n (i := 0) dX10_log_67 rfl rfl ?_
              refine ev_getR fX10_13 dX10_log_68 rfl rfl (by decide) ?_
              refine ev_iload_n (i := 1) dX10_log_71 rfl rfl ?_
              refine ev_ialdN (j := q) dX10_log_72 rfl (by omega) (by decide) ?_
              refine ev_i2l dX10_log_73 ?_
              refine ev_lcmp dX10_log_74 ?_
              refine ev_if_le (tgt := 84) dX10_log_75 (by decide) (fun h75 => ?_) (fun h75 => ?_)
              · have e1 : nv_has (I 221 q) i (nI n0) = true := by rw [k1, decide_eq_true h59, decide_eq_true (p := ¬ nI n0 < 0) (nI_pos (by omega)), decide_eq_true (p := ¬ (I 221 q).toInt64 < i.toInt64 + (nI n0).toInt64) (fun w => Int64.not_le.mpr w ((lg_cmp_le _ _).mp h75))]; rfl
                have E1 := e1
                rw [em] at e1
                obtain ⟨i0, n2, m3, rfl, q2, q3, q4, q5⟩ := nv_has_in (Or.inr ⟨m, hm, rfl⟩) e1
                obtain rfl : n0 = n2 := (nI_eq (by omega) (by omega)).mp q2
                have hmm : m = m3 := (nI_eq (by omega) (by omega)).mp q3
                refine ev_bipush (v := 40) dX10_log_84 kb_40 ?_
                refine ev_iload_n (i := 1) dX10_log_86 rfl rfl ?_
                refine ev_imulN (a := 40) (b := q) dX10_log_87 ?_
                refine ev_iload_n (i := 2) dX10_log_88 rfl rfl ?_
                refine ev_iaddN (a := (40 * q)) (b := i0) dX10_log_89 ?_
                refine ev_istore dX10_log_90 (Nat.le_of_ble_eq_true rfl) rfl ?_
                refine ev_iconst (v := 0) dX10_log_92 kc_0 ?_
                refine ev_istore dX10_log_93 (Nat.le_of_ble_eq_true rfl) rfl ?_
                refine l_mrise (fr := 40 * q + i0) (i := i0) (f := f q) (by omega) (fun j hj => by rw [Nat.add_assoc]; exact (hmf (i0 + j) (by omega)).1) (by omega) (fun hr => Or.inr (Or.inr ⟨h4, h26, h37, q, hq, rfl, Or.inr (Or.inr ⟨Int32.not_lt.mpr h49, E1, i0, n0, rfl, rfl, hn1, hn2, by omega, Or.inl ⟨hr, rfl, rfl⟩⟩)⟩)) (fun hr => ?_) n0 0 (by omega) rfl
                obtain ⟨n1, rfl⟩ : ∃ n1, n0 = n1 + 1 := ⟨n0 - 1, by omega⟩
                have hlast := p_rise_last n1 i0 (-1) (by decide) hr
                have e399 : (399 : Int32) = nI 399 := by decide
                obtain ⟨L1, hL1, eL1⟩ := nI_of (x := f q (i0 + n1)) hlast.1
                have hL2 : L1 ≤ 399 := by
                  have h := hlast.2
                  rw [eL1, e399] at h
                  exact (nI_leI hL1 (by decide)).mp h
                obtain ⟨-, h0, h0T, hk, hsok⟩ := hW.sea (Or.inr (Or.inr (Or.inr h4)))
                refine ev_iconst (v := 0) dX10_log_154 kc_0 ?_
                refine ev_istore dX10_log_155 (Nat.le_of_ble_eq_true rfl) rfl ?_
                refine ev_ldc qX10_165 dX10_log_157 ?_
                refine ev_istore dX10_log_159 (Nat.le_of_ble_eq_true rfl) rfl ?_
                refine ev_iconst (v := 0) dX10_log_161 kc_0 ?_
                refine ev_istore dX10_log_162 (Nat.le_of_ble_eq_true rfl) rfl ?_
                refine s_postI (l_mlogs (it := it q) (w := w) (i := i0) (n1 := n1) (fr := 40 * q + i0) hC h0 (hF 1 (by unfold nl_f; omega)) hsok.law (fun j hj => by rw [Nat.add_assoc, (hmf (i0 + j) (by omega)).2]; exact (hmf (i0 + j) (by omega)).1) (by omega) (L0 := L1) (by rw [(hmf (i0 + n1) (by omega)).2]; exact eL1) hL2 72 0 0 (0, -1000000) _ (by omega) (by omega) ⟨nI_0.symm, by simp⟩) (fun a J h => Or.inr (Or.inr ⟨h4, h26, h37, q, hq, rfl, Or.inr (Or.inr ⟨Int32.not_lt.mpr h49, E1, i0, n1 + 1, rfl, rfl, hn1, hn2, by omega, Or.inr ⟨hr, L1, hL2, eL1, h.1, h.2⟩⟩)⟩))
              · refine ev_aload_n (i := 0) dX10_log_78 rfl rfl ?_
                refine ev_iconst (v := 2) dX10_log_79 kc_2 ?_
                refine s_dVi (As := [_]) (m_finds _) (Nat.le_of_ble_eq_true rfl) lX10_80 kX10_finds vX10_finds dX10_log_80 rfl rfl rfl (by decide) rfl (Nat.le_of_ble_eq_true rfl) ?_
                exact s_retI dX10_log_83 (Or.inr (Or.inr ⟨h4, h26, h37, q, hq, rfl, Or.inr (Or.inl ⟨Int32.not_lt.mpr h49, by
              rw [k1]
              first
                | (simp [h59]; done)
                | (have q := Int64.not_le.mp ((not_congr (lg_cmp_le _ _)).mp h75); simp [q]; done), rfl, rfl⟩)⟩))
          · refine ev_aload_n (i := 0) dX10_log_52 rfl rfl ?_
            refine ev_iconst (v := 1) dX10_log_53 kc_1 ?_
            refine s_dVi (As := [_]) (m_finds _) (Nat.le_of_ble_eq_true rfl) lX10_80 kX10_finds vX10_finds dX10_log_54 rfl rfl rfl (by decide) rfl (Nat.le_of_ble_eq_true rfl) ?_
            exact s_retI dX10_log_57 (Or.inr (Or.inr ⟨h4, h26, h37, q, hq, rfl, Or.inl ⟨Int32.not_le.mp h49, rfl, rfl⟩⟩))
        · refine ev_ldc qX10_79 dX10_log_40 ?_
          exact s_retI dX10_log_42 (Or.inr (Or.inl ⟨h4, by first | (simp [h14]; done) | (simp [h26]; done) | (simp [h37]; done), rfl, rfl⟩))
  · refine ev_ldc qX10_199 dX10_log_7 ?_
    exact s_retI dX10_log_9 (Or.inl ⟨h4, rfl, rfl⟩)
end
