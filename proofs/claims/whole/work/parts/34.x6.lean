section
variable {l : Launch} {g : nw_G} {I : nw_Me} {N T S : Nat} {b : Bool}
def p_it (I : nw_Me) (r nx : Nat) : Int32 := if nv_has (I 3 r) (nI nx) 1 = true then I (5 + r) nx else -1000000
def p_fits (C : Nat → Int32) (law sees : Int32) (it : Nat → Int32) : Nat → Nat → Nat → Int32 → Bool
  | 0, _, _, _ => true
  | m + 1, w, nx, c => if nv_calls c (nv_step sees (p_kind C (nI w))) law = decide (it nx = nI w) then p_fits C law sees it m (w + 1) (if it nx = nI w then nx + 1 else nx) (c + nv_step sees (p_kind C (nI w))) else false
theorem nw_bi_1 {b : Bool} : nw_bi b = 1 ↔ b = true := by cases b <;> decide
theorem l_fitsLog {r L : Nat} {z1 z3 z4 se : Int32} (hW : nv_W I true N T S) (hr : r < 8) (hz : nv_sz (I 3 r)) (hL : L ≤ 399) : ∀ (m w nx : Nat) (c : Int32) (z10 z11 : Option Value), w + m = L + 1 → nx ≤ 40 + w → nw_S l g 2 mX9_fitsLog 34 [some (.ref (nw_a g 0)), some (.int z1), some (.int (nI r)), some (.int z3), some (.int z4), some (.int c), some (.int se), some (.int (nI nx)), some (.int (nI L)), some (.int (nI w)), z10, z11] [] I (nw_qZ (fun b J => b = p_fits (nv_cf I 15) (nv_fl I 25 1) se (p_it I r) m w nx c ∧ J = I)) := by
  obtain ⟨hb, hCk, hor⟩ := id hW
  obtain ⟨hN, hT, hS, hN2, hT3, hS6⟩ := id hCk
  have hN' : I 15 2 = nI N := (cf3 I 15).symm.trans hN
  have hT' : I 15 3 = nI T := (cf4 I 15).symm.trans hT
  have hS' : I 15 4 = nI S := (cf5 I 15).symm.trans hS
  obtain ⟨-, h0, -⟩ := hW.sea (Or.inr (Or.inr (Or.inr rfl)))
  have hl' : I 25 1 = nv_fl I 25 1 := (fl1 I 25).symm
  intro m
  induction m with
  | zero =>
    intro w nx c z10 z11 hw hnx
    refine ev_iload dX9_fitsLog_34 rfl ?_
    refine ev_iload dX9_fitsLog_36 rfl ?_
    refine ev_icmp_gt (tgt := 128) dX9_fitsLog_38 (by decide) (fun h38 => ?_) (fun h38 => ?_)
    · refine ev_iconst (v := 1) dX9_fitsLog_128 kc_1 ?_
      exact s_ret1 dX9_fitsLog_129 ⟨rfl, rfl⟩
    · exact absurd (nI_lt (by omega) (by omega)) h38
  | succ m ih =>
    intro w nx c z10 z11 hw hnx
    refine ev_iload dX9_fitsLog_34 rfl ?_
    refine ev_iload dX9_fitsLog_36 rfl ?_
    refine ev_icmp_gt (tgt := 128) dX9_fitsLog_38 (by decide) (fun h38 => ?_) (fun h38 => ?_)
    · exact absurd h38 (nI_nlt (by omega) (by omega))
    · refine ev_iload dX9_fitsLog_41 rfl ?_
      refine ev_aload_n (i := 0) dX9_fitsLog_43 rfl rfl ?_
      refine ev_getR fX9_26 dX9_fitsLog_44 rfl rfl (by decide) ?_
      refine ev_iload dX9_fitsLog_47 rfl ?_
      refine s_dVi (As := [_]) (c_kindIn nw_ch15 hN h0 hN2 (by omega)) (Nat.le_of_ble_eq_true rfl) lX9_240 kX2_kindIn vX2_kindIn dX9_fitsLog_49 rfl rfl rfl (by decide) rfl (Nat.le_of_ble_eq_true rfl) ?_
      refine s_dSi (As := [_, _]) (c_step _ _) (Nat.le_of_ble_eq_true rfl) lX9_342 kX4_stepOf sX4_stepOf dX9_fitsLog_52 rfl rfl (Nat.le_of_ble_eq_true rfl) ?_
      refine ev_istore dX9_fitsLog_55 (Nat.le_of_ble_eq_true rfl) rfl ?_
      refine ev_aload_n (i := 0) dX9_fitsLog_57 rfl rfl ?_
      refine ev_getR fX9_10 dX9_fitsLog_58 rfl rfl (by decide) ?_
      refine ev_iload_n (i := 2) dX9_fitsLog_61 rfl rfl ?_
      refine ev_iload dX9_fitsLog_62 rfl ?_
      refine s_dVi (As := [_, _]) (c_item hr hz _) (Nat.le_of_ble_eq_true rfl) lX9_339 kX7_item vX7_item dX9_fitsLog_64 rfl rfl rfl (by decide) rfl (Nat.le_of_ble_eq_true rfl) ?_
      rw [nI_clamp (show nx < 2 ^ 31 by omega)]
      change nw_Ev l g _ _ _ _ (.int (p_it I r nx) :: _) _ _ _ _ _
      refine ev_iload dX9_fitsLog_67 rfl ?_
      refine ev_icmp_ne (tgt := 76) dX9_fitsLog_69 (by decide) (fun h69 => ?_) (fun h69 => ?_)
      · refine ev_iconst (v := 0) dX9_fitsLog_76 kc_0 ?_
        refine ev_istore dX9_fitsLog_77 (Nat.le_of_ble_eq_true rfl) rfl ?_
        refine ev_iload dX9_fitsLog_79 rfl ?_
        refine ev_iload dX9_fitsLog_81 rfl ?_
        refine ev_aload_n (i := 0) dX9_fitsLog_83 rfl rfl ?_
        refine ev_getR fX9_36 dX9_fitsLog_84 rfl rfl (by decide) ?_
        refine ev_getI fX9_174 dX9_fitsLog_87 rfl rfl (by decide) ?_
        rw [hl']
        refine s_dSz (As := [_, _, _]) (c_calls _ _ _) (Nat.le_of_ble_eq_true rfl) lX9_246 kX9_calls sX9_calls dX9_fitsLog_90 rfl rfl (Nat.le_of_ble_eq_true rfl) ?_
        refine ev_iload dX9_fitsLog_93 rfl ?_
        refine ev_icmp_eq (tgt := 100) dX9_fitsLog_95 (by decide) (fun h95 => ?_) (fun h95 => ?_)
        · refine ev_iload dX9_fitsLog_100 rfl ?_
          refine ev_iload dX9_fitsLog_102 rfl ?_
          refine ev_if_eq (tgt := 111) dX9_fitsLog_104 (by decide) (fun h104 => ?_) (fun h104 => ?_)
          · refine ev_iconst (v := 0) dX9_fitsLog_111 kc_0 ?_
            refine ev_iadd dX9_fitsLog_112 ?_
            refine ev_istore dX9_fitsLog_113 (Nat.le_of_ble_eq_true rfl) rfl ?_
            refine ev_iload dX9_fitsLog_115 rfl ?_
            refine ev_iload dX9_fitsLog_117 rfl ?_
            refine ev_iadd dX9_fitsLog_119 ?_
            refine ev_istore dX9_fitsLog_120 (Nat.le_of_ble_eq_true rfl) rfl ?_
            refine ev_iincm (m := 1) dX9_fitsLog_122 kc_1 rfl (Nat.le_of_ble_eq_true rfl) rfl ?_
            refine ev_goto (tgt := 34) dX9_fitsLog_125 (by decide) ?_
            rw [nI_1]
            first
              | (exfalso; exact absurd h104 (by decide))
              | (exfalso; exact h104 rfl)
              | (have e : p_fits (nv_cf I 15) (nv_fl I 25 1) se (p_it I r) (m + 1) w nx c = p_fits (nv_cf I 15) (nv_fl I 25 1) se (p_it I r) m (w + 1) (nx + 1) (c + nv_step se (p_kind (nv_cf I 15) (nI w))) := by
                   conv => lhs; unfold p_fits
                   rw [if_pos (by rw [decide_eq_true h69]; exact nw_bi_1.mp h95), if_pos h69]
                 rw [e, nI_1]
                 exact ih (w + 1) (nx + 1) _ _ _ (by omega) (by omega))
              | (have e : p_fits (nv_cf I 15) (nv_fl I 25 1) se (p_it I r) (m + 1) w nx c = p_fits (nv_cf I 15) (nv_fl I 25 1) se (p_it I r) m (w + 1) nx (c + nv_step se (p_kind (nv_cf I 15) (nI w))) := by
                   conv => lhs; unfold p_fits
                   rw [if_pos (by rw [decide_eq_false h69]; exact nw_bi_0.mp h95), if_neg h69]
                 rw [e, Int32.add_zero]
                 exact ih (w + 1) nx _ _ _ (by omega) (by omega))
          · refine ev_iconst (v := 1) dX9_fitsLog_107 kc_1 ?_
            refine ev_goto (tgt := 112) dX9_fitsLog_108 (by decide) ?_
            refine ev_iadd dX9_fitsLog_112 ?_
            refine ev_istore dX9_fitsLog_113 (Nat.le_of_ble_eq_true rfl) rfl ?_
            refine ev_iload dX9_fitsLog_115 rfl ?_
            refine ev_iload dX9_fitsLog_117 rfl ?_
            refine ev_iadd dX9_fitsLog_119 ?_
            refine ev_istore dX9_fitsLog_120 (Nat.le_of_ble_eq_true rfl) rfl ?_
            refine ev_iincm (m := 1) dX9_fitsLog_122 kc_1 rfl (Nat.le_of_ble_eq_true rfl) rfl ?_
            refine ev_goto (tgt := 34) dX9_fitsLog_125 (by decide) ?_
            rw [nI_1]
            first
              | (exfalso; exact absurd h104 (by decide))
              | (exfalso; exact h104 rfl)
              | (have e : p_fits (nv_cf I 15) (nv_fl I 25 1) se (p_it I r) (m + 1) w nx c = p_fits (nv_cf I 15) (nv_fl I 25 1) se (p_it I r) m (w + 1) (nx + 1) (c + nv_step se (p_kind (nv_cf I 15) (nI w))) := by
                   conv => lhs; unfold p_fits
                   rw [if_pos (by rw [decide_eq_true h69]; exact nw_bi_1.mp h95), if_pos h69]
                 rw [e, nI_1]
                 exact ih (w + 1) (nx + 1) _ _ _ (by omega) (by omega))
              | (have e : p_fits (nv_cf I 15) (nv_fl I 25 1) se (p_it I r) (m + 1) w nx c = p_fits (nv_cf I 15) (nv_fl I 25 1) se (p_it I r) m (w + 1) nx (c + nv_step se (p_kind (nv_cf I 15) (nI w))) := by
                   conv => lhs; unfold p_fits
                   rw [if_pos (by rw [decide_eq_false h69]; exact nw_bi_0.mp h95), if_neg h69]
                 rw [e, Int32.add_zero]
                 exact ih (w + 1) nx _ _ _ (by omega) (by omega))
        · refine ev_iconst (v := 0) dX9_fitsLog_98 kc_0 ?_
          exact s_ret0 dX9_fitsLog_99 ⟨by
        conv => rhs; unfold p_fits
        rw [if_neg (fun q => h95 (by rw [q]; first | (rw [decide_eq_true h69]; rfl) | (rw [decide_eq_false h69]; rfl)))], rfl⟩
      · refine ev_iconst (v := 1) dX9_fitsLog_72 kc_1 ?_
        refine ev_goto (tgt := 77) dX9_fitsLog_73 (by decide) ?_
        refine ev_istore dX9_fitsLog_77 (Nat.le_of_ble_eq_true rfl) rfl ?_
        refine ev_iload dX9_fitsLog_79 rfl ?_
        refine ev_iload dX9_fitsLog_81 rfl ?_
        refine ev_aload_n (i := 0) dX9_fitsLog_83 rfl rfl ?_
        refine ev_getR fX9_36 dX9_fitsLog_84 rfl rfl (by decide) ?_
        refine ev_getI fX9_174 dX9_fitsLog_87 rfl rfl (by decide) ?_
        rw [hl']
        refine s_dSz (As := [_, _, _]) (c_calls _ _ _) (Nat.le_of_ble_eq_true rfl) lX9_246 kX9_calls sX9_calls dX9_fitsLog_90 rfl rfl (Nat.le_of_ble_eq_true rfl) ?_
        refine ev_iload dX9_fitsLog_93 rfl ?_
        refine ev_icmp_eq (tgt := 100) dX9_fitsLog_95 (by decide) (fun h95 => ?_) (fun h95 => ?_)
        · refine ev_iload dX9_fitsLog_100 rfl ?_
          refine ev_iload dX9_fitsLog_102 rfl ?_
          refine ev_if_eq (tgt := 111) dX9_fitsLog_104 (by decide) (fun h104 => ?_) (fun h104 => ?_)
          · refine ev_iconst (v := 0) dX9_fitsLog_111 kc_0 ?_
            refine ev_iadd dX9_fitsLog_112 ?_
            refine ev_istore dX9_fitsLog_113 (Nat.le_of_ble_eq_true rfl) rfl ?_
            refine ev_iload dX9_fitsLog_115 rfl ?_
            refine ev_iload dX9_fitsLog_117 rfl ?_
            refine ev_iadd dX9_fitsLog_119 ?_
            refine ev_istore dX9_fitsLog_120 (Nat.le_of_ble_eq_true rfl) rfl ?_
            refine ev_iincm (m := 1) dX9_fitsLog_122 kc_1 rfl (Nat.le_of_ble_eq_true rfl) rfl ?_
            refine ev_goto (tgt := 34) dX9_fitsLog_125 (by decide) ?_
            rw [nI_1]
            first
              | (exfalso; exact absurd h104 (by decide))
              | (exfalso; exact h104 rfl)
              | (have e : p_fits (nv_cf I 15) (nv_fl I 25 1) se (p_it I r) (m + 1) w nx c = p_fits (nv_cf I 15) (nv_fl I 25 1) se (p_it I r) m (w + 1) (nx + 1) (c + nv_step se (p_kind (nv_cf I 15) (nI w))) := by
                   conv => lhs; unfold p_fits
                   rw [if_pos (by rw [decide_eq_true h69]; exact nw_bi_1.mp h95), if_pos h69]
                 rw [e, nI_1]
                 exact ih (w + 1) (nx + 1) _ _ _ (by omega) (by omega))
              | (have e : p_fits (nv_cf I 15) (nv_fl I 25 1) se (p_it I r) (m + 1) w nx c = p_fits (nv_cf I 15) (nv_fl I 25 1) se (p_it I r) m (w + 1) nx (c + nv_step se (p_kind (nv_cf I 15) (nI w))) := by
                   conv => lhs; unfold p_fits
                   rw [if_pos (by rw [decide_eq_false h69]; exact nw_bi_0.mp h95), if_neg h69]
                 rw [e, Int32.add_zero]
                 exact ih (w + 1) nx _ _ _ (by omega) (by omega))
          · refine ev_iconst (v := 1) dX9_fitsLog_107 kc_1 ?_
            refine ev_goto (tgt := 112) dX9_fitsLog_108 (by decide) ?_
            refine ev_iadd dX9_fitsLog_112 ?_
            refine ev_istore dX9_fitsLog_113 (Nat.le_of_ble_eq_true rfl) rfl ?_
            refine ev_iload dX9_fitsLog_115 rfl ?_
            refine ev_iload dX9_fitsLog_117 rfl ?_
            refine ev_iadd dX9_fitsLog_119 ?_
            refine ev_istore dX9_fitsLog_120 (Nat.le_of_ble_eq_true rfl) rfl ?_
            refine ev_iincm (m := 1) dX9_fitsLog_122 kc_1 rfl (Nat.le_of_ble_eq_true rfl) rfl ?_
            refine ev_goto (tgt := 34) dX9_fitsLog_125 (by decide) ?_
            rw [nI_1]
            first
              | (exfalso; exact absurd h104 (by decide))
              | (exfalso; exact h104 rfl)
              | (have e : p_fits (nv_cf I 15) (nv_fl I 25 1) se (p_it I r) (m + 1) w nx c = p_fits (nv_cf I 15) (nv_fl I 25 1) se (p_it I r) m (w + 1) (nx + 1) (c + nv_step se (p_kind (nv_cf I 15) (nI w))) := by
                   conv => lhs; unfold p_fits
                   rw [if_pos (by rw [decide_eq_true h69]; exact nw_bi_1.mp h95), if_pos h69]
                 rw [e, nI_1]
                 exact ih (w + 1) (nx + 1) _ _ _ (by omega) (by omega))
              | (have e : p_fits (nv_cf I 15) (nv_fl I 25 1) se (p_it I r) (m + 1) w nx c = p_fits (nv_cf I 15) (nv_fl I 25 1) se (p_it I r) m (w + 1) nx (c + nv_step se (p_kind (nv_cf I 15) (nI w))) := by
                   conv => lhs; unfold p_fits
                   rw [if_pos (by rw [decide_eq_false h69]; exact nw_bi_0.mp h95), if_neg h69]
                 rw [e, Int32.add_zero]
                 exact ih (w + 1) nx _ _ _ (by omega) (by omega))
        · refine ev_iconst (v := 0) dX9_fitsLog_98 kc_0 ?_
          exact s_ret0 dX9_fitsLog_99 ⟨by
        conv => rhs; unfold p_fits
        rw [if_neg (fun q => h95 (by rw [q]; first | (rw [decide_eq_true h69]; rfl) | (rw [decide_eq_false h69]; rfl)))], rfl⟩
theorem c_fitsLog {r L p i n : Nat} (hW : nv_W I true N T S) (hr : r < 8) (hz : nv_sz (I 3 r)) (hp : p < 72) (hi : i + n ≤ 40) (hn : 1 ≤ n) (hL : L ≤ 399) (hlast : p_it I r (i + n - 1) = nI L) : nw_dZ l g 2 mX9_fitsLog [.ref (nw_a g 0), .int (nI p), .int (nI r), .int (nI i), .int (nI n)] I (p_fits (nv_cf I 15) (nv_fl I 25 1) (nI (p % 8)) (p_it I r) (L + 1) 0 i (nI (p / 8))) I := by
  refine ⟨(Nat.le_of_ble_eq_true rfl), ?_⟩
  have e8 : (8 : Int32) = nI 8 := by decide
  have e1 : (1 : Int32) = nI 1 := by decide
  refine ev_iload_n (i := 1) dX9_fitsLog_0 rfl rfl ?_
  refine ev_bipush (v := 8) dX9_fitsLog_1 kb_8 ?_
  refine ev_idiv dX9_fitsLog_3 (by decide) ?_
  rw [e8, pk_div (by omega) (by decide) (by decide)]
  refine ev_istore dX9_fitsLog_4 (Nat.le_of_ble_eq_true rfl) rfl ?_
  refine ev_iload_n (i := 1) dX9_fitsLog_6 rfl rfl ?_
  refine ev_bipush (v := 8) dX9_fitsLog_7 kb_8 ?_
  refine ev_irem dX9_fitsLog_9 (by decide) ?_
  rw [e8, pk_rem (by omega) (by decide) (by decide)]
  refine ev_istore dX9_fitsLog_10 (Nat.le_of_ble_eq_true rfl) rfl ?_
  refine ev_iload_n (i := 3) dX9_fitsLog_12 rfl rfl ?_
  refine ev_istore dX9_fitsLog_13 (Nat.le_of_ble_eq_true rfl) rfl ?_
  refine ev_aload_n (i := 0) dX9_fitsLog_15 rfl rfl ?_
  refine ev_getR fX9_10 dX9_fitsLog_16 rfl rfl (by decide) ?_
  refine ev_iload_n (i := 2) dX9_fitsLog_19 rfl rfl ?_
  refine ev_iload_n (i := 3) dX9_fitsLog_20 rfl rfl ?_
  refine ev_iload dX9_fitsLog_21 rfl ?_
  refine ev_iadd dX9_fitsLog_23 ?_
  refine ev_iconst (v := 1) dX9_fitsLog_24 kc_1 ?_
  refine ev_isub dX9_fitsLog_25 ?_
  rw [nI_add, e1, pk_sub (by omega)]
  refine s_dVi (As := [_, _]) (c_item hr hz _) (Nat.le_of_ble_eq_true rfl) lX9_339 kX7_item vX7_item dX9_fitsLog_26 rfl rfl rfl (by decide) rfl (Nat.le_of_ble_eq_true rfl) ?_
  rw [nI_clamp (show i + n - 1 < 2 ^ 31 by omega)]
  change nw_Ev l g _ _ _ _ (.int (p_it I r (i + n - 1)) :: _) _ _ _ _ _
  rw [hlast]
  refine ev_istore dX9_fitsLog_29 (Nat.le_of_ble_eq_true rfl) rfl ?_
  refine ev_iconst (v := 0) dX9_fitsLog_31 kc_0 ?_
  refine ev_istore dX9_fitsLog_32 (Nat.le_of_ble_eq_true rfl) rfl ?_
  exact l_fitsLog hW hr hz hL (L + 1) 0 i _ _ _ (by omega) (by omega)
def p_logs (fit : Nat → Bool) : Nat → Nat → Int32 × Int32 → Int32 × Int32
  | 0, _, r => r
  | n + 1, p, r => p_logs fit n (p + 1) (if fit p then (r.1 + 1, if r.1 = 0 then nI p else r.2) else r)
theorem p_logs_t {fit : Nat → Bool} {n p : Nat} {r : Int32 × Int32} (h : fit p = true) : p_logs fit (n + 1) p r = p_logs fit n (p + 1) (r.1 + 1, if r.1 = 0 then nI p else r.2) := by
  conv => lhs; unfold p_logs
  rw [if_pos h]
theorem p_logs_f {fit : Nat → Bool} {n p : Nat} {r : Int32 × Int32} (h : fit p = false) : p_logs fit (n + 1) p r = p_logs fit n (p + 1) r := by
  conv => lhs; unfold p_logs
  rw [if_neg (by rw [h]; decide)]
def p_fitp (I : nw_Me) (r i L : Nat) (p : Nat) : Bool := p_fits (nv_cf I 15) (nv_fl I 25 1) (nI (p % 8)) (p_it I r) (L + 1) 0 i (nI (p / 8))
theorem l_log {r L i n : Nat} {w : Int32} (hW : nv_W I true N T S) (hr : r < 8) (hz : nv_sz (I 3 r)) (hi : i + n ≤ 40) (hn : 1 ≤ n) (hL : L ≤ 399) (hlast : p_it I r (i + n - 1) = nI L) : ∀ (m p : Nat) (s : Int32 × Int32), p + m = 72 → nw_S l g 3 mX9_log 106 [some (.ref (nw_a g 0)), some (.int (nI r)), some (.int (nI i)), some (.int (nI n)), some (.int w), some (.int s.1), some (.int s.2), some (.int (nI p))] [] I (nw_qI (fun a J => a = (if w = 0 then (p_logs (p_fitp I r i L) m p s).1 else (p_logs (p_fitp I r i L) m p s).2) ∧ J = nw_up I 0 12 0)) := by
  have e72 : (72 : Int32) = nI 72 := by decide
  intro m
  induction m with
  | zero =>
    intro p s hp
    refine ev_iload dX9_log_106 rfl ?_
    refine ev_bipush (v := 72) dX9_log_108 kb_72 ?_
    refine ev_icmp_ge (tgt := 148) dX9_log_110 (by decide) (fun h110 => ?_) (fun h110 => ?_)
    · refine ev_aload_n (i := 0) dX9_log_148 rfl rfl ?_
      refine ev_iload dX9_log_149 rfl ?_
      refine ev_if_ne (tgt := 159) dX9_log_151 (by decide) (fun h151 => ?_) (fun h151 => ?_)
      · refine ev_iload dX9_log_159 rfl ?_
        refine s_dVi (As := [_]) (c_fine _) (Nat.le_of_ble_eq_true rfl) lX9_88 kX9_fine vX9_fine dX9_log_161 rfl rfl rfl (by decide) rfl (Nat.le_of_ble_eq_true rfl) ?_
        exact s_retI dX9_log_164 ⟨by first | (rw [if_pos h151]; rfl) | (rw [if_neg h151]; rfl), rfl⟩
      · refine ev_iload dX9_log_154 rfl ?_
        refine ev_goto (tgt := 161) dX9_log_156 (by decide) ?_
        refine s_dVi (As := [_]) (c_fine _) (Nat.le_of_ble_eq_true rfl) lX9_88 kX9_fine vX9_fine dX9_log_161 rfl rfl rfl (by decide) rfl (Nat.le_of_ble_eq_true rfl) ?_
        exact s_retI dX9_log_164 ⟨by first | (rw [if_pos h151]; rfl) | (rw [if_neg h151]; rfl), rfl⟩
    · exact absurd (by rw [e72]; exact nI_le (by omega) (by omega)) h110
  | succ m ih =>
    intro p s hp
    refine ev_iload dX9_log_106 rfl ?_
    refine ev_bipush (v := 72) dX9_log_108 kb_72 ?_
    refine ev_icmp_ge (tgt := 148) dX9_log_110 (by decide) (fun h110 => ?_) (fun h110 => ?_)
    · exact absurd h110 (by rw [e72]; exact nI_ge (by omega) (by decide))
    · refine ev_aload_n (i := 0) dX9_log_113 rfl rfl ?_
      refine ev_iload dX9_log_114 rfl ?_
      refine ev_iload_n (i := 1) dX9_log_116 rfl rfl ?_
      refine ev_iload_n (i := 2) dX9_log_117 rfl rfl ?_
      refine ev_iload_n (i := 3) dX9_log_118 rfl rfl ?_
      refine s_dVz (As := [_, _, _, _]) (c_fitsLog hW hr hz (show p < 72 by omega) hi hn hL hlast) (Nat.le_of_ble_eq_true rfl) lX9_281 kX9_fitsLog vX9_fitsLog dX9_log_119 rfl rfl rfl (by decide) rfl (Nat.le_of_ble_eq_true rfl) ?_
      refine s_ifZ_eq (tgt := 142) dX9_log_122 (by decide) (fun h122 => ?_) (fun h122 => ?_)
      · refine ev_iincm (m := 1) dX9_log_142 kc_1 rfl (Nat.le_of_ble_eq_true rfl) rfl ?_
        refine ev_goto (tgt := 106) dX9_log_145 (by decide) ?_
        first
          | (rw [p_logs_f (show p_fitp I r i L p = false from h122), nI_1]
             exact ih (p + 1) s (by omega))
          | (rw [p_logs_t (show p_fitp I r i L p = true from h122), nI_1, if_pos h127]
             exact ih (p + 1) (s.1 + 1, nI p) (by omega))
          | (rw [p_logs_t (show p_fitp I r i L p = true from h122), nI_1, if_neg h127]
             exact ih (p + 1) (s.1 + 1, s.2) (by omega))
      · refine ev_iload dX9_log_125 rfl ?_
        refine ev_if_ne (tgt := 135) dX9_log_127 (by decide) (fun h127 => ?_) (fun h127 => ?_)
        · refine ev_iload dX9_log_135 rfl ?_
          refine ev_istore dX9_log_137 (Nat.le_of_ble_eq_true rfl) rfl ?_
          refine ev_iincm (m := 1) dX9_log_139 kc_1 rfl (Nat.le_of_ble_eq_true rfl) rfl ?_
          refine ev_iincm (m := 1) dX9_log_142 kc_1 rfl (Nat.le_of_ble_eq_true rfl) rfl ?_
          refine ev_goto (tgt := 106) dX9_log_145 (by decide) ?_
          first
            | (rw [p_logs_f (show p_fitp I r i L p = false from h122), nI_1]
               exact ih (p + 1) s (by omega))
            | (rw [p_logs_t (show p_fitp I r i L p = true from h122), nI_1, if_pos h127]
               exact ih (p + 1) (s.1 + 1, nI p) (by omega))
            | (rw [p_logs_t (show p_fitp I r i L p = true from h122), nI_1, if_neg h127]
               exact ih (p + 1) (s.1 + 1, s.2) (by omega))
        · refine ev_iload dX9_log_130 rfl ?_
          refine ev_goto (tgt := 137) dX9_log_132 (by decide) ?_
          refine ev_istore dX9_log_137 (Nat.le_of_ble_eq_true rfl) rfl ?_
          refine ev_iincm (m := 1) dX9_log_139 kc_1 rfl (Nat.le_of_ble_eq_true rfl) rfl ?_
          refine ev_iincm (m := 1) dX9_log_142 kc_1 rfl (Nat.le_of_ble_eq_true rfl) rfl ?_
          refine ev_goto (tgt := 106) dX9_log_145 (by decide) ?_
          first
            | (rw [p_logs_f (show p_fitp I r i L p = false from h122), nI_1]
               exact ih (p + 1) s (by omega))
            | (rw [p_logs_t (show p_fitp I r i L p = true from h122), nI_1, if_pos h127]
               exact ih (p + 1) (s.1 + 1, nI p) (by omega))
            | (rw [p_logs_t (show p_fitp I r i L p = true from h122), nI_1, if_neg h127]
               exact ih (p + 1) (s.1 + 1, s.2) (by omega))
theorem p_rise_last {f : Nat → Int32} {most : Int32} : ∀ (n k : Nat) (ah : Int32), ¬ ah < -1 → p_rise f most (n + 1) k ah = true → ¬ f (k + n) < 0 ∧ f (k + n) ≤ most
  | 0, k, ah, h1, h => by
    unfold p_rise at h
    split at h
    · cases h
    · rename_i h2
      split at h
      · rename_i h3
        refine ⟨fun q => ?_, h3⟩
        rw [Int32.lt_iff_toInt_lt] at q h1
        rw [Int32.le_iff_toInt_le] at h2
        have e0 : (0 : Int32).toInt = 0 := by decide
        have e1 : (-1 : Int32).toInt = -1 := by decide
        rw [e0] at q
        rw [e1] at h1
        simp only [Nat.add_zero] at q
        omega
      · cases h
  | n + 1, k, ah, h1, h => by
    unfold p_rise at h
    split at h
    · cases h
    · rename_i h2
      split at h
      · have := p_rise_last n (k + 1) (f k) (fun q => ?_) h
        · rw [show k + (n + 1) = k + 1 + n by omega]
          exact this
        · rw [Int32.lt_iff_toInt_lt] at q h1
          rw [Int32.le_iff_toInt_le] at h2
          omega
      · cases h
theorem x_log (hW : nv_W I b N T S) (hz : ∀ r, r < 8 → nv_sz (I 3 r)) (x i n w : Int32) : nw_cI l g 3 mX9_log [.ref (nw_a g 0), .int x, .int i, .int n, .int w] I (fun a J => (b = false ∧ a = -1000002 ∧ J = I) ∨ (b = true ∧ (nv_in x 0 7 && (nv_in n 1 20 && nv_in w 0 1)) = false ∧ a = -1000001 ∧ J = I) ∨ (b = true ∧ nv_in n 1 20 = true ∧ nv_in w 0 1 = true ∧ ∃ r, r < 8 ∧ x = nI r ∧ ((I 3 r = -1 ∧ a = -1000010 - 1 ∧ J = nw_up I 0 12 1) ∨ (¬ I 3 r = -1 ∧ nv_has (I 3 r) i n = false ∧ a = -1000010 - 2 ∧ J = nw_up I 0 12 2) ∨ (¬ I 3 r = -1 ∧ ∃ i0 n0, i = nI i0 ∧ n = nI n0 ∧ 1 ≤ n0 ∧ n0 ≤ 20 ∧ i0 + n0 ≤ 40 ∧ nv_has (I 3 r) (nI i0) (nI n0) = true ∧ ((p_rise (I (5 + r)) 399 n0 i0 (-1) = false ∧ a = -1000001 ∧ J = I) ∨ (p_rise (I (5 + r)) 399 n0 i0 (-1) = true ∧ ∃ L, L ≤ 399 ∧ I (5 + r) (i0 + n0 - 1) = nI L ∧ a = (if w = 0 then (p_logs (p_fitp I r i0 L) 72 0 (0, -1000000)).1 else (p_logs (p_fitp I r i0 L) 72 0 (0, -1000000)).2) ∧ J = nw_up I 0 12 0)))))) := by
  obtain ⟨hb, hCk, hor⟩ := id hW
  obtain ⟨hN, hT, hS, hN2, hT3, hS6⟩ := id hCk
  have hN' : I 15 2 = nI N := (cf3 I 15).symm.trans hN
  have hT' : I 15 3 = nI T := (cf4 I 15).symm.trans hT
  have hS' : I 15 4 = nI S := (cf5 I 15).symm.trans hS
  refine ⟨(Nat.le_of_ble_eq_true rfl), ?_⟩
  refine ev_aload_n (i := 0) dX9_log_0 rfl rfl ?_
  refine ev_getI fX9_149 dX9_log_1 rfl rfl (by decide) ?_
  rw [hb]
  refine ev_if_ne (tgt := 10) dX9_log_4 (by decide) (fun h4 => ?_) (fun h4 => ?_)
  · refine ev_aload_n (i := 0) dX9_log_10 rfl rfl ?_
    refine ev_iload_n (i := 1) dX9_log_11 rfl rfl ?_
    refine s_dVz (As := [_]) (c_isRow _) (Nat.le_of_ble_eq_true rfl) lX9_71 kX9_isRow vX9_isRow dX9_log_12 rfl rfl rfl (by decide) rfl (Nat.le_of_ble_eq_true rfl) ?_
    refine s_ifZ_eq (tgt := 38) dX9_log_15 (by decide) (fun h15 => ?_) (fun h15 => ?_)
    · refine ev_ldc qX9_79 dX9_log_38 ?_
      exact s_retI dX9_log_40 (Or.inr (Or.inl ⟨by cases b; exact absurd rfl h4; rfl, by
        first | (rw [h15]; rfl) | (rw [h25, Bool.false_and, Bool.and_false]) | (rw [h35, Bool.and_false, Bool.and_false]), rfl, rfl⟩))
    · refine ev_iload_n (i := 3) dX9_log_18 rfl rfl ?_
      refine ev_iconst (v := 1) dX9_log_19 kc_1 ?_
      refine ev_bipush (v := 20) dX9_log_20 kb_20 ?_
      refine s_dSz (As := [_, _, _]) (c_within _ _ _) (Nat.le_of_ble_eq_true rfl) lX9_75 kX9_within sX9_within dX9_log_22 rfl rfl (Nat.le_of_ble_eq_true rfl) ?_
      refine s_ifZ_eq (tgt := 38) dX9_log_25 (by decide) (fun h25 => ?_) (fun h25 => ?_)
      · refine ev_ldc qX9_79 dX9_log_38 ?_
        exact s_retI dX9_log_40 (Or.inr (Or.inl ⟨by cases b; exact absurd rfl h4; rfl, by
        first | (rw [h15]; rfl) | (rw [h25, Bool.false_and, Bool.and_false]) | (rw [h35, Bool.and_false, Bool.and_false]), rfl, rfl⟩))
      · refine ev_iload dX9_log_28 rfl ?_
        refine ev_iconst (v := 0) dX9_log_30 kc_0 ?_
        refine ev_iconst (v := 1) dX9_log_31 kc_1 ?_
        refine s_dSz (As := [_, _, _]) (c_within _ _ _) (Nat.le_of_ble_eq_true rfl) lX9_75 kX9_within sX9_within dX9_log_32 rfl rfl (Nat.le_of_ble_eq_true rfl) ?_
        refine s_ifZ_ne (tgt := 41) dX9_log_35 (by decide) (fun h35 => ?_) (fun h35 => ?_)
        · have eb : b = true := by cases b; exact absurd rfl h4; rfl
          subst eb
          obtain ⟨r, hr, rfl⟩ := nv_in_S (S := 8) (by decide) h15
          refine ev_aload_n (i := 0) dX9_log_41 rfl rfl ?_
          refine ev_getR fX9_10 dX9_log_42 rfl rfl (by decide) ?_
          refine ev_iload_n (i := 1) dX9_log_45 rfl rfl ?_
          refine s_dVz (As := [_]) (c_isMissing hr) (Nat.le_of_ble_eq_true rfl) lX9_91 kX7_isMissing vX7_isMissing dX9_log_46 rfl rfl rfl (by decide) rfl (Nat.le_of_ble_eq_true rfl) ?_
          refine s_ifZ_eq (tgt := 58) dX9_log_49 (by decide) (fun h49 => ?_) (fun h49 => ?_)
          · refine ev_aload_n (i := 0) dX9_log_58 rfl rfl ?_
            refine ev_getR fX9_10 dX9_log_59 rfl rfl (by decide) ?_
            refine ev_iload_n (i := 1) dX9_log_62 rfl rfl ?_
            refine ev_iload_n (i := 2) dX9_log_63 rfl rfl ?_
            refine ev_iload_n (i := 3) dX9_log_64 rfl rfl ?_
            refine s_dVz (As := [_, _, _]) (c_hasPlaces hr _ _) (Nat.le_of_ble_eq_true rfl) lX9_94 kX7_hasPlaces vX7_hasPlaces dX9_log_65 rfl rfl rfl (by decide) rfl (Nat.le_of_ble_eq_true rfl) ?_
            refine s_ifZ_ne (tgt := 77) dX9_log_68 (by decide) (fun h68 => ?_) (fun h68 => ?_)
            · have h68' := h68
              obtain ⟨i0, n0, m0, rfl, rfl, e3, g1, g2⟩ := nv_has_in (hz r hr) h68
              have hin40 : i0 + n0 ≤ 40 := by omega
              obtain ⟨nn, hn1, hn2, hn3⟩ := nv_in_n (a := 1) (c := 20) h25 (by decide) (by decide)
              have e5 : n0 = nn := (nI_eq (by omega) (by omega)).mp hn3
              subst e5
              refine ev_aload_n (i := 0) dX9_log_77 rfl rfl ?_
              refine ev_getR fX9_10 dX9_log_78 rfl rfl (by decide) ?_
              refine ev_iload_n (i := 1) dX9_log_81 rfl rfl ?_
              refine ev_iload_n (i := 2) dX9_log_82 rfl rfl ?_
              refine ev_iload_n (i := 3) dX9_log_83 rfl rfl ?_
              refine ev_sipush (v := 399) dX9_log_84 ks_399 ?_
              refine s_dVz (As := [_, _, _, _]) (c_rises hr hin40 _) (Nat.le_of_ble_eq_true rfl) lX9_277 kX7_rises vX7_rises dX9_log_87 rfl rfl rfl (by decide) rfl (Nat.le_of_ble_eq_true rfl) ?_
              refine s_ifZ_ne (tgt := 96) dX9_log_90 (by decide) (fun h90 => ?_) (fun h90 => ?_)
              · refine ev_iconst (v := 0) dX9_log_96 kc_0 ?_
                refine ev_istore dX9_log_97 (Nat.le_of_ble_eq_true rfl) rfl ?_
                refine ev_ldc qX9_249 dX9_log_99 ?_
                refine ev_istore dX9_log_101 (Nat.le_of_ble_eq_true rfl) rfl ?_
                refine ev_iconst (v := 0) dX9_log_103 kc_0 ?_
                refine ev_istore dX9_log_104 (Nat.le_of_ble_eq_true rfl) rfl ?_
                obtain ⟨n1, rfl⟩ : ∃ n1, n0 = n1 + 1 := ⟨n0 - 1, by omega⟩
                obtain ⟨hq1, hq2⟩ := p_rise_last n1 i0 (-1) (by decide) h90
                obtain ⟨L, hL0, hL⟩ := nI_of hq1
                rw [hL] at hq2
                have e399 : (399 : Int32) = nI 399 := by decide
                rw [e399, nI_leI (by omega) (by decide)] at hq2
                have hlast : p_it I r (i0 + (n1 + 1) - 1) = nI L := by
                  unfold p_it
                  have e6 : i0 + (n1 + 1) - 1 = i0 + n1 := by omega
                  rw [e6, if_pos, hL]
                  rw [e3]
                  have := nv_has_of (i := i0 + n1) (n := 1) g2 (by omega)
                  exact this
                refine s_postI (l_log hW hr (hz r hr) hin40 (by omega) hq2 hlast 72 0 (0, -1000000) rfl) (fun a J q => Or.inr (Or.inr ⟨rfl, h25, h35, r, hr, rfl, Or.inr (Or.inr ⟨of_decide_eq_false h49, i0, n1 + 1, rfl, rfl, hn1, hn2, hin40, h68', Or.inr ⟨h90, L, hq2, by rw [show i0 + (n1 + 1) - 1 = i0 + n1 by omega]; exact hL, q.1, q.2⟩⟩)⟩))
              · refine ev_ldc qX9_79 dX9_log_93 ?_
                exact s_retI dX9_log_95 (Or.inr (Or.inr ⟨rfl, h25, h35, r, hr, rfl, Or.inr (Or.inr ⟨of_decide_eq_false h49, i0, n0, rfl, rfl, hn1, hn2, hin40, h68', Or.inl ⟨h90, rfl, rfl⟩⟩)⟩))
            · refine ev_aload_n (i := 0) dX9_log_71 rfl rfl ?_
              refine ev_iconst (v := 2) dX9_log_72 kc_2 ?_
              refine s_dVi (As := [_]) (c_found _) (Nat.le_of_ble_eq_true rfl) lX9_80 kX9_found vX9_found dX9_log_73 rfl rfl rfl (by decide) rfl (Nat.le_of_ble_eq_true rfl) ?_
              exact s_retI dX9_log_76 (Or.inr (Or.inr ⟨rfl, h25, h35, r, hr, rfl, Or.inr (Or.inl ⟨of_decide_eq_false h49, h68, rfl, rfl⟩)⟩))
          · refine ev_aload_n (i := 0) dX9_log_52 rfl rfl ?_
            refine ev_iconst (v := 1) dX9_log_53 kc_1 ?_
            refine s_dVi (As := [_]) (c_found _) (Nat.le_of_ble_eq_true rfl) lX9_80 kX9_found vX9_found dX9_log_54 rfl rfl rfl (by decide) rfl (Nat.le_of_ble_eq_true rfl) ?_
            exact s_retI dX9_log_57 (Or.inr (Or.inr ⟨rfl, h25, h35, r, hr, rfl, Or.inl ⟨of_decide_eq_true h49, rfl, rfl⟩⟩))
        · refine ev_ldc qX9_79 dX9_log_38 ?_
          exact s_retI dX9_log_40 (Or.inr (Or.inl ⟨by cases b; exact absurd rfl h4; rfl, by
        first | (rw [h15]; rfl) | (rw [h25, Bool.false_and, Bool.and_false]) | (rw [h35, Bool.and_false, Bool.and_false]), rfl, rfl⟩))
  · refine ev_ldc qX9_156 dX9_log_7 ?_
    exact s_retI dX9_log_9 (Or.inl ⟨nw_bi_0.mp h4, rfl, rfl⟩)
theorem x_count (hW : nv_W I b N T S) {n m v : Nat} (hn : I 13 1 = nI n) (hm : I 37 2 = nI m) (hv : nv_fl I 25 0 = nI v) (x : Int32) : nw_dI l g 2 mX9_count [.ref (nw_a g 0), .int x] I (if x = 0 then nI (p_cnt (fun r => !decide (I 3 r = -1)) 8 0) else if x = 1 then nI N else if x = 2 then nI T else if x = 3 then nI S else if x = 4 then nI v else if x = 5 then (if b then nv_fl I 25 1 else 0) else if x = 6 then nI (p_cnt (p_isf (nv_fl I 25) 0) S 0) else if x = 7 then nI m else if x = 8 then nI n else -1000001) I := by
  obtain ⟨hb, hCk, hor⟩ := id hW
  obtain ⟨hN, hT, hS, hN2, hT3, hS6⟩ := id hCk
  have hN' : I 15 2 = nI N := (cf3 I 15).symm.trans hN
  have hT' : I 15 3 = nI T := (cf4 I 15).symm.trans hT
  have hS' : I 15 4 = nI S := (cf5 I 15).symm.trans hS
  have hv' : I 25 0 = nI v := (fl0 I 25).symm.trans hv
  have hl' : I 25 1 = nv_fl I 25 1 := (fl1 I 25).symm
  refine ⟨(Nat.le_of_ble_eq_true rfl), ?_⟩
  refine ev_iload_n (i := 1) dX9_count_0 rfl rfl ?_
  by_cases hw1_0 : x = 0
  · refine ev_tableIn (off := 51) (tgt := 52) dX9_count_1 (by rw [hw1_0]; decide) (by rw [hw1_0]; decide) (by rw [hw1_0]; decide) (by decide) ?_
    refine ev_aload_n (i := 0) dX9_count_52 rfl rfl ?_
    refine ev_getR fX9_10 dX9_count_53 rfl rfl (by decide) ?_
    refine s_dVi (As := []) (c_there) (Nat.le_of_ble_eq_true rfl) lX9_329 kX7_howManyThere vX7_howManyThere dX9_count_56 rfl rfl rfl (by decide) rfl (Nat.le_of_ble_eq_true rfl) ?_
    exact s_retI dX9_count_59 ⟨by
      first
        | (subst hw1_5
           rw [if_neg (by decide), if_neg (by decide), if_neg (by decide), if_neg (by decide), if_neg (by decide), if_pos rfl]
           first
             | (rw [nw_bi_0.mp h96]; rfl)
             | (rw [show b = true from by cases b; exact absurd rfl h96; rfl, ← hl']; rfl))
        | (simp_all; done), rfl⟩
  by_cases hw1_1 : x = 1
  · refine ev_tableIn (off := 59) (tgt := 60) dX9_count_1 (by rw [hw1_1]; decide) (by rw [hw1_1]; decide) (by rw [hw1_1]; decide) (by decide) ?_
    refine ev_aload_n (i := 0) dX9_count_60 rfl rfl ?_
    refine ev_getR fX9_26 dX9_count_61 rfl rfl (by decide) ?_
    refine ev_getI fX9_153 dX9_count_64 rfl rfl (by decide) ?_
    exact s_retI dX9_count_67 ⟨by
      first
        | (subst hw1_5
           rw [if_neg (by decide), if_neg (by decide), if_neg (by decide), if_neg (by decide), if_neg (by decide), if_pos rfl]
           first
             | (rw [nw_bi_0.mp h96]; rfl)
             | (rw [show b = true from by cases b; exact absurd rfl h96; rfl, ← hl']; rfl))
        | (simp_all; done), rfl⟩
  by_cases hw1_2 : x = 2
  · refine ev_tableIn (off := 67) (tgt := 68) dX9_count_1 (by rw [hw1_2]; decide) (by rw [hw1_2]; decide) (by rw [hw1_2]; decide) (by decide) ?_
    refine ev_aload_n (i := 0) dX9_count_68 rfl rfl ?_
    refine ev_getR fX9_26 dX9_count_69 rfl rfl (by decide) ?_
    refine ev_getI fX9_274 dX9_count_72 rfl rfl (by decide) ?_
    exact s_retI dX9_count_75 ⟨by
      first
        | (subst hw1_5
           rw [if_neg (by decide), if_neg (by decide), if_neg (by decide), if_neg (by decide), if_neg (by decide), if_pos rfl]
           first
             | (rw [nw_bi_0.mp h96]; rfl)
             | (rw [show b = true from by cases b; exact absurd rfl h96; rfl, ← hl']; rfl))
        | (simp_all; done), rfl⟩
  by_cases hw1_3 : x = 3
  · refine ev_tableIn (off := 75) (tgt := 76) dX9_count_1 (by rw [hw1_3]; decide) (by rw [hw1_3]; decide) (by rw [hw1_3]; decide) (by decide) ?_
    refine ev_aload_n (i := 0) dX9_count_76 rfl rfl ?_
    refine ev_getR fX9_26 dX9_count_77 rfl rfl (by decide) ?_
    refine ev_getI fX9_250 dX9_count_80 rfl rfl (by decide) ?_
    exact s_retI dX9_count_83 ⟨by
      first
        | (subst hw1_5
           rw [if_neg (by decide), if_neg (by decide), if_neg (by decide), if_neg (by decide), if_neg (by decide), if_pos rfl]
           first
             | (rw [nw_bi_0.mp h96]; rfl)
             | (rw [show b = true from by cases b; exact absurd rfl h96; rfl, ← hl']; rfl))
        | (simp_all; done), rfl⟩
  by_cases hw1_4 : x = 4
  · refine ev_tableIn (off := 83) (tgt := 84) dX9_count_1 (by rw [hw1_4]; decide) (by rw [hw1_4]; decide) (by rw [hw1_4]; decide) (by decide) ?_
    refine ev_aload_n (i := 0) dX9_count_84 rfl rfl ?_
    refine ev_getR fX9_36 dX9_count_85 rfl rfl (by decide) ?_
    refine ev_getI fX9_157 dX9_count_88 rfl rfl (by decide) ?_
    exact s_retI dX9_count_91 ⟨by
      first
        | (subst hw1_5
           rw [if_neg (by decide), if_neg (by decide), if_neg (by decide), if_neg (by decide), if_neg (by decide), if_pos rfl]
           first
             | (rw [nw_bi_0.mp h96]; rfl)
             | (rw [show b = true from by cases b; exact absurd rfl h96; rfl, ← hl']; rfl))
        | (simp_all; done), rfl⟩
  by_cases hw1_5 : x = 5
  · refine ev_tableIn (off := 91) (tgt := 92) dX9_count_1 (by rw [hw1_5]; decide) (by rw [hw1_5]; decide) (by rw [hw1_5]; decide) (by decide) ?_
    refine ev_aload_n (i := 0) dX9_count_92 rfl rfl ?_
    refine ev_getI fX9_149 dX9_count_93 rfl rfl (by decide) ?_
    rw [hb]
    refine ev_if_eq (tgt := 109) dX9_count_96 (by decide) (fun h96 => ?_) (fun h96 => ?_)
    · refine ev_iconst (v := 0) dX9_count_109 kc_0 ?_
      exact s_retI dX9_count_110 ⟨by
      first
        | (subst hw1_5
           rw [if_neg (by decide), if_neg (by decide), if_neg (by decide), if_neg (by decide), if_neg (by decide), if_pos rfl]
           first
             | (rw [nw_bi_0.mp h96]; rfl)
             | (rw [show b = true from by cases b; exact absurd rfl h96; rfl, ← hl']; rfl))
        | (simp_all; done), rfl⟩
    · refine ev_aload_n (i := 0) dX9_count_99 rfl rfl ?_
      refine ev_getR fX9_36 dX9_count_100 rfl rfl (by decide) ?_
      refine ev_getI fX9_174 dX9_count_103 rfl rfl (by decide) ?_
      refine ev_goto (tgt := 110) dX9_count_106 (by decide) ?_
      exact s_retI dX9_count_110 ⟨by
      first
        | (subst hw1_5
           rw [if_neg (by decide), if_neg (by decide), if_neg (by decide), if_neg (by decide), if_neg (by decide), if_pos rfl]
           first
             | (rw [nw_bi_0.mp h96]; rfl)
             | (rw [show b = true from by cases b; exact absurd rfl h96; rfl, ← hl']; rfl))
        | (simp_all; done), rfl⟩
  by_cases hw1_6 : x = 6
  · refine ev_tableIn (off := 110) (tgt := 111) dX9_count_1 (by rw [hw1_6]; decide) (by rw [hw1_6]; decide) (by rw [hw1_6]; decide) (by decide) ?_
    refine ev_aload_n (i := 0) dX9_count_111 rfl rfl ?_
    refine ev_getR fX9_36 dX9_count_112 rfl rfl (by decide) ?_
    refine ev_aload_n (i := 0) dX9_count_115 rfl rfl ?_
    refine ev_getR fX9_26 dX9_count_116 rfl rfl (by decide) ?_
    refine ev_iconst (v := 0) dX9_count_119 kc_0 ?_
    refine s_dVi (As := [_, _]) (c_howMany nw_sc25 nw_ch15 hS hS6 _) (Nat.le_of_ble_eq_true rfl) lX9_237 kX8_howMany vX8_howMany dX9_count_120 rfl rfl rfl (by decide) rfl (Nat.le_of_ble_eq_true rfl) ?_
    exact s_retI dX9_count_123 ⟨by
      first
        | (subst hw1_5
           rw [if_neg (by decide), if_neg (by decide), if_neg (by decide), if_neg (by decide), if_neg (by decide), if_pos rfl]
           first
             | (rw [nw_bi_0.mp h96]; rfl)
             | (rw [show b = true from by cases b; exact absurd rfl h96; rfl, ← hl']; rfl))
        | (simp_all; done), rfl⟩
  by_cases hw1_7 : x = 7
  · refine ev_tableIn (off := 123) (tgt := 124) dX9_count_1 (by rw [hw1_7]; decide) (by rw [hw1_7]; decide) (by rw [hw1_7]; decide) (by decide) ?_
    refine ev_aload_n (i := 0) dX9_count_124 rfl rfl ?_
    refine ev_getR fX9_46 dX9_count_125 rfl rfl (by decide) ?_
    refine ev_getI fX9_193 dX9_count_128 rfl rfl (by decide) ?_
    exact s_retI dX9_count_131 ⟨by
      first
        | (subst hw1_5
           rw [if_neg (by decide), if_neg (by decide), if_neg (by decide), if_neg (by decide), if_neg (by decide), if_pos rfl]
           first
             | (rw [nw_bi_0.mp h96]; rfl)
             | (rw [show b = true from by cases b; exact absurd rfl h96; rfl, ← hl']; rfl))
        | (simp_all; done), rfl⟩
  by_cases hw1_8 : x = 8
  · refine ev_tableIn (off := 131) (tgt := 132) dX9_count_1 (by rw [hw1_8]; decide) (by rw [hw1_8]; decide) (by rw [hw1_8]; decide) (by decide) ?_
    refine ev_aload_n (i := 0) dX9_count_132 rfl rfl ?_
    refine ev_getR fX9_19 dX9_count_133 rfl rfl (by decide) ?_
    refine ev_getI fX9_332 dX9_count_136 rfl rfl (by decide) ?_
    exact s_retI dX9_count_139 ⟨by
      first
        | (subst hw1_5
           rw [if_neg (by decide), if_neg (by decide), if_neg (by decide), if_neg (by decide), if_neg (by decide), if_pos rfl]
           first
             | (rw [nw_bi_0.mp h96]; rfl)
             | (rw [show b = true from by cases b; exact absurd rfl h96; rfl, ← hl']; rfl))
        | (simp_all; done), rfl⟩
  have hw1_o : (x).toInt < 0 ∨ 8 < (x).toInt := by
    have e0 : (x).toInt ≠ 0 := fun q => hw1_0 (Int32.toInt_inj.mp (by rw [q]; decide))
    have e1 : (x).toInt ≠ 1 := fun q => hw1_1 (Int32.toInt_inj.mp (by rw [q]; decide))
    have e2 : (x).toInt ≠ 2 := fun q => hw1_2 (Int32.toInt_inj.mp (by rw [q]; decide))
    have e3 : (x).toInt ≠ 3 := fun q => hw1_3 (Int32.toInt_inj.mp (by rw [q]; decide))
    have e4 : (x).toInt ≠ 4 := fun q => hw1_4 (Int32.toInt_inj.mp (by rw [q]; decide))
    have e5 : (x).toInt ≠ 5 := fun q => hw1_5 (Int32.toInt_inj.mp (by rw [q]; decide))
    have e6 : (x).toInt ≠ 6 := fun q => hw1_6 (Int32.toInt_inj.mp (by rw [q]; decide))
    have e7 : (x).toInt ≠ 7 := fun q => hw1_7 (Int32.toInt_inj.mp (by rw [q]; decide))
    have e8 : (x).toInt ≠ 8 := fun q => hw1_8 (Int32.toInt_inj.mp (by rw [q]; decide))
    omega
  refine ev_tableOut (tgt := 140) dX9_count_1 hw1_o (by decide) ?_
  refine ev_ldc qX9_79 dX9_count_140 ?_
  exact s_retI dX9_count_142 ⟨by
      first
        | (subst hw1_5
           rw [if_neg (by decide), if_neg (by decide), if_neg (by decide), if_neg (by decide), if_neg (by decide), if_pos rfl]
           first
             | (rw [nw_bi_0.mp h96]; rfl)
             | (rw [show b = true from by cases b; exact absurd rfl h96; rfl, ← hl']; rfl))
        | (simp_all; done), rfl⟩
end
