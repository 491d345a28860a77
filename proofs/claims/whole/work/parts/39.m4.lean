section
variable {l : Launch} {g : nw_G} {I : nw_Me} {N T S : Nat} {C F G : Nat → Int32} {b : Bool} {L : List (Nat → Int32)}
theorem i32_sub0 {a b : Int32} : a - b = 0 ↔ b = a := ⟨fun h => by have e := congrArg (· + b) h; simp only [Int32.sub_add_cancel, Int32.zero_add] at e; exact e.symm, fun h => by rw [h, Int32.sub_self]⟩
theorem i32_sub1 (a b : Int32) : a - (b + 1) = a - b + (-1) := by rw [Int32.sub_eq_add_neg, Int32.neg_add, Int32.sub_eq_add_neg, Int32.sub_eq_add_neg a b, Int32.add_assoc]
theorem nm_W.ext {J : nw_Me} (hW : nm_W I b N T S C F) (h1 : J 225 = I 225) (h2 : J 226 = I 226) : nm_W J b N T S C F := by unfold nm_W; rw [h1, h2]; exact hW
theorem l_mcalled {t : Nat} {i : Int32} {v : Nat} (hC : nl_C N T S C (I 225)) (hF : nl_F T S F (I 226)) (h0 : 0 < N) (hk : nv_kok N C) (hl : ¬ F 1 ≤ 0) (hv : F 0 = nI v) (hv2 : v ≤ 999) (ht : t < T) : ∀ (m w : Nat) (c n : Int32) (z : Option Value), w + m = v + 200 → nw_S l g 2 mX10_called 35 [some (.ref (nw_a g 219)), some (.int (nI t)), some (.int i), some (.int c), some (.int n), some (.int (nI w)), z] [] I (nw_qI (fun r J => r = p_called C (F 1) t m w c (i - n) ∧ J = I)) := by
  have hT3 := hC.hT
  have hS6 := hC.hS
  have f0 : I 226 0 = nI v := by rw [hF 0 (by unfold nl_f; omega)]; exact hv
  have f1 := hF 1 (by unfold nl_f; omega)
  have c1 := hC.2 (46 + t) (by unfold nl_c; omega)
  intro m
  induction m with
  | zero =>
    intro w c n z hw
    refine ev_iload dX10_called_35 rfl ?_
    refine ev_aload_n (i := 0) dX10_called_37 rfl rfl ?_
    refine ev_getR fX10_28 dX10_called_38 rfl rfl (by decide) ?_
    refine ev_iconst (v := 0) dX10_called_41 kc_0 ?_
    refine ev_ialdN (j := 0) dX10_called_42 rfl (by omega) (by decide) ?_
    rw [f0]
    refine ev_sipush (v := 200) dX10_called_43 ks_200 ?_
    refine ev_iaddN (a := v) (b := 200) dX10_called_46 ?_
    refine ev_icmp_ge (tgt := 108) dX10_called_47 (by decide) (fun h47 => ?_) (fun h47 => ?_)
    · refine ev_ldc qX10_165 dX10_called_108 ?_
      exact s_retI dX10_called_110 ⟨rfl, rfl⟩
    · exact absurd (nI_le (by omega) (by omega)) h47
  | succ m ih =>
    intro w c n z hw
    have ep : p_called C (F 1) t (m + 1) w c (i - n) = if nv_calls c (p_more C (p_kind C (nI w)) t) (F 1) = true then (if i - n = 0 then nI w else p_called C (F 1) t m (w + 1) (c + p_more C (p_kind C (nI w)) t) (i - n + (-1))) else p_called C (F 1) t m (w + 1) (c + p_more C (p_kind C (nI w)) t) (i - n) := rfl
    refine ev_iload dX10_called_35 rfl ?_
    refine ev_aload_n (i := 0) dX10_called_37 rfl rfl ?_
    refine ev_getR fX10_28 dX10_called_38 rfl rfl (by decide) ?_
    refine ev_iconst (v := 0) dX10_called_41 kc_0 ?_
    refine ev_ialdN (j := 0) dX10_called_42 rfl (by omega) (by decide) ?_
    rw [f0]
    refine ev_sipush (v := 200) dX10_called_43 ks_200 ?_
    refine ev_iaddN (a := v) (b := 200) dX10_called_46 ?_
    refine ev_icmp_ge (tgt := 108) dX10_called_47 (by decide) (fun h47 => ?_) (fun h47 => ?_)
    · exact absurd h47 (nI_ge (by omega) (by omega))
    · refine ev_aload_n (i := 0) dX10_called_50 rfl rfl ?_
      refine ev_getR fX10_25 dX10_called_51 rfl rfl (by decide) ?_
      refine ev_bipush (v := 46) dX10_called_54 kb_46 ?_
      refine ev_iload_n (i := 1) dX10_called_56 rfl rfl ?_
      refine ev_iaddN (a := 46) (b := t) dX10_called_57 ?_
      refine ev_ialdN (j := (46 + t)) dX10_called_58 rfl (by omega) (by decide) ?_
      rw [c1]
      refine ev_aload_n (i := 0) dX10_called_59 rfl rfl ?_
      refine ev_iload dX10_called_60 rfl ?_
      refine s_dVi (As := [_]) (m_sortIn hC h0 (show w < 2 ^ 31 by omega)) (Nat.le_of_ble_eq_true rfl) lX10_176 kX10_sortIn vX10_sortIn dX10_called_62 rfl rfl rfl (by decide) rfl (Nat.le_of_ble_eq_true rfl) ?_
      refine s_dSi (As := [_, _]) (m_counted _ _) (Nat.le_of_ble_eq_true rfl) lX10_186 kX10_counted sX10_counted dX10_called_65 rfl rfl (Nat.le_of_ble_eq_true rfl) ?_
      show nw_S _ _ _ _ _ _ (.int (p_more C (p_kind C (nI w)) t) :: _) _ _
      refine ev_istore dX10_called_68 (Nat.le_of_ble_eq_true rfl) rfl ?_
      refine ev_iload_n (i := 3) dX10_called_70 rfl rfl ?_
      refine ev_iload dX10_called_71 rfl ?_
      refine ev_aload_n (i := 0) dX10_called_73 rfl rfl ?_
      refine ev_getR fX10_28 dX10_called_74 rfl rfl (by decide) ?_
      refine ev_iconst (v := 1) dX10_called_77 kc_1 ?_
      refine ev_ialdN (j := 1) dX10_called_78 rfl (by omega) (by decide) ?_
      rw [f1]
      refine s_dSz (As := [_, _, _]) (m_isCalled _ _ hl) (Nat.le_of_ble_eq_true rfl) lX10_189 kX10_isCalled sX10_isCalled dX10_called_79 rfl rfl (Nat.le_of_ble_eq_true rfl) ?_
      refine s_ifZ_eq (tgt := 97) dX10_called_82 (by decide) (fun h82 => ?_) (fun h82 => ?_)
      · refine ev_iload_n (i := 3) dX10_called_97 rfl rfl ?_
        refine ev_iload dX10_called_98 rfl ?_
        refine ev_iadd dX10_called_100 ?_
        refine ev_istore_n (i := 3) dX10_called_101 rfl (Nat.le_of_ble_eq_true rfl) rfl ?_
        refine ev_iincN (a := w) dX10_called_102 rfl (Nat.le_of_ble_eq_true rfl) rfl ?_
        refine ev_goto (tgt := 35) dX10_called_105 (by decide) ?_
        rw [ep]
        first
          | (rw [if_pos h82, if_neg (fun q => h88 (i32_sub0.mp q)), ← i32_sub1]; exact ih (w + 1) _ _ _ (by omega))
          | (rw [if_neg (by rw [h82]; decide)]; exact ih (w + 1) _ _ _ (by omega))
      · refine ev_iload dX10_called_85 rfl ?_
        refine ev_iload_n (i := 2) dX10_called_87 rfl rfl ?_
        refine ev_icmp_ne (tgt := 94) dX10_called_88 (by decide) (fun h88 => ?_) (fun h88 => ?_)
        · refine ev_iincm (m := 1) dX10_called_94 kc_1 rfl (Nat.le_of_ble_eq_true rfl) rfl ?_
          refine ev_iload_n (i := 3) dX10_called_97 rfl rfl ?_
          refine ev_iload dX10_called_98 rfl ?_
          refine ev_iadd dX10_called_100 ?_
          refine ev_istore_n (i := 3) dX10_called_101 rfl (Nat.le_of_ble_eq_true rfl) rfl ?_
          refine ev_iincN (a := w) dX10_called_102 rfl (Nat.le_of_ble_eq_true rfl) rfl ?_
          refine ev_goto (tgt := 35) dX10_called_105 (by decide) ?_
          rw [ep]
          first
            | (rw [if_pos h82, if_neg (fun q => h88 (i32_sub0.mp q)), ← i32_sub1]; exact ih (w + 1) _ _ _ (by omega))
            | (rw [if_neg (by rw [h82]; decide)]; exact ih (w + 1) _ _ _ (by omega))
        · refine ev_iload dX10_called_91 rfl ?_
          exact s_retI dX10_called_93 ⟨by rw [ep, if_pos h82, if_pos (i32_sub0.mpr h88)], rfl⟩
theorem m_called (hW : nm_W I b N T S C F) (x i : Int32) : nw_dI l g 2 mX10_called [.ref (nw_a g 219), .int x, .int i] I (if nv_in x 0 (nI T - 1) && decide (0 ≤ i) then p_called C (F 1) x.toNatClampNeg 200 (F 0).toNatClampNeg (F (2 + x.toNatClampNeg)) i else -1000001) I := by
  refine ⟨(Nat.le_of_ble_eq_true rfl), ?_⟩
  obtain ⟨hb, hC, hF, hor⟩ := id hW
  have hbd := hW.bd
  have hN := hC.n
  have hT := hC.t
  have hS := hC.s
  have hN2 := hC.hN
  have hT3 := hC.hT
  have hS6 := hC.hS
  refine ev_aload_n (i := 0) dX10_called_0 rfl rfl ?_
  refine ev_iload_n (i := 1) dX10_called_1 rfl rfl ?_
  refine s_dVz (As := [_]) (m_isTower _) (Nat.le_of_ble_eq_true rfl) lX10_212 kX10_isTower vX10_isTower dX10_called_2 rfl rfl rfl (by decide) rfl (Nat.le_of_ble_eq_true rfl) ?_
  rw [hT]
  refine s_ifZ_eq (tgt := 12) dX10_called_5 (by decide) (fun h5 => ?_) (fun h5 => ?_)
  · refine ev_ldc qX10_79 dX10_called_12 ?_
    exact s_retI dX10_called_14 ⟨by rw [if_neg (by first | (simp [h5]; done) | (simp [h9]; done))], rfl⟩
  · refine ev_iload_n (i := 2) dX10_called_8 rfl rfl ?_
    refine ev_if_ge (tgt := 15) dX10_called_9 (by decide) (fun h9 => ?_) (fun h9 => ?_)
    · obtain ⟨s, hs, rfl⟩ := nv_in_S (by omega) h5
      obtain ⟨rfl, h0, h0T, hk, hsok⟩ := hW.sea (Or.inr (Or.inl (by omega)))
      obtain ⟨v, hv2, hv⟩ := hsok.2.2.1
      have hl := hsok.law
      have hfk := hsok.1
      have f0 : I 226 0 = nI v := by rw [hF 0 (by unfold nl_f; omega)]; exact hv
      refine ev_aload_n (i := 0) dX10_called_15 rfl rfl ?_
      refine ev_getR fX10_28 dX10_called_16 rfl rfl (by decide) ?_
      refine ev_iconst (v := 2) dX10_called_19 kc_2 ?_
      refine ev_iload_n (i := 1) dX10_called_20 rfl rfl ?_
      refine ev_iaddN (a := 2) (b := s) dX10_called_21 ?_
      refine ev_ialdN (j := (2 + s)) dX10_called_22 rfl (by omega) (by decide) ?_
      rw [hF (2 + s) (by unfold nl_f; omega)]
      refine ev_istore_n (i := 3) dX10_called_23 rfl (Nat.le_of_ble_eq_true rfl) rfl ?_
      refine ev_iconst (v := 0) dX10_called_24 kc_0 ?_
      refine ev_istore dX10_called_25 (Nat.le_of_ble_eq_true rfl) rfl ?_
      refine ev_aload_n (i := 0) dX10_called_27 rfl rfl ?_
      refine ev_getR fX10_28 dX10_called_28 rfl rfl (by decide) ?_
      refine ev_iconst (v := 0) dX10_called_31 kc_0 ?_
      refine ev_ialdN (j := 0) dX10_called_32 rfl (by omega) (by decide) ?_
      rw [f0]
      refine ev_istore dX10_called_33 (Nat.le_of_ble_eq_true rfl) rfl ?_
      refine s_postI (l_mcalled hC hF h0 hk hl hv hv2 hs 200 v _ _ _ (by omega)) (fun r J q => ⟨?_, q.2⟩)
      rw [if_pos (by rw [h5, Bool.true_and]; exact decide_eq_true h9), nI_clamp (by omega), hv, nI_clamp (by omega), q.1, Int32.sub_zero]
    · refine ev_ldc qX10_79 dX10_called_12 ?_
      exact s_retI dX10_called_14 ⟨by rw [if_neg (by first | (simp [h5]; done) | (simp [h9]; done))], rfl⟩
theorem l_mfit {s : Nat} {i : Int32} {v : Nat} (hC : nl_C N T S C (I 225)) (hF : nl_F T S F (I 226)) (h0 : 0 < N) (hk : nv_kok N C) (hl : ¬ F 1 ≤ 0) (hv : F 0 = nI v) (hv2 : v ≤ 999) (hs : s < S) : ∀ (m w : Nat) (n : Int32), w + m = v + 100 → nw_S l g 4 mX10_fit 25 [some (.ref (nw_a g 219)), some (.int (nI s)), some (.int i), some (.int n), some (.int (nI w))] [] I (nw_qI (fun r J => r = p_fit C (C (49 + s)) m w (i - n) ∧ J = I)) := by
  have hT3 := hC.hT
  have hS6 := hC.hS
  have f0 : I 226 0 = nI v := by rw [hF 0 (by unfold nl_f; omega)]; exact hv
  have c1 := hC.2 (49 + s) (by unfold nl_c; omega)
  intro m
  induction m with
  | zero =>
    intro w n hw
    refine ev_iload dX10_fit_25 rfl ?_
    refine ev_aload_n (i := 0) dX10_fit_27 rfl rfl ?_
    refine ev_getR fX10_28 dX10_fit_28 rfl rfl (by decide) ?_
    refine ev_iconst (v := 0) dX10_fit_31 kc_0 ?_
    refine ev_ialdN (j := 0) dX10_fit_32 rfl (by omega) (by decide) ?_
    rw [f0]
    refine ev_bipush (v := 100) dX10_fit_33 kb_100 ?_
    refine ev_iaddN (a := v) (b := 100) dX10_fit_35 ?_
    refine ev_icmp_ge (tgt := 74) dX10_fit_36 (by decide) (fun h36 => ?_) (fun h36 => ?_)
    · refine ev_ldc qX10_165 dX10_fit_74 ?_
      exact s_retI dX10_fit_76 ⟨rfl, rfl⟩
    · exact absurd (nI_le (by omega) (by omega)) h36
  | succ m ih =>
    intro w n hw
    have ep : p_fit C (C (49 + s)) (m + 1) w (i - n) = if p_wat C (nI w) < C (49 + s) then p_fit C (C (49 + s)) m (w + 1) (i - n) else if i - n = 0 then nI w else p_fit C (C (49 + s)) m (w + 1) (i - n + (-1)) := rfl
    refine ev_iload dX10_fit_25 rfl ?_
    refine ev_aload_n (i := 0) dX10_fit_27 rfl rfl ?_
    refine ev_getR fX10_28 dX10_fit_28 rfl rfl (by decide) ?_
    refine ev_iconst (v := 0) dX10_fit_31 kc_0 ?_
    refine ev_ialdN (j := 0) dX10_fit_32 rfl (by omega) (by decide) ?_
    rw [f0]
    refine ev_bipush (v := 100) dX10_fit_33 kb_100 ?_
    refine ev_iaddN (a := v) (b := 100) dX10_fit_35 ?_
    refine ev_icmp_ge (tgt := 74) dX10_fit_36 (by decide) (fun h36 => ?_) (fun h36 => ?_)
    · exact absurd h36 (nI_ge (by omega) (by omega))
    · refine ev_aload_n (i := 0) dX10_fit_39 rfl rfl ?_
      refine ev_iload dX10_fit_40 rfl ?_
      refine s_dVi (As := [_]) (m_waterIn hC h0 hk (show w < 2 ^ 31 by omega)) (Nat.le_of_ble_eq_true rfl) lX10_233 kX10_waterIn vX10_waterIn dX10_fit_42 rfl rfl rfl (by decide) rfl (Nat.le_of_ble_eq_true rfl) ?_
      refine ev_aload_n (i := 0) dX10_fit_45 rfl rfl ?_
      refine ev_getR fX10_25 dX10_fit_46 rfl rfl (by decide) ?_
      refine ev_bipush (v := 49) dX10_fit_49 kb_49 ?_
      refine ev_iload_n (i := 1) dX10_fit_51 rfl rfl ?_
      refine ev_iaddN (a := 49) (b := s) dX10_fit_52 ?_
      refine ev_ialdN (j := (49 + s)) dX10_fit_53 rfl (by omega) (by decide) ?_
      rw [c1]
      refine ev_icmp_lt (tgt := 68) dX10_fit_54 (by decide) (fun h54 => ?_) (fun h54 => ?_)
      · refine ev_iincN (a := w) dX10_fit_68 rfl (Nat.le_of_ble_eq_true rfl) rfl ?_
        refine ev_goto (tgt := 25) dX10_fit_71 (by decide) ?_
        rw [ep]
        first
          | (rw [if_pos h54]; exact ih (w + 1) _ (by omega))
          | (rw [if_neg h54, if_neg (fun q => h59 (i32_sub0.mp q)), ← i32_sub1]; exact ih (w + 1) _ (by omega))
      · refine ev_iload_n (i := 3) dX10_fit_57 rfl rfl ?_
        refine ev_iload_n (i := 2) dX10_fit_58 rfl rfl ?_
        refine ev_icmp_ne (tgt := 65) dX10_fit_59 (by decide) (fun h59 => ?_) (fun h59 => ?_)
        · refine ev_iincm (m := 1) dX10_fit_65 kc_1 rfl (Nat.le_of_ble_eq_true rfl) rfl ?_
          refine ev_iincN (a := w) dX10_fit_68 rfl (Nat.le_of_ble_eq_true rfl) rfl ?_
          refine ev_goto (tgt := 25) dX10_fit_71 (by decide) ?_
          rw [ep]
          first
            | (rw [if_pos h54]; exact ih (w + 1) _ (by omega))
            | (rw [if_neg h54, if_neg (fun q => h59 (i32_sub0.mp q)), ← i32_sub1]; exact ih (w + 1) _ (by omega))
        · refine ev_iload dX10_fit_62 rfl ?_
          exact s_retI dX10_fit_64 ⟨by rw [ep, if_neg h54, if_pos (i32_sub0.mpr h59)], rfl⟩
theorem m_fit (hW : nm_W I b N T S C F) (x i : Int32) : nw_dI l g 4 mX10_fit [.ref (nw_a g 219), .int x, .int i] I (if nv_in x 0 (nI S - 1) && decide (0 ≤ i) then p_fit C (C (49 + x.toNatClampNeg)) 100 (F 0).toNatClampNeg i else -1000001) I := by
  refine ⟨(Nat.le_of_ble_eq_true rfl), ?_⟩
  obtain ⟨hb, hC, hF, hor⟩ := id hW
  have hbd := hW.bd
  have hN := hC.n
  have hT := hC.t
  have hS := hC.s
  have hN2 := hC.hN
  have hT3 := hC.hT
  have hS6 := hC.hS
  refine ev_aload_n (i := 0) dX10_fit_0 rfl rfl ?_
  refine ev_iload_n (i := 1) dX10_fit_1 rfl rfl ?_
  refine s_dVz (As := [_]) (m_isShip _) (Nat.le_of_ble_eq_true rfl) lX10_221 kX10_isShip vX10_isShip dX10_fit_2 rfl rfl rfl (by decide) rfl (Nat.le_of_ble_eq_true rfl) ?_
  rw [hS]
  refine s_ifZ_eq (tgt := 12) dX10_fit_5 (by decide) (fun h5 => ?_) (fun h5 => ?_)
  · refine ev_ldc qX10_79 dX10_fit_12 ?_
    exact s_retI dX10_fit_14 ⟨by rw [if_neg (by first | (simp [h5]; done) | (simp [h9]; done))], rfl⟩
  · refine ev_iload_n (i := 2) dX10_fit_8 rfl rfl ?_
    refine ev_if_ge (tgt := 15) dX10_fit_9 (by decide) (fun h9 => ?_) (fun h9 => ?_)
    · obtain ⟨s, hs, rfl⟩ := nv_in_S (by omega) h5
      obtain ⟨rfl, h0, h0T, hk, hsok⟩ := hW.sea (Or.inl (by omega))
      obtain ⟨v, hv2, hv⟩ := hsok.2.2.1
      have hl := hsok.law
      have hfk := hsok.1
      have f0 : I 226 0 = nI v := by rw [hF 0 (by unfold nl_f; omega)]; exact hv
      refine ev_iconst (v := 0) dX10_fit_15 kc_0 ?_
      refine ev_istore_n (i := 3) dX10_fit_16 rfl (Nat.le_of_ble_eq_true rfl) rfl ?_
      refine ev_aload_n (i := 0) dX10_fit_17 rfl rfl ?_
      refine ev_getR fX10_28 dX10_fit_18 rfl rfl (by decide) ?_
      refine ev_iconst (v := 0) dX10_fit_21 kc_0 ?_
      refine ev_ialdN (j := 0) dX10_fit_22 rfl (by omega) (by decide) ?_
      rw [f0]
      refine ev_istore dX10_fit_23 (Nat.le_of_ble_eq_true rfl) rfl ?_
      refine s_postI (l_mfit hC hF h0 hk hl hv hv2 hs 100 v _ (by omega)) (fun r J q => ⟨?_, q.2⟩)
      rw [if_pos (by rw [h5, Bool.true_and]; exact decide_eq_true h9), nI_clamp (by omega), hv, nI_clamp (by omega), q.1, Int32.sub_zero]
    · refine ev_ldc qX10_79 dX10_fit_12 ?_
      exact s_retI dX10_fit_14 ⟨by rw [if_neg (by first | (simp [h5]; done) | (simp [h9]; done))], rfl⟩
theorem l_mhigh {n : Nat} {w0 : Int32} {v : Nat} (hC : nl_C N T S C (I 225)) (hF : nl_F T S F (I 226)) (h0 : 0 < N) (hk : nv_kok N C) (hl : ¬ F 1 ≤ 0) (hv : F 0 = nI v) (hv2 : v ≤ 999) (hn : n ≤ 100) : ∀ (m w u : Nat), w + m = v + n → u < 2 ^ 31 → nw_S l g 4 mX10_highest 50 [some (.ref (nw_a g 219)), some (.int (nI n)), some (.int w0), some (.int (nI u)), some (.int (nI w))] [] I (nw_qI (fun r J => r = (if w0 = 0 then (p_high C m w 0 (nI u, p_wat C (nI u))).1 else (p_high C m w 0 (nI u, p_wat C (nI u))).2) ∧ J = I)) := by
  have hT3 := hC.hT
  have hS6 := hC.hS
  have f0 : I 226 0 = nI v := by rw [hF 0 (by unfold nl_f; omega)]; exact hv
  intro m
  induction m with
  | zero =>
    intro w u hw hu
    refine ev_iload dX10_highest_50 rfl ?_
    refine ev_aload_n (i := 0) dX10_highest_52 rfl rfl ?_
    refine ev_getR fX10_28 dX10_highest_53 rfl rfl (by decide) ?_
    refine ev_iconst (v := 0) dX10_highest_56 kc_0 ?_
    refine ev_ialdN (j := 0) dX10_highest_57 rfl (by omega) (by decide) ?_
    rw [f0]
    refine ev_iload_n (i := 1) dX10_highest_58 rfl rfl ?_
    refine ev_iaddN (a := v) (b := n) dX10_highest_59 ?_
    refine ev_icmp_ge (tgt := 90) dX10_highest_60 (by decide) (fun h60 => ?_) (fun h60 => ?_)
    · refine ev_iload_n (i := 2) dX10_highest_90 rfl rfl ?_
      refine ev_if_ne (tgt := 98) dX10_highest_91 (by decide) (fun h91 => ?_) (fun h91 => ?_)
      · refine ev_aload_n (i := 0) dX10_highest_98 rfl rfl ?_
        refine ev_iload_n (i := 3) dX10_highest_99 rfl rfl ?_
        refine s_dVi (As := [_]) (m_waterIn hC h0 hk hu) (Nat.le_of_ble_eq_true rfl) lX10_233 kX10_waterIn vX10_waterIn dX10_highest_100 rfl rfl rfl (by decide) rfl (Nat.le_of_ble_eq_true rfl) ?_
        exact s_retI dX10_highest_103 ⟨by first | (rw [if_pos h91]; rfl) | (rw [if_neg h91]; rfl), rfl⟩
      · refine ev_iload_n (i := 3) dX10_highest_94 rfl rfl ?_
        refine ev_goto (tgt := 103) dX10_highest_95 (by decide) ?_
        exact s_retI dX10_highest_103 ⟨by first | (rw [if_pos h91]; rfl) | (rw [if_neg h91]; rfl), rfl⟩
    · exact absurd (nI_le (by omega) (by omega)) h60
  | succ m ih =>
    intro w u hw hu
    have ep : p_high C (m + 1) w 0 (nI u, p_wat C (nI u)) = if p_wat C (nI w) ≤ p_wat C (nI u) then p_high C m (w + 1) 0 (nI u, p_wat C (nI u)) else p_high C m (w + 1) 0 (nI w, p_wat C (nI w)) := rfl
    refine ev_iload dX10_highest_50 rfl ?_
    refine ev_aload_n (i := 0) dX10_highest_52 rfl rfl ?_
    refine ev_getR fX10_28 dX10_highest_53 rfl rfl (by decide) ?_
    refine ev_iconst (v := 0) dX10_highest_56 kc_0 ?_
    refine ev_ialdN (j := 0) dX10_highest_57 rfl (by omega) (by decide) ?_
    rw [f0]
    refine ev_iload_n (i := 1) dX10_highest_58 rfl rfl ?_
    refine ev_iaddN (a := v) (b := n) dX10_highest_59 ?_
    refine ev_icmp_ge (tgt := 90) dX10_highest_60 (by decide) (fun h60 => ?_) (fun h60 => ?_)
    · exact absurd h60 (nI_ge (by omega) (by omega))
    · refine ev_aload_n (i := 0) dX10_highest_63 rfl rfl ?_
      refine ev_iload dX10_highest_64 rfl ?_
      refine s_dVi (As := [_]) (m_waterIn hC h0 hk (show w < 2 ^ 31 by omega)) (Nat.le_of_ble_eq_true rfl) lX10_233 kX10_waterIn vX10_waterIn dX10_highest_66 rfl rfl rfl (by decide) rfl (Nat.le_of_ble_eq_true rfl) ?_
      refine ev_aload_n (i := 0) dX10_highest_69 rfl rfl ?_
      refine ev_iload_n (i := 3) dX10_highest_70 rfl rfl ?_
      refine s_dVi (As := [_]) (m_waterIn hC h0 hk hu) (Nat.le_of_ble_eq_true rfl) lX10_233 kX10_waterIn vX10_waterIn dX10_highest_71 rfl rfl rfl (by decide) rfl (Nat.le_of_ble_eq_true rfl) ?_
      refine ev_icmp_le (tgt := 82) dX10_highest_74 (by decide) (fun h74 => ?_) (fun h74 => ?_)
      · refine ev_iload_n (i := 3) dX10_highest_82 rfl rfl ?_
        refine ev_istore_n (i := 3) dX10_highest_83 rfl (Nat.le_of_ble_eq_true rfl) rfl ?_
        refine ev_iincN (a := w) dX10_highest_84 rfl (Nat.le_of_ble_eq_true rfl) rfl ?_
        refine ev_goto (tgt := 50) dX10_highest_87 (by decide) ?_
        rw [ep]
        first
          | (rw [if_pos h74]; exact ih (w + 1) u (by omega) hu)
          | (rw [if_neg h74]; exact ih (w + 1) w (by omega) (by omega))
      · refine ev_iload dX10_highest_77 rfl ?_
        refine ev_goto (tgt := 83) dX10_highest_79 (by decide) ?_
        refine ev_istore_n (i := 3) dX10_highest_83 rfl (Nat.le_of_ble_eq_true rfl) rfl ?_
        refine ev_iincN (a := w) dX10_highest_84 rfl (Nat.le_of_ble_eq_true rfl) rfl ?_
        refine ev_goto (tgt := 50) dX10_highest_87 (by decide) ?_
        rw [ep]
        first
          | (rw [if_pos h74]; exact ih (w + 1) u (by omega) hu)
          | (rw [if_neg h74]; exact ih (w + 1) w (by omega) (by omega))
theorem m_highest (hW : nm_W I b N T S C F) (x w : Int32) : nw_dI l g 4 mX10_highest [.ref (nw_a g 219), .int x, .int w] I (if b then (if nv_in x 1 100 && nv_in w 0 1 then (if w = 0 then (p_high C (x.toNatClampNeg - 1) ((F 0).toNatClampNeg + 1) 0 (F 0, p_wat C (F 0))).1 else (p_high C (x.toNatClampNeg - 1) ((F 0).toNatClampNeg + 1) 0 (F 0, p_wat C (F 0))).2) else -1000001) else -1000002) I := by
  refine ⟨(Nat.le_of_ble_eq_true rfl), ?_⟩
  obtain ⟨hb, hC, hF, hor⟩ := id hW
  have hbd := hW.bd
  have hN := hC.n
  have hT := hC.t
  have hS := hC.s
  have hN2 := hC.hN
  have hT3 := hC.hT
  have hS6 := hC.hS
  refine ev_aload_n (i := 0) dX10_highest_0 rfl rfl ?_
  refine s_dVz (As := []) (m_isSea) (Nat.le_of_ble_eq_true rfl) lX10_196 kX10_isSea vX10_isSea dX10_highest_1 rfl rfl rfl (by decide) rfl (Nat.le_of_ble_eq_true rfl) ?_
  rw [hbd]
  refine s_ifZ_ne (tgt := 10) dX10_highest_4 (by decide) (fun h4 => ?_) (fun h4 => ?_)
  · refine ev_iload_n (i := 1) dX10_highest_10 rfl rfl ?_
    refine ev_i2l dX10_highest_11 ?_
    refine ev_lconst (v := 1) dX10_highest_12 rfl ?_
    refine ev_ldc2 qX10_241 dX10_highest_13 ?_
    refine s_dSz (As := [_, _, _]) (m_in _ 1 100 (by decide) (by decide)) (Nat.le_of_ble_eq_true rfl) lX10_64 kX10_in sX10_in dX10_highest_16 rfl rfl (Nat.le_of_ble_eq_true rfl) ?_
    refine s_ifZ_eq (tgt := 32) dX10_highest_19 (by decide) (fun h19 => ?_) (fun h19 => ?_)
    · refine ev_ldc qX10_79 dX10_highest_32 ?_
      exact s_retI dX10_highest_34 ⟨by rw [if_pos h4, if_neg (by first | (simp [h19]; done) | (simp [h29]; done))], rfl⟩
    · refine ev_iload_n (i := 2) dX10_highest_22 rfl rfl ?_
      refine ev_i2l dX10_highest_23 ?_
      refine ev_lconst (v := 0) dX10_highest_24 rfl ?_
      refine ev_lconst (v := 1) dX10_highest_25 rfl ?_
      refine s_dSz (As := [_, _, _]) (m_in _ 0 1 (by decide) (by decide)) (Nat.le_of_ble_eq_true rfl) lX10_64 kX10_in sX10_in dX10_highest_26 rfl rfl (Nat.le_of_ble_eq_true rfl) ?_
      refine s_ifZ_ne (tgt := 35) dX10_highest_29 (by decide) (fun h29 => ?_) (fun h29 => ?_)
      · have eb : b = true := h4
        subst eb
        obtain ⟨-, h0, h0T, hk, hsok⟩ := hW.sea (Or.inr (Or.inr (Or.inr rfl)))
        obtain ⟨v, hv2, hv⟩ := hsok.2.2.1
        have hl := hsok.law
        have hfk := hsok.1
        obtain ⟨n, hn1, hn, rfl⟩ := nv_in_n (a := 1) (c := 100) h19 (by decide) (by decide)
        have f0 : I 226 0 = nI v := by rw [hF 0 (by unfold nl_f; omega)]; exact hv
        refine ev_aload_n (i := 0) dX10_highest_35 rfl rfl ?_
        refine ev_getR fX10_28 dX10_highest_36 rfl rfl (by decide) ?_
        refine ev_iconst (v := 0) dX10_highest_39 kc_0 ?_
        refine ev_ialdN (j := 0) dX10_highest_40 rfl (by omega) (by decide) ?_
        rw [f0]
        refine ev_istore_n (i := 3) dX10_highest_41 rfl (Nat.le_of_ble_eq_true rfl) rfl ?_
        refine ev_aload_n (i := 0) dX10_highest_42 rfl rfl ?_
        refine ev_getR fX10_28 dX10_highest_43 rfl rfl (by decide) ?_
        refine ev_iconst (v := 0) dX10_highest_46 kc_0 ?_
        refine ev_ialdN (j := 0) dX10_highest_47 rfl (by omega) (by decide) ?_
        rw [f0]
        refine ev_istore dX10_highest_48 (Nat.le_of_ble_eq_true rfl) rfl ?_
        refine s_postI (l_mhigh (w0 := w) hC hF h0 hk hl hv hv2 hn n v v (by omega) (by omega)) (fun r J q => ⟨?_, q.2⟩)
        have ep : p_high C n v 0 (nI v, p_wat C (nI v)) = p_high C (n - 1) (v + 1) 0 (nI v, p_wat C (nI v)) := by
          obtain ⟨m, rfl⟩ : ∃ m, n = m + 1 := ⟨n - 1, by omega⟩
          show (if p_wat C (nI v) ≤ p_wat C (nI v) then _ else _) = _
          rw [if_pos (Int32.le_refl _), Nat.add_sub_cancel]
        rw [if_pos rfl, if_pos (by rw [h19, h29]; rfl), nI_clamp (by omega), hv, nI_clamp (by omega), q.1, ep]
      · refine ev_ldc qX10_79 dX10_highest_32 ?_
        exact s_retI dX10_highest_34 ⟨by rw [if_pos h4, if_neg (by first | (simp [h19]; done) | (simp [h29]; done))], rfl⟩
  · refine ev_ldc qX10_199 dX10_highest_7 ?_
    exact s_retI dX10_highest_9 ⟨by rw [h4]; rfl, rfl⟩
theorem l_mlaws {x v : Nat} {w : Int32} (hW : nm_W I true N T S C F) (hx : x ≤ 200) : ∀ (m k : Nat) (bk mo : Int32) (J : nw_Me) (z : Option Value), k + m = 13 → 2 ≤ k → (∀ q, q ≠ 233 → J q = I q) → nw_S l g 5 mX10_laws 43 [some (.ref (nw_a g 219)), some (.int (nI x)), some (.int w), some (.int bk), some (.int mo), some (.int (nI k)), z] [] J (nw_qI (fun r K => r = (if w = 0 then (p_laws (p_lawf C T S x F) m k (bk, mo)).1 else (p_laws (p_lawf C T S x F) m k (bk, mo)).2) ∧ ∀ q, q ≠ 233 → K q = I q)) := by
  obtain ⟨-, h0, h0T, hk, hsok⟩ := hW.sea (Or.inr (Or.inr (Or.inr rfl)))
  obtain ⟨v, hv2, hv⟩ := hsok.2.2.1
  have e12 : (12 : Int32) = nI 12 := by decide
  intro m
  induction m with
  | zero =>
    intro k bk mo J z hkm hk2 hJ
    obtain rfl : k = 13 := by omega
    refine ev_iload dX10_laws_43 rfl ?_
    refine ev_bipush (v := 12) dX10_laws_45 kb_12 ?_
    refine ev_icmp_gt (tgt := 103) dX10_laws_47 (by decide) (fun h47 => ?_) (fun h47 => ?_)
    · refine ev_iload_n (i := 2) dX10_laws_103 rfl rfl ?_
      refine ev_if_ne (tgt := 111) dX10_laws_104 (by decide) (fun h104 => ?_) (fun h104 => ?_)
      · refine ev_iload dX10_laws_111 rfl ?_
        exact s_retI dX10_laws_113 ⟨by first | (rw [if_pos h104]; rfl) | (rw [if_neg h104]; rfl), hJ⟩
      · refine ev_iload_n (i := 3) dX10_laws_107 rfl rfl ?_
        refine ev_goto (tgt := 113) dX10_laws_108 (by decide) ?_
        exact s_retI dX10_laws_113 ⟨by first | (rw [if_pos h104]; rfl) | (rw [if_neg h104]; rfl), hJ⟩
    · exact absurd (by decide) h47
  | succ m ih =>
    intro k bk mo J z hkm hk2 hJ
    have hWJ := hW.ext (hJ 225 (by decide)) (hJ 226 (by decide))
    have ep : p_laws (p_lawf C T S x F) (m + 1) k (bk, mo) = if p_lawf C T S x F k ≤ mo then p_laws (p_lawf C T S x F) m (k + 1) (bk, mo) else p_laws (p_lawf C T S x F) m (k + 1) (nI k, p_lawf C T S x F k) := rfl
    refine ev_iload dX10_laws_43 rfl ?_
    refine ev_bipush (v := 12) dX10_laws_45 kb_12 ?_
    refine ev_icmp_gt (tgt := 103) dX10_laws_47 (by decide) (fun h47 => ?_) (fun h47 => ?_)
    · exact absurd h47 (by rw [e12]; exact nI_nlt (by omega) (by omega))
    · refine ev_aload_n (i := 0) dX10_laws_50 rfl rfl ?_
      refine s_callVv (As := []) (m_asNow) (Nat.le_of_ble_eq_true rfl) lX10_205 kX10_asNow vX10_asNow dX10_laws_51 rfl rfl rfl (by decide) rfl (Nat.le_of_ble_eq_true rfl) (fun J1 h1 => ?_)
      refine ev_aload_n (i := 0) dX10_laws_54 rfl rfl ?_
      refine ev_getR fX10_50 dX10_laws_55 rfl rfl (by decide) ?_
      refine ev_iconst (v := 1) dX10_laws_58 kc_1 ?_
      refine ev_iload dX10_laws_59 rfl ?_
      refine ev_iastN (j := 1) dX10_laws_61 rfl (by omega) (by decide) ?_
      refine ev_aload_n (i := 0) dX10_laws_62 rfl rfl ?_
      refine ev_iload_n (i := 1) dX10_laws_63 rfl rfl ?_
      refine s_callVv (As := [_]) (m_waves0 (x := x) (v := v) (G := upd F 1 (nI k)) (by rw [nw_up_ne (by decide), h1.2 225 (by decide)]; exact hWJ.2.1) h0 hk (by omega) (hsok.1.ext (fun p hp => pk_un (by omega))) (by rw [pk_us]; exact nI_nle (by omega) (by omega)) (by rw [pk_un (by decide)]; exact hv) (by omega) (by rw [nw_up_self]; exact (hWJ.so h1.1).upd _ _)) (Nat.le_of_ble_eq_true rfl) lX10_208 kX10_waves0 vX10_waves0 dX10_laws_64 rfl rfl rfl (by decide) rfl (Nat.le_of_ble_eq_true rfl) (fun J2 h2 => ?_)
      refine ev_aload_n (i := 0) dX10_laws_67 rfl rfl ?_
      refine ev_iconst (v := 1) dX10_laws_68 kc_1 ?_
      refine s_dVi (As := [_]) (m_many (by rw [h2.2 225 (by decide), nw_up_ne (by decide), h1.2 225 (by decide)]; exact hWJ.2.1) h2.1 _) (Nat.le_of_ble_eq_true rfl) lX10_238 kX10_many vX10_many dX10_laws_69 rfl rfl rfl (by decide) rfl (Nat.le_of_ble_eq_true rfl) ?_
      refine ev_istore dX10_laws_72 (Nat.le_of_ble_eq_true rfl) rfl ?_
      refine ev_iload dX10_laws_74 rfl ?_
      refine ev_iload dX10_laws_76 rfl ?_
      refine ev_icmp_le (tgt := 86) dX10_laws_78 (by decide) (fun h78 => ?_) (fun h78 => ?_)
      · refine ev_iload_n (i := 3) dX10_laws_86 rfl rfl ?_
        refine ev_istore_n (i := 3) dX10_laws_87 rfl (Nat.le_of_ble_eq_true rfl) rfl ?_
        refine ev_iload dX10_laws_88 rfl ?_
        refine ev_iload dX10_laws_90 rfl ?_
        refine s_dSi (As := [_, _]) (m_most _ _) (Nat.le_of_ble_eq_true rfl) lX10_169 kX10_most sX10_most dX10_laws_92 rfl rfl (Nat.le_of_ble_eq_true rfl) ?_
        refine ev_istore dX10_laws_95 (Nat.le_of_ble_eq_true rfl) rfl ?_
        refine ev_iincN (a := k) dX10_laws_97 rfl (Nat.le_of_ble_eq_true rfl) rfl ?_
        refine ev_goto (tgt := 43) dX10_laws_100 (by decide) ?_
        rw [ep]
        have hJ2 : ∀ q, q ≠ 233 → J2 q = I q := fun q hq => by rw [h2.2 q hq, nw_up_ne hq, h1.2 q hq, hJ q hq]
        first
          | (rw [if_pos (show p_lawf C T S x F k ≤ mo from h78)]
             rw [show nv_max mo (nI (p_cnt (p_isf (p_pass C T S x (upd F 1 (nI k))) 1) S 0)) = mo from if_neg (Int32.not_lt.mpr h78)]
             exact ih (k + 1) _ _ J2 _ (by omega) (by omega) hJ2)
          | (rw [if_neg (show ¬ p_lawf C T S x F k ≤ mo from h78)]
             rw [show nv_max mo (nI (p_cnt (p_isf (p_pass C T S x (upd F 1 (nI k))) 1) S 0)) = p_lawf C T S x F k from if_pos (Int32.not_le.mp h78)]
             exact ih (k + 1) _ _ J2 _ (by omega) (by omega) hJ2)
      · refine ev_iload dX10_laws_81 rfl ?_
        refine ev_goto (tgt := 87) dX10_laws_83 (by decide) ?_
        refine ev_istore_n (i := 3) dX10_laws_87 rfl (Nat.le_of_ble_eq_true rfl) rfl ?_
        refine ev_iload dX10_laws_88 rfl ?_
        refine ev_iload dX10_laws_90 rfl ?_
        refine s_dSi (As := [_, _]) (m_most _ _) (Nat.le_of_ble_eq_true rfl) lX10_169 kX10_most sX10_most dX10_laws_92 rfl rfl (Nat.le_of_ble_eq_true rfl) ?_
        refine ev_istore dX10_laws_95 (Nat.le_of_ble_eq_true rfl) rfl ?_
        refine ev_iincN (a := k) dX10_laws_97 rfl (Nat.le_of_ble_eq_true rfl) rfl ?_
        refine ev_goto (tgt := 43) dX10_laws_100 (by decide) ?_
        rw [ep]
        have hJ2 : ∀ q, q ≠ 233 → J2 q = I q := fun q hq => by rw [h2.2 q hq, nw_up_ne hq, h1.2 q hq, hJ q hq]
        first
          | (rw [if_pos (show p_lawf C T S x F k ≤ mo from h78)]
             rw [show nv_max mo (nI (p_cnt (p_isf (p_pass C T S x (upd F 1 (nI k))) 1) S 0)) = mo from if_neg (Int32.not_lt.mpr h78)]
             exact ih (k + 1) _ _ J2 _ (by omega) (by omega) hJ2)
          | (rw [if_neg (show ¬ p_lawf C T S x F k ≤ mo from h78)]
             rw [show nv_max mo (nI (p_cnt (p_isf (p_pass C T S x (upd F 1 (nI k))) 1) S 0)) = p_lawf C T S x F k from if_pos (Int32.not_le.mp h78)]
             exact ih (k + 1) _ _ J2 _ (by omega) (by omega) hJ2)
theorem p_cnt_le {f : Nat → Bool} : ∀ (n t : Nat), p_cnt f n t ≤ n
  | 0, _ => Nat.le_refl 0
  | n + 1, t => by unfold p_cnt; have := p_cnt_le (f := f) n (t + 1); split <;> omega
theorem p_laws_init {x : Nat} (hS : S ≤ 6) (a c : Int32) : p_laws (p_lawf C T S x F) 11 2 (a, -1) = p_laws (p_lawf C T S x F) 11 2 (c, -1) := by
  show (if _ then _ else _) = (if _ then _ else _)
  have h : ¬ p_lawf C T S x F 2 ≤ -1 := by
    unfold p_lawf
    intro q
    have := p_cnt_le (f := p_isf (p_pass C T S x (upd F 1 (nI 2))) 1) S 0
    rw [Int32.le_iff_toInt_le, nI_toInt (by omega)] at q
    have e : (-1 : Int32).toInt = -1 := by decide
    omega
  rw [if_neg h, if_neg h]
theorem m_laws (hW : nm_W I b N T S C F) (n w : Int32) : nw_cI l g 5 mX10_laws [.ref (nw_a g 219), .int n, .int w] I (fun r J => r = (if b then (if nv_in n 1 200 && nv_in w 0 1 then (if w = 0 then (p_laws (p_lawf C T S n.toNatClampNeg F) 11 2 (2, -1)).1 else (p_laws (p_lawf C T S n.toNatClampNeg F) 11 2 (2, -1)).2) else -1000001) else -1000002) ∧ ∀ q, q ≠ 233 → J q = I q) := by
  refine ⟨(Nat.le_of_ble_eq_true rfl), ?_⟩
  obtain ⟨hb, hC, hF, hor⟩ := id hW
  have hbd := hW.bd
  have hN := hC.n
  have hT := hC.t
  have hS := hC.s
  have hN2 := hC.hN
  have hT3 := hC.hT
  have hS6 := hC.hS
  refine ev_aload_n (i := 0) dX10_laws_0 rfl rfl ?_
  refine s_dVz (As := []) (m_isSea) (Nat.le_of_ble_eq_true rfl) lX10_196 kX10_isSea vX10_isSea dX10_laws_1 rfl rfl rfl (by decide) rfl (Nat.le_of_ble_eq_true rfl) ?_
  rw [hbd]
  refine s_ifZ_ne (tgt := 10) dX10_laws_4 (by decide) (fun h4 => ?_) (fun h4 => ?_)
  · refine ev_iload_n (i := 1) dX10_laws_10 rfl rfl ?_
    refine ev_i2l dX10_laws_11 ?_
    refine ev_lconst (v := 1) dX10_laws_12 rfl ?_
    refine ev_ldc2 qX10_236 dX10_laws_13 ?_
    refine s_dSz (As := [_, _, _]) (m_in _ 1 200 (by decide) (by decide)) (Nat.le_of_ble_eq_true rfl) lX10_64 kX10_in sX10_in dX10_laws_16 rfl rfl (Nat.le_of_ble_eq_true rfl) ?_
    refine s_ifZ_eq (tgt := 32) dX10_laws_19 (by decide) (fun h19 => ?_) (fun h19 => ?_)
    · refine ev_ldc qX10_79 dX10_laws_32 ?_
      exact s_retI dX10_laws_34 ⟨by rw [if_pos h4, if_neg (by first | (simp [h19]; done) | (simp [h29]; done))], fun _ _ => rfl⟩
    · refine ev_iload_n (i := 2) dX10_laws_22 rfl rfl ?_
      refine ev_i2l dX10_laws_23 ?_
      refine ev_lconst (v := 0) dX10_laws_24 rfl ?_
      refine ev_lconst (v := 1) dX10_laws_25 rfl ?_
      refine s_dSz (As := [_, _, _]) (m_in _ 0 1 (by decide) (by decide)) (Nat.le_of_ble_eq_true rfl) lX10_64 kX10_in sX10_in dX10_laws_26 rfl rfl (Nat.le_of_ble_eq_true rfl) ?_
      refine s_ifZ_ne (tgt := 35) dX10_laws_29 (by decide) (fun h29 => ?_) (fun h29 => ?_)
      · have eb : b = true := h4
        subst eb
        obtain ⟨-, h0, h0T, hk, hsok⟩ := hW.sea (Or.inr (Or.inr (Or.inr rfl)))
        obtain ⟨v, hv2, hv⟩ := hsok.2.2.1
        have hl := hsok.law
        have hfk := hsok.1
        obtain ⟨x, -, hx, rfl⟩ := nv_in_n (a := 1) (c := 200) h19 (by decide) (by decide)
        refine ev_iconst (v := 0) dX10_laws_35 kc_0 ?_
        refine ev_istore_n (i := 3) dX10_laws_36 rfl (Nat.le_of_ble_eq_true rfl) rfl ?_
        refine ev_iconst (v := (-1)) dX10_laws_37 kc_m1 ?_
        refine ev_istore dX10_laws_38 (Nat.le_of_ble_eq_true rfl) rfl ?_
        refine ev_iconst (v := 2) dX10_laws_40 kc_2 ?_
        refine ev_istore dX10_laws_41 (Nat.le_of_ble_eq_true rfl) rfl ?_
        refine s_postI (l_mlaws (v := v) (w := w) hW hx 11 2 _ _ I _ (by omega) (by omega) (fun _ _ => rfl)) (fun r J q => ⟨?_, q.2⟩)
        rw [if_pos rfl, if_pos (by rw [h19, h29]; rfl), nI_clamp (by omega), q.1, p_laws_init hS6 0 2]
      · refine ev_ldc qX10_79 dX10_laws_32 ?_
        exact s_retI dX10_laws_34 ⟨by rw [if_pos h4, if_neg (by first | (simp [h19]; done) | (simp [h29]; done))], fun _ _ => rfl⟩
  · refine ev_ldc qX10_199 dX10_laws_7 ?_
    exact s_retI dX10_laws_9 ⟨by rw [h4]; rfl, fun _ _ => rfl⟩
theorem l_mbribe {s t : Nat} {w : Int32} (hW : nm_W I true N T S C F) (hs : s < S) (ht : t < T) (hFt : F (11 + s) = nI t) : ∀ (m i : Nat) (r : Int32 × Int32 × Int32) (J : nw_Me) (z : Option Value), i + m = 9 → (∀ q, q ≠ 233 → J q = I q) → nw_S l g 5 mX10_bribe 53 [some (.ref (nw_a g 219)), some (.int (nI s)), some (.int w), some (.int r.1), some (.int r.2.1), some (.int r.2.2), some (.int (nI i - 4)), z] [] J (nw_qI (fun a K => a = (if w = 0 then (p_bribe C F T S s t m i r).1 else if w = 1 then (p_bribe C F T S s t m i r).2.1 else (p_bribe C F T S s t m i r).2.2) ∧ ∀ q, q ≠ 233 → K q = I q)) := by
  obtain ⟨-, h0, h0T, hk, hsok⟩ := hW.sea (Or.inr (Or.inr (Or.inr rfl)))
  obtain ⟨v, hv2, hv⟩ := hsok.2.2.1
  have hT3 := hW.2.1.hT
  have hS6 := hW.2.1.hS
  intro m
  induction m with
  | zero =>
    intro i r J z hi hJ
    obtain rfl : i = 9 := by omega
    refine ev_iload dX10_bribe_53 rfl ?_
    refine ev_iconst (v := 4) dX10_bribe_55 kc_4 ?_
    refine ev_icmp_gt (tgt := 167) dX10_bribe_56 (by decide) (fun h56 => ?_) (fun h56 => ?_)
    · refine ev_iload_n (i := 2) dX10_bribe_167 rfl rfl ?_
      refine ev_if_ne (tgt := 175) dX10_bribe_168 (by decide) (fun h168 => ?_) (fun h168 => ?_)
      · refine ev_iload_n (i := 2) dX10_bribe_175 rfl rfl ?_
        refine ev_iconst (v := 1) dX10_bribe_176 kc_1 ?_
        refine ev_icmp_ne (tgt := 185) dX10_bribe_177 (by decide) (fun h177 => ?_) (fun h177 => ?_)
        · refine ev_iload dX10_bribe_185 rfl ?_
          exact s_retI dX10_bribe_187 ⟨by first | (rw [if_pos h168]; rfl) | (rw [if_neg h168, if_pos h177]; rfl) | (rw [if_neg h168, if_neg h177]; rfl), hJ⟩
        · refine ev_iload dX10_bribe_180 rfl ?_
          refine ev_goto (tgt := 187) dX10_bribe_182 (by decide) ?_
          exact s_retI dX10_bribe_187 ⟨by first | (rw [if_pos h168]; rfl) | (rw [if_neg h168, if_pos h177]; rfl) | (rw [if_neg h168, if_neg h177]; rfl), hJ⟩
      · refine ev_iload_n (i := 3) dX10_bribe_171 rfl rfl ?_
        refine ev_goto (tgt := 187) dX10_bribe_172 (by decide) ?_
        exact s_retI dX10_bribe_187 ⟨by first | (rw [if_pos h168]; rfl) | (rw [if_neg h168, if_pos h177]; rfl) | (rw [if_neg h168, if_neg h177]; rfl), hJ⟩
    · exact absurd (by decide) h56
  | succ m ih =>
    intro i r J z hi hJ
    have hWJ := hW.ext (hJ 225 (by decide)) (hJ 226 (by decide))
    have hby := nv_by i (by omega)
    refine ev_iload dX10_bribe_53 rfl ?_
    refine ev_iconst (v := 4) dX10_bribe_55 kc_4 ?_
    refine ev_icmp_gt (tgt := 167) dX10_bribe_56 (by decide) (fun h56 => ?_) (fun h56 => ?_)
    · exact absurd (hby.1.mp h56) (by omega)
    · refine ev_aload_n (i := 0) dX10_bribe_59 rfl rfl ?_
      refine s_callVv (As := []) (m_asNow) (Nat.le_of_ble_eq_true rfl) lX10_205 kX10_asNow vX10_asNow dX10_bribe_60 rfl rfl rfl (by decide) rfl (Nat.le_of_ble_eq_true rfl) (fun J1 h1 => ?_)
      have hso := hWJ.so h1.1
      refine ev_aload_n (i := 0) dX10_bribe_63 rfl rfl ?_
      refine ev_getR fX10_50 dX10_bribe_64 rfl rfl (by decide) ?_
      refine ev_bipush (v := 11) dX10_bribe_67 kb_11 ?_
      refine ev_iload_n (i := 1) dX10_bribe_69 rfl rfl ?_
      refine ev_iaddN (a := 11) (b := s) dX10_bribe_70 ?_
      refine ev_ialdN (j := (11 + s)) dX10_bribe_71 rfl (by omega) (by decide) ?_
      rw [hso (11 + s) (by unfold nl_f; omega), hFt]
      refine ev_istore dX10_bribe_72 (Nat.le_of_ble_eq_true rfl) rfl ?_
      refine ev_aload_n (i := 0) dX10_bribe_74 rfl rfl ?_
      refine ev_getR fX10_50 dX10_bribe_75 rfl rfl (by decide) ?_
      refine ev_iconst (v := 2) dX10_bribe_78 kc_2 ?_
      refine ev_iload dX10_bribe_79 rfl ?_
      refine ev_iaddN (a := 2) (b := t) dX10_bribe_81 ?_
      refine ev_iconst (v := 0) dX10_bribe_82 kc_0 ?_
      refine ev_aload_n (i := 0) dX10_bribe_83 rfl rfl ?_
      refine ev_getR fX10_50 dX10_bribe_84 rfl rfl (by decide) ?_
      refine ev_iconst (v := 2) dX10_bribe_87 kc_2 ?_
      refine ev_iload dX10_bribe_88 rfl ?_
      refine ev_iaddN (a := 2) (b := t) dX10_bribe_90 ?_
      refine ev_ialdN (j := (2 + t)) dX10_bribe_91 rfl (by omega) (by decide) ?_
      rw [hso (2 + t) (by unfold nl_f; omega)]
      refine ev_iload dX10_bribe_92 rfl ?_
      refine ev_iadd dX10_bribe_94 ?_
      refine s_dSi (As := [_, _]) (m_most _ _) (Nat.le_of_ble_eq_true rfl) lX10_169 kX10_most sX10_most dX10_bribe_95 rfl rfl (Nat.le_of_ble_eq_true rfl) ?_
      refine ev_iastN (j := (2 + t)) dX10_bribe_98 rfl (by omega) (by decide) ?_
      refine ev_aload_n (i := 0) dX10_bribe_99 rfl rfl ?_
      refine ev_sipush (v := 200) dX10_bribe_100 ks_200 ?_
      refine s_callVv (As := [_]) (m_waves0 (x := 200) (v := v) (G := (upd F (2 + t) (nv_max 0 (F (2 + t) + (nI i - 4))))) (by rw [nw_up_ne (by decide), h1.2 225 (by decide)]; exact hWJ.2.1) h0 hk (by omega) (hsok.1.ext (fun p hp => pk_un (by omega))) (by rw [pk_un (by omega)]; exact hsok.law) (by rw [pk_un (by omega)]; exact hv) (by omega) (by rw [nw_up_self]; exact hso.upd _ _)) (Nat.le_of_ble_eq_true rfl) lX10_208 kX10_waves0 vX10_waves0 dX10_bribe_103 rfl rfl rfl (by decide) rfl (Nat.le_of_ble_eq_true rfl) (fun J2 h2 => ?_)
      refine ev_aload_n (i := 0) dX10_bribe_106 rfl rfl ?_
      refine ev_getR fX10_50 dX10_bribe_107 rfl rfl (by decide) ?_
      refine ev_bipush (v := 17) dX10_bribe_110 kb_17 ?_
      refine ev_iload_n (i := 1) dX10_bribe_112 rfl rfl ?_
      refine ev_iaddN (a := 17) (b := s) dX10_bribe_113 ?_
      refine ev_ialdN (j := (17 + s)) dX10_bribe_114 rfl (by omega) (by decide) ?_
      have g1 := h2.1 (17 + s) (by unfold nl_f; omega)
      have g2 := h2.1 (23 + s) (by unfold nl_f; omega)
      rw [g1]
      refine ev_iconst (v := 1) dX10_bribe_115 kc_1 ?_
      refine ev_icmp_ne (tgt := 161) dX10_bribe_116 (by decide) (fun h116 => ?_) (fun h116 => ?_)
      · refine ev_iincm (m := 1) dX10_bribe_161 kc_1 rfl (Nat.le_of_ble_eq_true rfl) rfl ?_
        refine ev_goto (tgt := 53) dX10_bribe_164 (by decide) ?_
        have hJ2 : ∀ q, q ≠ 233 → J2 q = I q := fun q hq => by rw [h2.2 q hq, nw_up_ne hq, h1.2 q hq, hJ q hq]
        rw [hby.2]
        show nw_S _ _ _ _ _ _ _ _ (nw_qI (fun a K => a = (if w = 0 then (p_bribe C F T S s t m (i + 1) (p_best s S (p_pass C T S 200 (upd F (2 + t) (nv_max 0 (F (2 + t) + (nI i - 4))))) (nI i - 4) r)).1 else if w = 1 then (p_bribe C F T S s t m (i + 1) (p_best s S (p_pass C T S 200 (upd F (2 + t) (nv_max 0 (F (2 + t) + (nI i - 4))))) (nI i - 4) r)).2.1 else (p_bribe C F T S s t m (i + 1) (p_best s S (p_pass C T S 200 (upd F (2 + t) (nv_max 0 (F (2 + t) + (nI i - 4))))) (nI i - 4) r)).2.2) ∧ ∀ q, q ≠ 233 → K q = I q))
        first
          | (rw [show p_best s S (p_pass C T S 200 (upd F (2 + t) (nv_max 0 (F (2 + t) + (nI i - 4))))) (nI i - 4) r = ((nI i - 4), p_pass C T S 200 (upd F (2 + t) (nv_max 0 (F (2 + t) + (nI i - 4)))) (23 + s), nI (p_cnt (p_isf (p_pass C T S 200 (upd F (2 + t) (nv_max 0 (F (2 + t) + (nI i - 4))))) 2) S 0)) from if_pos (by simp [*])]
             exact ih (i + 1) (nI i - 4, p_pass C T S 200 (upd F (2 + t) (nv_max 0 (F (2 + t) + (nI i - 4)))) (23 + s), nI (p_cnt (p_isf (p_pass C T S 200 (upd F (2 + t) (nv_max 0 (F (2 + t) + (nI i - 4))))) 2) S 0)) J2 _ (by omega) hJ2)
          | (rw [show p_best s S (p_pass C T S 200 (upd F (2 + t) (nv_max 0 (F (2 + t) + (nI i - 4))))) (nI i - 4) r = r from if_neg (by simp [*])]
             exact ih (i + 1) _ J2 _ (by omega) hJ2)
      · refine ev_iload dX10_bribe_119 rfl ?_
        refine ev_ldc qX10_165 dX10_bribe_121 ?_
        refine ev_icmp_eq (tgt := 140) dX10_bribe_123 (by decide) (fun h123 => ?_) (fun h123 => ?_)
        · refine ev_iload dX10_bribe_140 rfl ?_
          refine ev_istore_n (i := 3) dX10_bribe_142 rfl (Nat.le_of_ble_eq_true rfl) rfl ?_
          refine ev_aload_n (i := 0) dX10_bribe_143 rfl rfl ?_
          refine ev_getR fX10_50 dX10_bribe_144 rfl rfl (by decide) ?_
          refine ev_bipush (v := 23) dX10_bribe_147 kb_23 ?_
          refine ev_iload_n (i := 1) dX10_bribe_149 rfl rfl ?_
          refine ev_iaddN (a := 23) (b := s) dX10_bribe_150 ?_
          refine ev_ialdN (j := (23 + s)) dX10_bribe_151 rfl (by omega) (by decide) ?_
          rw [g2]
          refine ev_istore dX10_bribe_152 (Nat.le_of_ble_eq_true rfl) rfl ?_
          refine ev_aload_n (i := 0) dX10_bribe_154 rfl rfl ?_
          refine ev_iconst (v := 2) dX10_bribe_155 kc_2 ?_
          refine s_dVi (As := [_]) (m_many (by rw [h2.2 225 (by decide), nw_up_ne (by decide), h1.2 225 (by decide)]; exact hWJ.2.1) h2.1 _) (Nat.le_of_ble_eq_true rfl) lX10_238 kX10_many vX10_many dX10_bribe_156 rfl rfl rfl (by decide) rfl (Nat.le_of_ble_eq_true rfl) ?_
          refine ev_istore dX10_bribe_159 (Nat.le_of_ble_eq_true rfl) rfl ?_
          refine ev_iincm (m := 1) dX10_bribe_161 kc_1 rfl (Nat.le_of_ble_eq_true rfl) rfl ?_
          refine ev_goto (tgt := 53) dX10_bribe_164 (by decide) ?_
          have hJ2 : ∀ q, q ≠ 233 → J2 q = I q := fun q hq => by rw [h2.2 q hq, nw_up_ne hq, h1.2 q hq, hJ q hq]
          rw [hby.2]
          show nw_S _ _ _ _ _ _ _ _ (nw_qI (fun a K => a = (if w = 0 then (p_bribe C F T S s t m (i + 1) (p_best s S (p_pass C T S 200 (upd F (2 + t) (nv_max 0 (F (2 + t) + (nI i - 4))))) (nI i - 4) r)).1 else if w = 1 then (p_bribe C F T S s t m (i + 1) (p_best s S (p_pass C T S 200 (upd F (2 + t) (nv_max 0 (F (2 + t) + (nI i - 4))))) (nI i - 4) r)).2.1 else (p_bribe C F T S s t m (i + 1) (p_best s S (p_pass C T S 200 (upd F (2 + t) (nv_max 0 (F (2 + t) + (nI i - 4))))) (nI i - 4) r)).2.2) ∧ ∀ q, q ≠ 233 → K q = I q))
          first
            | (rw [show p_best s S (p_pass C T S 200 (upd F (2 + t) (nv_max 0 (F (2 + t) + (nI i - 4))))) (nI i - 4) r = ((nI i - 4), p_pass C T S 200 (upd F (2 + t) (nv_max 0 (F (2 + t) + (nI i - 4)))) (23 + s), nI (p_cnt (p_isf (p_pass C T S 200 (upd F (2 + t) (nv_max 0 (F (2 + t) + (nI i - 4))))) 2) S 0)) from if_pos (by simp [*])]
               exact ih (i + 1) (nI i - 4, p_pass C T S 200 (upd F (2 + t) (nv_max 0 (F (2 + t) + (nI i - 4)))) (23 + s), nI (p_cnt (p_isf (p_pass C T S 200 (upd F (2 + t) (nv_max 0 (F (2 + t) + (nI i - 4))))) 2) S 0)) J2 _ (by omega) hJ2)
            | (rw [show p_best s S (p_pass C T S 200 (upd F (2 + t) (nv_max 0 (F (2 + t) + (nI i - 4))))) (nI i - 4) r = r from if_neg (by simp [*])]
               exact ih (i + 1) _ J2 _ (by omega) hJ2)
        · refine ev_aload_n (i := 0) dX10_bribe_126 rfl rfl ?_
          refine ev_getR fX10_50 dX10_bribe_127 rfl rfl (by decide) ?_
          refine ev_bipush (v := 23) dX10_bribe_130 kb_23 ?_
          refine ev_iload_n (i := 1) dX10_bribe_132 rfl rfl ?_
          refine ev_iaddN (a := 23) (b := s) dX10_bribe_133 ?_
          refine ev_ialdN (j := (23 + s)) dX10_bribe_134 rfl (by omega) (by decide) ?_
          rw [g2]
          refine ev_iload dX10_bribe_135 rfl ?_
          refine ev_icmp_ge (tgt := 161) dX10_bribe_137 (by decide) (fun h137 => ?_) (fun h137 => ?_)
          · refine ev_iincm (m := 1) dX10_bribe_161 kc_1 rfl (Nat.le_of_ble_eq_true rfl) rfl ?_
            refine ev_goto (tgt := 53) dX10_bribe_164 (by decide) ?_
            have hJ2 : ∀ q, q ≠ 233 → J2 q = I q := fun q hq => by rw [h2.2 q hq, nw_up_ne hq, h1.2 q hq, hJ q hq]
            rw [hby.2]
            show nw_S _ _ _ _ _ _ _ _ (nw_qI (fun a K => a = (if w = 0 then (p_bribe C F T S s t m (i + 1) (p_best s S (p_pass C T S 200 (upd F (2 + t) (nv_max 0 (F (2 + t) + (nI i - 4))))) (nI i - 4) r)).1 else if w = 1 then (p_bribe C F T S s t m (i + 1) (p_best s S (p_pass C T S 200 (upd F (2 + t) (nv_max 0 (F (2 + t) + (nI i - 4))))) (nI i - 4) r)).2.1 else (p_bribe C F T S s t m (i + 1) (p_best s S (p_pass C T S 200 (upd F (2 + t) (nv_max 0 (F (2 + t) + (nI i - 4))))) (nI i - 4) r)).2.2) ∧ ∀ q, q ≠ 233 → K q = I q))
            first
              | (rw [show p_best s S (p_pass C T S 200 (upd F (2 + t) (nv_max 0 (F (2 + t) + (nI i - 4))))) (nI i - 4) r = ((nI i - 4), p_pass C T S 200 (upd F (2 + t) (nv_max 0 (F (2 + t) + (nI i - 4)))) (23 + s), nI (p_cnt (p_isf (p_pass C T S 200 (upd F (2 + t) (nv_max 0 (F (2 + t) + (nI i - 4))))) 2) S 0)) from if_pos (by simp [*])]
                 exact ih (i + 1) (nI i - 4, p_pass C T S 200 (upd F (2 + t) (nv_max 0 (F (2 + t) + (nI i - 4)))) (23 + s), nI (p_cnt (p_isf (p_pass C T S 200 (upd F (2 + t) (nv_max 0 (F (2 + t) + (nI i - 4))))) 2) S 0)) J2 _ (by omega) hJ2)
              | (rw [show p_best s S (p_pass C T S 200 (upd F (2 + t) (nv_max 0 (F (2 + t) + (nI i - 4))))) (nI i - 4) r = r from if_neg (by simp [*])]
                 exact ih (i + 1) _ J2 _ (by omega) hJ2)
          · refine ev_iload dX10_bribe_140 rfl ?_
            refine ev_istore_n (i := 3) dX10_bribe_142 rfl (Nat.le_of_ble_eq_true rfl) rfl ?_
            refine ev_aload_n (i := 0) dX10_bribe_143 rfl rfl ?_
            refine ev_getR fX10_50 dX10_bribe_144 rfl rfl (by decide) ?_
            refine ev_bipush (v := 23) dX10_bribe_147 kb_23 ?_
            refine ev_iload_n (i := 1) dX10_bribe_149 rfl rfl ?_
            refine ev_iaddN (a := 23) (b := s) dX10_bribe_150 ?_
            refine ev_ialdN (j := (23 + s)) dX10_bribe_151 rfl (by omega) (by decide) ?_
            rw [g2]
            refine ev_istore dX10_bribe_152 (Nat.le_of_ble_eq_true rfl) rfl ?_
            refine ev_aload_n (i := 0) dX10_bribe_154 rfl rfl ?_
            refine ev_iconst (v := 2) dX10_bribe_155 kc_2 ?_
            refine s_dVi (As := [_]) (m_many (by rw [h2.2 225 (by decide), nw_up_ne (by decide), h1.2 225 (by decide)]; exact hWJ.2.1) h2.1 _) (Nat.le_of_ble_eq_true rfl) lX10_238 kX10_many vX10_many dX10_bribe_156 rfl rfl rfl (by decide) rfl (Nat.le_of_ble_eq_true rfl) ?_
            refine ev_istore dX10_bribe_159 (Nat.le_of_ble_eq_true rfl) rfl ?_
            refine ev_iincm (m := 1) dX10_bribe_161 kc_1 rfl (Nat.le_of_ble_eq_true rfl) rfl ?_
            refine ev_goto (tgt := 53) dX10_bribe_164 (by decide) ?_
            have hJ2 : ∀ q, q ≠ 233 → J2 q = I q := fun q hq => by rw [h2.2 q hq, nw_up_ne hq, h1.2 q hq, hJ q hq]
            rw [hby.2]
            show nw_S _ _ _ _ _ _ _ _ (nw_qI (fun a K => a = (if w = 0 then (p_bribe C F T S s t m (i + 1) (p_best s S (p_pass C T S 200 (upd F (2 + t) (nv_max 0 (F (2 + t) + (nI i - 4))))) (nI i - 4) r)).1 else if w = 1 then (p_bribe C F T S s t m (i + 1) (p_best s S (p_pass C T S 200 (upd F (2 + t) (nv_max 0 (F (2 + t) + (nI i - 4))))) (nI i - 4) r)).2.1 else (p_bribe C F T S s t m (i + 1) (p_best s S (p_pass C T S 200 (upd F (2 + t) (nv_max 0 (F (2 + t) + (nI i - 4))))) (nI i - 4) r)).2.2) ∧ ∀ q, q ≠ 233 → K q = I q))
            first
              | (rw [show p_best s S (p_pass C T S 200 (upd F (2 + t) (nv_max 0 (F (2 + t) + (nI i - 4))))) (nI i - 4) r = ((nI i - 4), p_pass C T S 200 (upd F (2 + t) (nv_max 0 (F (2 + t) + (nI i - 4)))) (23 + s), nI (p_cnt (p_isf (p_pass C T S 200 (upd F (2 + t) (nv_max 0 (F (2 + t) + (nI i - 4))))) 2) S 0)) from if_pos (by simp [*])]
                 exact ih (i + 1) (nI i - 4, p_pass C T S 200 (upd F (2 + t) (nv_max 0 (F (2 + t) + (nI i - 4)))) (23 + s), nI (p_cnt (p_isf (p_pass C T S 200 (upd F (2 + t) (nv_max 0 (F (2 + t) + (nI i - 4))))) 2) S 0)) J2 _ (by omega) hJ2)
              | (rw [show p_best s S (p_pass C T S 200 (upd F (2 + t) (nv_max 0 (F (2 + t) + (nI i - 4))))) (nI i - 4) r = r from if_neg (by simp [*])]
                 exact ih (i + 1) _ J2 _ (by omega) hJ2)
theorem m_bribe (hW : nm_W I b N T S C F) (x w : Int32) : nw_cI l g 5 mX10_bribe [.ref (nw_a g 219), .int x, .int w] I (fun r J => r = (if nv_in x 0 (nI S - 1) && nv_in w 0 2 then (if F (17 + x.toNatClampNeg) = 0 then (if w = 0 then (p_bribe C F T S x.toNatClampNeg (F (11 + x.toNatClampNeg)).toNatClampNeg 9 0 (-1000000, -1000000, -1000000)).1 else if w = 1 then (p_bribe C F T S x.toNatClampNeg (F (11 + x.toNatClampNeg)).toNatClampNeg 9 0 (-1000000, -1000000, -1000000)).2.1 else (p_bribe C F T S x.toNatClampNeg (F (11 + x.toNatClampNeg)).toNatClampNeg 9 0 (-1000000, -1000000, -1000000)).2.2) else -1000002) else -1000001) ∧ ∀ q, q ≠ 233 → J q = I q) := by
  refine ⟨(Nat.le_of_ble_eq_true rfl), ?_⟩
  obtain ⟨hb, hC, hF, hor⟩ := id hW
  have hbd := hW.bd
  have hN := hC.n
  have hT := hC.t
  have hS := hC.s
  have hN2 := hC.hN
  have hT3 := hC.hT
  have hS6 := hC.hS
  refine ev_aload_n (i := 0) dX10_bribe_0 rfl rfl ?_
  refine ev_iload_n (i := 1) dX10_bribe_1 rfl rfl ?_
  refine s_dVz (As := [_]) (m_isShip _) (Nat.le_of_ble_eq_true rfl) lX10_221 kX10_isShip vX10_isShip dX10_bribe_2 rfl rfl rfl (by decide) rfl (Nat.le_of_ble_eq_true rfl) ?_
  rw [hS]
  refine s_ifZ_eq (tgt := 20) dX10_bribe_5 (by decide) (fun h5 => ?_) (fun h5 => ?_)
  · refine ev_ldc qX10_79 dX10_bribe_20 ?_
    exact s_retI dX10_bribe_22 ⟨by rw [if_neg (by first | (simp [h5]; done) | (simp [h17]; done))], fun _ _ => rfl⟩
  · refine ev_iload_n (i := 2) dX10_bribe_8 rfl rfl ?_
    refine ev_i2l dX10_bribe_9 ?_
    refine ev_lconst (v := 0) dX10_bribe_10 rfl ?_
    refine ev_ldc2 qX10_77 dX10_bribe_11 ?_
    refine s_dSz (As := [_, _, _]) (m_in _ 0 2 (by decide) (by decide)) (Nat.le_of_ble_eq_true rfl) lX10_64 kX10_in sX10_in dX10_bribe_14 rfl rfl (Nat.le_of_ble_eq_true rfl) ?_
    refine s_ifZ_ne (tgt := 23) dX10_bribe_17 (by decide) (fun h17 => ?_) (fun h17 => ?_)
    · obtain ⟨s, hs, rfl⟩ := nv_in_S (by omega) h5
      obtain ⟨rfl, h0, h0T, hk, hsok⟩ := hW.sea (Or.inl (by omega))
      obtain ⟨v, hv2, hv⟩ := hsok.2.2.1
      have hl := hsok.law
      have hfk := hsok.1
      obtain ⟨t, ht, hFt⟩ := hsok.2.2.2.2 s hs
      refine ev_aload_n (i := 0) dX10_bribe_23 rfl rfl ?_
      refine ev_getR fX10_28 dX10_bribe_24 rfl rfl (by decide) ?_
      refine ev_bipush (v := 17) dX10_bribe_27 kb_17 ?_
      refine ev_iload_n (i := 1) dX10_bribe_29 rfl rfl ?_
      refine ev_iaddN (a := 17) (b := s) dX10_bribe_30 ?_
      refine ev_ialdN (j := (17 + s)) dX10_bribe_31 rfl (by omega) (by decide) ?_
      rw [hF (17 + s) (by unfold nl_f; omega)]
      refine ev_if_eq (tgt := 38) dX10_bribe_32 (by decide) (fun h32 => ?_) (fun h32 => ?_)
      · refine ev_ldc qX10_165 dX10_bribe_38 ?_
        refine ev_istore_n (i := 3) dX10_bribe_40 rfl (Nat.le_of_ble_eq_true rfl) rfl ?_
        refine ev_ldc qX10_165 dX10_bribe_41 ?_
        refine ev_istore dX10_bribe_43 (Nat.le_of_ble_eq_true rfl) rfl ?_
        refine ev_ldc qX10_165 dX10_bribe_45 ?_
        refine ev_istore dX10_bribe_47 (Nat.le_of_ble_eq_true rfl) rfl ?_
        refine ev_bipush (v := (-4)) dX10_bribe_49 kb_m4 ?_
        refine ev_istore dX10_bribe_51 (Nat.le_of_ble_eq_true rfl) rfl ?_
        refine s_postI (l_mbribe (w := w) (t := t) hW hs ht hFt 9 0 (-1000000, -1000000, -1000000) I _ (by omega) (fun _ _ => rfl)) (fun r J q => ⟨?_, q.2⟩)
        rw [if_pos (by rw [h5, h17]; rfl), nI_clamp (by omega), if_pos h32, hFt, nI_clamp (by omega), q.1]
      · refine ev_ldc qX10_199 dX10_bribe_35 ?_
        exact s_retI dX10_bribe_37 ⟨by rw [if_pos (by rw [h5, h17]; rfl), nI_clamp (by omega), if_neg h32], fun _ _ => rfl⟩
    · refine ev_ldc qX10_79 dX10_bribe_20 ?_
      exact s_retI dX10_bribe_22 ⟨by rw [if_neg (by first | (simp [h5]; done) | (simp [h17]; done))], fun _ _ => rfl⟩
theorem l_mheed {s : Nat} (hW : nm_W I true N T S C F) (hs : s < S) : ∀ (m t : Nat) (r : Int32 × Int32 × Int32) (J : nw_Me), t + m = T → (∀ q, q ≠ 233 → J q = I q) → nw_S l g 5 mX10_heed 35 [some (.ref (nw_a g 219)), some (.int (nI s)), some (.int r.1), some (.int r.2.1), some (.int (nI t))] [] J (nw_qI (fun a K => a = (p_heed C F T S s m t r).1 ∧ ∀ q, q ≠ 233 → K q = I q)) := by
  obtain ⟨-, h0, h0T, hk, hsok⟩ := hW.sea (Or.inr (Or.inr (Or.inr rfl)))
  obtain ⟨v, hv2, hv⟩ := hsok.2.2.1
  have hT3 := hW.2.1.hT
  have hS6 := hW.2.1.hS
  have hT := hW.2.1.t
  intro m
  induction m with
  | zero =>
    intro t r J ht hJ
    refine ev_iload dX10_heed_35 rfl ?_
    refine ev_aload_n (i := 0) dX10_heed_37 rfl rfl ?_
    refine ev_getR fX10_25 dX10_heed_38 rfl rfl (by decide) ?_
    refine ev_iconst (v := 4) dX10_heed_41 kc_4 ?_
    refine ev_ialdN (j := 4) dX10_heed_42 rfl (by omega) (by decide) ?_
    rw [hJ 225 (by decide), hT]
    refine ev_icmp_ge (tgt := 119) dX10_heed_43 (by decide) (fun h43 => ?_) (fun h43 => ?_)
    · refine ev_iload_n (i := 2) dX10_heed_119 rfl rfl ?_
      exact s_retI dX10_heed_120 ⟨rfl, hJ⟩
    · exact absurd (nI_le (by omega) (by omega)) h43
  | succ m ih =>
    intro t r J ht hJ
    have hWJ := hW.ext (hJ 225 (by decide)) (hJ 226 (by decide))
    refine ev_iload dX10_heed_35 rfl ?_
    refine ev_aload_n (i := 0) dX10_heed_37 rfl rfl ?_
    refine ev_getR fX10_25 dX10_heed_38 rfl rfl (by decide) ?_
    refine ev_iconst (v := 4) dX10_heed_41 kc_4 ?_
    refine ev_ialdN (j := 4) dX10_heed_42 rfl (by omega) (by decide) ?_
    rw [hJ 225 (by decide), hT]
    refine ev_icmp_ge (tgt := 119) dX10_heed_43 (by decide) (fun h43 => ?_) (fun h43 => ?_)
    · exact absurd h43 (nI_ge (by omega) (by omega))
    · refine ev_aload_n (i := 0) dX10_heed_46 rfl rfl ?_
      refine s_callVv (As := []) (m_asNow) (Nat.le_of_ble_eq_true rfl) lX10_205 kX10_asNow vX10_asNow dX10_heed_47 rfl rfl rfl (by decide) rfl (Nat.le_of_ble_eq_true rfl) (fun J1 h1 => ?_)
      have hso := hWJ.so h1.1
      refine ev_aload_n (i := 0) dX10_heed_50 rfl rfl ?_
      refine ev_getR fX10_50 dX10_heed_51 rfl rfl (by decide) ?_
      refine ev_bipush (v := 11) dX10_heed_54 kb_11 ?_
      refine ev_iload_n (i := 1) dX10_heed_56 rfl rfl ?_
      refine ev_iaddN (a := 11) (b := s) dX10_heed_57 ?_
      refine ev_iload dX10_heed_58 rfl ?_
      refine ev_iastN (j := (11 + s)) dX10_heed_60 rfl (by omega) (by decide) ?_
      refine ev_aload_n (i := 0) dX10_heed_61 rfl rfl ?_
      refine ev_sipush (v := 200) dX10_heed_62 ks_200 ?_
      refine s_callVv (As := [_]) (m_waves0 (x := 200) (v := v) (G := (upd F (11 + s) (nI t))) (by rw [nw_up_ne (by decide), h1.2 225 (by decide)]; exact hWJ.2.1) h0 hk (by omega) (hsok.1.ext (fun p hp => pk_un (by omega))) (by rw [pk_un (by omega)]; exact hsok.law) (by rw [pk_un (by omega)]; exact hv) (by omega) (by rw [nw_up_self]; exact hso.upd _ _)) (Nat.le_of_ble_eq_true rfl) lX10_208 kX10_waves0 vX10_waves0 dX10_heed_65 rfl rfl rfl (by decide) rfl (Nat.le_of_ble_eq_true rfl) (fun J2 h2 => ?_)
      refine ev_aload_n (i := 0) dX10_heed_68 rfl rfl ?_
      refine ev_getR fX10_50 dX10_heed_69 rfl rfl (by decide) ?_
      refine ev_bipush (v := 17) dX10_heed_72 kb_17 ?_
      refine ev_iload_n (i := 1) dX10_heed_74 rfl rfl ?_
      refine ev_iaddN (a := 17) (b := s) dX10_heed_75 ?_
      refine ev_ialdN (j := (17 + s)) dX10_heed_76 rfl (by omega) (by decide) ?_
      have g1 := h2.1 (17 + s) (by unfold nl_f; omega)
      have g2 := h2.1 (23 + s) (by unfold nl_f; omega)
      rw [g1]
      refine ev_iconst (v := 1) dX10_heed_77 kc_1 ?_
      refine ev_icmp_ne (tgt := 113) dX10_heed_78 (by decide) (fun h78 => ?_) (fun h78 => ?_)
      · refine ev_iincN (a := t) dX10_heed_113 rfl (Nat.le_of_ble_eq_true rfl) rfl ?_
        refine ev_goto (tgt := 35) dX10_heed_116 (by decide) ?_
        have hJ2 : ∀ q, q ≠ 233 → J2 q = I q := fun q hq => by rw [h2.2 q hq, nw_up_ne hq, h1.2 q hq, hJ q hq]
        show nw_S _ _ _ _ _ _ _ _ (nw_qI (fun a K => a = (p_heed C F T S s m (t + 1) (p_best s S (p_pass C T S 200 (upd F (11 + s) (nI t))) (nI t) r)).1 ∧ ∀ q, q ≠ 233 → K q = I q))
        first
          | (rw [show p_best s S (p_pass C T S 200 (upd F (11 + s) (nI t))) (nI t) r = ((nI t), p_pass C T S 200 (upd F (11 + s) (nI t)) (23 + s), nI (p_cnt (p_isf (p_pass C T S 200 (upd F (11 + s) (nI t))) 2) S 0)) from if_pos (by simp [*])]
             exact ih (t + 1) (nI t, p_pass C T S 200 (upd F (11 + s) (nI t)) (23 + s), nI (p_cnt (p_isf (p_pass C T S 200 (upd F (11 + s) (nI t))) 2) S 0)) J2 (by omega) hJ2)
          | (rw [show p_best s S (p_pass C T S 200 (upd F (11 + s) (nI t))) (nI t) r = r from if_neg (by simp [*])]
             exact ih (t + 1) _ J2 (by omega) hJ2)
      · refine ev_iload_n (i := 3) dX10_heed_81 rfl rfl ?_
        refine ev_ldc qX10_165 dX10_heed_82 ?_
        refine ev_icmp_eq (tgt := 100) dX10_heed_84 (by decide) (fun h84 => ?_) (fun h84 => ?_)
        · refine ev_iload dX10_heed_100 rfl ?_
          refine ev_istore_n (i := 2) dX10_heed_102 rfl (Nat.le_of_ble_eq_true rfl) rfl ?_
          refine ev_aload_n (i := 0) dX10_heed_103 rfl rfl ?_
          refine ev_getR fX10_50 dX10_heed_104 rfl rfl (by decide) ?_
          refine ev_bipush (v := 23) dX10_heed_107 kb_23 ?_
          refine ev_iload_n (i := 1) dX10_heed_109 rfl rfl ?_
          refine ev_iaddN (a := 23) (b := s) dX10_heed_110 ?_
          refine ev_ialdN (j := (23 + s)) dX10_heed_111 rfl (by omega) (by decide) ?_
          rw [g2]
          refine ev_istore_n (i := 3) dX10_heed_112 rfl (Nat.le_of_ble_eq_true rfl) rfl ?_
          refine ev_iincN (a := t) dX10_heed_113 rfl (Nat.le_of_ble_eq_true rfl) rfl ?_
          refine ev_goto (tgt := 35) dX10_heed_116 (by decide) ?_
          have hJ2 : ∀ q, q ≠ 233 → J2 q = I q := fun q hq => by rw [h2.2 q hq, nw_up_ne hq, h1.2 q hq, hJ q hq]
          show nw_S _ _ _ _ _ _ _ _ (nw_qI (fun a K => a = (p_heed C F T S s m (t + 1) (p_best s S (p_pass C T S 200 (upd F (11 + s) (nI t))) (nI t) r)).1 ∧ ∀ q, q ≠ 233 → K q = I q))
          first
            | (rw [show p_best s S (p_pass C T S 200 (upd F (11 + s) (nI t))) (nI t) r = ((nI t), p_pass C T S 200 (upd F (11 + s) (nI t)) (23 + s), nI (p_cnt (p_isf (p_pass C T S 200 (upd F (11 + s) (nI t))) 2) S 0)) from if_pos (by simp [*])]
               exact ih (t + 1) (nI t, p_pass C T S 200 (upd F (11 + s) (nI t)) (23 + s), nI (p_cnt (p_isf (p_pass C T S 200 (upd F (11 + s) (nI t))) 2) S 0)) J2 (by omega) hJ2)
            | (rw [show p_best s S (p_pass C T S 200 (upd F (11 + s) (nI t))) (nI t) r = r from if_neg (by simp [*])]
               exact ih (t + 1) _ J2 (by omega) hJ2)
        · refine ev_aload_n (i := 0) dX10_heed_87 rfl rfl ?_
          refine ev_getR fX10_50 dX10_heed_88 rfl rfl (by decide) ?_
          refine ev_bipush (v := 23) dX10_heed_91 kb_23 ?_
          refine ev_iload_n (i := 1) dX10_heed_93 rfl rfl ?_
          refine ev_iaddN (a := 23) (b := s) dX10_heed_94 ?_
          refine ev_ialdN (j := (23 + s)) dX10_heed_95 rfl (by omega) (by decide) ?_
          rw [g2]
          refine ev_iload_n (i := 3) dX10_heed_96 rfl rfl ?_
          refine ev_icmp_ge (tgt := 113) dX10_heed_97 (by decide) (fun h97 => ?_) (fun h97 => ?_)
          · refine ev_iincN (a := t) dX10_heed_113 rfl (Nat.le_of_ble_eq_true rfl) rfl ?_
            refine ev_goto (tgt := 35) dX10_heed_116 (by decide) ?_
            have hJ2 : ∀ q, q ≠ 233 → J2 q = I q := fun q hq => by rw [h2.2 q hq, nw_up_ne hq, h1.2 q hq, hJ q hq]
            show nw_S _ _ _ _ _ _ _ _ (nw_qI (fun a K => a = (p_heed C F T S s m (t + 1) (p_best s S (p_pass C T S 200 (upd F (11 + s) (nI t))) (nI t) r)).1 ∧ ∀ q, q ≠ 233 → K q = I q))
            first
              | (rw [show p_best s S (p_pass C T S 200 (upd F (11 + s) (nI t))) (nI t) r = ((nI t), p_pass C T S 200 (upd F (11 + s) (nI t)) (23 + s), nI (p_cnt (p_isf (p_pass C T S 200 (upd F (11 + s) (nI t))) 2) S 0)) from if_pos (by simp [*])]
                 exact ih (t + 1) (nI t, p_pass C T S 200 (upd F (11 + s) (nI t)) (23 + s), nI (p_cnt (p_isf (p_pass C T S 200 (upd F (11 + s) (nI t))) 2) S 0)) J2 (by omega) hJ2)
              | (rw [show p_best s S (p_pass C T S 200 (upd F (11 + s) (nI t))) (nI t) r = r from if_neg (by simp [*])]
                 exact ih (t + 1) _ J2 (by omega) hJ2)
          · refine ev_iload dX10_heed_100 rfl ?_
            refine ev_istore_n (i := 2) dX10_heed_102 rfl (Nat.le_of_ble_eq_true rfl) rfl ?_
            refine ev_aload_n (i := 0) dX10_heed_103 rfl rfl ?_
            refine ev_getR fX10_50 dX10_heed_104 rfl rfl (by decide) ?_
            refine ev_bipush (v := 23) dX10_heed_107 kb_23 ?_
            refine ev_iload_n (i := 1) dX10_heed_109 rfl rfl ?_
            refine ev_iaddN (a := 23) (b := s) dX10_heed_110 ?_
            refine ev_ialdN (j := (23 + s)) dX10_heed_111 rfl (by omega) (by decide) ?_
            rw [g2]
            refine ev_istore_n (i := 3) dX10_heed_112 rfl (Nat.le_of_ble_eq_true rfl) rfl ?_
            refine ev_iincN (a := t) dX10_heed_113 rfl (Nat.le_of_ble_eq_true rfl) rfl ?_
            refine ev_goto (tgt := 35) dX10_heed_116 (by decide) ?_
            have hJ2 : ∀ q, q ≠ 233 → J2 q = I q := fun q hq => by rw [h2.2 q hq, nw_up_ne hq, h1.2 q hq, hJ q hq]
            show nw_S _ _ _ _ _ _ _ _ (nw_qI (fun a K => a = (p_heed C F T S s m (t + 1) (p_best s S (p_pass C T S 200 (upd F (11 + s) (nI t))) (nI t) r)).1 ∧ ∀ q, q ≠ 233 → K q = I q))
            first
              | (rw [show p_best s S (p_pass C T S 200 (upd F (11 + s) (nI t))) (nI t) r = ((nI t), p_pass C T S 200 (upd F (11 + s) (nI t)) (23 + s), nI (p_cnt (p_isf (p_pass C T S 200 (upd F (11 + s) (nI t))) 2) S 0)) from if_pos (by simp [*])]
                 exact ih (t + 1) (nI t, p_pass C T S 200 (upd F (11 + s) (nI t)) (23 + s), nI (p_cnt (p_isf (p_pass C T S 200 (upd F (11 + s) (nI t))) 2) S 0)) J2 (by omega) hJ2)
              | (rw [show p_best s S (p_pass C T S 200 (upd F (11 + s) (nI t))) (nI t) r = r from if_neg (by simp [*])]
                 exact ih (t + 1) _ J2 (by omega) hJ2)
theorem m_heed (hW : nm_W I b N T S C F) (x : Int32) : nw_cI l g 5 mX10_heed [.ref (nw_a g 219), .int x] I (fun r J => r = (if nv_in x 0 (nI S - 1) then (if F (17 + x.toNatClampNeg) = 0 then (p_heed C F T S x.toNatClampNeg T 0 (-1000000, -1000000, -1000000)).1 else -1000002) else -1000001) ∧ ∀ q, q ≠ 233 → J q = I q) := by
  refine ⟨(Nat.le_of_ble_eq_true rfl), ?_⟩
  obtain ⟨hb, hC, hF, hor⟩ := id hW
  have hbd := hW.bd
  have hN := hC.n
  have hT := hC.t
  have hS := hC.s
  have hN2 := hC.hN
  have hT3 := hC.hT
  have hS6 := hC.hS
  refine ev_aload_n (i := 0) dX10_heed_0 rfl rfl ?_
  refine ev_iload_n (i := 1) dX10_heed_1 rfl rfl ?_
  refine s_dVz (As := [_]) (m_isShip _) (Nat.le_of_ble_eq_true rfl) lX10_221 kX10_isShip vX10_isShip dX10_heed_2 rfl rfl rfl (by decide) rfl (Nat.le_of_ble_eq_true rfl) ?_
  rw [hS]
  refine s_ifZ_ne (tgt := 11) dX10_heed_5 (by decide) (fun h5 => ?_) (fun h5 => ?_)
  · obtain ⟨s, hs, rfl⟩ := nv_in_S (by omega) h5
    obtain ⟨rfl, h0, h0T, hk, hsok⟩ := hW.sea (Or.inl (by omega))
    obtain ⟨v, hv2, hv⟩ := hsok.2.2.1
    have hl := hsok.law
    have hfk := hsok.1
    refine ev_aload_n (i := 0) dX10_heed_11 rfl rfl ?_
    refine ev_getR fX10_28 dX10_heed_12 rfl rfl (by decide) ?_
    refine ev_bipush (v := 17) dX10_heed_15 kb_17 ?_
    refine ev_iload_n (i := 1) dX10_heed_17 rfl rfl ?_
    refine ev_iaddN (a := 17) (b := s) dX10_heed_18 ?_
    refine ev_ialdN (j := (17 + s)) dX10_heed_19 rfl (by omega) (by decide) ?_
    rw [hF (17 + s) (by unfold nl_f; omega)]
    refine ev_if_eq (tgt := 26) dX10_heed_20 (by decide) (fun h20 => ?_) (fun h20 => ?_)
    · refine ev_ldc qX10_165 dX10_heed_26 ?_
      refine ev_istore_n (i := 2) dX10_heed_28 rfl (Nat.le_of_ble_eq_true rfl) rfl ?_
      refine ev_ldc qX10_165 dX10_heed_29 ?_
      refine ev_istore_n (i := 3) dX10_heed_31 rfl (Nat.le_of_ble_eq_true rfl) rfl ?_
      refine ev_iconst (v := 0) dX10_heed_32 kc_0 ?_
      refine ev_istore dX10_heed_33 (Nat.le_of_ble_eq_true rfl) rfl ?_
      refine s_postI (l_mheed hW hs T 0 (-1000000, -1000000, -1000000) I (by omega) (fun _ _ => rfl)) (fun r J q => ⟨?_, q.2⟩)
      rw [if_pos h5, nI_clamp (by omega), if_pos h20, q.1]
    · refine ev_ldc qX10_199 dX10_heed_23 ?_
      exact s_retI dX10_heed_25 ⟨by rw [if_pos h5, nI_clamp (by omega), if_neg h20], fun _ _ => rfl⟩
  · refine ev_ldc qX10_79 dX10_heed_8 ?_
    exact s_retI dX10_heed_10 ⟨by rw [if_neg (by rw [h5]; decide)], fun _ _ => rfl⟩
end
