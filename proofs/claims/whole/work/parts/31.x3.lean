section
variable {l : Launch} {g : nw_G} {I : nw_Me} {N T S : Nat} {b : Bool}
theorem nv_W.sea (hW : nv_W I b N T S) (h : 0 < S ∨ 0 < T ∨ 0 < N ∨ b = true) : b = true ∧ 0 < N ∧ 0 < T ∧ nv_kok N (nv_cf I 15) ∧ nv_sok T S (nv_fl I 25) := by
  rcases hW.2.2 with q | ⟨rfl, rfl, rfl, rfl⟩
  · exact q
  · exfalso
    rcases h with h | h | h | h
    · omega
    · omega
    · omega
    · cases h
theorem nv_W.ext {J : nw_Me} (hW : nv_W I b N T S) (h0 : J 0 10 = I 0 10) (hc : nv_cf J 15 = nv_cf I 15) (hf : nv_fl J 25 = nv_fl I 25) : nv_W J b N T S := by
  obtain ⟨a1, a2, a3⟩ := hW
  exact ⟨h0.trans a1, by rw [hc]; exact a2, by rw [hc, hf]; exact a3⟩
theorem c_foretell (hW : nv_W I true N T S) {x : Nat} (hx : x ≤ 200) : nw_cV l g 5 mX9_foretell [.ref (nw_a g 0), .int (nI x)] I (fun J => nv_fl J 31 = p_pass (nv_cf I 15) T S x (nv_fl I 25) ∧ nv_fr I J 31 6) := by
  obtain ⟨-, h0, h0T, hk, hF, -, ⟨v, hv, hv2⟩, -, -⟩ := hW.sea (Or.inr (Or.inr (Or.inr rfl)))
  refine ⟨(Nat.le_of_ble_eq_true rfl), ?_⟩
  refine ev_aload_n (i := 0) dX9_foretell_0 rfl rfl ?_
  refine ev_getR fX9_40 dX9_foretell_1 rfl rfl (by decide) ?_
  refine ev_aload_n (i := 0) dX9_foretell_4 rfl rfl ?_
  refine ev_getR fX9_36 dX9_foretell_5 rfl rfl (by decide) ?_
  refine s_callVv (As := [_]) (c_scBecome nw_sc31 nw_sc25 (by omega)) (Nat.le_of_ble_eq_true rfl) lX9_143 kX8_become vX8_become dX9_foretell_8 rfl rfl rfl (by decide) rfl (Nat.le_of_ble_eq_true rfl) (fun J1 h1 => ?_)
  refine ev_aload_n (i := 0) dX9_foretell_11 rfl rfl ?_
  refine ev_getR fX9_40 dX9_foretell_12 rfl rfl (by decide) ?_
  refine ev_aload_n (i := 0) dX9_foretell_15 rfl rfl ?_
  refine ev_getR fX9_26 dX9_foretell_16 rfl rfl (by decide) ?_
  refine ev_iload_n (i := 1) dX9_foretell_19 rfl rfl ?_
  refine s_callVv (As := [_, _]) (c_pass (N := N) (T := T) (S := S) nw_sc31 nw_ch15 (by omega) (by rw [h1.2.cf (by omega)]; exact hW.2.1) h0 (by rw [h1.1]; exact hF) (by rw [h1.1]; exact hv2) (by omega) (by omega)) (Nat.le_of_ble_eq_true rfl) lX9_267 kX8_pass vX8_pass dX9_foretell_20 rfl rfl rfl (by decide) rfl (Nat.le_of_ble_eq_true rfl) (fun J2 h2 => ?_)
  exact s_retV dX9_foretell_23 (by rw [h1.1, h1.2.cf (by omega)] at h2; exact ⟨h2.1, h1.2.trans h2.2⟩)
theorem x_ahead (hW : nv_W I b N T S) (n w : Int32) : nw_cI l g 6 mX9_ahead [.ref (nw_a g 0), .int n, .int w] I (fun r J => r = (if b then (if nv_in n 0 200 && nv_in w 0 1 then nI (p_cnt (p_isf (p_pass (nv_cf I 15) T S n.toNatClampNeg (nv_fl I 25)) (if w = 0 then 1 else 2)) S 0) else -1000001) else -1000002) ∧ nv_fr I J 31 6) := by
  obtain ⟨hb, hCk, hor⟩ := id hW
  obtain ⟨hN, hT, hS, hN2, hT3, hS6⟩ := id hCk
  have hN' : I 15 2 = nI N := (cf3 I 15).symm.trans hN
  have hT' : I 15 3 = nI T := (cf4 I 15).symm.trans hT
  have hS' : I 15 4 = nI S := (cf5 I 15).symm.trans hS
  refine ⟨(Nat.le_of_ble_eq_true rfl), ?_⟩
  refine ev_aload_n (i := 0) dX9_ahead_0 rfl rfl ?_
  refine ev_getI fX9_149 dX9_ahead_1 rfl rfl (by decide) ?_
  rw [hb]
  refine ev_if_ne (tgt := 10) dX9_ahead_4 (by decide) (fun h4 => ?_) (fun h4 => ?_)
  · refine ev_iload_n (i := 1) dX9_ahead_10 rfl rfl ?_
    refine ev_iconst (v := 0) dX9_ahead_11 kc_0 ?_
    refine ev_sipush (v := 200) dX9_ahead_12 ks_200 ?_
    refine s_dSz (As := [_, _, _]) (c_within _ _ _) (Nat.le_of_ble_eq_true rfl) lX9_75 kX9_within sX9_within dX9_ahead_15 rfl rfl (Nat.le_of_ble_eq_true rfl) ?_
    refine s_ifZ_eq (tgt := 30) dX9_ahead_18 (by decide) (fun h18 => ?_) (fun h18 => ?_)
    · refine ev_ldc qX9_79 dX9_ahead_30 ?_
      exact s_retI dX9_ahead_32 (by
      first
        | (have eb : b = false := nw_bi_0.mp h4
           subst eb
           exact ⟨rfl, nv_fr.refl _ _ _⟩)
        | (have eb : b = true := by cases b; exact absurd rfl h4; rfl
           subst eb
           refine ⟨?_, nv_fr.refl _ _ _⟩
           simp_all; done)
        | (refine ⟨?_, hq.2⟩
           rw [if_pos rfl, if_pos (by simp_all), em, hq.1]
           first | rw [if_pos h47] | rw [if_neg h47]))
    · refine ev_iload_n (i := 2) dX9_ahead_21 rfl rfl ?_
      refine ev_iconst (v := 0) dX9_ahead_22 kc_0 ?_
      refine ev_iconst (v := 1) dX9_ahead_23 kc_1 ?_
      refine s_dSz (As := [_, _, _]) (c_within _ _ _) (Nat.le_of_ble_eq_true rfl) lX9_75 kX9_within sX9_within dX9_ahead_24 rfl rfl (Nat.le_of_ble_eq_true rfl) ?_
      refine s_ifZ_ne (tgt := 33) dX9_ahead_27 (by decide) (fun h27 => ?_) (fun h27 => ?_)
      · have eb : b = true := by cases b; exact absurd rfl h4; rfl
        subst eb
        obtain ⟨m, -, hn2, rfl⟩ := nv_in_n (a := 0) (c := 200) h18 (by decide) (by decide)
        have em : (nI m).toNatClampNeg = m := nI_clamp (by omega)
        refine ev_aload_n (i := 0) dX9_ahead_33 rfl rfl ?_
        refine ev_iload_n (i := 1) dX9_ahead_34 rfl rfl ?_
        refine s_callVv (As := [_]) (c_foretell hW hn2) (Nat.le_of_ble_eq_true rfl) lX9_233 kX9_foretell vX9_foretell dX9_ahead_35 rfl rfl rfl (by decide) rfl (Nat.le_of_ble_eq_true rfl) (fun J hq => ?_)
        refine ev_aload_n (i := 0) dX9_ahead_38 rfl rfl ?_
        refine ev_getR fX9_40 dX9_ahead_39 rfl rfl (by decide) ?_
        refine ev_aload_n (i := 0) dX9_ahead_42 rfl rfl ?_
        refine ev_getR fX9_26 dX9_ahead_43 rfl rfl (by decide) ?_
        refine ev_iload_n (i := 2) dX9_ahead_46 rfl rfl ?_
        refine ev_if_ne (tgt := 54) dX9_ahead_47 (by decide) (fun h47 => ?_) (fun h47 => ?_)
        · refine ev_iconst (v := 2) dX9_ahead_54 kc_2 ?_
          refine s_dVi (As := [_, _]) (c_howMany nw_sc31 nw_ch15 (by rw [hq.2.cf (by omega)]; exact hS) hS6 _) (Nat.le_of_ble_eq_true rfl) lX9_237 kX8_howMany vX8_howMany dX9_ahead_55 rfl rfl rfl (by decide) rfl (Nat.le_of_ble_eq_true rfl) ?_
          exact s_retI dX9_ahead_58 (by
      first
        | (have eb : b = false := nw_bi_0.mp h4
           subst eb
           exact ⟨rfl, nv_fr.refl _ _ _⟩)
        | (have eb : b = true := by cases b; exact absurd rfl h4; rfl
           subst eb
           refine ⟨?_, nv_fr.refl _ _ _⟩
           simp_all; done)
        | (refine ⟨?_, hq.2⟩
           rw [if_pos rfl, if_pos (by simp_all), em, hq.1]
           first | rw [if_pos h47] | rw [if_neg h47]))
        · refine ev_iconst (v := 1) dX9_ahead_50 kc_1 ?_
          refine ev_goto (tgt := 55) dX9_ahead_51 (by decide) ?_
          refine s_dVi (As := [_, _]) (c_howMany nw_sc31 nw_ch15 (by rw [hq.2.cf (by omega)]; exact hS) hS6 _) (Nat.le_of_ble_eq_true rfl) lX9_237 kX8_howMany vX8_howMany dX9_ahead_55 rfl rfl rfl (by decide) rfl (Nat.le_of_ble_eq_true rfl) ?_
          exact s_retI dX9_ahead_58 (by
      first
        | (have eb : b = false := nw_bi_0.mp h4
           subst eb
           exact ⟨rfl, nv_fr.refl _ _ _⟩)
        | (have eb : b = true := by cases b; exact absurd rfl h4; rfl
           subst eb
           refine ⟨?_, nv_fr.refl _ _ _⟩
           simp_all; done)
        | (refine ⟨?_, hq.2⟩
           rw [if_pos rfl, if_pos (by simp_all), em, hq.1]
           first | rw [if_pos h47] | rw [if_neg h47]))
      · refine ev_ldc qX9_79 dX9_ahead_30 ?_
        exact s_retI dX9_ahead_32 (by
      first
        | (have eb : b = false := nw_bi_0.mp h4
           subst eb
           exact ⟨rfl, nv_fr.refl _ _ _⟩)
        | (have eb : b = true := by cases b; exact absurd rfl h4; rfl
           subst eb
           refine ⟨?_, nv_fr.refl _ _ _⟩
           simp_all; done)
        | (refine ⟨?_, hq.2⟩
           rw [if_pos rfl, if_pos (by simp_all), em, hq.1]
           first | rw [if_pos h47] | rw [if_neg h47]))
  · refine ev_ldc qX9_156 dX9_ahead_7 ?_
    exact s_retI dX9_ahead_9 (by
      first
        | (have eb : b = false := nw_bi_0.mp h4
           subst eb
           exact ⟨rfl, nv_fr.refl _ _ _⟩)
        | (have eb : b = true := by cases b; exact absurd rfl h4; rfl
           subst eb
           refine ⟨?_, nv_fr.refl _ _ _⟩
           simp_all; done)
        | (refine ⟨?_, hq.2⟩
           rw [if_pos rfl, if_pos (by simp_all), em, hq.1]
           first | rw [if_pos h47] | rw [if_neg h47]))
theorem x_shipAhead (hW : nv_W I b N T S) (x n w : Int32) : nw_cI l g 6 mX9_shipAhead [.ref (nw_a g 0), .int x, .int n, .int w] I (fun r J => r = (if nv_in x 0 (nI S - 1) && (nv_in n 0 200 && nv_in w 0 1) then p_pass (nv_cf I 15) T S n.toNatClampNeg (nv_fl I 25) ((if w = 0 then 17 else 23) + x.toNatClampNeg) else -1000001) ∧ nv_fr I J 31 6) := by
  obtain ⟨hb, hCk, hor⟩ := id hW
  obtain ⟨hN, hT, hS, hN2, hT3, hS6⟩ := id hCk
  have hN' : I 15 2 = nI N := (cf3 I 15).symm.trans hN
  have hT' : I 15 3 = nI T := (cf4 I 15).symm.trans hT
  have hS' : I 15 4 = nI S := (cf5 I 15).symm.trans hS
  refine ⟨(Nat.le_of_ble_eq_true rfl), ?_⟩
  refine ev_aload_n (i := 0) dX9_shipAhead_0 rfl rfl ?_
  refine ev_iload_n (i := 1) dX9_shipAhead_1 rfl rfl ?_
  refine s_dVz (As := [_]) (c_isShip _) (Nat.le_of_ble_eq_true rfl) lX9_177 kX9_isShip vX9_isShip dX9_shipAhead_2 rfl rfl rfl (by decide) rfl (Nat.le_of_ble_eq_true rfl) ?_
  rw [hS']
  refine s_ifZ_eq (tgt := 28) dX9_shipAhead_5 (by decide) (fun h5 => ?_) (fun h5 => ?_)
  · refine ev_ldc qX9_79 dX9_shipAhead_28 ?_
    exact s_retI dX9_shipAhead_30 (by
      first
        | (refine ⟨?_, nv_fr.refl _ _ _⟩
           simp_all; done)
        | (refine ⟨?_, hq.2⟩
           rw [if_pos (by simp_all), em, es, ← hq.1]
           first | rw [if_pos h37, fl_fat _ _ (by omega)] | rw [if_neg h37, fl_cro _ _ (by omega)]))
  · refine ev_iload_n (i := 2) dX9_shipAhead_8 rfl rfl ?_
    refine ev_iconst (v := 0) dX9_shipAhead_9 kc_0 ?_
    refine ev_sipush (v := 200) dX9_shipAhead_10 ks_200 ?_
    refine s_dSz (As := [_, _, _]) (c_within _ _ _) (Nat.le_of_ble_eq_true rfl) lX9_75 kX9_within sX9_within dX9_shipAhead_13 rfl rfl (Nat.le_of_ble_eq_true rfl) ?_
    refine s_ifZ_eq (tgt := 28) dX9_shipAhead_16 (by decide) (fun h16 => ?_) (fun h16 => ?_)
    · refine ev_ldc qX9_79 dX9_shipAhead_28 ?_
      exact s_retI dX9_shipAhead_30 (by
      first
        | (refine ⟨?_, nv_fr.refl _ _ _⟩
           simp_all; done)
        | (refine ⟨?_, hq.2⟩
           rw [if_pos (by simp_all), em, es, ← hq.1]
           first | rw [if_pos h37, fl_fat _ _ (by omega)] | rw [if_neg h37, fl_cro _ _ (by omega)]))
    · refine ev_iload_n (i := 3) dX9_shipAhead_19 rfl rfl ?_
      refine ev_iconst (v := 0) dX9_shipAhead_20 kc_0 ?_
      refine ev_iconst (v := 1) dX9_shipAhead_21 kc_1 ?_
      refine s_dSz (As := [_, _, _]) (c_within _ _ _) (Nat.le_of_ble_eq_true rfl) lX9_75 kX9_within sX9_within dX9_shipAhead_22 rfl rfl (Nat.le_of_ble_eq_true rfl) ?_
      refine s_ifZ_ne (tgt := 31) dX9_shipAhead_25 (by decide) (fun h25 => ?_) (fun h25 => ?_)
      · obtain ⟨s, hs, rfl⟩ := nv_in_S (by omega) h5
        obtain ⟨rfl, -⟩ := hW.sea (Or.inl (by omega))
        obtain ⟨m, -, hn2, rfl⟩ := nv_in_n (a := 0) (c := 200) h16 (by decide) (by decide)
        have em : (nI m).toNatClampNeg = m := nI_clamp (by omega)
        have es : (nI s).toNatClampNeg = s := nI_clamp (by omega)
        refine ev_aload_n (i := 0) dX9_shipAhead_31 rfl rfl ?_
        refine ev_iload_n (i := 2) dX9_shipAhead_32 rfl rfl ?_
        refine s_callVv (As := [_]) (c_foretell hW hn2) (Nat.le_of_ble_eq_true rfl) lX9_233 kX9_foretell vX9_foretell dX9_shipAhead_33 rfl rfl rfl (by decide) rfl (Nat.le_of_ble_eq_true rfl) (fun J hq => ?_)
        refine ev_iload_n (i := 3) dX9_shipAhead_36 rfl rfl ?_
        refine ev_if_ne (tgt := 52) dX9_shipAhead_37 (by decide) (fun h37 => ?_) (fun h37 => ?_)
        · refine ev_aload_n (i := 0) dX9_shipAhead_52 rfl rfl ?_
          refine ev_getR fX9_40 dX9_shipAhead_53 rfl rfl (by decide) ?_
          refine ev_getR fX9_205 dX9_shipAhead_56 rfl rfl (by decide) ?_
          refine ev_iload_n (i := 1) dX9_shipAhead_59 rfl rfl ?_
          refine ev_ialdN dX9_shipAhead_60 rfl (show s < 6 by omega) (by decide) ?_
          exact s_retI dX9_shipAhead_61 (by
      first
        | (refine ⟨?_, nv_fr.refl _ _ _⟩
           simp_all; done)
        | (refine ⟨?_, hq.2⟩
           rw [if_pos (by simp_all), em, es, ← hq.1]
           first | rw [if_pos h37, fl_fat _ _ (by omega)] | rw [if_neg h37, fl_cro _ _ (by omega)]))
        · refine ev_aload_n (i := 0) dX9_shipAhead_40 rfl rfl ?_
          refine ev_getR fX9_40 dX9_shipAhead_41 rfl rfl (by decide) ?_
          refine ev_getR fX9_202 dX9_shipAhead_44 rfl rfl (by decide) ?_
          refine ev_iload_n (i := 1) dX9_shipAhead_47 rfl rfl ?_
          refine ev_ialdN dX9_shipAhead_48 rfl (show s < 6 by omega) (by decide) ?_
          refine ev_goto (tgt := 61) dX9_shipAhead_49 (by decide) ?_
          exact s_retI dX9_shipAhead_61 (by
      first
        | (refine ⟨?_, nv_fr.refl _ _ _⟩
           simp_all; done)
        | (refine ⟨?_, hq.2⟩
           rw [if_pos (by simp_all), em, es, ← hq.1]
           first | rw [if_pos h37, fl_fat _ _ (by omega)] | rw [if_neg h37, fl_cro _ _ (by omega)]))
      · refine ev_ldc qX9_79 dX9_shipAhead_28 ?_
        exact s_retI dX9_shipAhead_30 (by
      first
        | (refine ⟨?_, nv_fr.refl _ _ _⟩
           simp_all; done)
        | (refine ⟨?_, hq.2⟩
           rw [if_pos (by simp_all), em, es, ← hq.1]
           first | rw [if_pos h37, fl_fat _ _ (by omega)] | rw [if_neg h37, fl_cro _ _ (by omega)]))
theorem x_towerAhead (hW : nv_W I b N T S) (x n : Int32) : nw_cI l g 6 mX9_towerAhead [.ref (nw_a g 0), .int x, .int n] I (fun r J => r = (if nv_in x 0 (nI T - 1) && nv_in n 0 200 then p_pass (nv_cf I 15) T S n.toNatClampNeg (nv_fl I 25) (2 + x.toNatClampNeg) else -1000001) ∧ nv_fr I J 31 6) := by
  obtain ⟨hb, hCk, hor⟩ := id hW
  obtain ⟨hN, hT, hS, hN2, hT3, hS6⟩ := id hCk
  have hN' : I 15 2 = nI N := (cf3 I 15).symm.trans hN
  have hT' : I 15 3 = nI T := (cf4 I 15).symm.trans hT
  have hS' : I 15 4 = nI S := (cf5 I 15).symm.trans hS
  refine ⟨(Nat.le_of_ble_eq_true rfl), ?_⟩
  refine ev_aload_n (i := 0) dX9_towerAhead_0 rfl rfl ?_
  refine ev_iload_n (i := 1) dX9_towerAhead_1 rfl rfl ?_
  refine s_dVz (As := [_]) (c_isTower _) (Nat.le_of_ble_eq_true rfl) lX9_167 kX9_isTower vX9_isTower dX9_towerAhead_2 rfl rfl rfl (by decide) rfl (Nat.le_of_ble_eq_true rfl) ?_
  rw [hT']
  refine s_ifZ_eq (tgt := 19) dX9_towerAhead_5 (by decide) (fun h5 => ?_) (fun h5 => ?_)
  · refine ev_ldc qX9_79 dX9_towerAhead_19 ?_
    exact s_retI dX9_towerAhead_21 (by
      first
        | (refine ⟨?_, nv_fr.refl _ _ _⟩
           simp_all; done)
        | (refine ⟨?_, hq.2⟩
           rw [if_pos (by simp_all), em, es, ← hq.1, fl_cnt _ _ (by omega)]))
  · refine ev_iload_n (i := 2) dX9_towerAhead_8 rfl rfl ?_
    refine ev_iconst (v := 0) dX9_towerAhead_9 kc_0 ?_
    refine ev_sipush (v := 200) dX9_towerAhead_10 ks_200 ?_
    refine s_dSz (As := [_, _, _]) (c_within _ _ _) (Nat.le_of_ble_eq_true rfl) lX9_75 kX9_within sX9_within dX9_towerAhead_13 rfl rfl (Nat.le_of_ble_eq_true rfl) ?_
    refine s_ifZ_ne (tgt := 22) dX9_towerAhead_16 (by decide) (fun h16 => ?_) (fun h16 => ?_)
    · obtain ⟨s, hs, rfl⟩ := nv_in_S (by omega) h5
      obtain ⟨rfl, -⟩ := hW.sea (Or.inr (Or.inl (by omega)))
      obtain ⟨m, -, hn2, rfl⟩ := nv_in_n (a := 0) (c := 200) h16 (by decide) (by decide)
      have em : (nI m).toNatClampNeg = m := nI_clamp (by omega)
      have es : (nI s).toNatClampNeg = s := nI_clamp (by omega)
      refine ev_aload_n (i := 0) dX9_towerAhead_22 rfl rfl ?_
      refine ev_iload_n (i := 2) dX9_towerAhead_23 rfl rfl ?_
      refine s_callVv (As := [_]) (c_foretell hW hn2) (Nat.le_of_ble_eq_true rfl) lX9_233 kX9_foretell vX9_foretell dX9_towerAhead_24 rfl rfl rfl (by decide) rfl (Nat.le_of_ble_eq_true rfl) (fun J hq => ?_)
      refine ev_aload_n (i := 0) dX9_towerAhead_27 rfl rfl ?_
      refine ev_getR fX9_40 dX9_towerAhead_28 rfl rfl (by decide) ?_
      refine ev_getR fX9_211 dX9_towerAhead_31 rfl rfl (by decide) ?_
      refine ev_iload_n (i := 1) dX9_towerAhead_34 rfl rfl ?_
      refine ev_ialdN dX9_towerAhead_35 rfl (show s < 3 by omega) (by decide) ?_
      exact s_retI dX9_towerAhead_36 (by
      first
        | (refine ⟨?_, nv_fr.refl _ _ _⟩
           simp_all; done)
        | (refine ⟨?_, hq.2⟩
           rw [if_pos (by simp_all), em, es, ← hq.1, fl_cnt _ _ (by omega)]))
    · refine ev_ldc qX9_79 dX9_towerAhead_19 ?_
      exact s_retI dX9_towerAhead_21 (by
      first
        | (refine ⟨?_, nv_fr.refl _ _ _⟩
           simp_all; done)
        | (refine ⟨?_, hq.2⟩
           rw [if_pos (by simp_all), em, es, ← hq.1, fl_cnt _ _ (by omega)]))
/-- the wave of the i-th call, from wave w on -/
def p_called (C : Nat → Int32) (law : Int32) (t : Nat) : Nat → Nat → Int32 → Int32 → Int32
  | 0, _, _, _ => -1000000
  | n + 1, w, c, i => if nv_calls c (p_more C (p_kind C (nI w)) t) law = true then (if i = 0 then nI w else p_called C law t n (w + 1) (c + p_more C (p_kind C (nI w)) t) (i + (-1))) else p_called C law t n (w + 1) (c + p_more C (p_kind C (nI w)) t) i
theorem l_called {t v : Nat} {z1 : Int32} (hW : nv_W I true N T S) (ht : t < T) (hv : nv_fl I 25 0 = nI v) (hv2 : v ≤ 999) : ∀ (m w : Nat) (c i : Int32) (z : Option Value), w + m = v + 200 → nw_S l g 2 mX9_called 37 [some (.ref (nw_a g 0)), some (.int (nI t)), some (.int z1), some (.int c), some (.int i), some (.int (nI w)), z] [] I (nw_qI (fun r J => r = p_called (nv_cf I 15) (nv_fl I 25 1) t m w c i ∧ J = I)) := by
  obtain ⟨hb, hCk, hor⟩ := id hW
  obtain ⟨hN, hT, hS, hN2, hT3, hS6⟩ := id hCk
  have hN' : I 15 2 = nI N := (cf3 I 15).symm.trans hN
  have hT' : I 15 3 = nI T := (cf4 I 15).symm.trans hT
  have hS' : I 15 4 = nI S := (cf5 I 15).symm.trans hS
  obtain ⟨-, h0, -⟩ := hW.sea (Or.inr (Or.inr (Or.inr rfl)))
  have hv' : I 25 0 = nI v := (fl0 I 25).symm.trans hv
  have hl' : I 25 1 = nv_fl I 25 1 := (fl1 I 25).symm
  have e200 : (200 : Int32) = nI 200 := by decide
  intro m
  induction m with
  | zero =>
    intro w c i z hw
    refine ev_iload dX9_called_37 rfl ?_
    refine ev_aload_n (i := 0) dX9_called_39 rfl rfl ?_
    refine ev_getR fX9_36 dX9_called_40 rfl rfl (by decide) ?_
    refine ev_getI fX9_157 dX9_called_43 rfl rfl (by decide) ?_
    rw [hv']
    refine ev_sipush (v := 200) dX9_called_46 ks_200 ?_
    refine ev_iadd dX9_called_49 ?_
    rw [e200, nI_add]
    refine ev_icmp_ge (tgt := 110) dX9_called_50 (by decide) (fun h50 => ?_) (fun h50 => ?_)
    · refine ev_ldc qX9_249 dX9_called_110 ?_
      exact s_retI dX9_called_112 ⟨rfl, rfl⟩
    · exact absurd (nI_le (by omega) (by omega)) h50
  | succ m ih =>
    intro w c i z hw
    refine ev_iload dX9_called_37 rfl ?_
    refine ev_aload_n (i := 0) dX9_called_39 rfl rfl ?_
    refine ev_getR fX9_36 dX9_called_40 rfl rfl (by decide) ?_
    refine ev_getI fX9_157 dX9_called_43 rfl rfl (by decide) ?_
    rw [hv']
    refine ev_sipush (v := 200) dX9_called_46 ks_200 ?_
    refine ev_iadd dX9_called_49 ?_
    rw [e200, nI_add]
    refine ev_icmp_ge (tgt := 110) dX9_called_50 (by decide) (fun h50 => ?_) (fun h50 => ?_)
    · exact absurd h50 (nI_ge (by omega) (by omega))
    · refine ev_aload_n (i := 0) dX9_called_53 rfl rfl ?_
      refine ev_getR fX9_26 dX9_called_54 rfl rfl (by decide) ?_
      refine ev_iload_n (i := 1) dX9_called_57 rfl rfl ?_
      refine ev_aload_n (i := 0) dX9_called_58 rfl rfl ?_
      refine ev_getR fX9_26 dX9_called_59 rfl rfl (by decide) ?_
      refine ev_iload dX9_called_62 rfl ?_
      refine s_dVi (As := [_]) (c_kindIn nw_ch15 hN h0 hN2 (by omega)) (Nat.le_of_ble_eq_true rfl) lX9_240 kX2_kindIn vX2_kindIn dX9_called_64 rfl rfl rfl (by decide) rfl (Nat.le_of_ble_eq_true rfl) ?_
      refine s_dVi (As := [_, _]) (c_stepOf nw_ch15 (show t < 3 by omega) _) (Nat.le_of_ble_eq_true rfl) lX9_243 kX2_stepOf vX2_stepOf dX9_called_67 rfl rfl rfl (by decide) rfl (Nat.le_of_ble_eq_true rfl) ?_
      refine ev_istore dX9_called_70 (Nat.le_of_ble_eq_true rfl) rfl ?_
      refine ev_iload_n (i := 3) dX9_called_72 rfl rfl ?_
      refine ev_iload dX9_called_73 rfl ?_
      refine ev_aload_n (i := 0) dX9_called_75 rfl rfl ?_
      refine ev_getR fX9_36 dX9_called_76 rfl rfl (by decide) ?_
      refine ev_getI fX9_174 dX9_called_79 rfl rfl (by decide) ?_
      rw [hl']
      refine s_dSz (As := [_, _, _]) (c_calls _ _ _) (Nat.le_of_ble_eq_true rfl) lX9_246 kX9_calls sX9_calls dX9_called_82 rfl rfl (Nat.le_of_ble_eq_true rfl) ?_
      refine s_ifZ_eq (tgt := 99) dX9_called_85 (by decide) (fun h85 => ?_) (fun h85 => ?_)
      · refine ev_iload_n (i := 3) dX9_called_99 rfl rfl ?_
        refine ev_iload dX9_called_100 rfl ?_
        refine ev_iadd dX9_called_102 ?_
        refine ev_istore_n (i := 3) dX9_called_103 rfl (Nat.le_of_ble_eq_true rfl) rfl ?_
        refine ev_iincm (m := 1) dX9_called_104 kc_1 rfl (Nat.le_of_ble_eq_true rfl) rfl ?_
        refine ev_goto (tgt := 37) dX9_called_107 (by decide) ?_
        rw [nI_1]
        first
          | (have e : p_called (nv_cf I 15) (nv_fl I 25 1) t (m + 1) w c i = p_called (nv_cf I 15) (nv_fl I 25 1) t m (w + 1) (c + p_more (nv_cf I 15) (p_kind (nv_cf I 15) (nI w)) t) (i + (-1)) := by
               conv => lhs; unfold p_called
               rw [if_pos h85, if_neg h90]
             rw [e]
             exact ih (w + 1) _ _ _ (by omega))
          | (have e : p_called (nv_cf I 15) (nv_fl I 25 1) t (m + 1) w c i = p_called (nv_cf I 15) (nv_fl I 25 1) t m (w + 1) (c + p_more (nv_cf I 15) (p_kind (nv_cf I 15) (nI w)) t) i := by
               conv => lhs; unfold p_called
               rw [if_neg (by rw [h85]; decide)]
             rw [e]
             exact ih (w + 1) _ _ _ (by omega))
      · refine ev_iload dX9_called_88 rfl ?_
        refine ev_if_ne (tgt := 96) dX9_called_90 (by decide) (fun h90 => ?_) (fun h90 => ?_)
        · refine ev_iincm (m := (-1)) dX9_called_96 kc_m1 rfl (Nat.le_of_ble_eq_true rfl) rfl ?_
          refine ev_iload_n (i := 3) dX9_called_99 rfl rfl ?_
          refine ev_iload dX9_called_100 rfl ?_
          refine ev_iadd dX9_called_102 ?_
          refine ev_istore_n (i := 3) dX9_called_103 rfl (Nat.le_of_ble_eq_true rfl) rfl ?_
          refine ev_iincm (m := 1) dX9_called_104 kc_1 rfl (Nat.le_of_ble_eq_true rfl) rfl ?_
          refine ev_goto (tgt := 37) dX9_called_107 (by decide) ?_
          rw [nI_1]
          first
            | (have e : p_called (nv_cf I 15) (nv_fl I 25 1) t (m + 1) w c i = p_called (nv_cf I 15) (nv_fl I 25 1) t m (w + 1) (c + p_more (nv_cf I 15) (p_kind (nv_cf I 15) (nI w)) t) (i + (-1)) := by
                 conv => lhs; unfold p_called
                 rw [if_pos h85, if_neg h90]
               rw [e]
               exact ih (w + 1) _ _ _ (by omega))
            | (have e : p_called (nv_cf I 15) (nv_fl I 25 1) t (m + 1) w c i = p_called (nv_cf I 15) (nv_fl I 25 1) t m (w + 1) (c + p_more (nv_cf I 15) (p_kind (nv_cf I 15) (nI w)) t) i := by
                 conv => lhs; unfold p_called
                 rw [if_neg (by rw [h85]; decide)]
               rw [e]
               exact ih (w + 1) _ _ _ (by omega))
        · refine ev_iload dX9_called_93 rfl ?_
          exact s_retI dX9_called_95 ⟨by unfold p_called; rw [if_pos h85, if_pos h90], rfl⟩
theorem x_called (hW : nv_W I b N T S) (x i : Int32) : nw_dI l g 2 mX9_called [.ref (nw_a g 0), .int x, .int i] I (if nv_in x 0 (nI T - 1) && decide (0 ≤ i) then p_called (nv_cf I 15) (nv_fl I 25 1) x.toNatClampNeg 200 (nv_fl I 25 0).toNatClampNeg (nv_fl I 25 (2 + x.toNatClampNeg)) i else -1000001) I := by
  obtain ⟨hb, hCk, hor⟩ := id hW
  obtain ⟨hN, hT, hS, hN2, hT3, hS6⟩ := id hCk
  have hN' : I 15 2 = nI N := (cf3 I 15).symm.trans hN
  have hT' : I 15 3 = nI T := (cf4 I 15).symm.trans hT
  have hS' : I 15 4 = nI S := (cf5 I 15).symm.trans hS
  refine ⟨(Nat.le_of_ble_eq_true rfl), ?_⟩
  refine ev_aload_n (i := 0) dX9_called_0 rfl rfl ?_
  refine ev_iload_n (i := 1) dX9_called_1 rfl rfl ?_
  refine s_dVz (As := [_]) (c_isTower _) (Nat.le_of_ble_eq_true rfl) lX9_167 kX9_isTower vX9_isTower dX9_called_2 rfl rfl rfl (by decide) rfl (Nat.le_of_ble_eq_true rfl) ?_
  rw [hT']
  refine s_ifZ_eq (tgt := 12) dX9_called_5 (by decide) (fun h5 => ?_) (fun h5 => ?_)
  · refine ev_ldc qX9_79 dX9_called_12 ?_
    exact s_retI dX9_called_14 ⟨by rw [if_neg (fun q => by simp only [Bool.and_eq_true, decide_eq_true_eq] at q; first | exact absurd q.1 (by rw [h5]; decide) | exact h9 q.2)], rfl⟩
  · refine ev_iload_n (i := 2) dX9_called_8 rfl rfl ?_
    refine ev_if_ge (tgt := 15) dX9_called_9 (by decide) (fun h9 => ?_) (fun h9 => ?_)
    · obtain ⟨s, hs, rfl⟩ := nv_in_S (by omega) h5
      obtain ⟨rfl, h0, -, -, -, -, ⟨v, hv, hv2⟩, -, -⟩ := hW.sea (Or.inr (Or.inl (by omega)))
      have es : (nI s).toNatClampNeg = s := nI_clamp (by omega)
      have hv' : I 25 0 = nI v := (fl0 I 25).symm.trans hv2
      refine ev_aload_n (i := 0) dX9_called_15 rfl rfl ?_
      refine ev_getR fX9_36 dX9_called_16 rfl rfl (by decide) ?_
      refine ev_getR fX9_211 dX9_called_19 rfl rfl (by decide) ?_
      refine ev_iload_n (i := 1) dX9_called_22 rfl rfl ?_
      refine ev_ialdN dX9_called_23 rfl (show s < 3 by omega) (by decide) ?_
      refine ev_istore_n (i := 3) dX9_called_24 rfl (Nat.le_of_ble_eq_true rfl) rfl ?_
      refine ev_iload_n (i := 2) dX9_called_25 rfl rfl ?_
      refine ev_istore dX9_called_26 (Nat.le_of_ble_eq_true rfl) rfl ?_
      refine ev_aload_n (i := 0) dX9_called_28 rfl rfl ?_
      refine ev_getR fX9_36 dX9_called_29 rfl rfl (by decide) ?_
      refine ev_getI fX9_157 dX9_called_32 rfl rfl (by decide) ?_
      rw [hv']
      refine ev_istore dX9_called_35 (Nat.le_of_ble_eq_true rfl) rfl ?_
      rw [if_pos (by simp_all), es, hv2, nI_clamp (by omega), ← fl_cnt I 25 (show s < 3 by omega)]
      exact l_called hW hs hv2 hv 200 v _ i _ rfl
    · refine ev_ldc qX9_79 dX9_called_12 ?_
      exact s_retI dX9_called_14 ⟨by rw [if_neg (fun q => by simp only [Bool.and_eq_true, decide_eq_true_eq] at q; first | exact absurd q.1 (by rw [h5]; decide) | exact h9 q.2)], rfl⟩
def p_fit (C : Nat → Int32) (d : Int32) : Nat → Nat → Int32 → Int32
  | 0, _, _ => -1000000
  | n + 1, w, i => if p_wat C (nI w) < d then p_fit C d n (w + 1) i else if i = 0 then nI w else p_fit C d n (w + 1) (i + (-1))
theorem l_fit {s v : Nat} {z1 : Int32} (hW : nv_W I true N T S) (hs : s < S) (hv : nv_fl I 25 0 = nI v) (hv2 : v ≤ 999) : ∀ (m w : Nat) (i : Int32), w + m = v + 100 → nw_S l g 3 mX9_fit 26 [some (.ref (nw_a g 0)), some (.int (nI s)), some (.int z1), some (.int i), some (.int (nI w))] [] I (nw_qI (fun r J => r = p_fit (nv_cf I 15) (nv_cf I 15 (49 + s)) m w i ∧ J = I)) := by
  obtain ⟨hb, hCk, hor⟩ := id hW
  obtain ⟨hN, hT, hS, hN2, hT3, hS6⟩ := id hCk
  have hN' : I 15 2 = nI N := (cf3 I 15).symm.trans hN
  have hT' : I 15 3 = nI T := (cf4 I 15).symm.trans hT
  have hS' : I 15 4 = nI S := (cf5 I 15).symm.trans hS
  obtain ⟨-, h0, -⟩ := hW.sea (Or.inr (Or.inr (Or.inr rfl)))
  have hv' : I 25 0 = nI v := (fl0 I 25).symm.trans hv
  have e100 : (100 : Int32) = nI 100 := by decide
  have ed := cf_dra I 15 (show s < 6 by omega)
  intro m
  induction m with
  | zero =>
    intro w i hw
    refine ev_iload dX9_fit_26 rfl ?_
    refine ev_aload_n (i := 0) dX9_fit_28 rfl rfl ?_
    refine ev_getR fX9_36 dX9_fit_29 rfl rfl (by decide) ?_
    
    refine ev_getI fX9_157 dX9_fit_32 rfl rfl (by decide) ?_
    
    refine ev_bipush (v := 100) dX9_fit_35 kb_100 ?_
    
    refine ev_iadd dX9_fit_37 ?_
    rw [hv', e100, nI_add]
    refine ev_icmp_ge (tgt := 78) dX9_fit_38 (by decide) (fun h38 => ?_) (fun h38 => ?_)
    · refine ev_ldc qX9_249 dX9_fit_78 ?_
      exact s_retI dX9_fit_80 ⟨rfl, rfl⟩
    · exact absurd (nI_le (by omega) (by omega)) h38
  | succ m ih =>
    intro w i hw
    refine ev_iload dX9_fit_26 rfl ?_
    refine ev_aload_n (i := 0) dX9_fit_28 rfl rfl ?_
    refine ev_getR fX9_36 dX9_fit_29 rfl rfl (by decide) ?_
    refine ev_getI fX9_157 dX9_fit_32 rfl rfl (by decide) ?_
    refine ev_bipush (v := 100) dX9_fit_35 kb_100 ?_
    refine ev_iadd dX9_fit_37 ?_
    rw [hv', e100, nI_add]
    refine ev_icmp_ge (tgt := 78) dX9_fit_38 (by decide) (fun h38 => ?_) (fun h38 => ?_)
    · exact absurd h38 (nI_ge (by omega) (by omega))
    · refine ev_aload_n (i := 0) dX9_fit_41 rfl rfl ?_
      refine ev_getR fX9_26 dX9_fit_42 rfl rfl (by decide) ?_
      refine ev_iload dX9_fit_45 rfl ?_
      refine s_dVi (As := [_]) (c_waterIn nw_ch15 hN h0 hN2 (by omega)) (Nat.le_of_ble_eq_true rfl) lX9_227 kX2_waterIn vX2_waterIn dX9_fit_47 rfl rfl rfl (by decide) rfl (Nat.le_of_ble_eq_true rfl) ?_
      refine ev_aload_n (i := 0) dX9_fit_50 rfl rfl ?_
      refine ev_getR fX9_26 dX9_fit_51 rfl rfl (by decide) ?_
      refine ev_getR fX9_199 dX9_fit_54 rfl rfl (by decide) ?_
      refine ev_iload_n (i := 1) dX9_fit_57 rfl rfl ?_
      refine ev_ialdN dX9_fit_58 rfl (show s < 6 by omega) (by decide) ?_
      rw [← ed]
      refine ev_icmp_lt (tgt := 72) dX9_fit_59 (by decide) (fun h59 => ?_) (fun h59 => ?_)
      · refine ev_iincm (m := 1) dX9_fit_72 kc_1 rfl (Nat.le_of_ble_eq_true rfl) rfl ?_
        refine ev_goto (tgt := 26) dX9_fit_75 (by decide) ?_
        rw [nI_1]
        first
          | (have e : p_fit (nv_cf I 15) (nv_cf I 15 (49 + s)) (m + 1) w i = p_fit (nv_cf I 15) (nv_cf I 15 (49 + s)) m (w + 1) i := by
               conv => lhs; unfold p_fit
               rw [if_pos h59]
             rw [e]
             exact ih (w + 1) _ (by omega))
          | (have e : p_fit (nv_cf I 15) (nv_cf I 15 (49 + s)) (m + 1) w i = p_fit (nv_cf I 15) (nv_cf I 15 (49 + s)) m (w + 1) (i + (-1)) := by
               conv => lhs; unfold p_fit
               rw [if_neg h59, if_neg h63]
             rw [e]
             exact ih (w + 1) _ (by omega))
      · refine ev_iload_n (i := 3) dX9_fit_62 rfl rfl ?_
        refine ev_if_ne (tgt := 69) dX9_fit_63 (by decide) (fun h63 => ?_) (fun h63 => ?_)
        · refine ev_iincm (m := (-1)) dX9_fit_69 kc_m1 rfl (Nat.le_of_ble_eq_true rfl) rfl ?_
          refine ev_iincm (m := 1) dX9_fit_72 kc_1 rfl (Nat.le_of_ble_eq_true rfl) rfl ?_
          refine ev_goto (tgt := 26) dX9_fit_75 (by decide) ?_
          rw [nI_1]
          first
            | (have e : p_fit (nv_cf I 15) (nv_cf I 15 (49 + s)) (m + 1) w i = p_fit (nv_cf I 15) (nv_cf I 15 (49 + s)) m (w + 1) i := by
                 conv => lhs; unfold p_fit
                 rw [if_pos h59]
               rw [e]
               exact ih (w + 1) _ (by omega))
            | (have e : p_fit (nv_cf I 15) (nv_cf I 15 (49 + s)) (m + 1) w i = p_fit (nv_cf I 15) (nv_cf I 15 (49 + s)) m (w + 1) (i + (-1)) := by
                 conv => lhs; unfold p_fit
                 rw [if_neg h59, if_neg h63]
               rw [e]
               exact ih (w + 1) _ (by omega))
        · refine ev_iload dX9_fit_66 rfl ?_
          exact s_retI dX9_fit_68 ⟨by unfold p_fit; rw [if_neg h59, if_pos h63], rfl⟩
theorem x_fit (hW : nv_W I b N T S) (x i : Int32) : nw_dI l g 3 mX9_fit [.ref (nw_a g 0), .int x, .int i] I (if nv_in x 0 (nI S - 1) && decide (0 ≤ i) then p_fit (nv_cf I 15) (nv_cf I 15 (49 + x.toNatClampNeg)) 100 (nv_fl I 25 0).toNatClampNeg i else -1000001) I := by
  obtain ⟨hb, hCk, hor⟩ := id hW
  obtain ⟨hN, hT, hS, hN2, hT3, hS6⟩ := id hCk
  have hN' : I 15 2 = nI N := (cf3 I 15).symm.trans hN
  have hT' : I 15 3 = nI T := (cf4 I 15).symm.trans hT
  have hS' : I 15 4 = nI S := (cf5 I 15).symm.trans hS
  refine ⟨(Nat.le_of_ble_eq_true rfl), ?_⟩
  refine ev_aload_n (i := 0) dX9_fit_0 rfl rfl ?_
  refine ev_iload_n (i := 1) dX9_fit_1 rfl rfl ?_
  refine s_dVz (As := [_]) (c_isShip _) (Nat.le_of_ble_eq_true rfl) lX9_177 kX9_isShip vX9_isShip dX9_fit_2 rfl rfl rfl (by decide) rfl (Nat.le_of_ble_eq_true rfl) ?_
  rw [hS']
  refine s_ifZ_eq (tgt := 12) dX9_fit_5 (by decide) (fun h5 => ?_) (fun h5 => ?_)
  · refine ev_ldc qX9_79 dX9_fit_12 ?_
    exact s_retI dX9_fit_14 ⟨by rw [if_neg (fun q => by simp only [Bool.and_eq_true, decide_eq_true_eq] at q; first | exact absurd q.1 (by rw [h5]; decide) | exact h9 q.2)], rfl⟩
  · refine ev_iload_n (i := 2) dX9_fit_8 rfl rfl ?_
    refine ev_if_ge (tgt := 15) dX9_fit_9 (by decide) (fun h9 => ?_) (fun h9 => ?_)
    · obtain ⟨s, hs, rfl⟩ := nv_in_S (by omega) h5
      obtain ⟨rfl, h0, -, -, -, -, ⟨v, hv, hv2⟩, -, -⟩ := hW.sea (Or.inl (by omega))
      have es : (nI s).toNatClampNeg = s := nI_clamp (by omega)
      have hv' : I 25 0 = nI v := (fl0 I 25).symm.trans hv2
      refine ev_iload_n (i := 2) dX9_fit_15 rfl rfl ?_
      refine ev_istore_n (i := 3) dX9_fit_16 rfl (Nat.le_of_ble_eq_true rfl) rfl ?_
      refine ev_aload_n (i := 0) dX9_fit_17 rfl rfl ?_
      refine ev_getR fX9_36 dX9_fit_18 rfl rfl (by decide) ?_
      refine ev_getI fX9_157 dX9_fit_21 rfl rfl (by decide) ?_
      rw [hv']
      refine ev_istore dX9_fit_24 (Nat.le_of_ble_eq_true rfl) rfl ?_
      rw [if_pos (by simp_all), es, hv2, nI_clamp (by omega)]
      exact l_fit hW hs hv2 hv 100 v i rfl
    · refine ev_ldc qX9_79 dX9_fit_12 ?_
      exact s_retI dX9_fit_14 ⟨by rw [if_neg (fun q => by simp only [Bool.and_eq_true, decide_eq_true_eq] at q; first | exact absurd q.1 (by rw [h5]; decide) | exact h9 q.2)], rfl⟩
/-- the first wave with most water -/
def p_high (C : Nat → Int32) : Nat → Nat → Int32 → Int32 × Int32 → Int32 × Int32
  | 0, _, _, r => r
  | n + 1, w, z, (bw, m) => if p_wat C (nI w) ≤ m then p_high C n (w + 1) z (bw, m) else p_high C n (w + 1) z (nI w, p_wat C (nI w))
theorem l_high {v n : Nat} {z2 : Int32} (hW : nv_W I true N T S) (hn : 1 ≤ n) (hn2 : n ≤ 100) (hv : nv_fl I 25 0 = nI v) (hv2 : v ≤ 999) : ∀ (m w : Nat) (bw mo : Int32) (z : Option Value), w + m = v + n → nw_S l g 3 mX9_highest 61 [some (.ref (nw_a g 0)), some (.int (nI n)), some (.int z2), some (.int bw), some (.int mo), some (.int (nI w)), z] [] I (nw_qI (fun r J => r = (if z2 = 0 then (p_high (nv_cf I 15) m w 0 (bw, mo)).1 else (p_high (nv_cf I 15) m w 0 (bw, mo)).2) ∧ J = I)) := by
  obtain ⟨hb, hCk, hor⟩ := id hW
  obtain ⟨hN, hT, hS, hN2, hT3, hS6⟩ := id hCk
  have hN' : I 15 2 = nI N := (cf3 I 15).symm.trans hN
  have hT' : I 15 3 = nI T := (cf4 I 15).symm.trans hT
  have hS' : I 15 4 = nI S := (cf5 I 15).symm.trans hS
  obtain ⟨-, h0, -⟩ := hW.sea (Or.inr (Or.inr (Or.inr rfl)))
  have hv' : I 25 0 = nI v := (fl0 I 25).symm.trans hv
  intro m
  induction m with
  | zero =>
    intro w bw mo z hw
    refine ev_iload dX9_highest_61 rfl ?_
    refine ev_aload_n (i := 0) dX9_highest_63 rfl rfl ?_
    refine ev_getR fX9_36 dX9_highest_64 rfl rfl (by decide) ?_
    refine ev_getI fX9_157 dX9_highest_67 rfl rfl (by decide) ?_
    refine ev_iload_n (i := 1) dX9_highest_70 rfl rfl ?_
    refine ev_iadd dX9_highest_71 ?_
    rw [hv', nI_add]
    refine ev_icmp_ge (tgt := 106) dX9_highest_72 (by decide) (fun h72 => ?_) (fun h72 => ?_)
    · refine ev_iload_n (i := 2) dX9_highest_106 rfl rfl ?_
      refine ev_if_ne (tgt := 114) dX9_highest_107 (by decide) (fun h107 => ?_) (fun h107 => ?_)
      · refine ev_iload dX9_highest_114 rfl ?_
        exact s_retI dX9_highest_116 ⟨by first | (rw [if_pos h107]; rfl) | (rw [if_neg h107]; rfl), rfl⟩
      · refine ev_iload_n (i := 3) dX9_highest_110 rfl rfl ?_
        refine ev_goto (tgt := 116) dX9_highest_111 (by decide) ?_
        exact s_retI dX9_highest_116 ⟨by first | (rw [if_pos h107]; rfl) | (rw [if_neg h107]; rfl), rfl⟩
    · exact absurd (nI_le (by omega) (by omega)) h72
  | succ m ih =>
    intro w bw mo z hw
    refine ev_iload dX9_highest_61 rfl ?_
    refine ev_aload_n (i := 0) dX9_highest_63 rfl rfl ?_
    refine ev_getR fX9_36 dX9_highest_64 rfl rfl (by decide) ?_
    refine ev_getI fX9_157 dX9_highest_67 rfl rfl (by decide) ?_
    refine ev_iload_n (i := 1) dX9_highest_70 rfl rfl ?_
    refine ev_iadd dX9_highest_71 ?_
    rw [hv', nI_add]
    refine ev_icmp_ge (tgt := 106) dX9_highest_72 (by decide) (fun h72 => ?_) (fun h72 => ?_)
    · exact absurd h72 (nI_ge (by omega) (by omega))
    · refine ev_aload_n (i := 0) dX9_highest_75 rfl rfl ?_
      refine ev_getR fX9_26 dX9_highest_76 rfl rfl (by decide) ?_
      refine ev_iload dX9_highest_79 rfl ?_
      refine s_dVi (As := [_]) (c_waterIn nw_ch15 hN h0 hN2 (by omega)) (Nat.le_of_ble_eq_true rfl) lX9_227 kX2_waterIn vX2_waterIn dX9_highest_81 rfl rfl rfl (by decide) rfl (Nat.le_of_ble_eq_true rfl) ?_
      refine ev_istore dX9_highest_84 (Nat.le_of_ble_eq_true rfl) rfl ?_
      refine ev_iload dX9_highest_86 rfl ?_
      refine ev_iload dX9_highest_88 rfl ?_
      refine ev_icmp_le (tgt := 100) dX9_highest_90 (by decide) (fun h90 => ?_) (fun h90 => ?_)
      · refine ev_iincm (m := 1) dX9_highest_100 kc_1 rfl (Nat.le_of_ble_eq_true rfl) rfl ?_
        refine ev_goto (tgt := 61) dX9_highest_103 (by decide) ?_
        rw [nI_1]
        first
          | (have e : p_high (nv_cf I 15) (m + 1) w 0 (bw, mo) = p_high (nv_cf I 15) m (w + 1) 0 (bw, mo) := by
               conv => lhs; unfold p_high
               rw [if_pos h90]
             rw [e]
             exact ih (w + 1) _ _ _ (by omega))
          | (have e : p_high (nv_cf I 15) (m + 1) w 0 (bw, mo) = p_high (nv_cf I 15) m (w + 1) 0 (nI w, p_wat (nv_cf I 15) (nI w)) := by
               conv => lhs; unfold p_high
               rw [if_neg h90]
             rw [e]
             exact ih (w + 1) _ _ _ (by omega))
      · refine ev_iload dX9_highest_93 rfl ?_
        refine ev_istore_n (i := 3) dX9_highest_95 rfl (Nat.le_of_ble_eq_true rfl) rfl ?_
        refine ev_iload dX9_highest_96 rfl ?_
        refine ev_istore dX9_highest_98 (Nat.le_of_ble_eq_true rfl) rfl ?_
        refine ev_iincm (m := 1) dX9_highest_100 kc_1 rfl (Nat.le_of_ble_eq_true rfl) rfl ?_
        refine ev_goto (tgt := 61) dX9_highest_103 (by decide) ?_
        rw [nI_1]
        first
          | (have e : p_high (nv_cf I 15) (m + 1) w 0 (bw, mo) = p_high (nv_cf I 15) m (w + 1) 0 (bw, mo) := by
               conv => lhs; unfold p_high
               rw [if_pos h90]
             rw [e]
             exact ih (w + 1) _ _ _ (by omega))
          | (have e : p_high (nv_cf I 15) (m + 1) w 0 (bw, mo) = p_high (nv_cf I 15) m (w + 1) 0 (nI w, p_wat (nv_cf I 15) (nI w)) := by
               conv => lhs; unfold p_high
               rw [if_neg h90]
             rw [e]
             exact ih (w + 1) _ _ _ (by omega))
theorem x_highest (hW : nv_W I b N T S) (x w : Int32) : nw_dI l g 3 mX9_highest [.ref (nw_a g 0), .int x, .int w] I (if b then (if nv_in x 1 100 && nv_in w 0 1 then (if w = 0 then (p_high (nv_cf I 15) (x.toNatClampNeg - 1) ((nv_fl I 25 0).toNatClampNeg + 1) 0 (nv_fl I 25 0, p_wat (nv_cf I 15) (nv_fl I 25 0))).1 else (p_high (nv_cf I 15) (x.toNatClampNeg - 1) ((nv_fl I 25 0).toNatClampNeg + 1) 0 (nv_fl I 25 0, p_wat (nv_cf I 15) (nv_fl I 25 0))).2) else -1000001) else -1000002) I := by
  obtain ⟨hb, hCk, hor⟩ := id hW
  obtain ⟨hN, hT, hS, hN2, hT3, hS6⟩ := id hCk
  have hN' : I 15 2 = nI N := (cf3 I 15).symm.trans hN
  have hT' : I 15 3 = nI T := (cf4 I 15).symm.trans hT
  have hS' : I 15 4 = nI S := (cf5 I 15).symm.trans hS
  refine ⟨(Nat.le_of_ble_eq_true rfl), ?_⟩
  refine ev_aload_n (i := 0) dX9_highest_0 rfl rfl ?_
  refine ev_getI fX9_149 dX9_highest_1 rfl rfl (by decide) ?_
  rw [hb]
  refine ev_if_ne (tgt := 10) dX9_highest_4 (by decide) (fun h4 => ?_) (fun h4 => ?_)
  · refine ev_iload_n (i := 1) dX9_highest_10 rfl rfl ?_
    refine ev_iconst (v := 1) dX9_highest_11 kc_1 ?_
    refine ev_bipush (v := 100) dX9_highest_12 kb_100 ?_
    refine s_dSz (As := [_, _, _]) (c_within _ _ _) (Nat.le_of_ble_eq_true rfl) lX9_75 kX9_within sX9_within dX9_highest_14 rfl rfl (Nat.le_of_ble_eq_true rfl) ?_
    refine s_ifZ_eq (tgt := 29) dX9_highest_17 (by decide) (fun h17 => ?_) (fun h17 => ?_)
    · refine ev_ldc qX9_79 dX9_highest_29 ?_
      exact s_retI dX9_highest_31 (by
      first
        | (have eb : b = false := nw_bi_0.mp h4
           subst eb
           exact ⟨rfl, rfl⟩)
        | (have eb : b = true := by cases b; exact absurd rfl h4; rfl
           subst eb
           refine ⟨?_, rfl⟩
           simp_all; done))
    · refine ev_iload_n (i := 2) dX9_highest_20 rfl rfl ?_
      refine ev_iconst (v := 0) dX9_highest_21 kc_0 ?_
      refine ev_iconst (v := 1) dX9_highest_22 kc_1 ?_
      refine s_dSz (As := [_, _, _]) (c_within _ _ _) (Nat.le_of_ble_eq_true rfl) lX9_75 kX9_within sX9_within dX9_highest_23 rfl rfl (Nat.le_of_ble_eq_true rfl) ?_
      refine s_ifZ_ne (tgt := 32) dX9_highest_26 (by decide) (fun h26 => ?_) (fun h26 => ?_)
      · have eb : b = true := by cases b; exact absurd rfl h4; rfl
        subst eb
        obtain ⟨-, h0, -, -, -, -, ⟨v, hv, hv2⟩, -, -⟩ := hW.sea (Or.inr (Or.inr (Or.inr rfl)))
        have hv' : I 25 0 = nI v := (fl0 I 25).symm.trans hv2
        obtain ⟨m, hm1, hm2, rfl⟩ := nv_in_n (a := 1) (c := 100) h17 (by decide) (by decide)
        have em : (nI m).toNatClampNeg = m := nI_clamp (by omega)
        refine ev_aload_n (i := 0) dX9_highest_32 rfl rfl ?_
        refine ev_getR fX9_36 dX9_highest_33 rfl rfl (by decide) ?_
        refine ev_getI fX9_157 dX9_highest_36 rfl rfl (by decide) ?_
        rw [hv']
        refine ev_istore_n (i := 3) dX9_highest_39 rfl (Nat.le_of_ble_eq_true rfl) rfl ?_
        refine ev_aload_n (i := 0) dX9_highest_40 rfl rfl ?_
        refine ev_getR fX9_26 dX9_highest_41 rfl rfl (by decide) ?_
        refine ev_iload_n (i := 3) dX9_highest_44 rfl rfl ?_
        refine s_dVi (As := [_]) (c_waterIn nw_ch15 hN h0 hN2 (by omega)) (Nat.le_of_ble_eq_true rfl) lX9_227 kX2_waterIn vX2_waterIn dX9_highest_45 rfl rfl rfl (by decide) rfl (Nat.le_of_ble_eq_true rfl) ?_
        refine ev_istore dX9_highest_48 (Nat.le_of_ble_eq_true rfl) rfl ?_
        refine ev_aload_n (i := 0) dX9_highest_50 rfl rfl ?_
        refine ev_getR fX9_36 dX9_highest_51 rfl rfl (by decide) ?_
        refine ev_getI fX9_157 dX9_highest_54 rfl rfl (by decide) ?_
        rw [hv']
        refine ev_iconst (v := 1) dX9_highest_57 kc_1 ?_
        refine ev_iadd dX9_highest_58 ?_
        rw [nI_1]
        refine ev_istore dX9_highest_59 (Nat.le_of_ble_eq_true rfl) rfl ?_
        rw [if_pos rfl, if_pos (by simp_all), em, hv2, nI_clamp (by omega)]
        exact l_high hW hm1 hm2 hv2 hv (m - 1) (v + 1) (nI v) _ _ (by omega)
      · refine ev_ldc qX9_79 dX9_highest_29 ?_
        exact s_retI dX9_highest_31 (by
      first
        | (have eb : b = false := nw_bi_0.mp h4
           subst eb
           exact ⟨rfl, rfl⟩)
        | (have eb : b = true := by cases b; exact absurd rfl h4; rfl
           subst eb
           refine ⟨?_, rfl⟩
           simp_all; done))
  · refine ev_ldc qX9_156 dX9_highest_7 ?_
    exact s_retI dX9_highest_9 (by
      first
        | (have eb : b = false := nw_bi_0.mp h4
           subst eb
           exact ⟨rfl, rfl⟩)
        | (have eb : b = true := by cases b; exact absurd rfl h4; rfl
           subst eb
           refine ⟨?_, rfl⟩
           simp_all; done))
end
