section
variable {l : Launch} {g : nw_G} {I : nw_Me} {N T S : Nat} {b : Bool}
theorem nv_fok.ext {F G : Nat → Int32} {S : Nat} (h : nv_fok F S) (hg : ∀ p, p < S → G (5 + p) = F (5 + p)) : nv_fok G S := fun p hp => by rw [hg p hp]; exact h p hp
def p_laws (f : Nat → Int32) : Nat → Nat → Int32 × Int32 → Int32 × Int32
  | 0, _, r => r
  | n + 1, k, (bk, m) => if f k ≤ m then p_laws f n (k + 1) (bk, m) else p_laws f n (k + 1) (nI k, f k)
def p_lawf (C : Nat → Int32) (T S x : Nat) (F : Nat → Int32) (k : Nat) : Int32 := nI (p_cnt (p_isf (p_pass C T S x (upd F 1 (nI k))) 1) S 0)
theorem l_laws {x : Nat} {w : Int32} (hW : nv_W I true N T S) (hx : x ≤ 200) : ∀ (m k : Nat) (bk mo : Int32) (J : nw_Me) (z : Option Value), k + m = 13 → nv_fr I J 31 6 → nw_S l g 5 mX9_laws 41 [some (.ref (nw_a g 0)), some (.int (nI x)), some (.int w), some (.int bk), some (.int mo), some (.int (nI k)), z] [] J (nw_qI (fun r J' => r = (if w = 0 then (p_laws (p_lawf (nv_cf I 15) T S x (nv_fl I 25)) m k (bk, mo)).1 else (p_laws (p_lawf (nv_cf I 15) T S x (nv_fl I 25)) m k (bk, mo)).2) ∧ nv_fr I J' 31 6)) := by
  obtain ⟨hb, hCk, hor⟩ := id hW
  obtain ⟨hN, hT, hS, hN2, hT3, hS6⟩ := id hCk
  have hN' : I 15 2 = nI N := (cf3 I 15).symm.trans hN
  have hT' : I 15 3 = nI T := (cf4 I 15).symm.trans hT
  have hS' : I 15 4 = nI S := (cf5 I 15).symm.trans hS
  obtain ⟨-, h0, h0T, hk, hF, hinj, ⟨v, hv, hv2⟩, ⟨kl, hk1, hk2, hk3⟩, hH⟩ := id (hW.sea (Or.inr (Or.inr (Or.inr rfl))))
  have e12 : (12 : Int32) = nI 12 := by decide
  intro m
  induction m with
  | zero =>
    intro k bk mo J z hk hJ
    refine ev_iload dX9_laws_41 rfl ?_
    refine ev_bipush (v := 12) dX9_laws_43 kb_12 ?_
    refine ev_icmp_gt (tgt := 114) dX9_laws_45 (by decide) (fun h45 => ?_) (fun h45 => ?_)
    · refine ev_iload_n (i := 2) dX9_laws_114 rfl rfl ?_
      refine ev_if_ne (tgt := 122) dX9_laws_115 (by decide) (fun h115 => ?_) (fun h115 => ?_)
      · refine ev_iload dX9_laws_122 rfl ?_
        exact s_retI dX9_laws_124 ⟨by first | (rw [if_pos h115]; rfl) | (rw [if_neg h115]; rfl), hJ⟩
      · refine ev_iload_n (i := 3) dX9_laws_118 rfl rfl ?_
        refine ev_goto (tgt := 124) dX9_laws_119 (by decide) ?_
        exact s_retI dX9_laws_124 ⟨by first | (rw [if_pos h115]; rfl) | (rw [if_neg h115]; rfl), hJ⟩
    · exact absurd (by rw [e12]; exact nI_lt (by omega) (by omega)) h45
  | succ m ih =>
    intro k bk mo J z hk hJ
    refine ev_iload dX9_laws_41 rfl ?_
    refine ev_bipush (v := 12) dX9_laws_43 kb_12 ?_
    refine ev_icmp_gt (tgt := 114) dX9_laws_45 (by decide) (fun h45 => ?_) (fun h45 => ?_)
    · exact absurd h45 (by rw [e12]; exact nI_nlt (by omega) (by omega))
    · refine ev_aload_n (i := 0) dX9_laws_48 rfl rfl ?_
      refine ev_getR fX9_40 dX9_laws_49 rfl rfl (by decide) ?_
      refine ev_aload_n (i := 0) dX9_laws_52 rfl rfl ?_
      refine ev_getR fX9_36 dX9_laws_53 rfl rfl (by decide) ?_
      refine s_callVv (As := [_]) (c_scBecome nw_sc31 nw_sc25 (by omega)) (Nat.le_of_ble_eq_true rfl) lX9_143 kX8_become vX8_become dX9_laws_56 rfl rfl rfl (by decide) rfl (Nat.le_of_ble_eq_true rfl) (fun J1 h1 => ?_)
      refine ev_aload_n (i := 0) dX9_laws_59 rfl rfl ?_
      refine ev_getR fX9_40 dX9_laws_60 rfl rfl (by decide) ?_
      refine ev_iload dX9_laws_63 rfl ?_
      refine ev_putI fX9_174 dX9_laws_65 rfl rfl (by decide) rfl rfl rfl rfl ?_
      rw [hJ.fl (by omega)] at h1
      have eF : nv_fl (nw_up J1 31 1 (nI k)) 31 = upd (nv_fl I 25) 1 (nI k) := by rw [fl_w_up _ _ (by omega), h1.1]
      have eC : nv_cf (nw_up J1 31 1 (nI k)) 15 = nv_cf I 15 := by rw [nv_cf_ext (I := J1) (fun q q1 q2 => nw_up_ne (by omega)), h1.2.cf (by omega), hJ.cf (by omega)]
      refine ev_aload_n (i := 0) dX9_laws_68 rfl rfl ?_
      refine ev_getR fX9_40 dX9_laws_69 rfl rfl (by decide) ?_
      refine ev_aload_n (i := 0) dX9_laws_72 rfl rfl ?_
      refine ev_getR fX9_26 dX9_laws_73 rfl rfl (by decide) ?_
      refine ev_iload_n (i := 1) dX9_laws_76 rfl rfl ?_
      refine s_callVv (As := [_, _]) (c_pass (N := N) (T := T) (S := S) nw_sc31 nw_ch15 (by omega) (by rw [eC]; exact hCk) h0 (by rw [eF]; exact hF.ext (fun p hp => pk_un (by omega))) (by rw [eF, pk_un (by decide)]; exact hv2) (by omega) (by omega)) (Nat.le_of_ble_eq_true rfl) lX9_267 kX8_pass vX8_pass dX9_laws_77 rfl rfl rfl (by decide) rfl (Nat.le_of_ble_eq_true rfl) (fun J2 h2 => ?_)
      refine ev_aload_n (i := 0) dX9_laws_80 rfl rfl ?_
      refine ev_getR fX9_40 dX9_laws_81 rfl rfl (by decide) ?_
      refine ev_aload_n (i := 0) dX9_laws_84 rfl rfl ?_
      refine ev_getR fX9_26 dX9_laws_85 rfl rfl (by decide) ?_
      refine ev_iconst (v := 1) dX9_laws_88 kc_1 ?_
      refine s_dVi (As := [_, _]) (c_howMany nw_sc31 nw_ch15 (by rw [h2.2.cf (by omega), eC]; exact hS) hS6 _) (Nat.le_of_ble_eq_true rfl) lX9_237 kX8_howMany vX8_howMany dX9_laws_89 rfl rfl rfl (by decide) rfl (Nat.le_of_ble_eq_true rfl) ?_
      rw [h2.1, eF, eC]
      have hJ2 : nv_fr I J2 31 6 := ((hJ.trans h1.2).up (by omega) (by omega)).trans h2.2
      refine ev_istore dX9_laws_92 (Nat.le_of_ble_eq_true rfl) rfl ?_
      refine ev_iload dX9_laws_94 rfl ?_
      refine ev_iload dX9_laws_96 rfl ?_
      refine ev_icmp_le (tgt := 108) dX9_laws_98 (by decide) (fun h98 => ?_) (fun h98 => ?_)
      · refine ev_iincm (m := 1) dX9_laws_108 kc_1 rfl (Nat.le_of_ble_eq_true rfl) rfl ?_
        refine ev_goto (tgt := 41) dX9_laws_111 (by decide) ?_
        rw [nI_1]
        first
          | (have e : p_laws (p_lawf (nv_cf I 15) T S x (nv_fl I 25)) (m + 1) k (bk, mo) = p_laws (p_lawf (nv_cf I 15) T S x (nv_fl I 25)) m (k + 1) (bk, mo) := by
               conv => lhs; unfold p_laws
               rw [if_pos (show p_lawf (nv_cf I 15) T S x (nv_fl I 25) k ≤ mo from h98)]
             rw [e]
             exact ih (k + 1) _ _ J2 _ (by omega) hJ2)
          | (have e : p_laws (p_lawf (nv_cf I 15) T S x (nv_fl I 25)) (m + 1) k (bk, mo) = p_laws (p_lawf (nv_cf I 15) T S x (nv_fl I 25)) m (k + 1) (nI k, p_lawf (nv_cf I 15) T S x (nv_fl I 25) k) := by
               conv => lhs; unfold p_laws
               rw [if_neg (show ¬ p_lawf (nv_cf I 15) T S x (nv_fl I 25) k ≤ mo from h98)]
             rw [e]
             exact ih (k + 1) _ _ J2 _ (by omega) hJ2)
      · refine ev_iload dX9_laws_101 rfl ?_
        refine ev_istore_n (i := 3) dX9_laws_103 rfl (Nat.le_of_ble_eq_true rfl) rfl ?_
        refine ev_iload dX9_laws_104 rfl ?_
        refine ev_istore dX9_laws_106 (Nat.le_of_ble_eq_true rfl) rfl ?_
        refine ev_iincm (m := 1) dX9_laws_108 kc_1 rfl (Nat.le_of_ble_eq_true rfl) rfl ?_
        refine ev_goto (tgt := 41) dX9_laws_111 (by decide) ?_
        rw [nI_1]
        first
          | (have e : p_laws (p_lawf (nv_cf I 15) T S x (nv_fl I 25)) (m + 1) k (bk, mo) = p_laws (p_lawf (nv_cf I 15) T S x (nv_fl I 25)) m (k + 1) (bk, mo) := by
               conv => lhs; unfold p_laws
               rw [if_pos (show p_lawf (nv_cf I 15) T S x (nv_fl I 25) k ≤ mo from h98)]
             rw [e]
             exact ih (k + 1) _ _ J2 _ (by omega) hJ2)
          | (have e : p_laws (p_lawf (nv_cf I 15) T S x (nv_fl I 25)) (m + 1) k (bk, mo) = p_laws (p_lawf (nv_cf I 15) T S x (nv_fl I 25)) m (k + 1) (nI k, p_lawf (nv_cf I 15) T S x (nv_fl I 25) k) := by
               conv => lhs; unfold p_laws
               rw [if_neg (show ¬ p_lawf (nv_cf I 15) T S x (nv_fl I 25) k ≤ mo from h98)]
             rw [e]
             exact ih (k + 1) _ _ J2 _ (by omega) hJ2)
theorem x_laws (hW : nv_W I b N T S) (n w : Int32) : nw_cI l g 5 mX9_laws [.ref (nw_a g 0), .int n, .int w] I (fun r J => r = (if b then (if nv_in n 1 200 && nv_in w 0 1 then (if w = 0 then (p_laws (p_lawf (nv_cf I 15) T S n.toNatClampNeg (nv_fl I 25)) 11 2 (2, -1)).1 else (p_laws (p_lawf (nv_cf I 15) T S n.toNatClampNeg (nv_fl I 25)) 11 2 (2, -1)).2) else -1000001) else -1000002) ∧ nv_fr I J 31 6) := by
  obtain ⟨hb, hCk, hor⟩ := id hW
  obtain ⟨hN, hT, hS, hN2, hT3, hS6⟩ := id hCk
  have hN' : I 15 2 = nI N := (cf3 I 15).symm.trans hN
  have hT' : I 15 3 = nI T := (cf4 I 15).symm.trans hT
  have hS' : I 15 4 = nI S := (cf5 I 15).symm.trans hS
  refine ⟨(Nat.le_of_ble_eq_true rfl), ?_⟩
  refine ev_aload_n (i := 0) dX9_laws_0 rfl rfl ?_
  refine ev_getI fX9_149 dX9_laws_1 rfl rfl (by decide) ?_
  rw [hb]
  refine ev_if_ne (tgt := 10) dX9_laws_4 (by decide) (fun h4 => ?_) (fun h4 => ?_)
  · refine ev_iload_n (i := 1) dX9_laws_10 rfl rfl ?_
    refine ev_iconst (v := 1) dX9_laws_11 kc_1 ?_
    refine ev_sipush (v := 200) dX9_laws_12 ks_200 ?_
    refine s_dSz (As := [_, _, _]) (c_within _ _ _) (Nat.le_of_ble_eq_true rfl) lX9_75 kX9_within sX9_within dX9_laws_15 rfl rfl (Nat.le_of_ble_eq_true rfl) ?_
    refine s_ifZ_eq (tgt := 30) dX9_laws_18 (by decide) (fun h18 => ?_) (fun h18 => ?_)
    · refine ev_ldc qX9_79 dX9_laws_30 ?_
      exact s_retI dX9_laws_32 (by
      first
        | (have eb : b = false := nw_bi_0.mp h4
           subst eb
           exact ⟨rfl, nv_fr.refl _ _ _⟩)
        | (have eb : b = true := by cases b; exact absurd rfl h4; rfl
           subst eb
           refine ⟨?_, nv_fr.refl _ _ _⟩
           simp_all; done))
    · refine ev_iload_n (i := 2) dX9_laws_21 rfl rfl ?_
      refine ev_iconst (v := 0) dX9_laws_22 kc_0 ?_
      refine ev_iconst (v := 1) dX9_laws_23 kc_1 ?_
      refine s_dSz (As := [_, _, _]) (c_within _ _ _) (Nat.le_of_ble_eq_true rfl) lX9_75 kX9_within sX9_within dX9_laws_24 rfl rfl (Nat.le_of_ble_eq_true rfl) ?_
      refine s_ifZ_ne (tgt := 33) dX9_laws_27 (by decide) (fun h27 => ?_) (fun h27 => ?_)
      · have eb : b = true := by cases b; exact absurd rfl h4; rfl
        subst eb
        obtain ⟨m, -, hn2, rfl⟩ := nv_in_n (a := 1) (c := 200) h18 (by decide) (by decide)
        have em : (nI m).toNatClampNeg = m := nI_clamp (by omega)
        refine ev_iconst (v := 2) dX9_laws_33 kc_2 ?_
        refine ev_istore_n (i := 3) dX9_laws_34 rfl (Nat.le_of_ble_eq_true rfl) rfl ?_
        refine ev_iconst (v := (-1)) dX9_laws_35 kc_m1 ?_
        refine ev_istore dX9_laws_36 (Nat.le_of_ble_eq_true rfl) rfl ?_
        refine ev_iconst (v := 2) dX9_laws_38 kc_2 ?_
        refine ev_istore dX9_laws_39 (Nat.le_of_ble_eq_true rfl) rfl ?_
        rw [if_pos rfl, if_pos (by simp_all), em]
        exact l_laws hW hn2 11 2 2 (-1) I _ rfl (nv_fr.refl _ _ _)
      · refine ev_ldc qX9_79 dX9_laws_30 ?_
        exact s_retI dX9_laws_32 (by
      first
        | (have eb : b = false := nw_bi_0.mp h4
           subst eb
           exact ⟨rfl, nv_fr.refl _ _ _⟩)
        | (have eb : b = true := by cases b; exact absurd rfl h4; rfl
           subst eb
           refine ⟨?_, nv_fr.refl _ _ _⟩
           simp_all; done))
  · refine ev_ldc qX9_156 dX9_laws_7 ?_
    exact s_retI dX9_laws_9 (by
      first
        | (have eb : b = false := nw_bi_0.mp h4
           subst eb
           exact ⟨rfl, nv_fr.refl _ _ _⟩)
        | (have eb : b = true := by cases b; exact absurd rfl h4; rfl
           subst eb
           refine ⟨?_, nv_fr.refl _ _ _⟩
           simp_all; done))
/-- what is best so far: the slip (or the tower), its wave, who struck -/
def p_best (s S : Nat) (G : Nat → Int32) (x : Int32) (r : Int32 × Int32 × Int32) : Int32 × Int32 × Int32 := if (decide (G (17 + s) = 1) && (decide (r.2.1 = -1000000) || decide (¬ r.2.1 ≤ G (23 + s)))) = true then (x, G (23 + s), nI (p_cnt (p_isf G 2) S 0)) else r
def p_bribe (C F : Nat → Int32) (T S s t : Nat) : Nat → Nat → Int32 × Int32 × Int32 → Int32 × Int32 × Int32
  | 0, _, r => r
  | n + 1, i, r => p_bribe C F T S s t n (i + 1) (p_best s S (p_pass C T S 200 (upd F (2 + t) (nv_max 0 (F (2 + t) + (nI i - 4))))) (nI i - 4) r)
theorem nv_by : ∀ i, i < 10 → ((4 < nI i - 4 ↔ i = 9) ∧ nI i - 4 + 1 = nI (i + 1) - 4) := by decide
theorem l_bribe {s t : Nat} {w : Int32} (hW : nv_W I true N T S) (hs : s < S) (ht : t < T) (hFt : nv_fl I 25 (11 + s) = nI t) : ∀ (m i : Nat) (r : Int32 × Int32 × Int32) (J : nw_Me), i + m = 9 → nv_fr I J 31 6 → nw_S l g 5 mX9_bribe 49 [some (.ref (nw_a g 0)), some (.int (nI s)), some (.int w), some (.int r.1), some (.int r.2.1), some (.int r.2.2), some (.int (nI i - 4))] [] J (nw_qI (fun a J' => a = (if w = 0 then (p_bribe (nv_cf I 15) (nv_fl I 25) T S s t m i r).1 else if w = 1 then (p_bribe (nv_cf I 15) (nv_fl I 25) T S s t m i r).2.1 else (p_bribe (nv_cf I 15) (nv_fl I 25) T S s t m i r).2.2) ∧ nv_fr I J' 31 6)) := by
  obtain ⟨hb, hCk, hor⟩ := id hW
  obtain ⟨hN, hT, hS, hN2, hT3, hS6⟩ := id hCk
  have hN' : I 15 2 = nI N := (cf3 I 15).symm.trans hN
  have hT' : I 15 3 = nI T := (cf4 I 15).symm.trans hT
  have hS' : I 15 4 = nI S := (cf5 I 15).symm.trans hS
  obtain ⟨-, h0, h0T, hk, hF, hinj, ⟨v, hv, hv2⟩, ⟨kl, hk1, hk2, hk3⟩, hH⟩ := id (hW.sea (Or.inr (Or.inr (Or.inr rfl))))
  have e200 : (200 : Int32) = nI 200 := by decide
  intro m
  induction m with
  | zero =>
    intro i r J hi hJ
    refine ev_iload dX9_bribe_49 rfl ?_
    refine ev_iconst (v := 4) dX9_bribe_51 kc_4 ?_
    refine ev_icmp_gt (tgt := 146) dX9_bribe_52 (by decide) (fun h52 => ?_) (fun h52 => ?_)
    · refine ev_iload_n (i := 2) dX9_bribe_146 rfl rfl ?_
      refine ev_if_ne (tgt := 154) dX9_bribe_147 (by decide) (fun h147 => ?_) (fun h147 => ?_)
      · refine ev_iload_n (i := 2) dX9_bribe_154 rfl rfl ?_
        refine ev_iconst (v := 1) dX9_bribe_155 kc_1 ?_
        refine ev_icmp_ne (tgt := 164) dX9_bribe_156 (by decide) (fun h156 => ?_) (fun h156 => ?_)
        · refine ev_iload dX9_bribe_164 rfl ?_
          exact s_retI dX9_bribe_166 ⟨by first | (rw [if_pos h147]; rfl) | (rw [if_neg h147, if_pos h156]; rfl) | (rw [if_neg h147, if_neg h156]; rfl), hJ⟩
        · refine ev_iload dX9_bribe_159 rfl ?_
          refine ev_goto (tgt := 166) dX9_bribe_161 (by decide) ?_
          exact s_retI dX9_bribe_166 ⟨by first | (rw [if_pos h147]; rfl) | (rw [if_neg h147, if_pos h156]; rfl) | (rw [if_neg h147, if_neg h156]; rfl), hJ⟩
      · refine ev_iload_n (i := 3) dX9_bribe_150 rfl rfl ?_
        refine ev_goto (tgt := 166) dX9_bribe_151 (by decide) ?_
        exact s_retI dX9_bribe_166 ⟨by first | (rw [if_pos h147]; rfl) | (rw [if_neg h147, if_pos h156]; rfl) | (rw [if_neg h147, if_neg h156]; rfl), hJ⟩
    · exact absurd ((nv_by i (by omega)).1.mpr (by omega)) h52
  | succ m ih =>
    intro i r J hi hJ
    refine ev_iload dX9_bribe_49 rfl ?_
    refine ev_iconst (v := 4) dX9_bribe_51 kc_4 ?_
    refine ev_icmp_gt (tgt := 146) dX9_bribe_52 (by decide) (fun h52 => ?_) (fun h52 => ?_)
    · exact absurd ((nv_by i (by omega)).1.mp h52) (by omega)
    · refine ev_aload_n (i := 0) dX9_bribe_55 rfl rfl ?_
      refine ev_getR fX9_40 dX9_bribe_56 rfl rfl (by decide) ?_
      refine ev_aload_n (i := 0) dX9_bribe_59 rfl rfl ?_
      refine ev_getR fX9_36 dX9_bribe_60 rfl rfl (by decide) ?_
      refine s_callVv (As := [_]) (c_scBecome nw_sc31 nw_sc25 (by omega)) (Nat.le_of_ble_eq_true rfl) lX9_143 kX8_become vX8_become dX9_bribe_63 rfl rfl rfl (by decide) rfl (Nat.le_of_ble_eq_true rfl) (fun J1 h1 => ?_)
      rw [hJ.fl (by omega)] at h1
      refine ev_aload_n (i := 0) dX9_bribe_66 rfl rfl ?_
      refine ev_getR fX9_40 dX9_bribe_67 rfl rfl (by decide) ?_
      refine ev_aload_n (i := 0) dX9_bribe_70 rfl rfl ?_
      refine ev_getR fX9_36 dX9_bribe_71 rfl rfl (by decide) ?_
      refine ev_getR fX9_190 dX9_bribe_74 rfl rfl (by decide) ?_
      refine ev_iload_n (i := 1) dX9_bribe_77 rfl rfl ?_
      refine ev_ialdN dX9_bribe_78 rfl (show s < 6 by omega) (by decide) ?_
      rw [show J1 28 s = nI t from (fl_hee J1 25 (show s < 6 by omega)).symm.trans (by rw [h1.2.fl (by omega), hJ.fl (by omega)]; exact hFt)]
      refine ev_iload dX9_bribe_79 rfl ?_
      refine s_callVi (As := [_, _]) (c_slipBy nw_sc31 (show t < 3 by omega) _) (Nat.le_of_ble_eq_true rfl) lX9_170 kX8_slipBy vX8_slipBy dX9_bribe_81 rfl rfl rfl (by decide) rfl (Nat.le_of_ble_eq_true rfl) (fun rr J2 h2 => ?_)
      refine ev_pop dX9_bribe_84 rfl ?_
      have eF : nv_fl J2 31 = upd (nv_fl I 25) (2 + t) (nv_max 0 (nv_fl I 25 (2 + t) + (nI i - 4))) := by rw [h2.2.1, h1.1]
      have eC : nv_cf J2 15 = nv_cf I 15 := by rw [h2.2.2.cf (by omega), h1.2.cf (by omega), hJ.cf (by omega)]
      refine ev_aload_n (i := 0) dX9_bribe_85 rfl rfl ?_
      refine ev_getR fX9_40 dX9_bribe_86 rfl rfl (by decide) ?_
      refine ev_aload_n (i := 0) dX9_bribe_89 rfl rfl ?_
      refine ev_getR fX9_26 dX9_bribe_90 rfl rfl (by decide) ?_
      refine ev_sipush (v := 200) dX9_bribe_93 ks_200 ?_
      rw [e200]
      refine s_callVv (As := [_, _]) (c_pass (N := N) (T := T) (S := S) nw_sc31 nw_ch15 (by omega) (by rw [eC]; exact hCk) h0 (by rw [eF]; exact hF.ext (fun p hp => pk_un (by omega))) (by rw [eF, pk_un (by omega)]; exact hv2) (by omega) (by omega)) (Nat.le_of_ble_eq_true rfl) lX9_267 kX8_pass vX8_pass dX9_bribe_96 rfl rfl rfl (by decide) rfl (Nat.le_of_ble_eq_true rfl) (fun J3 h3 => ?_)
      rw [eF, eC] at h3
      have hJ3 : nv_fr I J3 31 6 := ((hJ.trans h1.2).trans h2.2.2).trans h3.2
      refine ev_aload_n (i := 0) dX9_bribe_99 rfl rfl ?_
      refine ev_getR fX9_40 dX9_bribe_100 rfl rfl (by decide) ?_
      refine ev_iload_n (i := 1) dX9_bribe_103 rfl rfl ?_
      refine ev_iload dX9_bribe_104 rfl ?_
      refine s_dVz (As := [_, _]) (c_overAhead nw_sc31 (show s < 6 by omega) _) (Nat.le_of_ble_eq_true rfl) lX9_271 kX8_isOverAheadOf vX8_isOverAheadOf dX9_bribe_106 rfl rfl rfl (by decide) rfl (Nat.le_of_ble_eq_true rfl) ?_
      rw [h3.1]
      refine s_ifZ_eq (tgt := 140) dX9_bribe_109 (by decide) (fun h109 => ?_) (fun h109 => ?_)
      · refine ev_iincm (m := 1) dX9_bribe_140 kc_1 rfl (Nat.le_of_ble_eq_true rfl) rfl ?_
        refine ev_goto (tgt := 49) dX9_bribe_143 (by decide) ?_
        rw [(nv_by i (by omega)).2]
        first
          | (have e : p_best s S (p_pass (nv_cf I 15) T S 200 (upd (nv_fl I 25) (2 + t) (nv_max 0 (nv_fl I 25 (2 + t) + (nI i - 4))))) (nI i - 4) r = r := by unfold p_best; rw [if_neg (by rw [h109]; decide)]
             have e2 : p_bribe (nv_cf I 15) (nv_fl I 25) T S s t (m + 1) i r = p_bribe (nv_cf I 15) (nv_fl I 25) T S s t m (i + 1) r := by conv => lhs; unfold p_bribe; rw [e]
             rw [e2]
             exact ih (i + 1) r J3 (by omega) hJ3)
          | (have e : p_best s S (p_pass (nv_cf I 15) T S 200 (upd (nv_fl I 25) (2 + t) (nv_max 0 (nv_fl I 25 (2 + t) + (nI i - 4))))) (nI i - 4) r = (nI i - 4, J3 36 s, nI (p_cnt (p_isf (nv_fl J3 31) 2) S 0)) := by unfold p_best; rw [if_pos h109, ← fl_cro J3 31 (show s < 6 by omega), h3.1]
             have e2 : p_bribe (nv_cf I 15) (nv_fl I 25) T S s t (m + 1) i r = p_bribe (nv_cf I 15) (nv_fl I 25) T S s t m (i + 1) (nI i - 4, J3 36 s, nI (p_cnt (p_isf (nv_fl J3 31) 2) S 0)) := by conv => lhs; unfold p_bribe; rw [e]
             rw [e2]
             exact ih (i + 1) (nI i - 4, J3 36 s, nI (p_cnt (p_isf (nv_fl J3 31) 2) S 0)) J3 (by omega) hJ3)
      · refine ev_iload dX9_bribe_112 rfl ?_
        refine ev_istore_n (i := 3) dX9_bribe_114 rfl (Nat.le_of_ble_eq_true rfl) rfl ?_
        refine ev_aload_n (i := 0) dX9_bribe_115 rfl rfl ?_
        refine ev_getR fX9_40 dX9_bribe_116 rfl rfl (by decide) ?_
        refine ev_getR fX9_205 dX9_bribe_119 rfl rfl (by decide) ?_
        refine ev_iload_n (i := 1) dX9_bribe_122 rfl rfl ?_
        refine ev_ialdN dX9_bribe_123 rfl (show s < 6 by omega) (by decide) ?_
        refine ev_istore dX9_bribe_124 (Nat.le_of_ble_eq_true rfl) rfl ?_
        refine ev_aload_n (i := 0) dX9_bribe_126 rfl rfl ?_
        refine ev_getR fX9_40 dX9_bribe_127 rfl rfl (by decide) ?_
        refine ev_aload_n (i := 0) dX9_bribe_130 rfl rfl ?_
        refine ev_getR fX9_26 dX9_bribe_131 rfl rfl (by decide) ?_
        refine ev_iconst (v := 2) dX9_bribe_134 kc_2 ?_
        refine s_dVi (As := [_, _]) (c_howMany nw_sc31 nw_ch15 (by rw [h3.2.cf (by omega), eC]; exact hS) hS6 _) (Nat.le_of_ble_eq_true rfl) lX9_237 kX8_howMany vX8_howMany dX9_bribe_135 rfl rfl rfl (by decide) rfl (Nat.le_of_ble_eq_true rfl) ?_
        refine ev_istore dX9_bribe_138 (Nat.le_of_ble_eq_true rfl) rfl ?_
        refine ev_iincm (m := 1) dX9_bribe_140 kc_1 rfl (Nat.le_of_ble_eq_true rfl) rfl ?_
        refine ev_goto (tgt := 49) dX9_bribe_143 (by decide) ?_
        rw [(nv_by i (by omega)).2]
        first
          | (have e : p_best s S (p_pass (nv_cf I 15) T S 200 (upd (nv_fl I 25) (2 + t) (nv_max 0 (nv_fl I 25 (2 + t) + (nI i - 4))))) (nI i - 4) r = r := by unfold p_best; rw [if_neg (by rw [h109]; decide)]
             have e2 : p_bribe (nv_cf I 15) (nv_fl I 25) T S s t (m + 1) i r = p_bribe (nv_cf I 15) (nv_fl I 25) T S s t m (i + 1) r := by conv => lhs; unfold p_bribe; rw [e]
             rw [e2]
             exact ih (i + 1) r J3 (by omega) hJ3)
          | (have e : p_best s S (p_pass (nv_cf I 15) T S 200 (upd (nv_fl I 25) (2 + t) (nv_max 0 (nv_fl I 25 (2 + t) + (nI i - 4))))) (nI i - 4) r = (nI i - 4, J3 36 s, nI (p_cnt (p_isf (nv_fl J3 31) 2) S 0)) := by unfold p_best; rw [if_pos h109, ← fl_cro J3 31 (show s < 6 by omega), h3.1]
             have e2 : p_bribe (nv_cf I 15) (nv_fl I 25) T S s t (m + 1) i r = p_bribe (nv_cf I 15) (nv_fl I 25) T S s t m (i + 1) (nI i - 4, J3 36 s, nI (p_cnt (p_isf (nv_fl J3 31) 2) S 0)) := by conv => lhs; unfold p_bribe; rw [e]
             rw [e2]
             exact ih (i + 1) (nI i - 4, J3 36 s, nI (p_cnt (p_isf (nv_fl J3 31) 2) S 0)) J3 (by omega) hJ3)
theorem x_bribe (hW : nv_W I b N T S) (x w : Int32) : nw_cI l g 5 mX9_bribe [.ref (nw_a g 0), .int x, .int w] I (fun r J => r = (if nv_in x 0 (nI S - 1) && nv_in w 0 2 then (if nv_fl I 25 (17 + x.toNatClampNeg) = 0 then (if w = 0 then (p_bribe (nv_cf I 15) (nv_fl I 25) T S x.toNatClampNeg (nv_fl I 25 (11 + x.toNatClampNeg)).toNatClampNeg 9 0 (-1000000, -1000000, -1000000)).1 else if w = 1 then (p_bribe (nv_cf I 15) (nv_fl I 25) T S x.toNatClampNeg (nv_fl I 25 (11 + x.toNatClampNeg)).toNatClampNeg 9 0 (-1000000, -1000000, -1000000)).2.1 else (p_bribe (nv_cf I 15) (nv_fl I 25) T S x.toNatClampNeg (nv_fl I 25 (11 + x.toNatClampNeg)).toNatClampNeg 9 0 (-1000000, -1000000, -1000000)).2.2) else -1000002) else -1000001) ∧ nv_fr I J 31 6) := by
  obtain ⟨hb, hCk, hor⟩ := id hW
  obtain ⟨hN, hT, hS, hN2, hT3, hS6⟩ := id hCk
  have hN' : I 15 2 = nI N := (cf3 I 15).symm.trans hN
  have hT' : I 15 3 = nI T := (cf4 I 15).symm.trans hT
  have hS' : I 15 4 = nI S := (cf5 I 15).symm.trans hS
  refine ⟨(Nat.le_of_ble_eq_true rfl), ?_⟩
  refine ev_aload_n (i := 0) dX9_bribe_0 rfl rfl ?_
  refine ev_iload_n (i := 1) dX9_bribe_1 rfl rfl ?_
  refine s_dVz (As := [_]) (c_isShip _) (Nat.le_of_ble_eq_true rfl) lX9_177 kX9_isShip vX9_isShip dX9_bribe_2 rfl rfl rfl (by decide) rfl (Nat.le_of_ble_eq_true rfl) ?_
  rw [hS']
  refine s_ifZ_eq (tgt := 17) dX9_bribe_5 (by decide) (fun h5 => ?_) (fun h5 => ?_)
  · refine ev_ldc qX9_79 dX9_bribe_17 ?_
    exact s_retI dX9_bribe_19 (by refine ⟨?_, nv_fr.refl _ _ _⟩; simp_all)
  · refine ev_iload_n (i := 2) dX9_bribe_8 rfl rfl ?_
    refine ev_iconst (v := 0) dX9_bribe_9 kc_0 ?_
    refine ev_iconst (v := 2) dX9_bribe_10 kc_2 ?_
    refine s_dSz (As := [_, _, _]) (c_within _ _ _) (Nat.le_of_ble_eq_true rfl) lX9_75 kX9_within sX9_within dX9_bribe_11 rfl rfl (Nat.le_of_ble_eq_true rfl) ?_
    refine s_ifZ_ne (tgt := 20) dX9_bribe_14 (by decide) (fun h14 => ?_) (fun h14 => ?_)
    · have h5' := h5
      obtain ⟨s, hs, rfl⟩ := nv_in_S (by omega) h5
      obtain ⟨rfl, h0, h0T, hk, hF, hinj, ⟨v, hv, hv2⟩, hlaw, hH⟩ := hW.sea (Or.inl (by omega))
      obtain ⟨t, ht, hFt⟩ := hH s hs
      have es : (nI s).toNatClampNeg = s := nI_clamp (by omega)
      have et : (nI t).toNatClampNeg = t := nI_clamp (by omega)
      refine ev_aload_n (i := 0) dX9_bribe_20 rfl rfl ?_
      refine ev_getR fX9_36 dX9_bribe_21 rfl rfl (by decide) ?_
      refine ev_iload_n (i := 1) dX9_bribe_24 rfl rfl ?_
      refine s_dVz (As := [_]) (c_waits nw_sc25 (show s < 6 by omega)) (Nat.le_of_ble_eq_true rfl) lX9_187 kX8_waits vX8_waits dX9_bribe_25 rfl rfl rfl (by decide) rfl (Nat.le_of_ble_eq_true rfl) ?_
      refine s_ifZ_ne (tgt := 34) dX9_bribe_28 (by decide) (fun h28 => ?_) (fun h28 => ?_)
      · refine ev_ldc qX9_249 dX9_bribe_34 ?_
        refine ev_istore_n (i := 3) dX9_bribe_36 rfl (Nat.le_of_ble_eq_true rfl) rfl ?_
        refine ev_ldc qX9_249 dX9_bribe_37 ?_
        refine ev_istore dX9_bribe_39 (Nat.le_of_ble_eq_true rfl) rfl ?_
        refine ev_ldc qX9_249 dX9_bribe_41 ?_
        refine ev_istore dX9_bribe_43 (Nat.le_of_ble_eq_true rfl) rfl ?_
        refine ev_bipush (v := (-4)) dX9_bribe_45 kb_m4 ?_
        refine ev_istore dX9_bribe_47 (Nat.le_of_ble_eq_true rfl) rfl ?_
        rw [if_pos (by simp_all), es, if_pos (of_decide_eq_true h28), hFt, et]
        exact l_bribe hW hs ht hFt 9 0 (-1000000, -1000000, -1000000) I rfl (nv_fr.refl _ _ _)
      · refine ev_ldc qX9_156 dX9_bribe_31 ?_
        exact s_retI dX9_bribe_33 (by refine ⟨?_, nv_fr.refl _ _ _⟩; simp_all)
    · refine ev_ldc qX9_79 dX9_bribe_17 ?_
      exact s_retI dX9_bribe_19 (by refine ⟨?_, nv_fr.refl _ _ _⟩; simp_all)
def p_heed (C F : Nat → Int32) (T S s : Nat) : Nat → Nat → Int32 × Int32 × Int32 → Int32 × Int32 × Int32
  | 0, _, r => r
  | n + 1, t, r => p_heed C F T S s n (t + 1) (p_best s S (p_pass C T S 200 (upd F (11 + s) (nI t))) (nI t) r)
theorem l_heed {s : Nat} (hW : nv_W I true N T S) (hs : s < S) : ∀ (m t : Nat) (r : Int32 × Int32 × Int32) (J : nw_Me), t + m = T → nv_fr I J 31 6 → nw_S l g 5 mX9_heed 34 [some (.ref (nw_a g 0)), some (.int (nI s)), some (.int r.1), some (.int r.2.1), some (.int (nI t))] [] J (nw_qI (fun a J' => a = (p_heed (nv_cf I 15) (nv_fl I 25) T S s m t r).1 ∧ nv_fr I J' 31 6)) := by
  obtain ⟨hb, hCk, hor⟩ := id hW
  obtain ⟨hN, hT, hS, hN2, hT3, hS6⟩ := id hCk
  have hN' : I 15 2 = nI N := (cf3 I 15).symm.trans hN
  have hT' : I 15 3 = nI T := (cf4 I 15).symm.trans hT
  have hS' : I 15 4 = nI S := (cf5 I 15).symm.trans hS
  obtain ⟨-, h0, h0T, hk, hF, hinj, ⟨v, hv, hv2⟩, ⟨kl, hk1, hk2, hk3⟩, hH⟩ := id (hW.sea (Or.inr (Or.inr (Or.inr rfl))))
  have e200 : (200 : Int32) = nI 200 := by decide
  intro m
  induction m with
  | zero =>
    intro t r J ht hJ
    have hT2 : J 15 3 = nI T := by rw [hJ 15 (by omega)]; exact hT'
    refine ev_iload dX9_heed_34 rfl ?_
    refine ev_aload_n (i := 0) dX9_heed_36 rfl rfl ?_
    refine ev_getR fX9_26 dX9_heed_37 rfl rfl (by decide) ?_
    refine ev_getI fX9_274 dX9_heed_40 rfl rfl (by decide) ?_
    refine ev_icmp_ge (tgt := 113) dX9_heed_43 (by decide) (fun h43 => ?_) (fun h43 => ?_)
    · refine ev_iload_n (i := 2) dX9_heed_113 rfl rfl ?_
      exact s_retI dX9_heed_114 ⟨rfl, hJ⟩
    · exact absurd (by rw [hT2]; exact nI_le (by omega) (by omega)) h43
  | succ m ih =>
    intro t r J ht hJ
    have hT2 : J 15 3 = nI T := by rw [hJ 15 (by omega)]; exact hT'
    refine ev_iload dX9_heed_34 rfl ?_
    refine ev_aload_n (i := 0) dX9_heed_36 rfl rfl ?_
    refine ev_getR fX9_26 dX9_heed_37 rfl rfl (by decide) ?_
    refine ev_getI fX9_274 dX9_heed_40 rfl rfl (by decide) ?_
    refine ev_icmp_ge (tgt := 113) dX9_heed_43 (by decide) (fun h43 => ?_) (fun h43 => ?_)
    · exact absurd h43 (by rw [hT2]; exact nI_ge (by omega) (by omega))
    · refine ev_aload_n (i := 0) dX9_heed_46 rfl rfl ?_
      refine ev_getR fX9_40 dX9_heed_47 rfl rfl (by decide) ?_
      refine ev_aload_n (i := 0) dX9_heed_50 rfl rfl ?_
      refine ev_getR fX9_36 dX9_heed_51 rfl rfl (by decide) ?_
      refine s_callVv (As := [_]) (c_scBecome nw_sc31 nw_sc25 (by omega)) (Nat.le_of_ble_eq_true rfl) lX9_143 kX8_become vX8_become dX9_heed_54 rfl rfl rfl (by decide) rfl (Nat.le_of_ble_eq_true rfl) (fun J1 h1 => ?_)
      rw [hJ.fl (by omega)] at h1
      refine ev_aload_n (i := 0) dX9_heed_57 rfl rfl ?_
      refine ev_getR fX9_40 dX9_heed_58 rfl rfl (by decide) ?_
      refine ev_getR fX9_190 dX9_heed_61 rfl rfl (by decide) ?_
      refine ev_iload_n (i := 1) dX9_heed_64 rfl rfl ?_
      refine ev_iload dX9_heed_65 rfl ?_
      refine ev_iastN dX9_heed_67 rfl (show s < 6 by omega) (by decide) ?_
      have eF : nv_fl (nw_up J1 34 s (nI t)) 31 = upd (nv_fl I 25) (11 + s) (nI t) := by rw [fl_hee_up _ _ (show s < 6 by omega), h1.1]
      have eC : nv_cf (nw_up J1 34 s (nI t)) 15 = nv_cf I 15 := by rw [nv_cf_ext (I := J1) (fun q q1 q2 => nw_up_ne (by omega)), h1.2.cf (by omega), hJ.cf (by omega)]
      refine ev_aload_n (i := 0) dX9_heed_68 rfl rfl ?_
      refine ev_getR fX9_40 dX9_heed_69 rfl rfl (by decide) ?_
      refine ev_aload_n (i := 0) dX9_heed_72 rfl rfl ?_
      refine ev_getR fX9_26 dX9_heed_73 rfl rfl (by decide) ?_
      refine ev_sipush (v := 200) dX9_heed_76 ks_200 ?_
      rw [e200]
      refine s_callVv (As := [_, _]) (c_pass (N := N) (T := T) (S := S) nw_sc31 nw_ch15 (by omega) (by rw [eC]; exact hCk) h0 (by rw [eF]; exact hF.ext (fun p hp => pk_un (by omega))) (by rw [eF, pk_un (by omega)]; exact hv2) (by omega) (by omega)) (Nat.le_of_ble_eq_true rfl) lX9_267 kX8_pass vX8_pass dX9_heed_79 rfl rfl rfl (by decide) rfl (Nat.le_of_ble_eq_true rfl) (fun J3 h3 => ?_)
      rw [eF, eC] at h3
      have hJ3 : nv_fr I J3 31 6 := ((hJ.trans h1.2).up (by omega) (by omega)).trans h3.2
      refine ev_aload_n (i := 0) dX9_heed_82 rfl rfl ?_
      refine ev_getR fX9_40 dX9_heed_83 rfl rfl (by decide) ?_
      refine ev_iload_n (i := 1) dX9_heed_86 rfl rfl ?_
      refine ev_iload_n (i := 3) dX9_heed_87 rfl rfl ?_
      refine s_dVz (As := [_, _]) (c_overAhead nw_sc31 (show s < 6 by omega) _) (Nat.le_of_ble_eq_true rfl) lX9_271 kX8_isOverAheadOf vX8_isOverAheadOf dX9_heed_88 rfl rfl rfl (by decide) rfl (Nat.le_of_ble_eq_true rfl) ?_
      rw [h3.1]
      refine s_ifZ_eq (tgt := 107) dX9_heed_91 (by decide) (fun h91 => ?_) (fun h91 => ?_)
      · refine ev_iincm (m := 1) dX9_heed_107 kc_1 rfl (Nat.le_of_ble_eq_true rfl) rfl ?_
        refine ev_goto (tgt := 34) dX9_heed_110 (by decide) ?_
        rw [nI_1]
        first
          | (have e : p_best s S (p_pass (nv_cf I 15) T S 200 (upd (nv_fl I 25) (11 + s) (nI t))) (nI t) r = r := by unfold p_best; rw [if_neg (by rw [h91]; decide)]
             have e2 : p_heed (nv_cf I 15) (nv_fl I 25) T S s (m + 1) t r = p_heed (nv_cf I 15) (nv_fl I 25) T S s m (t + 1) r := by conv => lhs; unfold p_heed; rw [e]
             rw [e2]
             exact ih (t + 1) r J3 (by omega) hJ3)
          | (have e : p_best s S (p_pass (nv_cf I 15) T S 200 (upd (nv_fl I 25) (11 + s) (nI t))) (nI t) r = (nI t, J3 36 s, nI (p_cnt (p_isf (nv_fl J3 31) 2) S 0)) := by unfold p_best; rw [if_pos h91, ← fl_cro J3 31 (show s < 6 by omega), h3.1]
             have e2 : p_heed (nv_cf I 15) (nv_fl I 25) T S s (m + 1) t r = p_heed (nv_cf I 15) (nv_fl I 25) T S s m (t + 1) (nI t, J3 36 s, nI (p_cnt (p_isf (nv_fl J3 31) 2) S 0)) := by conv => lhs; unfold p_heed; rw [e]
             rw [e2]
             exact ih (t + 1) (nI t, J3 36 s, nI (p_cnt (p_isf (nv_fl J3 31) 2) S 0)) J3 (by omega) hJ3)
      · refine ev_iload dX9_heed_94 rfl ?_
        refine ev_istore_n (i := 2) dX9_heed_96 rfl (Nat.le_of_ble_eq_true rfl) rfl ?_
        refine ev_aload_n (i := 0) dX9_heed_97 rfl rfl ?_
        refine ev_getR fX9_40 dX9_heed_98 rfl rfl (by decide) ?_
        refine ev_getR fX9_205 dX9_heed_101 rfl rfl (by decide) ?_
        refine ev_iload_n (i := 1) dX9_heed_104 rfl rfl ?_
        refine ev_ialdN dX9_heed_105 rfl (show s < 6 by omega) (by decide) ?_
        refine ev_istore_n (i := 3) dX9_heed_106 rfl (Nat.le_of_ble_eq_true rfl) rfl ?_
        refine ev_iincm (m := 1) dX9_heed_107 kc_1 rfl (Nat.le_of_ble_eq_true rfl) rfl ?_
        refine ev_goto (tgt := 34) dX9_heed_110 (by decide) ?_
        rw [nI_1]
        first
          | (have e : p_best s S (p_pass (nv_cf I 15) T S 200 (upd (nv_fl I 25) (11 + s) (nI t))) (nI t) r = r := by unfold p_best; rw [if_neg (by rw [h91]; decide)]
             have e2 : p_heed (nv_cf I 15) (nv_fl I 25) T S s (m + 1) t r = p_heed (nv_cf I 15) (nv_fl I 25) T S s m (t + 1) r := by conv => lhs; unfold p_heed; rw [e]
             rw [e2]
             exact ih (t + 1) r J3 (by omega) hJ3)
          | (have e : p_best s S (p_pass (nv_cf I 15) T S 200 (upd (nv_fl I 25) (11 + s) (nI t))) (nI t) r = (nI t, J3 36 s, nI (p_cnt (p_isf (nv_fl J3 31) 2) S 0)) := by unfold p_best; rw [if_pos h91, ← fl_cro J3 31 (show s < 6 by omega), h3.1]
             have e2 : p_heed (nv_cf I 15) (nv_fl I 25) T S s (m + 1) t r = p_heed (nv_cf I 15) (nv_fl I 25) T S s m (t + 1) (nI t, J3 36 s, nI (p_cnt (p_isf (nv_fl J3 31) 2) S 0)) := by conv => lhs; unfold p_heed; rw [e]
             rw [e2]
             exact ih (t + 1) (nI t, J3 36 s, nI (p_cnt (p_isf (nv_fl J3 31) 2) S 0)) J3 (by omega) hJ3)
theorem x_heed (hW : nv_W I b N T S) (x : Int32) : nw_cI l g 5 mX9_heed [.ref (nw_a g 0), .int x] I (fun r J => r = (if nv_in x 0 (nI S - 1) then (if nv_fl I 25 (17 + x.toNatClampNeg) = 0 then (p_heed (nv_cf I 15) (nv_fl I 25) T S x.toNatClampNeg T 0 (-1000000, -1000000, -1000000)).1 else -1000002) else -1000001) ∧ nv_fr I J 31 6) := by
  obtain ⟨hb, hCk, hor⟩ := id hW
  obtain ⟨hN, hT, hS, hN2, hT3, hS6⟩ := id hCk
  have hN' : I 15 2 = nI N := (cf3 I 15).symm.trans hN
  have hT' : I 15 3 = nI T := (cf4 I 15).symm.trans hT
  have hS' : I 15 4 = nI S := (cf5 I 15).symm.trans hS
  refine ⟨(Nat.le_of_ble_eq_true rfl), ?_⟩
  refine ev_aload_n (i := 0) dX9_heed_0 rfl rfl ?_
  refine ev_iload_n (i := 1) dX9_heed_1 rfl rfl ?_
  refine s_dVz (As := [_]) (c_isShip _) (Nat.le_of_ble_eq_true rfl) lX9_177 kX9_isShip vX9_isShip dX9_heed_2 rfl rfl rfl (by decide) rfl (Nat.le_of_ble_eq_true rfl) ?_
  rw [hS']
  refine s_ifZ_ne (tgt := 11) dX9_heed_5 (by decide) (fun h5 => ?_) (fun h5 => ?_)
  · have h5' := h5
    obtain ⟨s, hs, rfl⟩ := nv_in_S (by omega) h5
    obtain ⟨rfl, -⟩ := hW.sea (Or.inl (by omega))
    have es : (nI s).toNatClampNeg = s := nI_clamp (by omega)
    refine ev_aload_n (i := 0) dX9_heed_11 rfl rfl ?_
    refine ev_getR fX9_36 dX9_heed_12 rfl rfl (by decide) ?_
    refine ev_iload_n (i := 1) dX9_heed_15 rfl rfl ?_
    refine s_dVz (As := [_]) (c_waits nw_sc25 (show s < 6 by omega)) (Nat.le_of_ble_eq_true rfl) lX9_187 kX8_waits vX8_waits dX9_heed_16 rfl rfl rfl (by decide) rfl (Nat.le_of_ble_eq_true rfl) ?_
    refine s_ifZ_ne (tgt := 25) dX9_heed_19 (by decide) (fun h19 => ?_) (fun h19 => ?_)
    · refine ev_ldc qX9_249 dX9_heed_25 ?_
      refine ev_istore_n (i := 2) dX9_heed_27 rfl (Nat.le_of_ble_eq_true rfl) rfl ?_
      refine ev_ldc qX9_249 dX9_heed_28 ?_
      refine ev_istore_n (i := 3) dX9_heed_30 rfl (Nat.le_of_ble_eq_true rfl) rfl ?_
      refine ev_iconst (v := 0) dX9_heed_31 kc_0 ?_
      refine ev_istore dX9_heed_32 (Nat.le_of_ble_eq_true rfl) rfl ?_
      rw [if_pos (by simp_all), es, if_pos (of_decide_eq_true h19)]
      exact l_heed hW hs T 0 (-1000000, -1000000, -1000000) I (by omega) (nv_fr.refl _ _ _)
    · refine ev_ldc qX9_156 dX9_heed_22 ?_
      exact s_retI dX9_heed_24 (by refine ⟨?_, nv_fr.refl _ _ _⟩; simp_all)
  · refine ev_ldc qX9_79 dX9_heed_8 ?_
    exact s_retI dX9_heed_10 (by refine ⟨?_, nv_fr.refl _ _ _⟩; simp_all)
end
