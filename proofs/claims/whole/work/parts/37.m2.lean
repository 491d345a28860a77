section
variable {l : Launch} {g : nw_G} {I : nw_Me} {N T S : Nat} {C G : Nat → Int32}
def nv_oi (o : Option Nat) : Int32 := match o with
  | none => -1
  | some s => nI s
theorem p_find_snoc (F : Nat → Int32) (t : Int32) (n p : Nat) : p_find F t (n + 1) p = if F (17 + (F (5 + p)).toNatClampNeg) = 0 ∧ F (11 + (F (5 + p)).toNatClampNeg) = t then some (F (5 + p)).toNatClampNeg else p_find F t n (p + 1) := rfl
theorem p_find_ext {F F' : Nat → Int32} (h6 : S ≤ 6) (hF : nv_fok F S) (e : ∀ i, 5 ≤ i → F' i = F i) (t : Int32) : ∀ (n p : Nat), p_find F' t n p = p_find F t n p
  | 0, p => rfl
  | n + 1, p => by rw [p_find_snoc, p_find_snoc, e (5 + p) (by omega), e _ (by omega), e _ (by omega), p_find_ext h6 hF e t n (p + 1)]
theorem nI_sub1 (j : Nat) : nI j + -1 = nI j - 1 := by rw [Int32.sub_eq_add_neg]
theorem l_find {J : nw_Me} {t : Nat} {k h dp mo : Int32} {ca : Bool} {Post : Option Int32 → List nw_Sh → nw_Me → Prop} (hS6 : S ≤ 6) (ht : t < 3) (hF : nv_fok G S) (hG : nl_F T S G (J 233)) (kk : ∀ z8 z9 : Option Value, nw_S l g 3 mX10_comes 151 [some (.ref (nw_a g 219)), some (.int k), some (.int h), some (.int dp), some (.int (nI t)), some (.int mo), some (.int (nw_bi ca)), some (.int (nv_oi (p_find G (nI t) S 0))), z8, z9] [] J Post) : ∀ (j : Nat) (z9 : Option Value), j ≤ S → nw_S l g 3 mX10_comes 92 [some (.ref (nw_a g 219)), some (.int k), some (.int h), some (.int dp), some (.int (nI t)), some (.int mo), some (.int (nw_bi ca)), some (.int (nv_oi (p_find G (nI t) (S - j) j))), some (.int (nI j - 1)), z9] [] J Post := by
  intro j
  induction j with
  | zero =>
    intro z9 hj
    rw [Nat.sub_zero]
    refine ev_iload dX10_comes_92 rfl ?_
    refine ev_if_lt (tgt := 151) dX10_comes_94 (by decide) (fun h94 => ?_) (fun h94 => ?_)
    · exact kk _ _
    · exact absurd (by decide) h94
  | succ j ih =>
    intro z9 hj
    rw [nI_pred]
    obtain ⟨s, hs1, hs2⟩ := hF j (by omega)
    have e1 : (G (5 + j)).toNatClampNeg = s := by rw [hs2]; exact nI_clamp (by omega)
    have g1 := hG (5 + j) (by unfold nl_f; omega)
    rw [hs2] at g1
    have g2 := hG (17 + s) (by unfold nl_f; omega)
    have g3 := hG (11 + s) (by unfold nl_f; omega)
    have ef := p_find_snoc G (nI t) (S - (j + 1)) j
    rw [show S - (j + 1) + 1 = S - j by omega, e1] at ef
    refine ev_iload dX10_comes_92 rfl ?_
    refine ev_if_lt (tgt := 151) dX10_comes_94 (by decide) (fun h94 => ?_) (fun h94 => ?_)
    · exact absurd h94 (nI_pos (by omega))
    · refine ev_aload_n (i := 0) dX10_comes_97 rfl rfl ?_
      refine ev_getR fX10_50 dX10_comes_98 rfl rfl (by decide) ?_
      refine ev_iconst (v := 5) dX10_comes_101 kc_5 ?_
      refine ev_iload dX10_comes_102 rfl ?_
      refine ev_iaddN (a := 5) (b := j) dX10_comes_104 ?_
      refine ev_ialdN (j := (5 + j)) dX10_comes_105 rfl (by omega) (by decide) ?_
      rw [g1]
      refine ev_istore dX10_comes_106 (Nat.le_of_ble_eq_true rfl) rfl ?_
      refine ev_aload_n (i := 0) dX10_comes_108 rfl rfl ?_
      refine ev_getR fX10_50 dX10_comes_109 rfl rfl (by decide) ?_
      refine ev_bipush (v := 17) dX10_comes_112 kb_17 ?_
      refine ev_iload dX10_comes_114 rfl ?_
      refine ev_iaddN (a := 17) (b := s) dX10_comes_116 ?_
      refine ev_ialdN (j := (17 + s)) dX10_comes_117 rfl (by omega) (by decide) ?_
      rw [g2]
      refine ev_if_ne (tgt := 141) dX10_comes_118 (by decide) (fun h118 => ?_) (fun h118 => ?_)
      · refine ev_iload dX10_comes_141 rfl ?_
        refine ev_istore dX10_comes_143 (Nat.le_of_ble_eq_true rfl) rfl ?_
        refine ev_iincm (m := (-1)) dX10_comes_145 kc_m1 rfl (Nat.le_of_ble_eq_true rfl) rfl ?_
        refine ev_goto (tgt := 92) dX10_comes_148 (by decide) ?_
        rw [nI_sub1]
        have hi := ih (some (.int (nI s))) (by omega)
        rw [ef] at hi
        first
          | (rw [if_pos (show G (17 + s) = 0 ∧ G (11 + s) = nI t from ⟨h118, h133⟩)] at hi; exact hi)
          | (rw [if_neg (fun q => h133 q.2)] at hi; exact hi)
          | (rw [if_neg (fun q => h118 q.1)] at hi; exact hi)
      · refine ev_aload_n (i := 0) dX10_comes_121 rfl rfl ?_
        refine ev_getR fX10_50 dX10_comes_122 rfl rfl (by decide) ?_
        refine ev_bipush (v := 11) dX10_comes_125 kb_11 ?_
        refine ev_iload dX10_comes_127 rfl ?_
        refine ev_iaddN (a := 11) (b := s) dX10_comes_129 ?_
        refine ev_ialdN (j := (11 + s)) dX10_comes_130 rfl (by omega) (by decide) ?_
        rw [g3]
        refine ev_iload dX10_comes_131 rfl ?_
        refine ev_icmp_ne (tgt := 141) dX10_comes_133 (by decide) (fun h133 => ?_) (fun h133 => ?_)
        · refine ev_iload dX10_comes_141 rfl ?_
          refine ev_istore dX10_comes_143 (Nat.le_of_ble_eq_true rfl) rfl ?_
          refine ev_iincm (m := (-1)) dX10_comes_145 kc_m1 rfl (Nat.le_of_ble_eq_true rfl) rfl ?_
          refine ev_goto (tgt := 92) dX10_comes_148 (by decide) ?_
          rw [nI_sub1]
          have hi := ih (some (.int (nI s))) (by omega)
          rw [ef] at hi
          first
            | (rw [if_pos (show G (17 + s) = 0 ∧ G (11 + s) = nI t from ⟨h118, h133⟩)] at hi; exact hi)
            | (rw [if_neg (fun q => h133 q.2)] at hi; exact hi)
            | (rw [if_neg (fun q => h118 q.1)] at hi; exact hi)
        · refine ev_iload dX10_comes_136 rfl ?_
          refine ev_goto (tgt := 143) dX10_comes_138 (by decide) ?_
          refine ev_istore dX10_comes_143 (Nat.le_of_ble_eq_true rfl) rfl ?_
          refine ev_iincm (m := (-1)) dX10_comes_145 kc_m1 rfl (Nat.le_of_ble_eq_true rfl) rfl ?_
          refine ev_goto (tgt := 92) dX10_comes_148 (by decide) ?_
          rw [nI_sub1]
          have hi := ih (some (.int (nI s))) (by omega)
          rw [ef] at hi
          first
            | (rw [if_pos (show G (17 + s) = 0 ∧ G (11 + s) = nI t from ⟨h118, h133⟩)] at hi; exact hi)
            | (rw [if_neg (fun q => h133 q.2)] at hi; exact hi)
            | (rw [if_neg (fun q => h118 q.1)] at hi; exact hi)
theorem p_turn_G (hS6 : S ≤ 6) (hF : nv_fok G S) {k w : Int32} {t : Nat} (ht : t < 3) : p_turn C S k w t G = (match (if p_call C k G t then p_find (upd G (2 + t) (G (2 + t) + p_more C k t)) (nI t) S 0 else none) with
    | none => upd G (2 + t) (G (2 + t) + p_more C k t)
    | some s => upd (upd (upd G (2 + t) (G (2 + t) + p_more C k t)) (17 + s) (if w < C (49 + s) then 2 else 1)) (23 + s) (G 0)) := by
  unfold p_turn
  rw [p_find_ext hS6 hF (fun i hi => pk_un (by omega))]
  by_cases hc : p_call C k G t = true
  · rw [if_pos hc, if_pos hc]
    cases hf : p_find G (nI t) S 0 with
    | none => rfl
    | some s =>
      funext i
      simp only [p_cross, upd]
      repeat' split
      all_goals first | rfl | (exfalso; omega)
  · rw [if_neg hc, if_neg hc]
theorem l_comes {k h w : Int32} {f : Nat → Int32} (hC : nl_C N T S C f) : ∀ (n t : Nat) (G : Nat → Int32) (J : nw_Me) (z5 z6 z7 z8 z9 : Option Value), t + n = T → J 225 = f → nv_fok G S → ¬ G 1 ≤ 0 → nl_F T S G (J 233) → nw_S l g 3 mX10_comes 16 [some (.ref (nw_a g 219)), some (.int k), some (.int h), some (.int w), some (.int (nI t)), z5, z6, z7, z8, z9] [] J (nw_qV (fun K => nl_F T S (upd (p_tow C S k w n t G) 0 (p_tow C S k w n t G 0 + 1)) (K 233) ∧ ∀ q, q ≠ 233 → K q = J q)) := by
  have hT := hC.t
  have hT3 := hC.hT
  have hS := hC.s
  have hS6 := hC.hS
  intro n
  induction n with
  | zero =>
    intro t G J z5 z6 z7 z8 z9 ht hJ hF hl hG
    refine ev_iload dX10_comes_16 rfl ?_
    refine ev_aload_n (i := 0) dX10_comes_18 rfl rfl ?_
    refine ev_getR fX10_25 dX10_comes_19 rfl rfl (by decide) ?_
    refine ev_iconst (v := 4) dX10_comes_22 kc_4 ?_
    refine ev_ialdN (j := 4) dX10_comes_23 rfl (by omega) (by decide) ?_
    rw [hJ, hT]
    refine ev_icmp_ge (tgt := 212) dX10_comes_24 (by decide) (fun h24 => ?_) (fun h24 => ?_)
    · refine ev_aload_n (i := 0) dX10_comes_212 rfl rfl ?_
      refine ev_getR fX10_50 dX10_comes_213 rfl rfl (by decide) ?_
      refine ev_iconst (v := 0) dX10_comes_216 kc_0 ?_
      refine ev_dup2 dX10_comes_217 rfl rfl ?_
      refine ev_ialdN (j := 0) dX10_comes_218 rfl (by omega) (by decide) ?_
      refine ev_iconst (v := 1) dX10_comes_219 kc_1 ?_
      refine ev_iadd dX10_comes_220 ?_
      refine ev_iastN (j := 0) dX10_comes_221 rfl (by omega) (by decide) ?_
      exact s_retV dX10_comes_222 ⟨by rw [nw_up_self]; have e0 := hG 0 (by unfold nl_f; omega); rw [e0]; exact hG.upd 0 _, fun q hq => nw_up_ne hq⟩
    · exact absurd (nI_le (by omega) (by omega)) h24
  | succ n ih =>
    intro t G J z5 z6 z7 z8 z9 ht hJ hF hl hG
    have g0 := hG 0 (by unfold nl_f; omega)
    have g1 := hG 1 (by unfold nl_f; omega)
    have g2 := hG (2 + t) (by unfold nl_f; omega)
    have c1 := hC.2 (46 + t) (by unfold nl_c; omega)
    have hG1 := hG.upd (2 + t) (G (2 + t) + p_more C k t)
    have hF1 : nv_fok (upd G (2 + t) (G (2 + t) + p_more C k t)) S := fun p hp => by rw [pk_un (by omega)]; exact hF p hp
    have eG := p_turn_G (C := C) hS6 hF (k := k) (w := w) (t := t) (by omega)
    refine ev_iload dX10_comes_16 rfl ?_
    refine ev_aload_n (i := 0) dX10_comes_18 rfl rfl ?_
    refine ev_getR fX10_25 dX10_comes_19 rfl rfl (by decide) ?_
    refine ev_iconst (v := 4) dX10_comes_22 kc_4 ?_
    refine ev_ialdN (j := 4) dX10_comes_23 rfl (by omega) (by decide) ?_
    rw [hJ, hT]
    refine ev_icmp_ge (tgt := 212) dX10_comes_24 (by decide) (fun h24 => ?_) (fun h24 => ?_)
    · exact absurd h24 (nI_ge (by omega) (by omega))
    · refine ev_aload_n (i := 0) dX10_comes_27 rfl rfl ?_
      refine ev_getR fX10_25 dX10_comes_28 rfl rfl (by decide) ?_
      refine ev_bipush (v := 46) dX10_comes_31 kb_46 ?_
      refine ev_iload dX10_comes_33 rfl ?_
      refine ev_iaddN (a := 46) (b := t) dX10_comes_35 ?_
      refine ev_ialdN (j := (46 + t)) dX10_comes_36 rfl (by omega) (by decide) ?_
      rw [hJ, c1]
      refine ev_iload_n (i := 1) dX10_comes_37 rfl rfl ?_
      refine s_dSi (As := [_, _]) (m_counted _ _) (Nat.le_of_ble_eq_true rfl) lX10_186 kX10_counted sX10_counted dX10_comes_38 rfl rfl (Nat.le_of_ble_eq_true rfl) ?_
      show nw_S _ _ _ _ _ _ (.int (p_more C k t) :: _) _ _
      refine ev_istore dX10_comes_41 (Nat.le_of_ble_eq_true rfl) rfl ?_
      refine ev_aload_n (i := 0) dX10_comes_43 rfl rfl ?_
      refine ev_getR fX10_50 dX10_comes_44 rfl rfl (by decide) ?_
      refine ev_iconst (v := 2) dX10_comes_47 kc_2 ?_
      refine ev_iload dX10_comes_48 rfl ?_
      refine ev_iaddN (a := 2) (b := t) dX10_comes_50 ?_
      refine ev_ialdN (j := (2 + t)) dX10_comes_51 rfl (by omega) (by decide) ?_
      rw [g2]
      refine ev_iload dX10_comes_52 rfl ?_
      refine ev_aload_n (i := 0) dX10_comes_54 rfl rfl ?_
      refine ev_getR fX10_50 dX10_comes_55 rfl rfl (by decide) ?_
      refine ev_iconst (v := 1) dX10_comes_58 kc_1 ?_
      refine ev_ialdN (j := 1) dX10_comes_59 rfl (by omega) (by decide) ?_
      rw [g1]
      refine s_dSz (As := [_, _, _]) (m_isCalled _ _ hl) (Nat.le_of_ble_eq_true rfl) lX10_189 kX10_isCalled sX10_isCalled dX10_comes_60 rfl rfl (Nat.le_of_ble_eq_true rfl) ?_
      show nw_S _ _ _ _ _ _ (.int (nw_bi (p_call C k G t)) :: _) _ _
      refine ev_istore dX10_comes_63 (Nat.le_of_ble_eq_true rfl) rfl ?_
      refine ev_aload_n (i := 0) dX10_comes_65 rfl rfl ?_
      refine ev_getR fX10_50 dX10_comes_66 rfl rfl (by decide) ?_
      refine ev_iconst (v := 2) dX10_comes_69 kc_2 ?_
      refine ev_iload dX10_comes_70 rfl ?_
      refine ev_iaddN (a := 2) (b := t) dX10_comes_72 ?_
      refine ev_dup2 dX10_comes_73 rfl rfl ?_
      refine ev_ialdN (j := (2 + t)) dX10_comes_74 rfl (by omega) (by decide) ?_
      rw [g2]
      refine ev_iload dX10_comes_75 rfl ?_
      refine ev_iadd dX10_comes_77 ?_
      refine ev_iastN (j := (2 + t)) dX10_comes_78 rfl (by omega) (by decide) ?_
      refine ev_iconst (v := (-1)) dX10_comes_79 kc_m1 ?_
      refine ev_istore dX10_comes_80 (Nat.le_of_ble_eq_true rfl) rfl ?_
      rw [show (-1 : Int32) = nv_oi (p_find (upd G (2 + t) (G (2 + t) + p_more C k t)) (nI t) (S - S) S) by rw [Nat.sub_self]; rfl]
      refine ev_aload_n (i := 0) dX10_comes_82 rfl rfl ?_
      refine ev_getR fX10_25 dX10_comes_83 rfl rfl (by decide) ?_
      refine ev_iconst (v := 5) dX10_comes_86 kc_5 ?_
      refine ev_ialdN (j := 5) dX10_comes_87 rfl (by omega) (by decide) ?_
      rw [nw_up_ne (by decide), hJ, hS]
      refine ev_iconst (v := 1) dX10_comes_88 kc_1 ?_
      refine ev_isub dX10_comes_89 ?_
      refine ev_istore dX10_comes_90 (Nat.le_of_ble_eq_true rfl) rfl ?_
      refine l_find hS6 (by omega) hF1 (by rw [nw_up_self]; exact hG1) (fun z8 z9 => ?_) S _ (Nat.le_refl S)
      cases hc : p_call C k G t with
      | false =>
        have eG' : p_turn C S k w t G = upd G (2 + t) (G (2 + t) + p_more C k t) := by rw [eG, hc]; rfl
        refine ev_iload dX10_comes_151 rfl ?_
        refine s_ifZ_eq (tgt := 206) dX10_comes_153 (by decide) (fun h153 => ?_) (fun h153 => ?_)
        · refine ev_iincN (a := t) dX10_comes_206 rfl (Nat.le_of_ble_eq_true rfl) rfl ?_
          refine ev_goto (tgt := 16) dX10_comes_209 (by decide) ?_
          have ef : nl_F T S (p_turn C S k w t G) (nw_up J 233 (2 + t) (G (2 + t) + p_more C k t) 233) := by rw [eG', nw_up_self]; exact hG1
          refine s_postV (ih (t + 1) (p_turn C S k w t G) _ _ _ _ _ _ (by omega) (by rw [nw_up_ne (by decide)]; exact hJ) (p_turn_fok hF hS6 (by omega)) (by rw [p_turn_at _ _ _ _ _ _ (by omega) (by omega)]; exact hl) ef) (fun K q => ⟨q.1, fun x hx => by rw [q.2 x hx, nw_up_ne hx]⟩)
        · exact absurd h153 (by decide)
      | true =>
        cases hf : p_find (upd G (2 + t) (G (2 + t) + p_more C k t)) (nI t) S 0 with
        | none =>
          have eG' : p_turn C S k w t G = upd G (2 + t) (G (2 + t) + p_more C k t) := by rw [eG, hc, if_pos rfl, hf]
          refine ev_iload dX10_comes_151 rfl ?_
          refine s_ifZ_eq (tgt := 206) dX10_comes_153 (by decide) (fun h153 => ?_) (fun h153 => ?_)
          · exact absurd h153 (by decide)
          · refine ev_iload dX10_comes_156 rfl ?_
            refine ev_if_lt (tgt := 206) dX10_comes_158 (by decide) (fun h158 => ?_) (fun h158 => ?_)
            · refine ev_iincN (a := t) dX10_comes_206 rfl (Nat.le_of_ble_eq_true rfl) rfl ?_
              refine ev_goto (tgt := 16) dX10_comes_209 (by decide) ?_
              have ef : nl_F T S (p_turn C S k w t G) (nw_up J 233 (2 + t) (G (2 + t) + p_more C k t) 233) := by rw [eG', nw_up_self]; exact hG1
              refine s_postV (ih (t + 1) (p_turn C S k w t G) _ _ _ _ _ _ (by omega) (by rw [nw_up_ne (by decide)]; exact hJ) (p_turn_fok hF hS6 (by omega)) (by rw [p_turn_at _ _ _ _ _ _ (by omega) (by omega)]; exact hl) ef) (fun K q => ⟨q.1, fun x hx => by rw [q.2 x hx, nw_up_ne hx]⟩)
            · exact absurd (by decide) h158
        | some s =>
          have hs := p_find_lt hF1 hS6 (nI t) S 0 (by omega) s hf
          have eG0 : p_turn C S k w t G = upd (upd (upd G (2 + t) (G (2 + t) + p_more C k t)) (17 + s) (if w < C (49 + s) then 2 else 1)) (23 + s) (G 0) := by rw [eG, hc, if_pos rfl, hf]
          refine ev_iload dX10_comes_151 rfl ?_
          refine s_ifZ_eq (tgt := 206) dX10_comes_153 (by decide) (fun h153 => ?_) (fun h153 => ?_)
          · exact absurd h153 (by decide)
          · refine ev_iload dX10_comes_156 rfl ?_
            refine ev_if_lt (tgt := 206) dX10_comes_158 (by decide) (fun h158 => ?_) (fun h158 => ?_)
            · exact absurd h158 (nI_pos (by omega))
            · refine ev_aload_n (i := 0) dX10_comes_161 rfl rfl ?_
              refine ev_getR fX10_50 dX10_comes_162 rfl rfl (by decide) ?_
              refine ev_bipush (v := 17) dX10_comes_165 kb_17 ?_
              refine ev_iload dX10_comes_167 rfl ?_
              refine ev_iaddN (a := 17) (b := s) dX10_comes_169 ?_
              refine ev_iload_n (i := 3) dX10_comes_170 rfl rfl ?_
              refine ev_aload_n (i := 0) dX10_comes_171 rfl rfl ?_
              refine ev_getR fX10_25 dX10_comes_172 rfl rfl (by decide) ?_
              refine ev_bipush (v := 49) dX10_comes_175 kb_49 ?_
              refine ev_iload dX10_comes_177 rfl ?_
              refine ev_iaddN (a := 49) (b := s) dX10_comes_179 ?_
              refine ev_ialdN (j := (49 + s)) dX10_comes_180 rfl (by omega) (by decide) ?_
              rw [nw_up_ne (by decide), hJ, hC.2 (49 + s) (by unfold nl_c; omega)]
              refine ev_icmp_lt (tgt := 188) dX10_comes_181 (by decide) (fun h181 => ?_) (fun h181 => ?_)
              · refine ev_iconst (v := 2) dX10_comes_188 kc_2 ?_
                refine ev_iastN (j := (17 + s)) dX10_comes_189 rfl (by omega) (by decide) ?_
                refine ev_aload_n (i := 0) dX10_comes_190 rfl rfl ?_
                refine ev_getR fX10_50 dX10_comes_191 rfl rfl (by decide) ?_
                refine ev_bipush (v := 23) dX10_comes_194 kb_23 ?_
                refine ev_iload dX10_comes_196 rfl ?_
                refine ev_iaddN (a := 23) (b := s) dX10_comes_198 ?_
                refine ev_aload_n (i := 0) dX10_comes_199 rfl rfl ?_
                refine ev_getR fX10_50 dX10_comes_200 rfl rfl (by decide) ?_
                refine ev_iconst (v := 0) dX10_comes_203 kc_0 ?_
                refine ev_ialdN (j := 0) dX10_comes_204 rfl (by omega) (by decide) ?_
                rw [nw_up_self, pk_un (by omega), nw_up_self, pk_un (by omega), g0]
                refine ev_iastN (j := (23 + s)) dX10_comes_205 rfl (by omega) (by decide) ?_
                refine ev_iincN (a := t) dX10_comes_206 rfl (Nat.le_of_ble_eq_true rfl) rfl ?_
                refine ev_goto (tgt := 16) dX10_comes_209 (by decide) ?_
                first
                | (have eG' : p_turn C S k w t G = upd (upd (upd G (2 + t) (G (2 + t) + p_more C k t)) (17 + s) (2)) (23 + s) (G 0) := by rw [eG0, if_pos h181]
                   have ef : nl_F T S (p_turn C S k w t G) (nw_up (nw_up (nw_up J 233 (2 + t) (G (2 + t) + p_more C k t)) 233 (17 + s) (2)) 233 (23 + s) (G 0) 233) := by rw [eG', nw_up_self, nw_up_self, nw_up_self]; exact (hG1.upd _ _).upd _ _
                   refine s_postV (ih (t + 1) (p_turn C S k w t G) _ _ _ _ _ _ (by omega) (by rw [nw_up_ne (by decide), nw_up_ne (by decide), nw_up_ne (by decide)]; exact hJ) (p_turn_fok hF hS6 (by omega)) (by rw [p_turn_at _ _ _ _ _ _ (by omega) (by omega)]; exact hl) ef) (fun K q => ⟨q.1, fun x hx => by rw [q.2 x hx, nw_up_ne hx, nw_up_ne hx, nw_up_ne hx]⟩))
                | (have eG' : p_turn C S k w t G = upd (upd (upd G (2 + t) (G (2 + t) + p_more C k t)) (17 + s) (1)) (23 + s) (G 0) := by rw [eG0, if_neg h181]
                   have ef : nl_F T S (p_turn C S k w t G) (nw_up (nw_up (nw_up J 233 (2 + t) (G (2 + t) + p_more C k t)) 233 (17 + s) (1)) 233 (23 + s) (G 0) 233) := by rw [eG', nw_up_self, nw_up_self, nw_up_self]; exact (hG1.upd _ _).upd _ _
                   refine s_postV (ih (t + 1) (p_turn C S k w t G) _ _ _ _ _ _ (by omega) (by rw [nw_up_ne (by decide), nw_up_ne (by decide), nw_up_ne (by decide)]; exact hJ) (p_turn_fok hF hS6 (by omega)) (by rw [p_turn_at _ _ _ _ _ _ (by omega) (by omega)]; exact hl) ef) (fun K q => ⟨q.1, fun x hx => by rw [q.2 x hx, nw_up_ne hx, nw_up_ne hx, nw_up_ne hx]⟩))
              · refine ev_iconst (v := 1) dX10_comes_184 kc_1 ?_
                refine ev_goto (tgt := 189) dX10_comes_185 (by decide) ?_
                refine ev_iastN (j := (17 + s)) dX10_comes_189 rfl (by omega) (by decide) ?_
                refine ev_aload_n (i := 0) dX10_comes_190 rfl rfl ?_
                refine ev_getR fX10_50 dX10_comes_191 rfl rfl (by decide) ?_
                refine ev_bipush (v := 23) dX10_comes_194 kb_23 ?_
                refine ev_iload dX10_comes_196 rfl ?_
                refine ev_iaddN (a := 23) (b := s) dX10_comes_198 ?_
                refine ev_aload_n (i := 0) dX10_comes_199 rfl rfl ?_
                refine ev_getR fX10_50 dX10_comes_200 rfl rfl (by decide) ?_
                refine ev_iconst (v := 0) dX10_comes_203 kc_0 ?_
                refine ev_ialdN (j := 0) dX10_comes_204 rfl (by omega) (by decide) ?_
                rw [nw_up_self, pk_un (by omega), nw_up_self, pk_un (by omega), g0]
                refine ev_iastN (j := (23 + s)) dX10_comes_205 rfl (by omega) (by decide) ?_
                refine ev_iincN (a := t) dX10_comes_206 rfl (Nat.le_of_ble_eq_true rfl) rfl ?_
                refine ev_goto (tgt := 16) dX10_comes_209 (by decide) ?_
                first
                | (have eG' : p_turn C S k w t G = upd (upd (upd G (2 + t) (G (2 + t) + p_more C k t)) (17 + s) (2)) (23 + s) (G 0) := by rw [eG0, if_pos h181]
                   have ef : nl_F T S (p_turn C S k w t G) (nw_up (nw_up (nw_up J 233 (2 + t) (G (2 + t) + p_more C k t)) 233 (17 + s) (2)) 233 (23 + s) (G 0) 233) := by rw [eG', nw_up_self, nw_up_self, nw_up_self]; exact (hG1.upd _ _).upd _ _
                   refine s_postV (ih (t + 1) (p_turn C S k w t G) _ _ _ _ _ _ (by omega) (by rw [nw_up_ne (by decide), nw_up_ne (by decide), nw_up_ne (by decide)]; exact hJ) (p_turn_fok hF hS6 (by omega)) (by rw [p_turn_at _ _ _ _ _ _ (by omega) (by omega)]; exact hl) ef) (fun K q => ⟨q.1, fun x hx => by rw [q.2 x hx, nw_up_ne hx, nw_up_ne hx, nw_up_ne hx]⟩))
                | (have eG' : p_turn C S k w t G = upd (upd (upd G (2 + t) (G (2 + t) + p_more C k t)) (17 + s) (1)) (23 + s) (G 0) := by rw [eG0, if_neg h181]
                   have ef : nl_F T S (p_turn C S k w t G) (nw_up (nw_up (nw_up J 233 (2 + t) (G (2 + t) + p_more C k t)) 233 (17 + s) (1)) 233 (23 + s) (G 0) 233) := by rw [eG', nw_up_self, nw_up_self, nw_up_self]; exact (hG1.upd _ _).upd _ _
                   refine s_postV (ih (t + 1) (p_turn C S k w t G) _ _ _ _ _ _ (by omega) (by rw [nw_up_ne (by decide), nw_up_ne (by decide), nw_up_ne (by decide)]; exact hJ) (p_turn_fok hF hS6 (by omega)) (by rw [p_turn_at _ _ _ _ _ _ (by omega) (by omega)]; exact hl) ef) (fun K q => ⟨q.1, fun x hx => by rw [q.2 x hx, nw_up_ne hx, nw_up_ne hx, nw_up_ne hx]⟩))
theorem m_comes {k : Int32} (hC : nl_C N T S C (I 225)) (hF : nv_fok G S) (hl : ¬ G 1 ≤ 0) (hG : nl_F T S G (I 233)) (hk : nv_kd k) (h : Int32) : nw_cV l g 3 mX10_comes [.ref (nw_a g 219), .int k, .int h] I (fun K => nl_F T S (p_come C T S k (p_dep C (G 0) + nv_lift k h) G) (K 233) ∧ ∀ q, q ≠ 233 → K q = I q) := by
  refine ⟨(Nat.le_of_ble_eq_true rfl), ?_⟩
  have g0 := hG 0 (by unfold nl_f; omega)
  refine ev_aload_n (i := 0) dX10_comes_0 rfl rfl ?_
  refine ev_aload_n (i := 0) dX10_comes_1 rfl rfl ?_
  refine ev_getR fX10_50 dX10_comes_2 rfl rfl (by decide) ?_
  refine ev_iconst (v := 0) dX10_comes_5 kc_0 ?_
  refine ev_ialdN (j := 0) dX10_comes_6 rfl (by omega) (by decide) ?_
  refine ev_iload_n (i := 1) dX10_comes_7 rfl rfl ?_
  refine ev_iload_n (i := 2) dX10_comes_8 rfl rfl ?_
  rw [g0]
  refine s_dVi (As := [_, _, _]) (m_water hC _ hk _) (Nat.le_of_ble_eq_true rfl) lX10_182 kX10_water vX10_water dX10_comes_9 rfl rfl rfl (by decide) rfl (Nat.le_of_ble_eq_true rfl) ?_
  refine ev_istore_n (i := 3) dX10_comes_12 rfl (Nat.le_of_ble_eq_true rfl) rfl ?_
  refine ev_iconst (v := 0) dX10_comes_13 kc_0 ?_
  refine ev_istore dX10_comes_14 (Nat.le_of_ble_eq_true rfl) rfl ?_
  exact l_comes hC T 0 G I _ _ _ _ _ (by omega) rfl hF hl hG
theorem p_tow_at (C : Nat → Int32) (S : Nat) (k w : Int32) {i : Nat} (h : i < 2) : ∀ (n t : Nat) (F : Nat → Int32), p_tow C S k w n t F i = F i
  | 0, t, F => rfl
  | n + 1, t, F => (p_tow_at C S k w h n (t + 1) (p_turn C S k w t F)).trans (p_turn_at _ _ _ _ _ _ (by omega) (by omega))
theorem p_come_1 (C : Nat → Int32) (T S : Nat) (k w : Int32) (F : Nat → Int32) : p_come C T S k w F 1 = F 1 := by unfold p_come; rw [pk_un (by decide)]; exact p_tow_at _ _ _ _ (by decide) _ _ _
theorem p_come_0 (C : Nat → Int32) (T S : Nat) (k w : Int32) (F : Nat → Int32) : p_come C T S k w F 0 = F 0 + 1 := by unfold p_come; rw [pk_us, p_tow_at _ _ _ _ (by decide) _ _ _]
theorem l_waves0 {x : Nat} {f : Nat → Int32} (hC : nl_C N T S C f) (h0 : 0 < N) (hk : nv_kok N C) (hx : x < 2 ^ 30) : ∀ (n t v : Nat) (G : Nat → Int32) (J : nw_Me), t + n = x → J 225 = f → nv_fok G S → ¬ G 1 ≤ 0 → G 0 = nI v → v + n < 2 ^ 31 → nl_F T S G (J 233) → nw_S l g 4 mX10_waves0 2 [some (.ref (nw_a g 219)), some (.int (nI x)), some (.int (nI t))] [] J (nw_qV (fun K => nl_F T S (p_pass C T S n G) (K 233) ∧ ∀ q, q ≠ 233 → K q = J q)) := by
  intro n
  induction n with
  | zero =>
    intro t v G J ht hJ hF hl hv hvn hG
    refine ev_iload_n (i := 2) dX10_waves0_2 rfl rfl ?_
    refine ev_iload_n (i := 1) dX10_waves0_3 rfl rfl ?_
    refine ev_icmp_ge (tgt := 37) dX10_waves0_4 (by decide) (fun h4 => ?_) (fun h4 => ?_)
    · exact s_retV dX10_waves0_37 ⟨hG, fun _ _ => rfl⟩
    · exact absurd (nI_le (by omega) (by omega)) h4
  | succ n ih =>
    intro t v G J ht hJ hF hl hv hvn hG
    have hC' : nl_C N T S C (J 225) := by rw [hJ]; exact hC
    have g0 : J 233 0 = nI v := by rw [hG 0 (by unfold nl_f; omega)]; exact hv
    refine ev_iload_n (i := 2) dX10_waves0_2 rfl rfl ?_
    refine ev_iload_n (i := 1) dX10_waves0_3 rfl rfl ?_
    refine ev_icmp_ge (tgt := 37) dX10_waves0_4 (by decide) (fun h4 => ?_) (fun h4 => ?_)
    · exact absurd h4 (nI_ge (by omega) (by omega))
    · refine ev_aload_n (i := 0) dX10_waves0_7 rfl rfl ?_
      refine ev_aload_n (i := 0) dX10_waves0_8 rfl rfl ?_
      refine ev_aload_n (i := 0) dX10_waves0_9 rfl rfl ?_
      refine ev_getR fX10_50 dX10_waves0_10 rfl rfl (by decide) ?_
      refine ev_iconst (v := 0) dX10_waves0_13 kc_0 ?_
      refine ev_ialdN (j := 0) dX10_waves0_14 rfl (by omega) (by decide) ?_
      rw [g0]
      refine s_dVi (As := [_]) (m_sortIn hC' h0 (show v < 2 ^ 31 by omega)) (Nat.le_of_ble_eq_true rfl) lX10_176 kX10_sortIn vX10_sortIn dX10_waves0_15 rfl rfl rfl (by decide) rfl (Nat.le_of_ble_eq_true rfl) ?_
      refine ev_aload_n (i := 0) dX10_waves0_18 rfl rfl ?_
      refine ev_aload_n (i := 0) dX10_waves0_19 rfl rfl ?_
      refine ev_getR fX10_50 dX10_waves0_20 rfl rfl (by decide) ?_
      refine ev_iconst (v := 0) dX10_waves0_23 kc_0 ?_
      refine ev_ialdN (j := 0) dX10_waves0_24 rfl (by omega) (by decide) ?_
      rw [g0]
      refine s_dVi (As := [_]) (m_heightIn hC' h0 (show v < 2 ^ 31 by omega)) (Nat.le_of_ble_eq_true rfl) lX10_179 kX10_heightIn vX10_heightIn dX10_waves0_25 rfl rfl rfl (by decide) rfl (Nat.le_of_ble_eq_true rfl) ?_
      refine s_callVv (As := [_, _]) (m_comes hC' hF hl hG (hk.kd hC.1 h0 (show v < 2 ^ 31 by omega)) _) (Nat.le_of_ble_eq_true rfl) lX10_192 kX10_comes vX10_comes dX10_waves0_28 rfl rfl rfl (by decide) rfl (Nat.le_of_ble_eq_true rfl) (fun K h1 => ?_)
      refine ev_iincN (a := t) dX10_waves0_31 rfl (Nat.le_of_ble_eq_true rfl) rfl ?_
      refine ev_goto (tgt := 2) dX10_waves0_34 (by decide) ?_
      rw [hv] at h1
      have ep : p_by C T S G = p_come C T S (p_kind C (nI v)) (p_dep C (nI v) + nv_lift (p_kind C (nI v)) (p_hei C (nI v))) G := by unfold p_by p_wat; rw [hv]
      refine s_postV (ih (t + 1) (v + 1) (p_by C T S G) K (by omega) (by rw [h1.2 225 (by decide)]; exact hJ) (p_by_fok hC.hT hC.hS hF) ?_ ?_ (by omega) ?_) (fun K2 q => ⟨q.1, fun x hx => (q.2 x hx).trans (h1.2 x hx)⟩)
      · rw [ep, p_come_1]
        exact hl
      · rw [ep, p_come_0, hv, nI_1]
      · rw [ep]
        exact h1.1
theorem m_waves0 {x v : Nat} (hC : nl_C N T S C (I 225)) (h0 : 0 < N) (hk : nv_kok N C) (hx : x < 2 ^ 30) (hF : nv_fok G S) (hl : ¬ G 1 ≤ 0) (hv : G 0 = nI v) (hv2 : v < 2 ^ 30) (hG : nl_F T S G (I 233)) : nw_cV l g 4 mX10_waves0 [.ref (nw_a g 219), .int (nI x)] I (fun K => nl_F T S (p_pass C T S x G) (K 233) ∧ ∀ q, q ≠ 233 → K q = I q) := by
  refine ⟨(Nat.le_of_ble_eq_true rfl), ?_⟩
  refine ev_iconst (v := 0) dX10_waves0_0 kc_0 ?_
  refine ev_istore_n (i := 2) dX10_waves0_1 rfl (Nat.le_of_ble_eq_true rfl) rfl ?_
  exact l_waves0 hC h0 hk hx x 0 v G I (by omega) rfl hF hl hv (by omega) hG
end
