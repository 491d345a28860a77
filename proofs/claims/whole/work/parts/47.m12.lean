section
variable {l : Launch} {g : nw_G} {I : nw_Me} {N T S : Nat} {a C F G : Nat → Int32} {b : Bool} {L : List (Nat → Int32)} {n p : Nat}
def nm_da (J : nw_Me) (k t s : Nat) (C F : Nat → Int32) : Prop := (∀ i, nl_c k t s i → J 227 i = C i) ∧ (∀ j, j < t → J 231 j = F (2 + j)) ∧ ∀ j, j < s → J 232 j = F (11 + j)
abbrev q_A : Type := q_E ⊕ (Nat × Nat × Nat × (Nat → Int32) × (Nat → Int32))
def nm_PR (I : nw_Me) (R : q_A) (bb : Bool) (K : nw_Me) : Prop := ((∃ e q, R = .inl (e, q) ∧ bb = false ∧ K 219 19 = e ∧ K 219 16 = nI q) ∨ ∃ N T S C F, R = .inr (N, T, S, C, F) ∧ bb = true ∧ K 227 0 = 1 ∧ nm_da K N T S C F) ∧ nm_f3 I K
def q_r3 (a : Nat → Int32) (N T : Nat) (R : q_E ⊕ (Nat × Nat × (Nat → Int32) × (Nat → Int32))) : q_A := match R with
  | .inl e => .inl e
  | .inr (S, p4, C4, F4) => if a p4 = -1 then .inr (N, T, S, C4, F4) else .inl (1, p4)
def q_r2 (a : Nat → Int32) (N : Nat) (R : q_E ⊕ (Nat × Nat × (Nat → Int32) × (Nat → Int32))) : q_A := match R with
  | .inl e => .inl e
  | .inr (T, p3, C3, F3) => q_r3 a N T (q_shp a (nI T) 7 0 p3 C3 F3)
def q_r1 (a F0 : Nat → Int32) (R : q_E ⊕ (Nat × Nat × (Nat → Int32))) : q_A := match R with
  | .inl e => .inl e
  | .inr (N, p2, C2) => q_r2 a N (q_sw1 (q_tow a 4 0 p2 C2 F0))
theorem q_all_eq (a C F : Nat → Int32) : q_all a C F = match q_bar a 0 with
    | .inl e => .inl e
    | .inr (x, y, p1) => q_r1 a (p_beg 6 0 (upd (upd F 0 0) 1 9)) (q_sw1 (q_swl a 21 0 p1 (upd (upd (upd (upd (upd C 3 0) 4 0) 5 0) 1 x) 2 y))) := by
  unfold q_all
  cases q_bar a 0 with
  | inl e => rfl
  | inr v =>
    obtain ⟨x, y, p1⟩ := v
    show _ = q_r1 a _ _
    simp only
    cases q_sw1 (q_swl a 21 0 p1 (upd (upd (upd (upd (upd C 3 0) 4 0) 5 0) 1 x) 2 y)) with
    | inl e => rfl
    | inr v =>
      obtain ⟨N, p2, C2⟩ := v
      show _ = q_r2 a N _
      simp only
      cases q_sw1 (q_tow a 4 0 p2 C2 (p_beg 6 0 (upd (upd F 0 0) 1 9))) with
      | inl e => rfl
      | inr v => rfl
theorem q_swl_s (a : Nat → Int32) {m k p : Nat} (C : Nat → Int32) (hk : k + (m + 1) = 21) (ht : ¬ nv_told (a p) = -1) : q_swl a (m + 1) k p C = match q_sw a p k with
    | .inl e => .inl e
    | .inr (h, p2) => q_swl a m (k + 1) p2 (upd (upd (upd C (6 + k) (nv_told (a p))) (26 + k) h) 3 (nI (k + 1))) := by
  unfold q_sw
  rw [q_swl, if_neg ht]
  by_cases hm : m = 0
  · rw [if_pos hm, if_pos (by omega)]
  · rw [if_neg hm, if_neg (by omega)]
    cases q_num a (p + 1) 30 with
    | inl e => rfl
    | inr v =>
      obtain ⟨h, p1⟩ := v
      simp only
      cases q_sgn a p1 59 with
      | inl e => rfl
      | inr p2 => rfl
theorem q_tow_s (a : Nat → Int32) {m k p : Nat} (C A : Nat → Int32) (hk : k + (m + 1) = 4) (hp : a p = 116) : q_tow a (m + 1) k p C A = match q_tw a p k with
    | .inl e => .inl e
    | .inr (x, y, p1) => q_tow a m (k + 1) p1 (upd (upd C (46 + k) x) 4 (nI (k + 1))) (upd A (2 + k) y) := by
  unfold q_tw
  rw [q_tow, if_pos hp]
  by_cases hm : m = 0
  · rw [if_pos hm, if_pos (by omega)]
  · rw [if_neg hm, if_neg (by omega)]
    cases q_pair a (p + 1) 7 8 with
    | inl e => rfl
    | inr v => rfl
theorem q_shp_s (a : Nat → Int32) (T : Int32) {m k p : Nat} (C A : Nat → Int32) (hk : k + (m + 1) = 7) (hp : a p = 104) : q_shp a T (m + 1) k p C A = match q_vs a T p k with
    | .inl e => .inl e
    | .inr (x, y, p1) => q_shp a T m (k + 1) p1 (upd (upd C (49 + k) x) 5 (nI (k + 1))) (upd A (11 + k) y) := by
  unfold q_vs
  rw [q_shp, if_pos hp]
  by_cases hm : m = 0
  · rw [if_pos hm, if_pos (by omega)]
  · rw [if_neg hm, if_neg (by omega)]
    cases q_pair a (p + 1) 99 (T - 1) with
    | inl e => rfl
    | inr v => rfl
theorem nm_tk.end {f : Nat → Int32} (h : nm_tk I n a p) (ha : a = q_at n f) (hpos : ∀ i, i < n → ¬ f i = -1) : I 219 17 = 0 ↔ a p = -1 := by
  obtain ⟨h1, h2, h3, h4, ⟨h5, h6⟩ | ⟨h5, h6, h7, h8, h9, h10⟩ | ⟨h5, h6, h7⟩ | ⟨h5, h6, h7, h8, h9⟩⟩ := h
  · refine ⟨fun _ => ?_, fun _ => h6⟩
    rw [ha]
    unfold q_at
    rw [if_neg (by omega)]
  · refine ⟨fun q => absurd (h6.symm.trans q) (by decide), fun q => ?_⟩
    rw [q] at h5
    exact absurd h5 (by decide)
  · refine ⟨fun q => absurd (h6.symm.trans q) (by decide), fun q => ?_⟩
    rw [q] at h5
    exact absurd h5 (by decide)
  · constructor
    · intro q
      rw [h9] at q
      exfalso
      unfold t_tok at q
      split at q
      · exact absurd q (by decide)
      · split at q
        · exact absurd q (by decide)
        · split at q
          · exact absurd q (by decide)
          · exact absurd q (by decide)
    · intro q
      rw [ha, q_at_in h5] at q
      exact absurd q (hpos p h5)
theorem nm_tk.w {v : Int32} (h : nm_tk I n a p) : nm_tk (nw_up I 219 19 v) n a p := by
  unfold nm_tk
  rw [nw_up_self, pk_un (by decide), pk_un (by decide), pk_un (by decide), pk_un (by decide), pk_un (by decide)]
  exact h
theorem nm_f3.w (I : nw_Me) (v : Int32) : nm_f3 I (nw_up I 219 19 v) := ((nm_f1.refl I).up (by decide) (by decide) _).f2.f3
theorem nm_da.sw {J K : nw_Me} {k : Nat} {h t : Int32} (hd : nm_da J k 0 0 C F) (hk : K 227 = upd (upd (upd (J 227) (6 + k) t) (26 + k) h) 3 (nI (k + 1))) (hk20 : k < 20) : nm_da K (k + 1) 0 0 (upd (upd (upd C (6 + k) t) (26 + k) h) 3 (nI (k + 1))) F := by
  refine ⟨fun i hi => ?_, fun j hj => by omega, fun j hj => by omega⟩
  rw [hk]
  by_cases e1 : i = 3
  · rw [e1, pk_us, pk_us]
  rw [pk_un e1, pk_un e1]
  by_cases e2 : i = 26 + k
  · rw [e2, pk_us, pk_us]
  rw [pk_un e2, pk_un e2]
  by_cases e3 : i = 6 + k
  · rw [e3, pk_us, pk_us]
  rw [pk_un e3, pk_un e3]
  exact hd.1 i (by unfold nl_c at hi ⊢; omega)
theorem nm_da.tw {J K : nw_Me} {N k : Nat} {x y : Int32} (hd : nm_da J N k 0 C F) (h1 : K 227 = upd (upd (J 227) (46 + k) x) 4 (nI (k + 1))) (h2 : K 231 = upd (J 231) k y) : nm_da K N (k + 1) 0 (upd (upd C (46 + k) x) 4 (nI (k + 1))) (upd F (2 + k) y) := by
  refine ⟨fun i hi => ?_, fun j hj => ?_, fun j hj => by omega⟩
  · rw [h1]
    by_cases e1 : i = 4
    · rw [e1, pk_us, pk_us]
    rw [pk_un e1, pk_un e1]
    by_cases e3 : i = 46 + k
    · rw [e3, pk_us, pk_us]
    rw [pk_un e3, pk_un e3]
    exact hd.1 i (by unfold nl_c at hi ⊢; omega)
  · rw [h2]
    by_cases e : j = k
    · rw [e, pk_us, pk_us]
    · rw [pk_un e, pk_un (by omega)]
      exact hd.2.1 j (by omega)
theorem nm_da.vs {J K : nw_Me} {N T k : Nat} {x y : Int32} (hT3 : T ≤ 3) (hd : nm_da J N T k C F) (h1 : K 227 = upd (upd (J 227) (49 + k) x) 5 (nI (k + 1))) (h2 : K 232 = upd (J 232) k y) (h3 : K 231 = J 231) : nm_da K N T (k + 1) (upd (upd C (49 + k) x) 5 (nI (k + 1))) (upd F (11 + k) y) := by
  refine ⟨fun i hi => ?_, fun j hj => ?_, fun j hj => ?_⟩
  · rw [h1]
    by_cases e1 : i = 5
    · rw [e1, pk_us, pk_us]
    rw [pk_un e1, pk_un e1]
    by_cases e3 : i = 49 + k
    · rw [e3, pk_us, pk_us]
    rw [pk_un e3, pk_un e3]
    exact hd.1 i (by unfold nl_c at hi ⊢; omega)
  · rw [h3, pk_un (by omega)]
    exact hd.2.1 j hj
  · rw [h2]
    by_cases e : j = k
    · rw [e, pk_us, pk_us]
    · rw [pk_un e, pk_un (by omega)]
      exact hd.2.2 j (by omega)
theorem l_rd3 {N T : Nat} (h160 : n ≤ 160) (ha : a = q_at n (I 224)) (hpos : ∀ i, i < n → ¬ I 224 i = -1) (hT3 : T ≤ 3) : ∀ (m s p : Nat) (J : nw_Me) (C F : Nat → Int32) (z : Option Value), s + m = 7 → 0 < m → nm_tk J n a p → nm_da J N T s C F → C 4 = nI T → C 5 = nI s → nm_f3 I J → nw_S l g 6 mX10_reads 148 [some (.ref (nw_a g 219)), z] [] J (nw_qZ (nm_PR I (q_r3 a N T (q_shp a (nI T) m s p C F)))) := by
  intro m
  induction m with
  | zero => intro s p J C F z h1 h2; omega
  | succ m ih =>
    intro s p J C F z h1 h2 htk hd hC4 hC5 hf
    have ha' : a = q_at n (J 224) := by rw [hf.2 224 (by decide) (by decide) (by decide) (by decide)]; exact ha
    have hpos' : ∀ i, i < n → ¬ J 224 i = -1 := by rw [hf.2 224 (by decide) (by decide) (by decide) (by decide)]; exact hpos
    have j4 : J 227 4 = nI T := by rw [hd.1 4 (by unfold nl_c; omega)]; exact hC4
    have j5 : J 227 5 = nI s := by rw [hd.1 5 (by unfold nl_c; omega)]; exact hC5
    refine ev_aload_n (i := 0) dX10_reads_148 rfl rfl ?_
    refine ev_bipush (v := 104) dX10_reads_149 kb_104 ?_
    refine s_dVz (As := [_]) (m_isLetter htk ha' (c := 104) (by decide)) (Nat.le_of_ble_eq_true rfl) lX10_146 kX10_isLetter vX10_isLetter dX10_reads_151 rfl rfl rfl (by decide) rfl (Nat.le_of_ble_eq_true rfl) ?_
    refine s_ifZ_eq (tgt := 166) dX10_reads_154 (by decide) (fun h154 => ?_) (fun h154 => ?_)
    · have hne : ¬ a p = 104 := of_decide_eq_false h154
      have hR : q_shp a (nI T) (m + 1) s p C F = .inr (s, p, C, F) := by rw [q_shp, if_neg hne]
      have hf2 := hf.trans (nm_f3.x J (k := 227) (by decide) 0 1)
      have hd2 : nm_da (nw_up J 227 0 1) N T s C F := ⟨fun i hi => by rw [nw_up_self, pk_un (by unfold nl_c at hi; omega)]; exact hd.1 i hi, fun j hj => by rw [nw_up_ne (by decide)]; exact hd.2.1 j hj, fun j hj => by rw [nw_up_ne (by decide)]; exact hd.2.2 j hj⟩
      have hend := htk.end ha' hpos'
      refine ev_aload_n (i := 0) dX10_reads_166 rfl rfl ?_
      refine ev_getR fX10_31 dX10_reads_167 rfl rfl (by decide) ?_
      refine ev_iconst (v := 0) dX10_reads_170 kc_0 ?_
      refine ev_iconst (v := 1) dX10_reads_171 kc_1 ?_
      refine ev_iastN (j := 0) dX10_reads_172 rfl (by omega) (by decide) ?_
      refine ev_aload_n (i := 0) dX10_reads_173 rfl rfl ?_
      refine ev_getI fX10_103 dX10_reads_174 rfl rfl (by decide) ?_
      rw [nw_up_ne (by decide)]
      refine ev_if_eq (tgt := 188) dX10_reads_177 (by decide) (fun h177 => ?_) (fun h177 => ?_)
      · refine ev_iconst (v := 1) dX10_reads_188 kc_1 ?_
        refine ev_goto (tgt := 193) dX10_reads_189 (by decide) ?_
        exact s_ret1 dX10_reads_193 (by
        rw [hR]
        first
          | exact ⟨Or.inr ⟨N, T, s, C, F, if_pos (hend.mp h177), rfl, by rw [nw_up_self, pk_us], hd2⟩, hf2⟩
          | exact ⟨Or.inl ⟨1, p, if_neg (fun q => h177 (hend.mpr q)), rfl, by rw [nw_up_self, pk_us], by rw [nw_up_self, pk_un (by decide), nw_up_ne (by decide)]; exact htk.2.1⟩, hf2.trans (nm_f3.w _ _)⟩)
      · refine ev_aload_n (i := 0) dX10_reads_180 rfl rfl ?_
        refine ev_iconst (v := 1) dX10_reads_181 kc_1 ?_
        refine s_dVz (As := [_]) (m_faults _) (Nat.le_of_ble_eq_true rfl) lX10_120 kX10_faults vX10_faults dX10_reads_182 rfl rfl rfl (by decide) rfl (Nat.le_of_ble_eq_true rfl) ?_
        refine s_ifZ_eq (tgt := 192) dX10_reads_185 (by decide) (fun h185 => ?_) (fun h185 => ?_)
        · refine ev_iconst (v := 0) dX10_reads_192 kc_0 ?_
          exact s_ret0 dX10_reads_193 (by
        rw [hR]
        first
          | exact ⟨Or.inr ⟨N, T, s, C, F, if_pos (hend.mp h177), rfl, by rw [nw_up_self, pk_us], hd2⟩, hf2⟩
          | exact ⟨Or.inl ⟨1, p, if_neg (fun q => h177 (hend.mpr q)), rfl, by rw [nw_up_self, pk_us], by rw [nw_up_self, pk_un (by decide), nw_up_ne (by decide)]; exact htk.2.1⟩, hf2.trans (nm_f3.w _ _)⟩)
        · cases h185
    · have hst := q_shp_s a (nI T) C F (m := m) (k := s) (p := p) (by omega) (of_decide_eq_true h154)
      refine ev_aload_n (i := 0) dX10_reads_157 rfl rfl ?_
      refine s_callVz (As := []) (m_vessel (T := T) htk ha' (of_decide_eq_true h154) j5 (by omega) j4) (Nat.le_of_ble_eq_true rfl) lX10_155 kX10_vessel vX10_vessel dX10_reads_158 rfl rfl rfl (by decide) rfl (Nat.le_of_ble_eq_true rfl) (fun b1 K h1 => ?_)
      refine s_ifZ_ne (tgt := 148) dX10_reads_161 (by decide) (fun h161 => ?_) (fun h161 => ?_)
      · obtain ⟨x, y, q, e1, -, g1, g2, tk⟩ := h1.1.resolve_left (by rintro ⟨e, q, -, hb, -⟩; rw [hb] at h161; cases h161)
        rw [hst, e1]
        have hs6 : s < 6 := by
          by_cases e : s = 6
          · rw [e] at e1
            unfold q_vs at e1
            rw [if_pos rfl] at e1
            cases e1
          · omega
        exact ih (s + 1) q K _ _ _ (by omega) (by omega) tk (hd.vs hT3 g1 g2 h1.2.2) (by rw [pk_un (by decide), pk_un (by omega)]; exact hC4) pk_us (hf.trans h1.2.1)
      · refine ev_iconst (v := 0) dX10_reads_164 kc_0 ?_
        exact s_ret0 dX10_reads_165 (by
        obtain ⟨e, q, e1, -, g1, g2⟩ := h1.1.resolve_right (by rintro ⟨x, y, q, -, hb, -⟩; rw [hb] at h161; cases h161)
        refine ⟨Or.inl ⟨e, q, ?_, rfl, g1, g2⟩, hf.trans h1.2.1⟩
        rw [hst, e1]
        rfl)
theorem l_rd2 {N : Nat} (h160 : n ≤ 160) (ha : a = q_at n (I 224)) (hpos : ∀ i, i < n → ¬ I 224 i = -1) : ∀ (m t p : Nat) (J : nw_Me) (C F : Nat → Int32) (z : Option Value), t + m = 4 → 0 < m → nm_tk J n a p → nm_da J N t 0 C F → C 4 = nI t → C 5 = 0 → nm_f3 I J → nw_S l g 6 mX10_reads 115 [some (.ref (nw_a g 219)), z] [] J (nw_qZ (nm_PR I (q_r2 a N (q_sw1 (q_tow a m t p C F))))) := by
  intro m
  induction m with
  | zero => intro t p J C F z h1 h2; omega
  | succ m ih =>
    intro t p J C F z h1 h2 htk hd hC4 hC5 hf
    have ha' : a = q_at n (J 224) := by rw [hf.2 224 (by decide) (by decide) (by decide) (by decide)]; exact ha
    have j4 : J 227 4 = nI t := by rw [hd.1 4 (by unfold nl_c; omega)]; exact hC4
    refine ev_aload_n (i := 0) dX10_reads_115 rfl rfl ?_
    refine ev_bipush (v := 116) dX10_reads_116 kb_116 ?_
    refine s_dVz (As := [_]) (m_isLetter htk ha' (c := 116) (by decide)) (Nat.le_of_ble_eq_true rfl) lX10_146 kX10_isLetter vX10_isLetter dX10_reads_118 rfl rfl rfl (by decide) rfl (Nat.le_of_ble_eq_true rfl) ?_
    refine s_ifZ_eq (tgt := 133) dX10_reads_121 (by decide) (fun h121 => ?_) (fun h121 => ?_)
    · have hne : ¬ a p = 116 := of_decide_eq_false h121
      have hR : q_tow a (m + 1) t p C F = .inr (t, p, C, F) := by rw [q_tow, if_neg hne]
      refine ev_aload_n (i := 0) dX10_reads_133 rfl rfl ?_
      refine ev_getR fX10_31 dX10_reads_134 rfl rfl (by decide) ?_
      refine ev_iconst (v := 4) dX10_reads_137 kc_4 ?_
      refine ev_ialdN (j := 4) dX10_reads_138 rfl (by omega) (by decide) ?_
      rw [j4]
      refine ev_if_ne (tgt := 148) dX10_reads_139 (by decide) (fun h139 => ?_) (fun h139 => ?_)
      · have hR2 : q_r2 a N (q_sw1 (q_tow a (m + 1) t p C F)) = q_r3 a N t (q_shp a (nI t) 7 0 p C F) := by
          rw [hR]
          unfold q_sw1 q_r2
          simp only
          rw [if_neg (fun q => h139 (by rw [q]; exact nI_0))]
        rw [hR2]
        exact l_rd3 h160 ha hpos (by omega) 7 0 p J C F _ (by omega) (by omega) htk hd hC4 (hC5.trans nI_0.symm) hf
      · refine ev_aload_n (i := 0) dX10_reads_142 rfl rfl ?_
        refine ev_iconst (v := 1) dX10_reads_143 kc_1 ?_
        refine s_dVz (As := [_]) (m_faults _) (Nat.le_of_ble_eq_true rfl) lX10_120 kX10_faults vX10_faults dX10_reads_144 rfl rfl rfl (by decide) rfl (Nat.le_of_ble_eq_true rfl) ?_
        exact s_retZ dX10_reads_147 (by
        have e0 : t = 0 := Nat.eq_zero_of_not_pos (fun q => nI_ne0 q (by omega) h139)
        refine ⟨Or.inl ⟨1, p, ?_, rfl, by rw [nw_up_self, pk_us], by rw [nw_up_self, pk_un (by decide)]; exact htk.2.1⟩, hf.trans (nm_f3.w _ _)⟩
        rw [hR, e0]
        rfl)
    · have hst := q_tow_s a C F (m := m) (k := t) (p := p) (by omega) (of_decide_eq_true h121)
      refine ev_aload_n (i := 0) dX10_reads_124 rfl rfl ?_
      refine s_callVz (As := []) (m_turret htk ha' (of_decide_eq_true h121) j4 (by omega)) (Nat.le_of_ble_eq_true rfl) lX10_152 kX10_turret vX10_turret dX10_reads_125 rfl rfl rfl (by decide) rfl (Nat.le_of_ble_eq_true rfl) (fun b1 K h1 => ?_)
      refine s_ifZ_ne (tgt := 115) dX10_reads_128 (by decide) (fun h128 => ?_) (fun h128 => ?_)
      · obtain ⟨x, y, q, e1, -, g1, g2, tk⟩ := h1.1.resolve_left (by rintro ⟨e, q, -, hb, -⟩; rw [hb] at h128; cases h128)
        rw [hst, e1]
        have hs6 : t < 3 := by
          by_cases e : t = 3
          · rw [e] at e1
            unfold q_tw at e1
            rw [if_pos rfl] at e1
            cases e1
          · omega
        exact ih (t + 1) q K _ _ _ (by omega) (by omega) tk (hd.tw g1 g2) pk_us (by rw [pk_un (by decide), pk_un (by omega)]; exact hC5) (hf.trans h1.2.1)
      · refine ev_iconst (v := 0) dX10_reads_131 kc_0 ?_
        exact s_ret0 dX10_reads_132 (by
        obtain ⟨e, q, e1, -, g1, g2⟩ := h1.1.resolve_right (by rintro ⟨x, y, q, -, hb, -⟩; rw [hb] at h128; cases h128)
        refine ⟨Or.inl ⟨e, q, ?_, rfl, g1, g2⟩, hf.trans h1.2.1⟩
        rw [hst, e1]
        rfl)
theorem l_rd1 {F0 : Nat → Int32} (h160 : n ≤ 160) (ha : a = q_at n (I 224)) (hpos : ∀ i, i < n → ¬ I 224 i = -1) : ∀ (m k p : Nat) (J : nw_Me) (C : Nat → Int32) (z : Option Value), k + m = 21 → 0 < m → nm_tk J n a p → nm_da J k 0 0 C F0 → C 3 = nI k → C 4 = 0 → C 5 = 0 → nm_f3 I J → nw_S l g 6 mX10_reads 73 [some (.ref (nw_a g 219)), z] [] J (nw_qZ (nm_PR I (q_r1 a F0 (q_sw1 (q_swl a m k p C))))) := by
  intro m
  induction m with
  | zero => intro k p J C z h1 h2; omega
  | succ m ih =>
    intro k p J C z h1 h2 htk hd hC3 hC4 hC5 hf
    have ha' : a = q_at n (J 224) := by rw [hf.2 224 (by decide) (by decide) (by decide) (by decide)]; exact ha
    have j3 : J 227 3 = nI k := by rw [hd.1 3 (by unfold nl_c; omega)]; exact hC3
    have hl := htk.let ha'
    have hts := t_sort_eq (a p)
    refine ev_aload_n (i := 0) dX10_reads_73 rfl rfl ?_
    refine ev_getI fX10_103 dX10_reads_74 rfl rfl (by decide) ?_
    refine ev_iconst (v := 3) dX10_reads_77 kc_3 ?_
    refine ev_icmp_ne (tgt := 100) dX10_reads_78 (by decide) (fun h78 => ?_) (fun h78 => ?_)
    · have ht : nv_told (a p) = -1 := by
        rcases hts with q | q
        · exact q.1
        · exfalso
          first
            | exact h78 (hl.2 (a p) q.2.2.2 rfl)
            | (rw [(hl.1 h78).1] at h88
               exact Int32.not_le.mpr q.2.2.1 h88)
      have hR : q_swl a (m + 1) k p C = .inr (k, p, C) := by rw [q_swl, if_pos ht]
      refine ev_aload_n (i := 0) dX10_reads_100 rfl rfl ?_
      refine ev_getR fX10_31 dX10_reads_101 rfl rfl (by decide) ?_
      refine ev_iconst (v := 3) dX10_reads_104 kc_3 ?_
      refine ev_ialdN (j := 3) dX10_reads_105 rfl (by omega) (by decide) ?_
      rw [j3]
      refine ev_if_ne (tgt := 115) dX10_reads_106 (by decide) (fun h106 => ?_) (fun h106 => ?_)
      · have hR2 : q_r1 a F0 (q_sw1 (q_swl a (m + 1) k p C)) = q_r2 a k (q_sw1 (q_tow a 4 0 p C F0)) := by
          rw [hR]
          unfold q_sw1 q_r1
          simp only
          rw [if_neg (fun q => h106 (by rw [q]; exact nI_0))]
          rfl
        rw [hR2]
        exact l_rd2 h160 ha hpos 4 0 p J C F0 _ (by omega) (by omega) htk hd (hC4.trans nI_0.symm) hC5 hf
      · refine ev_aload_n (i := 0) dX10_reads_109 rfl rfl ?_
        refine ev_iconst (v := 1) dX10_reads_110 kc_1 ?_
        refine s_dVz (As := [_]) (m_faults _) (Nat.le_of_ble_eq_true rfl) lX10_120 kX10_faults vX10_faults dX10_reads_111 rfl rfl rfl (by decide) rfl (Nat.le_of_ble_eq_true rfl) ?_
        exact s_retZ dX10_reads_114 (by
        have e0 : k = 0 := Nat.eq_zero_of_not_pos (fun q => nI_ne0 q (by omega) h106)
        refine ⟨Or.inl ⟨1, p, ?_, rfl, by rw [nw_up_self, pk_us], by rw [nw_up_self, pk_un (by decide)]; exact htk.2.1⟩, hf.trans (nm_f3.w _ _)⟩
        rw [hR, e0]
        rfl)
    · refine ev_aload_n (i := 0) dX10_reads_81 rfl rfl ?_
      refine ev_getI fX10_106 dX10_reads_82 rfl rfl (by decide) ?_
      refine s_dSi (As := [_]) (m_sortOf _) (Nat.le_of_ble_eq_true rfl) lX10_139 kX10_sortOf sX10_sortOf dX10_reads_85 rfl rfl (Nat.le_of_ble_eq_true rfl) ?_
      refine ev_if_le (tgt := 100) dX10_reads_88 (by decide) (fun h88 => ?_) (fun h88 => ?_)
      · have ht : nv_told (a p) = -1 := by
          rcases hts with q | q
          · exact q.1
          · exfalso
            first
              | exact h78 (hl.2 (a p) q.2.2.2 rfl)
              | (rw [(hl.1 h78).1] at h88
                 exact Int32.not_le.mpr q.2.2.1 h88)
        have hR : q_swl a (m + 1) k p C = .inr (k, p, C) := by rw [q_swl, if_pos ht]
        refine ev_aload_n (i := 0) dX10_reads_100 rfl rfl ?_
        refine ev_getR fX10_31 dX10_reads_101 rfl rfl (by decide) ?_
        refine ev_iconst (v := 3) dX10_reads_104 kc_3 ?_
        refine ev_ialdN (j := 3) dX10_reads_105 rfl (by omega) (by decide) ?_
        rw [j3]
        refine ev_if_ne (tgt := 115) dX10_reads_106 (by decide) (fun h106 => ?_) (fun h106 => ?_)
        · have hR2 : q_r1 a F0 (q_sw1 (q_swl a (m + 1) k p C)) = q_r2 a k (q_sw1 (q_tow a 4 0 p C F0)) := by
            rw [hR]
            unfold q_sw1 q_r1
            simp only
            rw [if_neg (fun q => h106 (by rw [q]; exact nI_0))]
            rfl
          rw [hR2]
          exact l_rd2 h160 ha hpos 4 0 p J C F0 _ (by omega) (by omega) htk hd (hC4.trans nI_0.symm) hC5 hf
        · refine ev_aload_n (i := 0) dX10_reads_109 rfl rfl ?_
          refine ev_iconst (v := 1) dX10_reads_110 kc_1 ?_
          refine s_dVz (As := [_]) (m_faults _) (Nat.le_of_ble_eq_true rfl) lX10_120 kX10_faults vX10_faults dX10_reads_111 rfl rfl rfl (by decide) rfl (Nat.le_of_ble_eq_true rfl) ?_
          exact s_retZ dX10_reads_114 (by
        have e0 : k = 0 := Nat.eq_zero_of_not_pos (fun q => nI_ne0 q (by omega) h106)
        refine ⟨Or.inl ⟨1, p, ?_, rfl, by rw [nw_up_self, pk_us], by rw [nw_up_self, pk_un (by decide)]; exact htk.2.1⟩, hf.trans (nm_f3.w _ _)⟩
        rw [hR, e0]
        rfl)
      · have ht : ¬ nv_told (a p) = -1 := fun q => h88 (by rw [(hl.1 h78).1, (hts.resolve_right (fun w => w.1 q)).2]; decide)
        have hst := q_swl_s a C (m := m) (k := k) (p := p) (by omega) ht
        refine ev_aload_n (i := 0) dX10_reads_91 rfl rfl ?_
        refine s_callVz (As := []) (m_swell htk ha' ht j3 (by omega)) (Nat.le_of_ble_eq_true rfl) lX10_149 kX10_swell vX10_swell dX10_reads_92 rfl rfl rfl (by decide) rfl (Nat.le_of_ble_eq_true rfl) (fun b1 K h1 => ?_)
        refine s_ifZ_ne (tgt := 73) dX10_reads_95 (by decide) (fun h95 => ?_) (fun h95 => ?_)
        · obtain ⟨x, q, e1, -, g1, tk⟩ := h1.1.resolve_left (by rintro ⟨e, q, -, hb, -⟩; rw [hb] at h95; cases h95)
          rw [hst, e1]
          have hs6 : k < 20 := by
            by_cases e : k = 20
            · rw [e] at e1
              unfold q_sw at e1
              rw [if_pos rfl] at e1
              cases e1
            · omega
          exact ih (k + 1) q K _ _ (by omega) (by omega) tk (hd.sw g1 hs6) pk_us (by rw [pk_un (by decide), pk_un (by omega), pk_un (by omega)]; exact hC4) (by rw [pk_un (by decide), pk_un (by omega), pk_un (by omega)]; exact hC5) (hf.trans h1.2.f3)
        · refine ev_iconst (v := 0) dX10_reads_98 kc_0 ?_
          exact s_ret0 dX10_reads_99 (by
        obtain ⟨e, q, e1, -, g1, g2⟩ := h1.1.resolve_right (by rintro ⟨x, q, -, hb, -⟩; rw [hb] at h95; cases h95)
        refine ⟨Or.inl ⟨e, q, ?_, rfl, g1, g2⟩, hf.trans h1.2.f3⟩
        rw [hst, e1]
        rfl)
theorem l_rd0 {Post : Option Int32 → List nw_Sh → nw_Me → Prop} (kk : ∀ K : nw_Me, K 227 = nm_mx 0 55 (fun _ => 0) (I 227) → (∀ q, q ≠ 227 → K q = I q) → nw_S l g 6 mX10_reads 26 [some (.ref (nw_a g 219)), some (.int (nI 55))] [] K Post) : ∀ (k p : Nat) (J : nw_Me), p + k = 55 → J 227 = nm_mx 0 p (fun _ => 0) (I 227) → (∀ q, q ≠ 227 → J q = I q) → nw_S l g 6 mX10_reads 7 [some (.ref (nw_a g 219)), some (.int (nI p))] [] J Post := by
  have e55 : (55 : Int32) = nI 55 := by decide
  intro k
  induction k with
  | zero =>
    intro p J hp hW hJ
    obtain rfl : p = 55 := by omega
    refine ev_iload_n (i := 1) dX10_reads_7 rfl rfl ?_
    refine ev_bipush (v := 55) dX10_reads_8 kb_55 ?_
    refine ev_icmp_ge (tgt := 26) dX10_reads_10 (by decide) (fun h10 => ?_) (fun h10 => ?_)
    · exact kk J hW hJ
    · exact absurd (by decide) h10
  | succ k ih =>
    intro p J hp hW hJ
    refine ev_iload_n (i := 1) dX10_reads_7 rfl rfl ?_
    refine ev_bipush (v := 55) dX10_reads_8 kb_55 ?_
    refine ev_icmp_ge (tgt := 26) dX10_reads_10 (by decide) (fun h10 => ?_) (fun h10 => ?_)
    · exact absurd h10 (by rw [e55]; exact nI_ge (by omega) (by omega))
    · refine ev_aload_n (i := 0) dX10_reads_13 rfl rfl ?_
      refine ev_getR fX10_31 dX10_reads_14 rfl rfl (by decide) ?_
      refine ev_iload_n (i := 1) dX10_reads_17 rfl rfl ?_
      refine ev_iconst (v := 0) dX10_reads_18 kc_0 ?_
      refine ev_iastN (j := p) dX10_reads_19 rfl (by omega) (by decide) ?_
      refine ev_iincN (a := p) dX10_reads_20 rfl (Nat.le_of_ble_eq_true rfl) rfl ?_
      refine ev_goto (tgt := 7) dX10_reads_23 (by decide) ?_
      refine ih (p + 1) _ (by omega) ?_ (fun q q1 => by rw [nw_up_ne q1]; exact hJ q q1)
      rw [nw_up_self, hW]
      have e := nm_mx_s 0 p (fun _ => 0) (I 227)
      rw [Nat.zero_add] at e
      exact e
theorem m_reads (h160 : n ≤ 160) (ha : a = q_at n (I 224)) (hpos : ∀ i, i < n → ¬ I 224 i = -1) (hn : I 219 6 = nI n) (C0 F0 : Nat → Int32) : nw_cZ l g 6 mX10_reads [.ref (nw_a g 219)] I (nm_PR I (q_all a C0 F0)) := by
  refine ⟨(Nat.le_of_ble_eq_true rfl), ?_⟩
  rw [q_all_eq]
  refine ev_aload_n (i := 0) dX10_reads_0 rfl rfl ?_
  refine ev_iconst (v := 0) dX10_reads_1 kc_0 ?_
  refine ev_putI fX10_93 dX10_reads_2 rfl rfl (by decide) rfl rfl rfl rfl ?_
  refine ev_iconst (v := 0) dX10_reads_5 kc_0 ?_
  refine ev_istore_n (i := 1) dX10_reads_6 rfl (Nat.le_of_ble_eq_true rfl) rfl ?_
  refine l_rd0 (I := nw_up I 219 15 0) (fun K hK1 hK2 => ?_) 55 0 _ (by omega) (nm_mx_0 _ _ _).symm (fun _ _ => rfl)
  have k0 : ∀ q, q ≠ 219 → q ≠ 227 → K q = I q := fun q q1 q2 => by rw [hK2 q q2, nw_up_ne q1]
  have kz : ∀ i, i < 55 → K 227 i = 0 := fun i hi => by
    rw [hK1]
    have e := nm_mx_in (o := 0) (f := fun _ => 0) (h := nw_up I 219 15 0 227) hi
    rw [Nat.zero_add] at e
    exact e
  have kf : nm_f3 I K := ⟨fun j hj => by rw [hK2 219 (by decide), nw_up_self, pk_un (by omega)], fun q q1 q2 _ _ => k0 q q1 q2⟩
  have ka : a = q_at n (K 224) := by rw [k0 224 (by decide) (by decide)]; exact ha
  refine ev_aload_n (i := 0) dX10_reads_26 rfl rfl ?_
  refine s_callVv (As := []) (m_scans (n := n) (p := 0) (a := a) h160 ka (by rw [hK2 219 (by decide), nw_up_self, pk_un (by decide)]; exact hn) (by rw [hK2 219 (by decide), nw_up_self, pk_us]; exact nI_0.symm) (by omega)) (Nat.le_of_ble_eq_true rfl) lX10_126 kX10_scans vX10_scans dX10_reads_27 rfl rfl rfl (by decide) rfl (Nat.le_of_ble_eq_true rfl) (fun J1 h1 => ?_)
  refine ev_aload_n (i := 0) dX10_reads_30 rfl rfl ?_
  refine ev_bipush (v := 98) dX10_reads_31 kb_98 ?_
  refine s_dVz (As := [_]) (m_isLetter h1.1 (by rw [h1.2.2 224 (by decide)]; exact ka) (c := 98) (by decide)) (Nat.le_of_ble_eq_true rfl) lX10_146 kX10_isLetter vX10_isLetter dX10_reads_33 rfl rfl rfl (by decide) rfl (Nat.le_of_ble_eq_true rfl) ?_
  refine s_ifZ_ne (tgt := 45) dX10_reads_36 (by decide) (fun h36 => ?_) (fun h36 => ?_)
  · have hb0 : a 0 = 98 := of_decide_eq_true h36
    have hl0 := h1.1.let (show a = q_at n (J1 224) by rw [h1.2.2 224 (by decide)]; exact ka)
    have hl := hl0.1 (hl0.2 98 (by decide) hb0)
    have hq0 : q_sgn a 0 98 = .inr 1 := by unfold q_sgn; rw [if_pos hb0]
    refine ev_aload_n (i := 0) dX10_reads_45 rfl rfl ?_
    refine s_callVv (As := []) (m_scans (n := n) (p := 1) (a := a) h160 (by rw [h1.2.2 224 (by decide)]; exact ka) h1.1.1 hl.2.1 hl.2.2) (Nat.le_of_ble_eq_true rfl) lX10_126 kX10_scans vX10_scans dX10_reads_46 rfl rfl rfl (by decide) rfl (Nat.le_of_ble_eq_true rfl) (fun J2 h2 => ?_)
    refine ev_aload_n (i := 0) dX10_reads_49 rfl rfl ?_
    refine ev_bipush (v := 60) dX10_reads_50 kb_60 ?_
    refine ev_iconst (v := 1) dX10_reads_52 kc_1 ?_
    refine ev_bipush (v := 9) dX10_reads_53 kb_9 ?_
    refine s_callVz (As := [_, _, _]) (m_two h2.1 (by rw [h2.2.2 224 (by decide), h1.2.2 224 (by decide)]; exact ka) (t0 := 1) (by omega) 60 9) (Nat.le_of_ble_eq_true rfl) lX10_142 kX10_two vX10_two dX10_reads_55 rfl rfl rfl (by decide) rfl (Nat.le_of_ble_eq_true rfl) (fun b3 J3 h3 => ?_)
    refine s_ifZ_ne (tgt := 63) dX10_reads_58 (by decide) (fun h58 => ?_) (fun h58 => ?_)
    · obtain ⟨x, y, q, e1, -, g1, g2, tk3⟩ := h3.1.resolve_left (by rintro ⟨e, q, -, hb, -⟩; rw [hb] at h58; cases h58)
      have eb : q_bar a 0 = .inr (x, y, q) := by unfold q_bar; simp only [hq0]; exact e1
      have f3 := ((kf.trans h1.2.f1.f2.f3).trans h2.2.f1.f2.f3).trans h3.2.f3
      have j3 : J3 227 = upd (K 227) 1 x := by rw [g1, h2.2.2 227 (by decide), h1.2.2 227 (by decide)]
      refine ev_aload_n (i := 0) dX10_reads_63 rfl rfl ?_
      refine ev_getR fX10_31 dX10_reads_64 rfl rfl (by decide) ?_
      refine ev_iconst (v := 2) dX10_reads_67 kc_2 ?_
      refine ev_aload_n (i := 0) dX10_reads_68 rfl rfl ?_
      refine ev_getI fX10_136 dX10_reads_69 rfl rfl (by decide) ?_
      rw [g2]
      refine ev_iastN (j := 2) dX10_reads_72 rfl (by omega) (by decide) ?_
      rw [eb]
      refine l_rd1 h160 ha hpos 21 0 q _ _ _ (by omega) (by omega) (tk3.ext (nw_up_ne (by decide))) ⟨fun i hi => ?_, fun j hj => by omega, fun j hj => by omega⟩ ?_ ?_ ?_ (f3.trans (nm_f3.x _ (by decide) _ _))
      · rw [nw_up_self]
        by_cases e2 : i = 2
        · rw [e2, pk_us, pk_us]
        rw [pk_un e2, pk_un e2, j3]
        by_cases e3 : i = 1
        · rw [e3, pk_us, pk_us]
        rw [pk_un e3, pk_un e3, kz i (by unfold nl_c at hi; omega)]
        rcases (show i = 3 ∨ i = 4 ∨ i = 5 by unfold nl_c at hi; omega) with rfl | rfl | rfl
        · rw [pk_un (by decide), pk_un (by decide), pk_us]
        · rw [pk_un (by decide), pk_us]
        · rw [pk_us]
      · rw [pk_un (by decide), pk_un (by decide), pk_un (by decide), pk_un (by decide), pk_us]; exact nI_0.symm
      · rw [pk_un (by decide), pk_un (by decide), pk_un (by decide), pk_us]
      · rw [pk_un (by decide), pk_un (by decide), pk_us]
    · refine ev_iconst (v := 0) dX10_reads_61 kc_0 ?_
      exact s_ret0 dX10_reads_62 (by
        obtain ⟨e, q, e1, -, g1, g2⟩ := h3.1.resolve_right (by rintro ⟨x, y, q, -, hb, -⟩; rw [hb] at h58; cases h58)
        refine ⟨Or.inl ⟨e, q, ?_, rfl, g1, g2⟩, ((kf.trans h1.2.f1.f2.f3).trans h2.2.f1.f2.f3).trans h3.2.f3⟩
        unfold q_bar
        simp only [hq0]
        rw [e1])
  · refine ev_aload_n (i := 0) dX10_reads_39 rfl rfl ?_
    refine ev_iconst (v := 1) dX10_reads_40 kc_1 ?_
    refine s_dVz (As := [_]) (m_faults _) (Nat.le_of_ble_eq_true rfl) lX10_120 kX10_faults vX10_faults dX10_reads_41 rfl rfl rfl (by decide) rfl (Nat.le_of_ble_eq_true rfl) ?_
    exact s_retZ dX10_reads_44 (by
        have hne : ¬ a 0 = 98 := of_decide_eq_false h36
        refine ⟨Or.inl ⟨1, 0, ?_, rfl, by rw [nw_up_self, pk_us], by rw [nw_up_self, pk_un (by decide)]; exact h1.1.2.1⟩, (kf.trans h1.2.f1.f2.f3).trans (nm_f3.w _ _)⟩
        unfold q_bar q_sgn
        rw [if_neg hne])
end
