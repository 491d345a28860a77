section
variable {l : Launch} {g : nw_G} {I : nw_Me}
def nv_qf (I J : nw_Me) : Prop := J 13 1 = I 13 1 ∧ ∀ k, k ≠ 13 → ¬ (20 ≤ k ∧ k < 25) → ¬ (31 ≤ k ∧ k < 37) → J k = I k
/-- the reader under way: where it stands, the chart and the scene that it makes -/
def nv_st (I : nw_Me) (n : Nat) (X : nw_Me) (p : Nat) (f : Int32) (C F : Nat → Int32) : Prop := nv_rd X n p f ∧ X 14 = I 14 ∧ nv_cf X 20 = C ∧ nv_fl X 31 = F ∧ nv_qf I X
theorem nv_st.rf {n p p' : Nat} {X Y : nw_Me} {f f' : Int32} {C F : Nat → Int32} (h : nv_st I n X p f C F) (hf : nv_rf X Y) (hr : nv_rd Y n p' f') : nv_st I n Y p' f' C F := by
  obtain ⟨h1, h2, h3, h4, h5⟩ := h
  refine ⟨hr, (hf.2 14 (by decide)).trans h2, ?_, ?_, hf.1.trans h5.1, fun k q1 q2 q3 => (hf.2 k q1).trans (h5.2 k q1 q2 q3)⟩
  · rw [nv_cf_ext (fun k g1 g2 => hf.2 k (by omega))]; exact h3
  · rw [nv_fl_ext (fun k g1 g2 => hf.2 k (by omega))]; exact h4
theorem nv_st.up2 {n p q : Nat} {X : nw_Me} {f : Int32} {C F : Nat → Int32} (h : nv_st I n X p f C F) (hq : q ≤ n) : nv_st I n (nw_up X 13 2 (nI q)) q f C F := h.rf ((nv_rf.refl X).up (by decide) _) (h.1.up2 hq)
theorem nv_st.up3 {n p : Nat} {X : nw_Me} {f : Int32} {C F : Nat → Int32} (h : nv_st I n X p f C F) (e : Int32) : nv_st I n (nw_up X 13 3 e) p e C F := h.rf ((nv_rf.refl X).up (by decide) _) (h.1.up3 e)
theorem nv_st.cell {n p : Nat} {X : nw_Me} {f : Int32} {C F C' F' : Nat → Int32} (h : nv_st I n X p f C F) {k i : Nat} {v : Int32} (hk : (20 ≤ k ∧ k < 25) ∨ (31 ≤ k ∧ k < 37)) (hc : nv_cf (nw_up X k i v) 20 = C') (hf : nv_fl (nw_up X k i v) 31 = F') : nv_st I n (nw_up X k i v) p f C' F' := by
  obtain ⟨h1, h2, h3, h4, h5⟩ := h
  exact ⟨h1.ext (nw_up_ne (by omega)), (nw_up_ne (by omega)).trans h2, hc, hf, by rw [nw_up_ne (by omega)]; exact h5.1, fun q g1 g2 g3 => by rw [nw_up_ne (by omega)]; exact h5.2 q g1 g2 g3⟩
theorem nv_st.kin {n p k : Nat} {X : nw_Me} {f v : Int32} {C F : Nat → Int32} (h : nv_st I n X p f C F) (hk : k < 20) : nv_st I n (nw_up X 21 k v) p f (upd C (6 + k) v) F := h.cell (by omega) (by rw [cf_kin_up _ _ hk, h.2.2.1]) (by rw [nv_fl_ext (I := X) (fun q g1 g2 => nw_up_ne (by omega))]; exact h.2.2.2.1)
theorem nv_st.hei {n p k : Nat} {X : nw_Me} {f v : Int32} {C F : Nat → Int32} (h : nv_st I n X p f C F) (hk : k < 20) : nv_st I n (nw_up X 22 k v) p f (upd C (26 + k) v) F := h.cell (by omega) (by rw [cf_hei_up _ _ hk, h.2.2.1]) (by rw [nv_fl_ext (I := X) (fun q g1 g2 => nw_up_ne (by omega))]; exact h.2.2.2.1)
theorem nv_st.see {n p k : Nat} {X : nw_Me} {f v : Int32} {C F : Nat → Int32} (h : nv_st I n X p f C F) (hk : k < 3) : nv_st I n (nw_up X 23 k v) p f (upd C (46 + k) v) F := h.cell (by omega) (by rw [cf_see_up _ _ hk, h.2.2.1]) (by rw [nv_fl_ext (I := X) (fun q g1 g2 => nw_up_ne (by omega))]; exact h.2.2.2.1)
theorem nv_st.dra {n p k : Nat} {X : nw_Me} {f v : Int32} {C F : Nat → Int32} (h : nv_st I n X p f C F) (hk : k < 6) : nv_st I n (nw_up X 24 k v) p f (upd C (49 + k) v) F := h.cell (by omega) (by rw [cf_dra_up _ _ hk, h.2.2.1]) (by rw [nv_fl_ext (I := X) (fun q g1 g2 => nw_up_ne (by omega))]; exact h.2.2.2.1)
theorem nv_st.num {n p k : Nat} {X : nw_Me} {f v : Int32} {C F : Nat → Int32} (h : nv_st I n X p f C F) (hk : k < 5) : nv_st I n (nw_up X 20 k v) p f (upd C (1 + k) v) F := h.cell (by omega) (by rw [cf_f_up _ _ hk, h.2.2.1]) (by rw [nv_fl_ext (I := X) (fun q g1 g2 => nw_up_ne (by omega))]; exact h.2.2.2.1)
theorem nv_st.cnt {n p k : Nat} {X : nw_Me} {f v : Int32} {C F : Nat → Int32} (h : nv_st I n X p f C F) (hk : k < 3) : nv_st I n (nw_up X 32 k v) p f C (upd F (2 + k) v) := h.cell (by omega) (by rw [nv_cf_ext (I := X) (fun q g1 g2 => nw_up_ne (by omega))]; exact h.2.2.1) (by rw [fl_cnt_up _ _ hk, h.2.2.2.1])
theorem nv_st.hee {n p k : Nat} {X : nw_Me} {f v : Int32} {C F : Nat → Int32} (h : nv_st I n X p f C F) (hk : k < 6) : nv_st I n (nw_up X 34 k v) p f C (upd F (11 + k) v) := h.cell (by omega) (by rw [nv_cf_ext (I := X) (fun q g1 g2 => nw_up_ne (by omega))]; exact h.2.2.1) (by rw [fl_hee_up _ _ hk, h.2.2.2.1])
def nv_pE {α : Type} (I : nw_Me) (n : Nat) (R : q_E ⊕ α) (b : Bool) (K : nw_Me) : Prop := ∃ e q, R = .inl (e, q) ∧ e ≠ 0 ∧ b = false ∧ nv_rd K n q e ∧ nv_qf I K
theorem nv_pE.of {α : Type} {n p q : Nat} {X K : nw_Me} {f e : Int32} {C F : Nat → Int32} {R : q_E ⊕ α} {b : Bool} (h : nv_st I n X p f C F) (hf : nv_rf X K) (hR : R = .inl (e, q)) (he : e ≠ 0) (hb : b = false) (hr : nv_rd K n q e) : nv_pE I n R b K := ⟨e, q, hR, he, hb, hr, (h.rf hf hr).2.2.2.2⟩
def q_bar (a : Nat → Int32) (p : Nat) : q_E ⊕ (Int32 × Int32 × Nat) := match q_sgn a p 98 with
  | .inl e => .inl e
  | .inr p1 => q_pair a p1 60 9
def q_sw1 {α : Type} (R : q_E ⊕ (Nat × Nat × α)) : q_E ⊕ (Nat × Nat × α) := match R with
  | .inl e => .inl e
  | .inr (N, q, C) => if N = 0 then .inl (1, q) else .inr (N, q, C)
theorem c_readBar {n p : Nat} {X : nw_Me} {C F : Nat → Int32} (h : nv_st I n X p 0 C F) : nw_cZ l g 3 mX6_readBar [.ref (nw_a g 13), .ref (nw_a g 20)] X (fun b K => nv_pE I n (q_bar (q_at n (I 14)) p) b K ∨ ∃ x y q, q_bar (q_at n (I 14)) p = .inr (x, y, q) ∧ b = true ∧ nv_st I n K q 0 (upd (upd C 1 x) 2 y) F) := by
  refine ⟨(Nat.le_of_ble_eq_true rfl), ?_⟩
  refine ev_aload_n (i := 0) dX6_readBar_0 rfl rfl ?_
  refine ev_bipush (v := 98) dX6_readBar_1 kb_98 ?_
  refine s_callVz (As := [_]) (d_passes h.1 98 (by decide)) (Nat.le_of_ble_eq_true rfl) lX6_60 kX6_passes vX6_passes dX6_readBar_3 rfl rfl rfl (by decide) rfl (Nat.le_of_ble_eq_true rfl) (fun b1 J1 hq => ?_)
  rw [h.2.1] at hq
  obtain ⟨hq, hf1, -, -⟩ := hq
  rcases hq with ⟨c1, rfl, hr1⟩ | ⟨c1, rfl, hr1⟩
  · refine s_ifZ_eq (tgt := 20) dX6_readBar_6 (by decide) (fun h6 => ?_) (fun h6 => ?_)
    · exact absurd h6 (by decide)
    · have h1 := h.rf hf1 hr1
      refine ev_aload_n (i := 0) dX6_readBar_9 rfl rfl ?_
      refine ev_bipush (v := 60) dX6_readBar_10 kb_60 ?_
      refine ev_bipush (v := 9) dX6_readBar_12 kb_9 ?_
      refine s_callVz (As := [_, _]) (d_readPair h1.1 60 9) (Nat.le_of_ble_eq_true rfl) lX6_64 kX6_readPair vX6_readPair dX6_readBar_14 rfl rfl rfl (by decide) rfl (Nat.le_of_ble_eq_true rfl) (fun b2 J2 hq2 => ?_)
      rw [h1.2.1] at hq2
      obtain ⟨hq2, hf2⟩ := hq2
      rcases hq2 with ⟨e, q, e1, e2, rfl, hr2⟩ | ⟨x, y, q, e1, rfl, hr2, k4, k5⟩
      · refine s_ifZ_ne (tgt := 22) dX6_readBar_17 (by decide) (fun h17 => ?_) (fun h17 => ?_)
        · exact absurd h17 (by decide)
        · refine ev_iconst (v := 0) dX6_readBar_20 kc_0 ?_
          exact s_ret0 dX6_readBar_21 (Or.inl (nv_pE.of h1 hf2 (by unfold q_bar q_sgn; simp [c1, e1]) e2 rfl hr2))
      · refine s_ifZ_ne (tgt := 22) dX6_readBar_17 (by decide) (fun h17 => ?_) (fun h17 => ?_)
        · refine ev_aload_n (i := 1) dX6_readBar_22 rfl rfl ?_
          refine ev_aload_n (i := 0) dX6_readBar_23 rfl rfl ?_
          refine ev_getI fX6_68 dX6_readBar_24 rfl rfl (by decide) ?_
          rw [k4]
          refine ev_putI fX6_71 dX6_readBar_27 rfl rfl (by decide) rfl rfl rfl rfl ?_
          refine ev_aload_n (i := 1) dX6_readBar_30 rfl rfl ?_
          refine ev_aload_n (i := 0) dX6_readBar_31 rfl rfl ?_
          refine ev_getI fX6_74 dX6_readBar_32 rfl rfl (by decide) ?_
          rw [show nw_up J2 20 0 x 13 5 = y from by rw [nw_up_ne (by decide)]; exact k5]
          refine ev_putI fX6_77 dX6_readBar_35 rfl rfl (by decide) rfl rfl rfl rfl ?_
          refine ev_iconst (v := 1) dX6_readBar_38 kc_1 ?_
          exact s_ret1 dX6_readBar_39 (Or.inr ⟨x, y, q, by unfold q_bar q_sgn; simp [c1, e1], rfl, ((h1.rf hf2 hr2).num (k := 0) (by decide)).num (k := 1) (by decide)⟩)
        · exact absurd h17 (by decide)
  · refine s_ifZ_eq (tgt := 20) dX6_readBar_6 (by decide) (fun h6 => ?_) (fun h6 => ?_)
    · refine ev_iconst (v := 0) dX6_readBar_20 kc_0 ?_
      exact s_ret0 dX6_readBar_21 (Or.inl (nv_pE.of h hf1 (by unfold q_bar q_sgn; simp [c1]) (by decide) rfl hr1))
    · exact absurd h6 (by decide)
theorem l_readSwells {n : Nat} {F : Nat → Int32} : ∀ (m k p : Nat) (X : nw_Me) (C : Nat → Int32), k + m = 21 → 0 < m → nv_st I n X p 0 C F → C 3 = nI k → nw_S l g 2 mX6_readSwells 2 [some (.ref (nw_a g 13)), some (.ref (nw_a g 20)), some (.int (nI k))] [] X (nw_qZ (fun b K => nv_pE I n (q_sw1 (q_swl (q_at n (I 14)) m k p C)) b K ∨ ∃ N q C2, q_sw1 (q_swl (q_at n (I 14)) m k p C) = .inr (N, q, C2) ∧ b = true ∧ nv_st I n K q 0 C2 F)) := by
  have h20' : (20 : Int32) = nI 20 := by decide
  intro m
  induction m with
  | zero => intro k p X C h1 h2; omega
  | succ m ih =>
    intro k p X C hkm hm h hk
    have hT := h.2.1
    have hC3 : X 20 2 = nI k := (cf3 X 20).symm.trans (by rw [h.2.2.1]; exact hk)
    obtain ⟨hn, hp, hf, h160, hpn⟩ := h.1
    refine ev_iload_n (i := 2) dX6_readSwells_2 rfl rfl ?_
    refine ev_bipush (v := 20) dX6_readSwells_3 kb_20 ?_
    refine ev_icmp_gt (tgt := 98) dX6_readSwells_5 (by decide) (fun h5 => ?_) (fun h5 => ?_)
    · exact absurd h5 (by rw [h20']; exact nI_nlt (by omega) (by omega))
    · refine ev_aload_n (i := 0) dX6_readSwells_8 rfl rfl ?_
      refine ev_aload_n (i := 0) dX6_readSwells_9 rfl rfl ?_
      refine ev_getI fX6_24 dX6_readSwells_10 rfl rfl (by decide) ?_
      rw [hp]
      refine s_dVi (As := [_]) (c_at hn h160 (by omega)) (Nat.le_of_ble_eq_true rfl) lX6_80 kX6_at vX6_at dX6_readSwells_13 rfl rfl rfl (by decide) rfl (Nat.le_of_ble_eq_true rfl) ?_
      rw [hT]
      refine s_dSi (As := [_]) (c_told _) (Nat.le_of_ble_eq_true rfl) lX6_84 kX4_toldBy sX4_toldBy dX6_readSwells_16 rfl rfl (Nat.le_of_ble_eq_true rfl) ?_
      refine ev_iconst (v := (-1)) dX6_readSwells_19 kc_m1 ?_
      refine ev_icmp_eq (tgt := 98) dX6_readSwells_20 (by decide) (fun h20 => ?_) (fun h20 => ?_)
      · have hR : q_swl (q_at n (I 14)) (m + 1) k p C = .inr (k, p, C) := by unfold q_swl; rw [if_pos h20]
        rw [hR]
        refine ev_aload_n (i := 1) dX6_readSwells_98 rfl rfl ?_
        refine ev_getI fX6_27 dX6_readSwells_99 rfl rfl (by decide) ?_
        refine ev_if_gt (tgt := 113) dX6_readSwells_102 (by decide) (fun h102 => ?_) (fun h102 => ?_)
        · refine ev_iconst (v := 1) dX6_readSwells_113 kc_1 ?_
          refine ev_goto (tgt := 118) dX6_readSwells_114 (by decide) ?_
          exact s_ret1 dX6_readSwells_118 (by
                first
                  | exact Or.inr ⟨k, p, C, by unfold q_sw1; simp only []; rw [if_neg (fun e => by rw [hC3, e] at h102; exact absurd h102 (by decide))], rfl, h⟩
                  | exact Or.inl (nv_pE.of (e := 1) (q := p) h ((nv_rf.refl X).up (by decide) _) (by unfold q_sw1; simp only []; rw [if_pos (by rcases Nat.eq_zero_or_pos k with e | e; exact e; exact absurd (by rw [hC3, ← nI_0]; exact nI_lt e (by omega)) h102)]) (by decide) rfl (h.1.up3 1)))
        · refine ev_aload_n (i := 0) dX6_readSwells_105 rfl rfl ?_
          refine ev_iconst (v := 1) dX6_readSwells_106 kc_1 ?_
          refine s_dVz (As := [_]) (c_fails hf 1) (Nat.le_of_ble_eq_true rfl) lX6_89 kX6_fails vX6_fails dX6_readSwells_107 rfl rfl rfl (by decide) rfl (Nat.le_of_ble_eq_true rfl) ?_
          refine s_ifZ_eq (tgt := 117) dX6_readSwells_110 (by decide) (fun h110 => ?_) (fun h110 => ?_)
          · refine ev_iconst (v := 0) dX6_readSwells_117 kc_0 ?_
            exact s_ret0 dX6_readSwells_118 (by
                first
                  | exact Or.inr ⟨k, p, C, by unfold q_sw1; simp only []; rw [if_neg (fun e => by rw [hC3, e] at h102; exact absurd h102 (by decide))], rfl, h⟩
                  | exact Or.inl (nv_pE.of (e := 1) (q := p) h ((nv_rf.refl X).up (by decide) _) (by unfold q_sw1; simp only []; rw [if_pos (by rcases Nat.eq_zero_or_pos k with e | e; exact e; exact absurd (by rw [hC3, ← nI_0]; exact nI_lt e (by omega)) h102)]) (by decide) rfl (h.1.up3 1)))
          · exact absurd h110 (by decide)
      · refine ev_iload_n (i := 2) dX6_readSwells_23 rfl rfl ?_
        refine ev_bipush (v := 20) dX6_readSwells_24 kb_20 ?_
        refine ev_icmp_ne (tgt := 35) dX6_readSwells_26 (by decide) (fun h26 => ?_) (fun h26 => ?_)
        · have hk20 : k ≠ 20 := fun e => h26 (by rw [h20', e])
          have hm0 : m ≠ 0 := by omega
          · refine ev_aload_n (i := 1) dX6_readSwells_35 rfl rfl ?_
            refine ev_getR fX6_92 dX6_readSwells_36 rfl rfl (by decide) ?_
            refine ev_iload_n (i := 2) dX6_readSwells_39 rfl rfl ?_
            refine ev_aload_n (i := 0) dX6_readSwells_40 rfl rfl ?_
            refine ev_aload_n (i := 0) dX6_readSwells_41 rfl rfl ?_
            refine ev_getI fX6_24 dX6_readSwells_42 rfl rfl (by decide) ?_
            rw [hp]
            refine s_dVi (As := [_]) (c_at hn h160 (by omega)) (Nat.le_of_ble_eq_true rfl) lX6_80 kX6_at vX6_at dX6_readSwells_45 rfl rfl rfl (by decide) rfl (Nat.le_of_ble_eq_true rfl) ?_
            rw [hT]
            refine s_dSi (As := [_]) (c_told _) (Nat.le_of_ble_eq_true rfl) lX6_84 kX4_toldBy sX4_toldBy dX6_readSwells_48 rfl rfl (Nat.le_of_ble_eq_true rfl) ?_
            refine ev_iastN dX6_readSwells_51 rfl (show k < 20 by omega) (by decide) ?_
            refine ev_aload_n (i := 0) dX6_readSwells_52 rfl rfl ?_
            refine ev_dup dX6_readSwells_53 rfl ?_
            refine ev_getI fX6_24 dX6_readSwells_54 rfl rfl (by decide) ?_
            rw [show nw_up X 21 k (nv_told (q_at n (I 14) p)) 13 2 = nI p from by rw [nw_up_ne (by decide)]; exact hp]
            refine ev_iconst (v := 1) dX6_readSwells_57 kc_1 ?_
            refine ev_iadd dX6_readSwells_58 ?_
            rw [nI_1]
            refine ev_putI fX6_24 dX6_readSwells_59 rfl rfl (by decide) rfl rfl rfl rfl ?_
            refine ev_aload_n (i := 1) dX6_readSwells_62 rfl rfl ?_
            refine ev_getR fX6_95 dX6_readSwells_63 rfl rfl (by decide) ?_
            refine ev_iload_n (i := 2) dX6_readSwells_66 rfl rfl ?_
            have hlt : p < n := by
              rcases Nat.lt_or_ge p n with q | q
              · exact q
              · exact absurd (by unfold q_at; rw [if_neg (by omega)]; decide) h20
            have g1 := (h.kin (v := nv_told (q_at n (I 14) p)) (show k < 20 by omega)).up2 (q := p + 1) (by omega)
            refine ev_aload_n (i := 0) dX6_readSwells_67 rfl rfl ?_
            refine ev_bipush (v := 30) dX6_readSwells_68 kb_30 ?_
            refine s_callVi (As := [_]) (d_number g1.1 30) (Nat.le_of_ble_eq_true rfl) lX6_98 kX6_number vX6_number dX6_readSwells_70 rfl rfl rfl (by decide) rfl (Nat.le_of_ble_eq_true rfl) (fun y J2 hq => ?_)
            rw [g1.2.1] at hq
            obtain ⟨hq, hf2, -, -⟩ := hq
            rcases hq with ⟨e, e1, e2, hr2⟩ | ⟨q2, e1, hr2⟩
            · refine ev_iastN dX6_readSwells_73 rfl (show k < 20 by omega) (by decide) ?_
              have g2 := (g1.rf hf2 hr2).hei (v := y) (show k < 20 by omega)
              refine ev_aload_n (i := 0) dX6_readSwells_74 rfl rfl ?_
              refine ev_bipush (v := 59) dX6_readSwells_75 kb_59 ?_
              refine s_dVz (As := [_]) (c_passes0 (by rw [g2.1.2.2.1]; exact e2) 59) (Nat.le_of_ble_eq_true rfl) lX6_60 kX6_passes vX6_passes dX6_readSwells_77 rfl rfl rfl (by decide) rfl (Nat.le_of_ble_eq_true rfl) ?_
              refine s_ifZ_ne (tgt := 85) dX6_readSwells_80 (by decide) (fun h80 => ?_) (fun h80 => ?_)
              · exact absurd h80 (by decide)
              · refine ev_iconst (v := 0) dX6_readSwells_83 kc_0 ?_
                exact s_ret0 dX6_readSwells_84 (Or.inl (nv_pE.of g2 (nv_rf.refl _) (by unfold q_swl q_sw1; simp [h20, hm0, e1]) e2 rfl g2.1))
            · refine ev_iastN dX6_readSwells_73 rfl (show k < 20 by omega) (by decide) ?_
              have g2 := (g1.rf hf2 hr2).hei (v := y) (show k < 20 by omega)
              refine ev_aload_n (i := 0) dX6_readSwells_74 rfl rfl ?_
              refine ev_bipush (v := 59) dX6_readSwells_75 kb_59 ?_
              refine s_callVz (As := [_]) (d_passes g2.1 59 (by decide)) (Nat.le_of_ble_eq_true rfl) lX6_60 kX6_passes vX6_passes dX6_readSwells_77 rfl rfl rfl (by decide) rfl (Nat.le_of_ble_eq_true rfl) (fun b3 J3 hq3 => ?_)
              rw [g2.2.1] at hq3
              obtain ⟨hq3, hf3, -, -⟩ := hq3
              rcases hq3 with ⟨c3, rfl, hr3⟩ | ⟨c3, rfl, hr3⟩
              · refine s_ifZ_ne (tgt := 85) dX6_readSwells_80 (by decide) (fun h80 => ?_) (fun h80 => ?_)
                · refine ev_aload_n (i := 1) dX6_readSwells_85 rfl rfl ?_
                  refine ev_iload_n (i := 2) dX6_readSwells_86 rfl rfl ?_
                  refine ev_iconst (v := 1) dX6_readSwells_87 kc_1 ?_
                  refine ev_iadd dX6_readSwells_88 ?_
                  rw [nI_1]
                  refine ev_putI fX6_27 dX6_readSwells_89 rfl rfl (by decide) rfl rfl rfl rfl ?_
                  refine ev_iincm (m := 1) dX6_readSwells_92 kc_1 rfl (Nat.le_of_ble_eq_true rfl) rfl ?_
                  refine ev_goto (tgt := 2) dX6_readSwells_95 (by decide) ?_
                  rw [nI_1]
                  have hR : q_swl (q_at n (I 14)) (m + 1) k p C = q_swl (q_at n (I 14)) m (k + 1) (q2 + 1) (upd (upd (upd C (6 + k) (nv_told (q_at n (I 14) p))) (26 + k) y) 3 (nI (k + 1))) := by
                    conv => lhs; unfold q_swl
                    unfold q_sgn
                    simp [h20, hm0, e1, c3]
                  rw [hR]
                  exact ih (k + 1) (q2 + 1) _ _ (by omega) (by omega) ((g2.rf hf3 hr3).num (k := 2) (by decide)) pk_us
                · exact absurd h80 (by decide)
              · refine s_ifZ_ne (tgt := 85) dX6_readSwells_80 (by decide) (fun h80 => ?_) (fun h80 => ?_)
                · exact absurd h80 (by decide)
                · refine ev_iconst (v := 0) dX6_readSwells_83 kc_0 ?_
                  exact s_ret0 dX6_readSwells_84 (Or.inl (nv_pE.of g2 hf3 (by unfold q_swl q_sw1 q_sgn; simp [h20, hm0, e1, c3]) (by decide) rfl hr3))
        · have hm0 : m = 0 := by rw [h20', nI_eq (by omega) (by decide)] at h26; omega
          refine ev_aload_n (i := 0) dX6_readSwells_29 rfl rfl ?_
          refine ev_iconst (v := 3) dX6_readSwells_30 kc_3 ?_
          refine s_dVz (As := [_]) (c_fails hf 3) (Nat.le_of_ble_eq_true rfl) lX6_89 kX6_fails vX6_fails dX6_readSwells_31 rfl rfl rfl (by decide) rfl (Nat.le_of_ble_eq_true rfl) ?_
          exact s_retZ dX6_readSwells_34 (Or.inl (nv_pE.of (e := 3) (q := p) h ((nv_rf.refl X).up (by decide) _) (by unfold q_swl q_sw1; simp [h20, hm0]) (by decide) rfl (h.1.up3 3)))
theorem c_readSwells {n p : Nat} {X : nw_Me} {C F : Nat → Int32} (h : nv_st I n X p 0 C F) (h3 : C 3 = nI 0) : nw_cZ l g 2 mX6_readSwells [.ref (nw_a g 13), .ref (nw_a g 20)] X (fun b K => nv_pE I n (q_sw1 (q_swl (q_at n (I 14)) 21 0 p C)) b K ∨ ∃ N q C2, q_sw1 (q_swl (q_at n (I 14)) 21 0 p C) = .inr (N, q, C2) ∧ b = true ∧ nv_st I n K q 0 C2 F) := by
  refine ⟨(Nat.le_of_ble_eq_true rfl), ?_⟩
  refine ev_iconst (v := 0) dX6_readSwells_0 kc_0 ?_
  refine ev_istore_n (i := 2) dX6_readSwells_1 rfl (Nat.le_of_ble_eq_true rfl) rfl ?_
  exact l_readSwells 21 0 p X C rfl (by decide) h h3
theorem l_readTowers {n T : Nat} : ∀ (m k p : Nat) (X : nw_Me) (C F : Nat → Int32), k + m = 4 → 0 < m → nv_st I n X p 0 C F → C 4 = nI k → nw_S l g 3 mX6_readTowers 2 [some (.ref (nw_a g 13)), some (.ref (nw_a g 20)), some (.ref (nw_a g 31)), some (.int (nI k))] [] X (nw_qZ (fun b K => nv_pE I n (q_sw1 (q_tow (q_at n (I 14)) m k p C F)) b K ∨ ∃ N q C2 F2, q_sw1 (q_tow (q_at n (I 14)) m k p C F) = .inr (N, q, C2, F2) ∧ b = true ∧ nv_st I n K q 0 C2 F2)) := by
  have h20' : (3 : Int32) = nI 3 := by decide
  intro m
  induction m with
  | zero => intro k p X C F h1 h2; omega
  | succ m ih =>
    intro k p X C F hkm hm h hk
    have hT := h.2.1
    have hC3 : X 20 3 = nI k := (cf4 X 20).symm.trans (by rw [h.2.2.1]; exact hk)
    obtain ⟨hn, hp, hf, h160, hpn⟩ := h.1
    refine ev_iload_n (i := 3) dX6_readTowers_2 rfl rfl ?_
    refine ev_iconst (v := 3) dX6_readTowers_3 kc_3 ?_
    refine ev_icmp_gt (tgt := 87) dX6_readTowers_4 (by decide) (fun h4 => ?_) (fun h4 => ?_)
    · exact absurd h4 (by rw [h20']; exact nI_nlt (by omega) (by omega))
    · refine ev_aload_n (i := 0) dX6_readTowers_7 rfl rfl ?_
      refine ev_aload_n (i := 0) dX6_readTowers_8 rfl rfl ?_
      refine ev_getI fX6_24 dX6_readTowers_9 rfl rfl (by decide) ?_
      rw [hp]
      refine s_dVi (As := [_]) (c_at hn h160 (by omega)) (Nat.le_of_ble_eq_true rfl) lX6_80 kX6_at vX6_at dX6_readTowers_12 rfl rfl rfl (by decide) rfl (Nat.le_of_ble_eq_true rfl) ?_
      rw [hT]
      refine ev_bipush (v := 116) dX6_readTowers_15 kb_116 ?_
      refine ev_icmp_ne (tgt := 87) dX6_readTowers_17 (by decide) (fun h17 => ?_) (fun h17 => ?_)
      · have hR : q_tow (q_at n (I 14)) (m + 1) k p C F = .inr (k, p, C, F) := by unfold q_tow; rw [if_neg h17]
        rw [hR]
        refine ev_aload_n (i := 1) dX6_readTowers_87 rfl rfl ?_
        refine ev_getI fX6_32 dX6_readTowers_88 rfl rfl (by decide) ?_
        refine ev_if_gt (tgt := 102) dX6_readTowers_91 (by decide) (fun h91 => ?_) (fun h91 => ?_)
        · refine ev_iconst (v := 1) dX6_readTowers_102 kc_1 ?_
          refine ev_goto (tgt := 107) dX6_readTowers_103 (by decide) ?_
          exact s_ret1 dX6_readTowers_107 (by
                first
                  | exact Or.inr ⟨k, p, C, F, by unfold q_sw1; simp only []; rw [if_neg (fun e => by rw [hC3, e] at h91; exact absurd h91 (by decide))], rfl, h⟩
                  | exact Or.inl (nv_pE.of (e := 1) (q := p) h ((nv_rf.refl X).up (by decide) _) (by unfold q_sw1; simp only []; rw [if_pos (by rcases Nat.eq_zero_or_pos k with e | e; exact e; exact absurd (by rw [hC3, ← nI_0]; exact nI_lt e (by omega)) h91)]) (by decide) rfl (h.1.up3 1)))
        · refine ev_aload_n (i := 0) dX6_readTowers_94 rfl rfl ?_
          refine ev_iconst (v := 1) dX6_readTowers_95 kc_1 ?_
          refine s_dVz (As := [_]) (c_fails hf 1) (Nat.le_of_ble_eq_true rfl) lX6_89 kX6_fails vX6_fails dX6_readTowers_96 rfl rfl rfl (by decide) rfl (Nat.le_of_ble_eq_true rfl) ?_
          refine s_ifZ_eq (tgt := 106) dX6_readTowers_99 (by decide) (fun h99 => ?_) (fun h99 => ?_)
          · refine ev_iconst (v := 0) dX6_readTowers_106 kc_0 ?_
            exact s_ret0 dX6_readTowers_107 (by
                first
                  | exact Or.inr ⟨k, p, C, F, by unfold q_sw1; simp only []; rw [if_neg (fun e => by rw [hC3, e] at h91; exact absurd h91 (by decide))], rfl, h⟩
                  | exact Or.inl (nv_pE.of (e := 1) (q := p) h ((nv_rf.refl X).up (by decide) _) (by unfold q_sw1; simp only []; rw [if_pos (by rcases Nat.eq_zero_or_pos k with e | e; exact e; exact absurd (by rw [hC3, ← nI_0]; exact nI_lt e (by omega)) h91)]) (by decide) rfl (h.1.up3 1)))
          · exact absurd h99 (by decide)
      · have hc0 : q_at n (I 14) p = 116 := h17
        refine ev_iload_n (i := 3) dX6_readTowers_20 rfl rfl ?_
        refine ev_iconst (v := 3) dX6_readTowers_21 kc_3 ?_
        refine ev_icmp_ne (tgt := 31) dX6_readTowers_22 (by decide) (fun h22 => ?_) (fun h22 => ?_)
        · have hk20 : k ≠ 3 := fun e => h22 (by rw [h20', e])
          have hm0 : m ≠ 0 := by omega
          · refine ev_aload_n (i := 0) dX6_readTowers_31 rfl rfl ?_
            refine ev_dup dX6_readTowers_32 rfl ?_
            refine ev_getI fX6_24 dX6_readTowers_33 rfl rfl (by decide) ?_
            rw [hp]
            refine ev_iconst (v := 1) dX6_readTowers_36 kc_1 ?_
            refine ev_iadd dX6_readTowers_37 ?_
            rw [nI_1]
            refine ev_putI fX6_24 dX6_readTowers_38 rfl rfl (by decide) rfl rfl rfl rfl ?_
            have hlt := q_at_lt (by decide) hc0
            have g1 := h.up2 (q := p + 1) (by omega)
            refine ev_aload_n (i := 0) dX6_readTowers_41 rfl rfl ?_
            refine ev_bipush (v := 7) dX6_readTowers_42 kb_7 ?_
            refine ev_bipush (v := 8) dX6_readTowers_44 kb_8 ?_
            refine s_callVz (As := [_, _]) (d_readPair g1.1 7 8) (Nat.le_of_ble_eq_true rfl) lX6_64 kX6_readPair vX6_readPair dX6_readTowers_46 rfl rfl rfl (by decide) rfl (Nat.le_of_ble_eq_true rfl) (fun b2 J2 hq2 => ?_)
            rw [g1.2.1] at hq2
            obtain ⟨hq2, hf2⟩ := hq2
            rcases hq2 with ⟨e, q, e1, e2, rfl, hr2⟩ | ⟨x, y, q, e1, rfl, hr2, k4, k5⟩
            · refine s_ifZ_ne (tgt := 54) dX6_readTowers_49 (by decide) (fun h49 => ?_) (fun h49 => ?_)
              · exact absurd h49 (by decide)
              · refine ev_iconst (v := 0) dX6_readTowers_52 kc_0 ?_
                exact s_ret0 dX6_readTowers_53 (Or.inl (nv_pE.of g1 hf2 (by unfold q_tow q_sw1; simp [hc0, hm0, e1]) e2 rfl hr2))
            · refine s_ifZ_ne (tgt := 54) dX6_readTowers_49 (by decide) (fun h49 => ?_) (fun h49 => ?_)
              · refine ev_aload_n (i := 1) dX6_readTowers_54 rfl rfl ?_
                refine ev_getR fX6_101 dX6_readTowers_55 rfl rfl (by decide) ?_
                refine ev_iload_n (i := 3) dX6_readTowers_58 rfl rfl ?_
                refine ev_aload_n (i := 0) dX6_readTowers_59 rfl rfl ?_
                refine ev_getI fX6_68 dX6_readTowers_60 rfl rfl (by decide) ?_
                rw [k4]
                refine ev_iastN dX6_readTowers_63 rfl (show k < 3 by omega) (by decide) ?_
                refine ev_aload_n (i := 2) dX6_readTowers_64 rfl rfl ?_
                refine ev_getR fX6_104 dX6_readTowers_65 rfl rfl (by decide) ?_
                refine ev_iload_n (i := 3) dX6_readTowers_68 rfl rfl ?_
                refine ev_aload_n (i := 0) dX6_readTowers_69 rfl rfl ?_
                refine ev_getI fX6_74 dX6_readTowers_70 rfl rfl (by decide) ?_
                rw [show nw_up J2 23 k x 13 5 = y from by rw [nw_up_ne (by decide)]; exact k5]
                refine ev_iastN dX6_readTowers_73 rfl (show k < 3 by omega) (by decide) ?_
                refine ev_aload_n (i := 1) dX6_readTowers_74 rfl rfl ?_
                refine ev_iload_n (i := 3) dX6_readTowers_75 rfl rfl ?_
                refine ev_iconst (v := 1) dX6_readTowers_76 kc_1 ?_
                refine ev_iadd dX6_readTowers_77 ?_
                rw [nI_1]
                refine ev_putI fX6_32 dX6_readTowers_78 rfl rfl (by decide) rfl rfl rfl rfl ?_
                refine ev_iincm (m := 1) dX6_readTowers_81 kc_1 rfl (Nat.le_of_ble_eq_true rfl) rfl ?_
                refine ev_goto (tgt := 2) dX6_readTowers_84 (by decide) ?_
                rw [nI_1]
                have hR : q_tow (q_at n (I 14)) (m + 1) k p C F = q_tow (q_at n (I 14)) m (k + 1) q (upd (upd C (46 + k) x) 4 (nI (k + 1))) (upd F (2 + k) y) := by
                  conv => lhs; unfold q_tow
                  simp [hc0, hm0, e1]
                rw [hR]
                exact ih (k + 1) q _ _ _ (by omega) (by omega) ((((g1.rf hf2 hr2).see (show k < 3 by omega)).cnt (show k < 3 by omega)).num (k := 3) (by decide)) pk_us
              · exact absurd h49 (by decide)
        · have hm0 : m = 0 := by rw [h20', nI_eq (by omega) (by decide)] at h22; omega
          refine ev_aload_n (i := 0) dX6_readTowers_25 rfl rfl ?_
          refine ev_iconst (v := 3) dX6_readTowers_26 kc_3 ?_
          refine s_dVz (As := [_]) (c_fails hf 3) (Nat.le_of_ble_eq_true rfl) lX6_89 kX6_fails vX6_fails dX6_readTowers_27 rfl rfl rfl (by decide) rfl (Nat.le_of_ble_eq_true rfl) ?_
          exact s_retZ dX6_readTowers_30 (Or.inl (nv_pE.of (e := 3) (q := p) h ((nv_rf.refl X).up (by decide) _) (by unfold q_tow q_sw1; simp [hc0, hm0]) (by decide) rfl (h.1.up3 3)))
theorem l_readShips {n T : Nat} : ∀ (m k p : Nat) (X : nw_Me) (C F : Nat → Int32), k + m = 7 → 0 < m → nv_st I n X p 0 C F → C 5 = nI k → C 4 = nI T → nw_S l g 3 mX6_readShips 2 [some (.ref (nw_a g 13)), some (.ref (nw_a g 20)), some (.ref (nw_a g 31)), some (.int (nI k))] [] X (nw_qZ (fun b K => nv_pE I n (q_shp (q_at n (I 14)) (nI T) m k p C F) b K ∨ ∃ N q C2 F2, q_shp (q_at n (I 14)) (nI T) m k p C F = .inr (N, q, C2, F2) ∧ b = true ∧ nv_st I n K q 0 C2 F2)) := by
  have h20' : (6 : Int32) = nI 6 := by decide
  intro m
  induction m with
  | zero => intro k p X C F h1 h2; omega
  | succ m ih =>
    intro k p X C F hkm hm h hk hT0
    have hT := h.2.1
    have hC3 : X 20 4 = nI k := (cf5 X 20).symm.trans (by rw [h.2.2.1]; exact hk)
    have hT4 : X 20 3 = nI T := (cf4 X 20).symm.trans (by rw [h.2.2.1]; exact hT0)
    obtain ⟨hn, hp, hf, h160, hpn⟩ := h.1
    refine ev_iload_n (i := 3) dX6_readShips_2 rfl rfl ?_
    refine ev_bipush (v := 6) dX6_readShips_3 kb_6 ?_
    refine ev_icmp_gt (tgt := 93) dX6_readShips_5 (by decide) (fun h5 => ?_) (fun h5 => ?_)
    · exact absurd h5 (by rw [h20']; exact nI_nlt (by omega) (by omega))
    · refine ev_aload_n (i := 0) dX6_readShips_8 rfl rfl ?_
      refine ev_aload_n (i := 0) dX6_readShips_9 rfl rfl ?_
      refine ev_getI fX6_24 dX6_readShips_10 rfl rfl (by decide) ?_
      rw [hp]
      refine s_dVi (As := [_]) (c_at hn h160 (by omega)) (Nat.le_of_ble_eq_true rfl) lX6_80 kX6_at vX6_at dX6_readShips_13 rfl rfl rfl (by decide) rfl (Nat.le_of_ble_eq_true rfl) ?_
      rw [hT]
      refine ev_bipush (v := 104) dX6_readShips_16 kb_104 ?_
      refine ev_icmp_ne (tgt := 93) dX6_readShips_18 (by decide) (fun h18 => ?_) (fun h18 => ?_)
      · have hR : q_shp (q_at n (I 14)) (nI T) (m + 1) k p C F = .inr (k, p, C, F) := by unfold q_shp; rw [if_neg h18]
        rw [hR]
        refine ev_iconst (v := 1) dX6_readShips_93 kc_1 ?_
        exact s_ret1 dX6_readShips_94 (Or.inr ⟨k, p, C, F, rfl, rfl, h⟩)
      · have hc0 : q_at n (I 14) p = 104 := h18
        refine ev_iload_n (i := 3) dX6_readShips_21 rfl rfl ?_
        refine ev_bipush (v := 6) dX6_readShips_22 kb_6 ?_
        refine ev_icmp_ne (tgt := 33) dX6_readShips_24 (by decide) (fun h24 => ?_) (fun h24 => ?_)
        · have hk20 : k ≠ 6 := fun e => h24 (by rw [h20', e])
          have hm0 : m ≠ 0 := by omega
          · refine ev_aload_n (i := 0) dX6_readShips_33 rfl rfl ?_
            refine ev_dup dX6_readShips_34 rfl ?_
            refine ev_getI fX6_24 dX6_readShips_35 rfl rfl (by decide) ?_
            rw [hp]
            refine ev_iconst (v := 1) dX6_readShips_38 kc_1 ?_
            refine ev_iadd dX6_readShips_39 ?_
            rw [nI_1]
            refine ev_putI fX6_24 dX6_readShips_40 rfl rfl (by decide) rfl rfl rfl rfl ?_
            have hlt := q_at_lt (by decide) hc0
            have g1 := h.up2 (q := p + 1) (by omega)
            refine ev_aload_n (i := 0) dX6_readShips_43 rfl rfl ?_
            refine ev_bipush (v := 99) dX6_readShips_44 kb_99 ?_
            refine ev_aload_n (i := 1) dX6_readShips_46 rfl rfl ?_
            refine ev_getI fX6_32 dX6_readShips_47 rfl rfl (by decide) ?_
            rw [show nw_up X 13 2 (nI (p + 1)) 20 3 = nI T from by rw [nw_up_ne (by decide)]; exact hT4]
            refine ev_iconst (v := 1) dX6_readShips_50 kc_1 ?_
            refine ev_isub dX6_readShips_51 ?_
            refine s_callVz (As := [_, _]) (d_readPair g1.1 99 (nI T - 1)) (Nat.le_of_ble_eq_true rfl) lX6_64 kX6_readPair vX6_readPair dX6_readShips_52 rfl rfl rfl (by decide) rfl (Nat.le_of_ble_eq_true rfl) (fun b2 J2 hq2 => ?_)
            rw [g1.2.1] at hq2
            obtain ⟨hq2, hf2⟩ := hq2
            rcases hq2 with ⟨e, q, e1, e2, rfl, hr2⟩ | ⟨x, y, q, e1, rfl, hr2, k4, k5⟩
            · refine s_ifZ_ne (tgt := 60) dX6_readShips_55 (by decide) (fun h55 => ?_) (fun h55 => ?_)
              · exact absurd h55 (by decide)
              · refine ev_iconst (v := 0) dX6_readShips_58 kc_0 ?_
                exact s_ret0 dX6_readShips_59 (Or.inl (nv_pE.of g1 hf2 (by unfold q_shp; simp [hc0, hm0, e1]) e2 rfl hr2))
            · refine s_ifZ_ne (tgt := 60) dX6_readShips_55 (by decide) (fun h55 => ?_) (fun h55 => ?_)
              · refine ev_aload_n (i := 1) dX6_readShips_60 rfl rfl ?_
                refine ev_getR fX6_107 dX6_readShips_61 rfl rfl (by decide) ?_
                refine ev_iload_n (i := 3) dX6_readShips_64 rfl rfl ?_
                refine ev_aload_n (i := 0) dX6_readShips_65 rfl rfl ?_
                refine ev_getI fX6_68 dX6_readShips_66 rfl rfl (by decide) ?_
                rw [k4]
                refine ev_iastN dX6_readShips_69 rfl (show k < 6 by omega) (by decide) ?_
                refine ev_aload_n (i := 2) dX6_readShips_70 rfl rfl ?_
                refine ev_getR fX6_110 dX6_readShips_71 rfl rfl (by decide) ?_
                refine ev_iload_n (i := 3) dX6_readShips_74 rfl rfl ?_
                refine ev_aload_n (i := 0) dX6_readShips_75 rfl rfl ?_
                refine ev_getI fX6_74 dX6_readShips_76 rfl rfl (by decide) ?_
                rw [show nw_up J2 24 k x 13 5 = y from by rw [nw_up_ne (by decide)]; exact k5]
                refine ev_iastN dX6_readShips_79 rfl (show k < 6 by omega) (by decide) ?_
                refine ev_aload_n (i := 1) dX6_readShips_80 rfl rfl ?_
                refine ev_iload_n (i := 3) dX6_readShips_81 rfl rfl ?_
                refine ev_iconst (v := 1) dX6_readShips_82 kc_1 ?_
                refine ev_iadd dX6_readShips_83 ?_
                rw [nI_1]
                refine ev_putI fX6_35 dX6_readShips_84 rfl rfl (by decide) rfl rfl rfl rfl ?_
                refine ev_iincm (m := 1) dX6_readShips_87 kc_1 rfl (Nat.le_of_ble_eq_true rfl) rfl ?_
                refine ev_goto (tgt := 2) dX6_readShips_90 (by decide) ?_
                rw [nI_1]
                have hR : q_shp (q_at n (I 14)) (nI T) (m + 1) k p C F = q_shp (q_at n (I 14)) (nI T) m (k + 1) q (upd (upd C (49 + k) x) 5 (nI (k + 1))) (upd F (11 + k) y) := by
                  conv => lhs; unfold q_shp
                  simp [hc0, hm0, e1]
                rw [hR]
                exact ih (k + 1) q _ _ _ (by omega) (by omega) ((((g1.rf hf2 hr2).dra (show k < 6 by omega)).hee (show k < 6 by omega)).num (k := 4) (by decide)) pk_us (by rw [pk_un (by decide), pk_un (by omega)]; exact hT0)
              · exact absurd h55 (by decide)
        · have hm0 : m = 0 := by rw [h20', nI_eq (by omega) (by decide)] at h24; omega
          refine ev_aload_n (i := 0) dX6_readShips_27 rfl rfl ?_
          refine ev_iconst (v := 3) dX6_readShips_28 kc_3 ?_
          refine s_dVz (As := [_]) (c_fails hf 3) (Nat.le_of_ble_eq_true rfl) lX6_89 kX6_fails vX6_fails dX6_readShips_29 rfl rfl rfl (by decide) rfl (Nat.le_of_ble_eq_true rfl) ?_
          exact s_retZ dX6_readShips_32 (Or.inl (nv_pE.of (e := 3) (q := p) h ((nv_rf.refl X).up (by decide) _) (by unfold q_shp; simp [hc0, hm0]) (by decide) rfl (h.1.up3 3)))
theorem c_readTowers {n p : Nat} {X : nw_Me} {C F : Nat → Int32} (h : nv_st I n X p 0 C F) (h3 : C 4 = nI 0) : nw_cZ l g 3 mX6_readTowers [.ref (nw_a g 13), .ref (nw_a g 20), .ref (nw_a g 31)] X (fun b K => nv_pE I n (q_sw1 (q_tow (q_at n (I 14)) 4 0 p C F)) b K ∨ ∃ N q C2 F2, q_sw1 (q_tow (q_at n (I 14)) 4 0 p C F) = .inr (N, q, C2, F2) ∧ b = true ∧ nv_st I n K q 0 C2 F2) := by
  refine ⟨(Nat.le_of_ble_eq_true rfl), ?_⟩
  refine ev_iconst (v := 0) dX6_readTowers_0 kc_0 ?_
  refine ev_istore_n (i := 3) dX6_readTowers_1 rfl (Nat.le_of_ble_eq_true rfl) rfl ?_
  exact l_readTowers (T := 0) 4 0 p X C F rfl (by decide) h h3
theorem c_readShips {n p T : Nat} {X : nw_Me} {C F : Nat → Int32} (h : nv_st I n X p 0 C F) (h3 : C 5 = nI 0) (hT : C 4 = nI T) : nw_cZ l g 3 mX6_readShips [.ref (nw_a g 13), .ref (nw_a g 20), .ref (nw_a g 31)] X (fun b K => nv_pE I n (q_shp (q_at n (I 14)) (nI T) 7 0 p C F) b K ∨ ∃ N q C2 F2, q_shp (q_at n (I 14)) (nI T) 7 0 p C F = .inr (N, q, C2, F2) ∧ b = true ∧ nv_st I n K q 0 C2 F2) := by
  refine ⟨(Nat.le_of_ble_eq_true rfl), ?_⟩
  refine ev_iconst (v := 0) dX6_readShips_0 kc_0 ?_
  refine ev_istore_n (i := 3) dX6_readShips_1 rfl (Nat.le_of_ble_eq_true rfl) rfl ?_
  exact l_readShips 7 0 p X C F rfl (by decide) h h3 hT
theorem c_isAtEnd {n p : Nat} {X : nw_Me} {C F : Nat → Int32} (h : nv_st I n X p 0 C F) : nw_cZ l g 1 mX6_isAtEnd [.ref (nw_a g 13)] X (fun b K => (q_at n (I 14) p = -1 ∧ b = true ∧ nv_st I n K p 0 C F) ∨ (¬ q_at n (I 14) p = -1 ∧ b = false ∧ nv_rd K n p 1 ∧ nv_qf I K)) := by
  obtain ⟨hn, hp, hf, h160, hpn⟩ := h.1
  refine ⟨(Nat.le_of_ble_eq_true rfl), ?_⟩
  refine ev_aload_n (i := 0) dX6_isAtEnd_0 rfl rfl ?_
  refine ev_aload_n (i := 0) dX6_isAtEnd_1 rfl rfl ?_
  refine ev_getI fX6_24 dX6_isAtEnd_2 rfl rfl (by decide) ?_
  rw [hp]
  refine s_dVi (As := [_]) (c_at hn h160 (by omega)) (Nat.le_of_ble_eq_true rfl) lX6_80 kX6_at vX6_at dX6_isAtEnd_5 rfl rfl rfl (by decide) rfl (Nat.le_of_ble_eq_true rfl) ?_
  rw [h.2.1]
  refine ev_iconst (v := (-1)) dX6_isAtEnd_8 kc_m1 ?_
  refine ev_icmp_eq (tgt := 20) dX6_isAtEnd_9 (by decide) (fun h9 => ?_) (fun h9 => ?_)
  · refine ev_iconst (v := 1) dX6_isAtEnd_20 kc_1 ?_
    refine ev_goto (tgt := 25) dX6_isAtEnd_21 (by decide) ?_
    exact s_ret1 dX6_isAtEnd_25 (by
      first
        | exact Or.inl ⟨h9, rfl, h⟩
        | exact Or.inr ⟨h9, rfl, (h.up3 1).1, (h.up3 1).2.2.2.2⟩)
  · refine ev_aload_n (i := 0) dX6_isAtEnd_12 rfl rfl ?_
    refine ev_iconst (v := 1) dX6_isAtEnd_13 kc_1 ?_
    refine s_dVz (As := [_]) (c_fails hf 1) (Nat.le_of_ble_eq_true rfl) lX6_89 kX6_fails vX6_fails dX6_isAtEnd_14 rfl rfl rfl (by decide) rfl (Nat.le_of_ble_eq_true rfl) ?_
    refine s_ifZ_eq (tgt := 24) dX6_isAtEnd_17 (by decide) (fun h17 => ?_) (fun h17 => ?_)
    · refine ev_iconst (v := 0) dX6_isAtEnd_24 kc_0 ?_
      exact s_ret0 dX6_isAtEnd_25 (by
      first
        | exact Or.inl ⟨h9, rfl, h⟩
        | exact Or.inr ⟨h9, rfl, (h.up3 1).1, (h.up3 1).2.2.2.2⟩)
    · exact absurd h17 (by decide)
end
