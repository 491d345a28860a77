section
variable {l : Launch} {g : nw_G} {I : nw_Me} {N T S : Nat} {a C F G : Nat → Int32} {b : Bool} {L : List (Nat → Int32)} {n p : Nat}
/-! The model's reader. -/
theorem q_d_in (x : Int32) : q_d x = nv_in x 48 57 := rfl
theorem q_at_n {f : Nat → Int32} : q_d (q_at n f n) = false := by unfold q_at; rw [if_neg (Nat.lt_irrefl n)]; decide
theorem q_at_in {f : Nat → Int32} {k : Nat} (h : k < n) : q_at n f k = f k := if_pos h
def nm_f0 (I K : nw_Me) : Prop := (∀ j, j < 15 ∨ 19 ≤ j → K 219 j = I 219 j) ∧ ∀ q, q ≠ 219 → K q = I q
theorem nm_f0.refl (I : nw_Me) : nm_f0 I I := ⟨fun _ _ => rfl, fun _ _ => rfl⟩
theorem nm_f0.trans {J K : nw_Me} (h1 : nm_f0 I J) (h2 : nm_f0 J K) : nm_f0 I K := ⟨fun j hj => (h2.1 j hj).trans (h1.1 j hj), fun q hq => (h2.2 q hq).trans (h1.2 q hq)⟩
theorem nm_f0.up {J : nw_Me} (h : nm_f0 I J) {j : Nat} (h1 : 15 ≤ j) (h2 : j < 19) (v : Int32) : nm_f0 I (nw_up J 219 j v) := ⟨fun i hi => by rw [nw_up_self, pk_un (by omega)]; exact h.1 i hi, fun q hq => by rw [nw_up_ne hq]; exact h.2 q hq⟩
theorem m_isFigure {e : Nat} (hn : I 219 6 = nI n) (he : I 219 15 = nI e) (hen : e ≤ n) (h160 : n ≤ 160) : nw_dZ l g 1 mX10_isFigure [.ref (nw_a g 219)] I (q_d (q_at n (I 224) e)) I := by
  refine ⟨(Nat.le_of_ble_eq_true rfl), ?_⟩
  refine ev_aload_n (i := 0) dX10_isFigure_0 rfl rfl ?_
  refine ev_getI fX10_93 dX10_isFigure_1 rfl rfl (by decide) ?_
  refine ev_aload_n (i := 0) dX10_isFigure_4 rfl rfl ?_
  refine ev_getI fX10_89 dX10_isFigure_5 rfl rfl (by decide) ?_
  rw [he, hn]
  refine ev_icmp_ge (tgt := 37) dX10_isFigure_8 (by decide) (fun h8 => ?_) (fun h8 => ?_)
  · refine ev_iconst (v := 0) dX10_isFigure_37 kc_0 ?_
    exact s_ret0 dX10_isFigure_38 ⟨by first | (rw [q_d_in, h30]; done) | rw [show e = n by have := (nI_leI (by omega) (by omega)).mp h8; omega, q_at_n], rfl⟩
  · have hlt : e < n := Nat.not_le.mp (fun q => h8 (nI_le q (by omega)))
    rw [q_at_in hlt]
    refine ev_aload_n (i := 0) dX10_isFigure_11 rfl rfl ?_
    refine ev_getR fX10_22 dX10_isFigure_12 rfl rfl (by decide) ?_
    refine ev_aload_n (i := 0) dX10_isFigure_15 rfl rfl ?_
    refine ev_getI fX10_93 dX10_isFigure_16 rfl rfl (by decide) ?_
    rw [he]
    refine ev_ialdN (j := e) dX10_isFigure_19 rfl (by omega) (by decide) ?_
    refine ev_i2l dX10_isFigure_20 ?_
    refine ev_ldc2 qX10_96 dX10_isFigure_21 ?_
    refine ev_ldc2 qX10_98 dX10_isFigure_24 ?_
    refine s_dSz (As := [_, _, _]) (m_in _ 48 57 (by decide) (by decide)) (Nat.le_of_ble_eq_true rfl) lX10_64 kX10_in sX10_in dX10_isFigure_27 rfl rfl (Nat.le_of_ble_eq_true rfl) ?_
    refine s_ifZ_eq (tgt := 37) dX10_isFigure_30 (by decide) (fun h30 => ?_) (fun h30 => ?_)
    · refine ev_iconst (v := 0) dX10_isFigure_37 kc_0 ?_
      exact s_ret0 dX10_isFigure_38 ⟨by first | (rw [q_d_in, h30]; done) | rw [show e = n by have := (nI_leI (by omega) (by omega)).mp h8; omega, q_at_n], rfl⟩
    · refine ev_iconst (v := 1) dX10_isFigure_33 kc_1 ?_
      refine ev_goto (tgt := 38) dX10_isFigure_34 (by decide) ?_
      exact s_ret1 dX10_isFigure_38 ⟨by first | (rw [q_d_in, h30]; done) | rw [show e = n by have := (nI_leI (by omega) (by omega)).mp h8; omega, q_at_n], rfl⟩
/-- what stands behind k figures -/
def q_val (a : Nat → Int32) (p k : Nat) : Int32 := if k = 0 then 0 else if k = 1 then 10 * 0 + a p - 48 else 10 * (10 * 0 + a p - 48) + a (p + 1) - 48
def t_tok (x : Int32) : Int32 := if nv_in x 97 122 then 3 else if x = 44 then 4 else if x = 59 then 5 else 1
def nm_tk (K : nw_Me) (n : Nat) (a : Nat → Int32) (p : Nat) : Prop := K 219 6 = nI n ∧ K 219 16 = nI p ∧ p ≤ n ∧ n ≤ 160 ∧
  ((p = n ∧ K 219 17 = 0) ∨
   (q_d (a p) = true ∧ K 219 17 = 2 ∧ 0 < (q_fig a p 3 0 0).1 ∧ (q_fig a p 3 0 0).1 ≤ 2 ∧ K 219 18 = (q_fig a p 3 0 0).2 ∧ K 219 15 = nI (p + (q_fig a p 3 0 0).1)) ∨
   (q_d (a p) = true ∧ K 219 17 = 1 ∧ 2 < (q_fig a p 3 0 0).1) ∨
   (p < n ∧ q_d (a p) = false ∧ K 219 18 = a p ∧ K 219 15 = nI (p + 1) ∧ K 219 17 = t_tok (a p)))
theorem q_val_s (a : Nat → Int32) (p k : Nat) (hk : k < 2) : 10 * q_val a p k + a (p + k) - 48 = q_val a p (k + 1) := by
  rcases (show k = 0 ∨ k = 1 by omega) with rfl | rfl
  · rfl
  · rfl
theorem q_val_2 (a : Nat → Int32) (p k : Nat) (hk : 2 ≤ k) : q_val a p (k + 1) = q_val a p k := by
  unfold q_val
  rw [if_neg (by omega), if_neg (by omega), if_neg (by omega), if_neg (by omega)]
theorem q_fig_k {k : Nat} (hd : ∀ j, j < k → q_d (a (p + j)) = true) (he : q_d (a (p + k)) = false) : (k ≤ 2 → q_fig a p 3 0 0 = (k, q_val a p k)) ∧ (2 < k → 2 < (q_fig a p 3 0 0).1) := by
  rcases q_fig_cases a p with ⟨h1, h2⟩ | ⟨h1, h2, h3⟩ | ⟨h1, h2, h3, h4⟩ | ⟨h1, h2, h3, h4⟩
  · have : k = 0 := Nat.eq_zero_of_not_pos (fun q => by have := hd 0 q; rw [Nat.add_zero, h1] at this; cases this)
    subst this
    exact ⟨fun _ => h2, fun q => by omega⟩
  · have : k = 1 := by
      have q1 : k ≠ 0 := fun q => by subst q; rw [Nat.add_zero, h1] at he; cases he
      have q2 : ¬ 1 < k := fun q => by have := hd 1 q; rw [h2] at this; cases this
      omega
    subst this
    exact ⟨fun _ => h3, fun q => by omega⟩
  · have : k = 2 := by
      have q1 : k ≠ 0 := fun q => by subst q; rw [Nat.add_zero, h1] at he; cases he
      have q0 : k ≠ 1 := fun q => by subst q; rw [h2] at he; cases he
      have q2 : ¬ 2 < k := fun q => by have := hd 2 q; rw [h3] at this; cases this
      omega
    subst this
    exact ⟨fun _ => h4, fun q => by omega⟩
  · have q1 : k ≠ 0 := fun q => by subst q; rw [Nat.add_zero, h1] at he; cases he
    have q0 : k ≠ 1 := fun q => by subst q; rw [h2] at he; cases he
    have q2 : k ≠ 2 := fun q => by subst q; rw [h3] at he; cases he
    exact ⟨fun q => by omega, fun _ => by rw [h4]; decide⟩
theorem l_fig (h160 : n ≤ 160) (ha : a = q_at n (I 224)) (hp0 : q_d (a p) = true) : ∀ (m k : Nat) (J : nw_Me), p + k + m = n → (∀ j, j < k → q_d (a (p + j)) = true) → J 219 6 = nI n → J 219 15 = nI (p + k) → J 219 16 = nI p → J 219 18 = q_val a p k → nm_f0 I J → nw_S l g 2 mX10_scans 50 [some (.ref (nw_a g 219))] [] J (nw_qV (fun K => nm_tk K n a p ∧ nm_f0 I K)) := by
  intro m
  induction m with
  | zero =>
    intro k J hm hd hn h15 h16 h18 hf
    have ha' : a = q_at n (J 224) := by rw [hf.2 224 (by decide)]; exact ha
    have e0 : q_d (a (p + k)) = false := by rw [ha, show p + k = n by omega]; exact q_at_n
    have hk0 : k ≠ 0 := fun q => by subst q; rw [Nat.add_zero, hp0] at e0; cases e0
    have hfk := q_fig_k hd e0
    refine ev_aload_n (i := 0) dX10_scans_50 rfl rfl ?_
    refine s_dVz (As := []) (m_isFigure (e := p + k) hn h15 (by omega) h160) (Nat.le_of_ble_eq_true rfl) lX10_109 kX10_isFigure vX10_isFigure dX10_scans_51 rfl rfl rfl (by decide) rfl (Nat.le_of_ble_eq_true rfl) ?_
    rw [← ha']
    refine s_ifZ_eq (tgt := 114) dX10_scans_54 (by decide) (fun h54 => ?_) (fun h54 => ?_)
    · refine ev_aload_n (i := 0) dX10_scans_114 rfl rfl ?_
      refine ev_aload_n (i := 0) dX10_scans_115 rfl rfl ?_
      refine ev_getI fX10_93 dX10_scans_116 rfl rfl (by decide) ?_
      refine ev_aload_n (i := 0) dX10_scans_119 rfl rfl ?_
      refine ev_getI fX10_100 dX10_scans_120 rfl rfl (by decide) ?_
      refine ev_isub dX10_scans_123 ?_
      refine ev_iconst (v := 2) dX10_scans_124 kc_2 ?_
      rw [h15, h16, pk_sub (by omega), Nat.add_sub_cancel_left]
      refine ev_icmp_le (tgt := 132) dX10_scans_125 (by decide) (fun h125 => ?_) (fun h125 => ?_)
      · refine ev_iconst (v := 2) dX10_scans_132 kc_2 ?_
        refine ev_putI fX10_103 dX10_scans_133 rfl rfl (by decide) rfl rfl rfl rfl ?_
        exact s_retV dX10_scans_136 (by
      have h2n : (2 : Int32) = nI 2 := by decide
      have h17 : J 219 16 = nI p := h16
      refine ⟨⟨?_, ?_, by omega, h160, Or.inr ?_⟩, hf.up (by decide) (by decide) _⟩
      · rw [nw_up_self, pk_un (by decide)]; exact hn
      · rw [nw_up_self, pk_un (by decide)]; exact h16
      · rw [nw_up_self, pk_us, pk_un (by decide), pk_un (by decide), h18, h15]
        rw [h2n] at h125
        first
          | (have hk2 := (nI_leI (by omega) (by decide)).mp h125
             have hq := hfk.1 hk2
             exact Or.inl ⟨hp0, rfl, by rw [hq]; show 0 < k; omega, by rw [hq]; exact hk2, by rw [hq], by rw [hq]⟩)
          | (have hk2 : 2 < k := Nat.not_le.mp (fun q => h125 (nI_le q (by omega)))
             exact Or.inr (Or.inl ⟨hp0, rfl, hfk.2 hk2⟩)))
      · refine ev_iconst (v := 1) dX10_scans_128 kc_1 ?_
        refine ev_goto (tgt := 133) dX10_scans_129 (by decide) ?_
        refine ev_putI fX10_103 dX10_scans_133 rfl rfl (by decide) rfl rfl rfl rfl ?_
        exact s_retV dX10_scans_136 (by
      have h2n : (2 : Int32) = nI 2 := by decide
      have h17 : J 219 16 = nI p := h16
      refine ⟨⟨?_, ?_, by omega, h160, Or.inr ?_⟩, hf.up (by decide) (by decide) _⟩
      · rw [nw_up_self, pk_un (by decide)]; exact hn
      · rw [nw_up_self, pk_un (by decide)]; exact h16
      · rw [nw_up_self, pk_us, pk_un (by decide), pk_un (by decide), h18, h15]
        rw [h2n] at h125
        first
          | (have hk2 := (nI_leI (by omega) (by decide)).mp h125
             have hq := hfk.1 hk2
             exact Or.inl ⟨hp0, rfl, by rw [hq]; show 0 < k; omega, by rw [hq]; exact hk2, by rw [hq], by rw [hq]⟩)
          | (have hk2 : 2 < k := Nat.not_le.mp (fun q => h125 (nI_le q (by omega)))
             exact Or.inr (Or.inl ⟨hp0, rfl, hfk.2 hk2⟩)))
    · exact absurd h54 (by rw [e0]; decide)
  | succ m ih =>
    intro k J hm hd hn h15 h16 h18 hf
    have ha' : a = q_at n (J 224) := by rw [hf.2 224 (by decide)]; exact ha
    have hat : J 224 (p + k) = a (p + k) := by rw [ha', q_at_in (by omega)]
    have h2n : (2 : Int32) = nI 2 := by decide
    by_cases e0 : q_d (a (p + k)) = true
    · have hd2 : ∀ j, j < k + 1 → q_d (a (p + j)) = true := fun j hj => by
        by_cases q : j = k
        · rw [q]; exact e0
        · exact hd j (by omega)
      refine ev_aload_n (i := 0) dX10_scans_50 rfl rfl ?_
      refine s_dVz (As := []) (m_isFigure (e := p + k) hn h15 (by omega) h160) (Nat.le_of_ble_eq_true rfl) lX10_109 kX10_isFigure vX10_isFigure dX10_scans_51 rfl rfl rfl (by decide) rfl (Nat.le_of_ble_eq_true rfl) ?_
      rw [← ha']
      refine s_ifZ_eq (tgt := 114) dX10_scans_54 (by decide) (fun h54 => ?_) (fun h54 => ?_)
      · exact absurd h54 (by rw [e0]; decide)
      · refine ev_aload_n (i := 0) dX10_scans_57 rfl rfl ?_
        refine ev_aload_n (i := 0) dX10_scans_58 rfl rfl ?_
        refine ev_getI fX10_93 dX10_scans_59 rfl rfl (by decide) ?_
        refine ev_aload_n (i := 0) dX10_scans_62 rfl rfl ?_
        refine ev_getI fX10_100 dX10_scans_63 rfl rfl (by decide) ?_
        refine ev_isub dX10_scans_66 ?_
        refine ev_iconst (v := 2) dX10_scans_67 kc_2 ?_
        rw [h15, h16, pk_sub (by omega), Nat.add_sub_cancel_left]
        refine ev_icmp_ge (tgt := 94) dX10_scans_68 (by decide) (fun h68 => ?_) (fun h68 => ?_)
        · refine ev_aload_n (i := 0) dX10_scans_94 rfl rfl ?_
          refine ev_getI fX10_106 dX10_scans_95 rfl rfl (by decide) ?_
          
          refine ev_putI fX10_106 dX10_scans_98 rfl rfl (by decide) rfl rfl rfl rfl ?_
          refine ev_aload_n (i := 0) dX10_scans_101 rfl rfl ?_
          refine ev_dup dX10_scans_102 rfl ?_
          refine ev_getI fX10_93 dX10_scans_103 rfl rfl (by decide) ?_
          rw [nw_up_self, pk_un (by decide), h15]
          refine ev_iconst (v := 1) dX10_scans_106 kc_1 ?_
          refine ev_iaddN (a := (p + k)) (b := 1) dX10_scans_107 ?_
          refine ev_putI fX10_93 dX10_scans_108 rfl rfl (by decide) rfl rfl rfl rfl ?_
          refine ev_goto (tgt := 50) dX10_scans_111 (by decide) ?_
          have h68 := h68
          rw [h2n] at h68
          refine ih (k + 1) _ (by omega) hd2 ?_ ?_ ?_ ?_ ((hf.up (by decide) (by decide) _).up (by decide) (by decide) _)
          · rw [nw_up_self, pk_un (by decide), nw_up_self, pk_un (by decide)]; exact hn
          · rw [nw_up_self, pk_us]; rfl
          · rw [nw_up_self, pk_un (by decide), nw_up_self, pk_un (by decide)]; exact h16
          · rw [nw_up_self, pk_un (by decide), nw_up_self, pk_us]
            first
              | (have hk2 := (nI_leI (by decide) (by omega)).mp h68
                 rw [q_val_2 a p k hk2]
                 exact h18)
              | (have hk2 : k < 2 := Nat.not_le.mp (fun q => h68 (nI_le q (by omega)))
                 exact q_val_s a p k hk2)
        · refine ev_bipush (v := 10) dX10_scans_71 kb_10 ?_
          refine ev_aload_n (i := 0) dX10_scans_73 rfl rfl ?_
          refine ev_getI fX10_106 dX10_scans_74 rfl rfl (by decide) ?_
          rw [h18]
          refine ev_imul dX10_scans_77 ?_
          refine ev_aload_n (i := 0) dX10_scans_78 rfl rfl ?_
          refine ev_getR fX10_22 dX10_scans_79 rfl rfl (by decide) ?_
          refine ev_aload_n (i := 0) dX10_scans_82 rfl rfl ?_
          refine ev_getI fX10_93 dX10_scans_83 rfl rfl (by decide) ?_
          rw [h15]
          refine ev_ialdN (j := (p + k)) dX10_scans_86 rfl (by omega) (by decide) ?_
          rw [hat]
          refine ev_iadd dX10_scans_87 ?_
          refine ev_bipush (v := 48) dX10_scans_88 kb_48 ?_
          refine ev_isub dX10_scans_90 ?_
          refine ev_goto (tgt := 98) dX10_scans_91 (by decide) ?_
          
          refine ev_putI fX10_106 dX10_scans_98 rfl rfl (by decide) rfl rfl rfl rfl ?_
          refine ev_aload_n (i := 0) dX10_scans_101 rfl rfl ?_
          refine ev_dup dX10_scans_102 rfl ?_
          refine ev_getI fX10_93 dX10_scans_103 rfl rfl (by decide) ?_
          rw [nw_up_self, pk_un (by decide), h15]
          refine ev_iconst (v := 1) dX10_scans_106 kc_1 ?_
          refine ev_iaddN (a := (p + k)) (b := 1) dX10_scans_107 ?_
          refine ev_putI fX10_93 dX10_scans_108 rfl rfl (by decide) rfl rfl rfl rfl ?_
          refine ev_goto (tgt := 50) dX10_scans_111 (by decide) ?_
          have h68 := h68
          rw [h2n] at h68
          refine ih (k + 1) _ (by omega) hd2 ?_ ?_ ?_ ?_ ((hf.up (by decide) (by decide) _).up (by decide) (by decide) _)
          · rw [nw_up_self, pk_un (by decide), nw_up_self, pk_un (by decide)]; exact hn
          · rw [nw_up_self, pk_us]; rfl
          · rw [nw_up_self, pk_un (by decide), nw_up_self, pk_un (by decide)]; exact h16
          · rw [nw_up_self, pk_un (by decide), nw_up_self, pk_us]
            first
              | (have hk2 := (nI_leI (by decide) (by omega)).mp h68
                 rw [q_val_2 a p k hk2]
                 exact h18)
              | (have hk2 : k < 2 := Nat.not_le.mp (fun q => h68 (nI_le q (by omega)))
                 exact q_val_s a p k hk2)
    · have e0 : q_d (a (p + k)) = false := by cases h : q_d (a (p + k)); rfl; exact absurd h e0
      have hk0 : k ≠ 0 := fun q => by subst q; rw [Nat.add_zero, hp0] at e0; cases e0
      have hfk := q_fig_k hd e0
      refine ev_aload_n (i := 0) dX10_scans_50 rfl rfl ?_
      refine s_dVz (As := []) (m_isFigure (e := p + k) hn h15 (by omega) h160) (Nat.le_of_ble_eq_true rfl) lX10_109 kX10_isFigure vX10_isFigure dX10_scans_51 rfl rfl rfl (by decide) rfl (Nat.le_of_ble_eq_true rfl) ?_
      rw [← ha']
      refine s_ifZ_eq (tgt := 114) dX10_scans_54 (by decide) (fun h54 => ?_) (fun h54 => ?_)
      · refine ev_aload_n (i := 0) dX10_scans_114 rfl rfl ?_
        refine ev_aload_n (i := 0) dX10_scans_115 rfl rfl ?_
        refine ev_getI fX10_93 dX10_scans_116 rfl rfl (by decide) ?_
        refine ev_aload_n (i := 0) dX10_scans_119 rfl rfl ?_
        refine ev_getI fX10_100 dX10_scans_120 rfl rfl (by decide) ?_
        refine ev_isub dX10_scans_123 ?_
        refine ev_iconst (v := 2) dX10_scans_124 kc_2 ?_
        rw [h15, h16, pk_sub (by omega), Nat.add_sub_cancel_left]
        refine ev_icmp_le (tgt := 132) dX10_scans_125 (by decide) (fun h125 => ?_) (fun h125 => ?_)
        · refine ev_iconst (v := 2) dX10_scans_132 kc_2 ?_
          refine ev_putI fX10_103 dX10_scans_133 rfl rfl (by decide) rfl rfl rfl rfl ?_
          exact s_retV dX10_scans_136 (by
      refine ⟨⟨?_, ?_, by omega, h160, Or.inr ?_⟩, hf.up (by decide) (by decide) _⟩
      · rw [nw_up_self, pk_un (by decide)]; exact hn
      · rw [nw_up_self, pk_un (by decide)]; exact h16
      · rw [nw_up_self, pk_us, pk_un (by decide), pk_un (by decide), h18, h15]
        rw [h2n] at h125
        first
          | (have hk2 := (nI_leI (by omega) (by decide)).mp h125
             have hq := hfk.1 hk2
             exact Or.inl ⟨hp0, rfl, by rw [hq]; show 0 < k; omega, by rw [hq]; exact hk2, by rw [hq], by rw [hq]⟩)
          | (have hk2 : 2 < k := Nat.not_le.mp (fun q => h125 (nI_le q (by omega)))
             exact Or.inr (Or.inl ⟨hp0, rfl, hfk.2 hk2⟩)))
        · refine ev_iconst (v := 1) dX10_scans_128 kc_1 ?_
          refine ev_goto (tgt := 133) dX10_scans_129 (by decide) ?_
          refine ev_putI fX10_103 dX10_scans_133 rfl rfl (by decide) rfl rfl rfl rfl ?_
          exact s_retV dX10_scans_136 (by
      refine ⟨⟨?_, ?_, by omega, h160, Or.inr ?_⟩, hf.up (by decide) (by decide) _⟩
      · rw [nw_up_self, pk_un (by decide)]; exact hn
      · rw [nw_up_self, pk_un (by decide)]; exact h16
      · rw [nw_up_self, pk_us, pk_un (by decide), pk_un (by decide), h18, h15]
        rw [h2n] at h125
        first
          | (have hk2 := (nI_leI (by omega) (by decide)).mp h125
             have hq := hfk.1 hk2
             exact Or.inl ⟨hp0, rfl, by rw [hq]; show 0 < k; omega, by rw [hq]; exact hk2, by rw [hq], by rw [hq]⟩)
          | (have hk2 : 2 < k := Nat.not_le.mp (fun q => h125 (nI_le q (by omega)))
             exact Or.inr (Or.inl ⟨hp0, rfl, hfk.2 hk2⟩)))
      · exact absurd h54 (by rw [e0]; decide)
theorem m_scans (h160 : n ≤ 160) (ha : a = q_at n (I 224)) (hn : I 219 6 = nI n) (h15 : I 219 15 = nI p) (hp : p ≤ n) : nw_cV l g 2 mX10_scans [.ref (nw_a g 219)] I (fun K => nm_tk K n a p ∧ nm_f0 I K) := by
  refine ⟨(Nat.le_of_ble_eq_true rfl), ?_⟩
  refine ev_aload_n (i := 0) dX10_scans_0 rfl rfl ?_
  refine ev_aload_n (i := 0) dX10_scans_1 rfl rfl ?_
  refine ev_getI fX10_93 dX10_scans_2 rfl rfl (by decide) ?_
  rw [h15]
  refine ev_putI fX10_100 dX10_scans_5 rfl rfl (by decide) rfl rfl rfl rfl ?_
  refine ev_aload_n (i := 0) dX10_scans_8 rfl rfl ?_
  refine ev_getI fX10_93 dX10_scans_9 rfl rfl (by decide) ?_
  refine ev_aload_n (i := 0) dX10_scans_12 rfl rfl ?_
  refine ev_getI fX10_89 dX10_scans_13 rfl rfl (by decide) ?_
  rw [nw_up_self, pk_un (by decide), hn, pk_un (by decide), h15]
  refine ev_icmp_ne (tgt := 25) dX10_scans_16 (by decide) (fun h16 => ?_) (fun h16 => ?_)
  · refine ev_aload_n (i := 0) dX10_scans_25 rfl rfl ?_
    refine ev_aload_n (i := 0) dX10_scans_26 rfl rfl ?_
    refine ev_getR fX10_22 dX10_scans_27 rfl rfl (by decide) ?_
    refine ev_aload_n (i := 0) dX10_scans_30 rfl rfl ?_
    refine ev_getI fX10_93 dX10_scans_31 rfl rfl (by decide) ?_
    have hlt : p < n := by
      rcases Nat.lt_or_ge p n with q | q
      · exact q
      · exact absurd (by rw [show p = n by omega]) h16
    have hat : I 224 p = a p := by rw [ha, q_at_in hlt]
    rw [nw_up_self, pk_un (by decide), h15]
    refine ev_ialdN (j := p) dX10_scans_34 rfl (by omega) (by decide) ?_
    rw [nw_up_ne (by decide), hat]
    refine ev_putI fX10_106 dX10_scans_35 rfl rfl (by decide) rfl rfl rfl rfl ?_
    refine ev_aload_n (i := 0) dX10_scans_38 rfl rfl ?_
    refine s_dVz (As := []) (m_isFigure (n := n) (e := p) (by rw [nw_up_self, pk_un (by decide), nw_up_self, pk_un (by decide)]; exact hn) (by rw [nw_up_self, pk_un (by decide), nw_up_self, pk_un (by decide)]; exact h15) hp h160) (Nat.le_of_ble_eq_true rfl) lX10_109 kX10_isFigure vX10_isFigure dX10_scans_39 rfl rfl rfl (by decide) rfl (Nat.le_of_ble_eq_true rfl) ?_
    rw [nw_up_ne (by decide), nw_up_ne (by decide), ← ha]
    refine s_ifZ_eq (tgt := 137) dX10_scans_42 (by decide) (fun h42 => ?_) (fun h42 => ?_)
    · refine ev_aload_n (i := 0) dX10_scans_137 rfl rfl ?_
      refine ev_aload_n (i := 0) dX10_scans_138 rfl rfl ?_
      refine ev_getI fX10_106 dX10_scans_139 rfl rfl (by decide) ?_
      rw [nw_up_self, pk_us]
      refine ev_i2l dX10_scans_142 ?_
      refine ev_ldc2 qX10_113 dX10_scans_143 ?_
      refine ev_ldc2 qX10_115 dX10_scans_146 ?_
      refine s_dSz (As := [_, _, _]) (m_in _ 97 122 (by decide) (by decide)) (Nat.le_of_ble_eq_true rfl) lX10_64 kX10_in sX10_in dX10_scans_149 rfl rfl (Nat.le_of_ble_eq_true rfl) ?_
      refine s_ifZ_eq (tgt := 159) dX10_scans_152 (by decide) (fun h152 => ?_) (fun h152 => ?_)
      · refine ev_aload_n (i := 0) dX10_scans_159 rfl rfl ?_
        refine ev_getI fX10_106 dX10_scans_160 rfl rfl (by decide) ?_
        rw [nw_up_self, pk_us]
        refine ev_bipush (v := 44) dX10_scans_163 kb_44 ?_
        refine ev_icmp_ne (tgt := 172) dX10_scans_165 (by decide) (fun h165 => ?_) (fun h165 => ?_)
        · refine ev_aload_n (i := 0) dX10_scans_172 rfl rfl ?_
          refine ev_getI fX10_106 dX10_scans_173 rfl rfl (by decide) ?_
          rw [nw_up_self, pk_us]
          refine ev_bipush (v := 59) dX10_scans_176 kb_59 ?_
          refine ev_icmp_ne (tgt := 185) dX10_scans_178 (by decide) (fun h178 => ?_) (fun h178 => ?_)
          · refine ev_iconst (v := 1) dX10_scans_185 kc_1 ?_
            refine ev_putI fX10_103 dX10_scans_186 rfl rfl (by decide) rfl rfl rfl rfl ?_
            refine ev_aload_n (i := 0) dX10_scans_189 rfl rfl ?_
            refine ev_dup dX10_scans_190 rfl ?_
            refine ev_getI fX10_93 dX10_scans_191 rfl rfl (by decide) ?_
            rw [nw_up_self, pk_un (by decide), nw_up_self, pk_un (by decide), nw_up_self, pk_un (by decide), h15]
            refine ev_iconst (v := 1) dX10_scans_194 kc_1 ?_
            refine ev_iaddN (a := p) (b := 1) dX10_scans_195 ?_
            refine ev_putI fX10_93 dX10_scans_196 rfl rfl (by decide) rfl rfl rfl rfl ?_
            exact s_retV dX10_scans_199 (by
            have hd := h42
            refine ⟨⟨?_, ?_, hp, h160, Or.inr (Or.inr (Or.inr ⟨hlt, hd, ?_, ?_, ?_⟩))⟩, ((((nm_f0.refl I).up (by decide) (by decide) _).up (by decide) (by decide) _).up (by decide) (by decide) _).up (by decide) (by decide) _⟩
            · rw [nw_up_self, pk_un (by decide), nw_up_self, pk_un (by decide), nw_up_self, pk_un (by decide), nw_up_self, pk_un (by decide)]; exact hn
            · rw [nw_up_self, pk_un (by decide), nw_up_self, pk_un (by decide), nw_up_self, pk_un (by decide), nw_up_self, pk_us]
            · rw [nw_up_self, pk_un (by decide), nw_up_self, pk_un (by decide), nw_up_self, pk_us]
            · rw [nw_up_self, pk_us]
            · rw [nw_up_self, pk_un (by decide), nw_up_self, pk_us]
              unfold t_tok
              first | rw [if_pos h152] | rw [if_neg (by rw [h152]; decide), if_pos h165] | rw [if_neg (by rw [h152]; decide), if_neg h165, if_pos h178] | rw [if_neg (by rw [h152]; decide), if_neg h165, if_neg h178])
          · refine ev_iconst (v := 5) dX10_scans_181 kc_5 ?_
            refine ev_goto (tgt := 186) dX10_scans_182 (by decide) ?_
            refine ev_putI fX10_103 dX10_scans_186 rfl rfl (by decide) rfl rfl rfl rfl ?_
            refine ev_aload_n (i := 0) dX10_scans_189 rfl rfl ?_
            refine ev_dup dX10_scans_190 rfl ?_
            refine ev_getI fX10_93 dX10_scans_191 rfl rfl (by decide) ?_
            rw [nw_up_self, pk_un (by decide), nw_up_self, pk_un (by decide), nw_up_self, pk_un (by decide), h15]
            refine ev_iconst (v := 1) dX10_scans_194 kc_1 ?_
            refine ev_iaddN (a := p) (b := 1) dX10_scans_195 ?_
            refine ev_putI fX10_93 dX10_scans_196 rfl rfl (by decide) rfl rfl rfl rfl ?_
            exact s_retV dX10_scans_199 (by
            have hd := h42
            refine ⟨⟨?_, ?_, hp, h160, Or.inr (Or.inr (Or.inr ⟨hlt, hd, ?_, ?_, ?_⟩))⟩, ((((nm_f0.refl I).up (by decide) (by decide) _).up (by decide) (by decide) _).up (by decide) (by decide) _).up (by decide) (by decide) _⟩
            · rw [nw_up_self, pk_un (by decide), nw_up_self, pk_un (by decide), nw_up_self, pk_un (by decide), nw_up_self, pk_un (by decide)]; exact hn
            · rw [nw_up_self, pk_un (by decide), nw_up_self, pk_un (by decide), nw_up_self, pk_un (by decide), nw_up_self, pk_us]
            · rw [nw_up_self, pk_un (by decide), nw_up_self, pk_un (by decide), nw_up_self, pk_us]
            · rw [nw_up_self, pk_us]
            · rw [nw_up_self, pk_un (by decide), nw_up_self, pk_us]
              unfold t_tok
              first | rw [if_pos h152] | rw [if_neg (by rw [h152]; decide), if_pos h165] | rw [if_neg (by rw [h152]; decide), if_neg h165, if_pos h178] | rw [if_neg (by rw [h152]; decide), if_neg h165, if_neg h178])
        · refine ev_iconst (v := 4) dX10_scans_168 kc_4 ?_
          refine ev_goto (tgt := 186) dX10_scans_169 (by decide) ?_
          refine ev_putI fX10_103 dX10_scans_186 rfl rfl (by decide) rfl rfl rfl rfl ?_
          refine ev_aload_n (i := 0) dX10_scans_189 rfl rfl ?_
          refine ev_dup dX10_scans_190 rfl ?_
          refine ev_getI fX10_93 dX10_scans_191 rfl rfl (by decide) ?_
          rw [nw_up_self, pk_un (by decide), nw_up_self, pk_un (by decide), nw_up_self, pk_un (by decide), h15]
          refine ev_iconst (v := 1) dX10_scans_194 kc_1 ?_
          refine ev_iaddN (a := p) (b := 1) dX10_scans_195 ?_
          refine ev_putI fX10_93 dX10_scans_196 rfl rfl (by decide) rfl rfl rfl rfl ?_
          exact s_retV dX10_scans_199 (by
            have hd := h42
            refine ⟨⟨?_, ?_, hp, h160, Or.inr (Or.inr (Or.inr ⟨hlt, hd, ?_, ?_, ?_⟩))⟩, ((((nm_f0.refl I).up (by decide) (by decide) _).up (by decide) (by decide) _).up (by decide) (by decide) _).up (by decide) (by decide) _⟩
            · rw [nw_up_self, pk_un (by decide), nw_up_self, pk_un (by decide), nw_up_self, pk_un (by decide), nw_up_self, pk_un (by decide)]; exact hn
            · rw [nw_up_self, pk_un (by decide), nw_up_self, pk_un (by decide), nw_up_self, pk_un (by decide), nw_up_self, pk_us]
            · rw [nw_up_self, pk_un (by decide), nw_up_self, pk_un (by decide), nw_up_self, pk_us]
            · rw [nw_up_self, pk_us]
            · rw [nw_up_self, pk_un (by decide), nw_up_self, pk_us]
              unfold t_tok
              first | rw [if_pos h152] | rw [if_neg (by rw [h152]; decide), if_pos h165] | rw [if_neg (by rw [h152]; decide), if_neg h165, if_pos h178] | rw [if_neg (by rw [h152]; decide), if_neg h165, if_neg h178])
      · refine ev_iconst (v := 3) dX10_scans_155 kc_3 ?_
        refine ev_goto (tgt := 186) dX10_scans_156 (by decide) ?_
        refine ev_putI fX10_103 dX10_scans_186 rfl rfl (by decide) rfl rfl rfl rfl ?_
        refine ev_aload_n (i := 0) dX10_scans_189 rfl rfl ?_
        refine ev_dup dX10_scans_190 rfl ?_
        refine ev_getI fX10_93 dX10_scans_191 rfl rfl (by decide) ?_
        rw [nw_up_self, pk_un (by decide), nw_up_self, pk_un (by decide), nw_up_self, pk_un (by decide), h15]
        refine ev_iconst (v := 1) dX10_scans_194 kc_1 ?_
        refine ev_iaddN (a := p) (b := 1) dX10_scans_195 ?_
        refine ev_putI fX10_93 dX10_scans_196 rfl rfl (by decide) rfl rfl rfl rfl ?_
        exact s_retV dX10_scans_199 (by
            have hd := h42
            refine ⟨⟨?_, ?_, hp, h160, Or.inr (Or.inr (Or.inr ⟨hlt, hd, ?_, ?_, ?_⟩))⟩, ((((nm_f0.refl I).up (by decide) (by decide) _).up (by decide) (by decide) _).up (by decide) (by decide) _).up (by decide) (by decide) _⟩
            · rw [nw_up_self, pk_un (by decide), nw_up_self, pk_un (by decide), nw_up_self, pk_un (by decide), nw_up_self, pk_un (by decide)]; exact hn
            · rw [nw_up_self, pk_un (by decide), nw_up_self, pk_un (by decide), nw_up_self, pk_un (by decide), nw_up_self, pk_us]
            · rw [nw_up_self, pk_un (by decide), nw_up_self, pk_un (by decide), nw_up_self, pk_us]
            · rw [nw_up_self, pk_us]
            · rw [nw_up_self, pk_un (by decide), nw_up_self, pk_us]
              unfold t_tok
              first | rw [if_pos h152] | rw [if_neg (by rw [h152]; decide), if_pos h165] | rw [if_neg (by rw [h152]; decide), if_neg h165, if_pos h178] | rw [if_neg (by rw [h152]; decide), if_neg h165, if_neg h178])
    · refine ev_aload_n (i := 0) dX10_scans_45 rfl rfl ?_
      refine ev_iconst (v := 0) dX10_scans_46 kc_0 ?_
      refine ev_putI fX10_106 dX10_scans_47 rfl rfl (by decide) rfl rfl rfl rfl ?_
      refine s_postV (l_fig (p := p) h160 ha h42 (n - p) 0 _ (by omega) (fun j hj => by omega) ?_ ?_ ?_ ?_ ((((nm_f0.refl I).up (by decide) (by decide) _).up (by decide) (by decide) _).up (by decide) (by decide) _)) (fun K h => h)
      · rw [nw_up_self, pk_un (by decide), nw_up_self, pk_un (by decide), nw_up_self, pk_un (by decide)]; exact hn
      · rw [nw_up_self, pk_un (by decide), nw_up_self, pk_un (by decide), nw_up_self, pk_un (by decide)]; exact h15
      · rw [nw_up_self, pk_un (by decide), nw_up_self, pk_un (by decide), nw_up_self, pk_us]
      · rw [nw_up_self, pk_us]; rfl
  · refine ev_aload_n (i := 0) dX10_scans_19 rfl rfl ?_
    refine ev_iconst (v := 0) dX10_scans_20 kc_0 ?_
    refine ev_putI fX10_103 dX10_scans_21 rfl rfl (by decide) rfl rfl rfl rfl ?_
    exact s_retV dX10_scans_24 (by
      have e : p = n := (nI_eq (by omega) (by omega)).mp h16
      exact ⟨⟨by rw [nw_up_self, pk_un (by decide), nw_up_self, pk_un (by decide)]; exact hn, by rw [nw_up_self, pk_un (by decide), nw_up_self, pk_us], hp, h160, Or.inl ⟨e, by rw [nw_up_self, pk_us]⟩⟩, ((nm_f0.refl I).up (by decide) (by decide) _).up (by decide) (by decide) _⟩)
end
