section
variable {l : Launch} {g : nw_G} {I : nw_Me} {N T S : Nat} {a C F G : Nat → Int32} {b : Bool} {L : List (Nat → Int32)} {n p : Nat}
def nm_f1 (I K : nw_Me) : Prop := (∀ j, j < 15 ∨ 21 ≤ j → K 219 j = I 219 j) ∧ ∀ q, q ≠ 219 → K q = I q
theorem nm_f1.refl (I : nw_Me) : nm_f1 I I := ⟨fun _ _ => rfl, fun _ _ => rfl⟩
theorem nm_f1.trans {J K : nw_Me} (h1 : nm_f1 I J) (h2 : nm_f1 J K) : nm_f1 I K := ⟨fun j hj => (h2.1 j hj).trans (h1.1 j hj), fun q hq => (h2.2 q hq).trans (h1.2 q hq)⟩
theorem nm_f1.up {J : nw_Me} (h : nm_f1 I J) {j : Nat} (h1 : 15 ≤ j) (h2 : j < 21) (v : Int32) : nm_f1 I (nw_up J 219 j v) := ⟨fun i hi => by rw [nw_up_self, pk_un (by omega)]; exact h.1 i hi, fun q hq => by rw [nw_up_ne hq]; exact h.2 q hq⟩
theorem nm_f0.f1 {J : nw_Me} (h : nm_f0 I J) : nm_f1 I J := ⟨fun j hj => h.1 j (by omega), h.2⟩
theorem nm_tk.ext {J : nw_Me} (h : nm_tk I n a p) (e : J 219 = I 219) : nm_tk J n a p := by unfold nm_tk; rw [e]; exact h
theorem t_tok_2 (x : Int32) : ¬ t_tok x = 2 := by
  unfold t_tok
  split
  · decide
  · split
    · decide
    · split <;> decide
theorem q_d_neg {f : Nat → Int32} (ha : a = q_at n f) (hp : p = n) : q_d (a p) = false := by rw [ha, hp]; exact q_at_n
theorem q_num_no {m : Int32} (h : q_d (a p) = false) : q_num a p m = .inl (1, p) := by
  rcases q_fig_cases a p with ⟨h1, h2⟩ | ⟨h1, -⟩ | ⟨h1, -⟩ | ⟨h1, -⟩
  · unfold q_num
    rw [h2, if_pos (Or.inl rfl)]
  all_goals (rw [h] at h1; cases h1)
theorem nm_tk.num {f : Nat → Int32} (h : nm_tk I n a p) (ha : a = q_at n f) (m : Int32) : (¬ I 219 17 = 2 ∧ q_num a p m = .inl (1, p)) ∨ (I 219 17 = 2 ∧ ∃ k, p + k ≤ n ∧ ¬ I 219 18 < 0 ∧ I 219 15 = nI (p + k) ∧ q_num a p m = if I 219 18 ≤ m then .inr (I 219 18, p + k) else .inl (2, p)) := by
  obtain ⟨h1, h2, h3, h4, ⟨h5, h6⟩ | ⟨h5, h6, h7, h8, h9, h10⟩ | ⟨h5, h6, h7⟩ | ⟨h5, h6, h7, h8, h9⟩⟩ := h
  · exact Or.inl ⟨by rw [h6]; decide, q_num_no (q_d_neg ha h5)⟩
  · refine Or.inr ⟨h6, _, ?_, ?_, h10, ?_⟩
    · have := q_fig_le (f := f) 3 0 0 (show p + 0 ≤ n by omega)
      rw [← ha] at this
      exact this.1
    · rw [h9]
      exact q_fig_val (by omega) (by omega)
    · unfold q_num
      rw [if_neg (by omega), h9]
  · refine Or.inl ⟨by rw [h6]; decide, ?_⟩
    unfold q_num
    rw [if_pos (Or.inr h7)]
  · exact Or.inl ⟨by rw [h9]; exact t_tok_2 _, q_num_no h6⟩
theorem nm_tk.sgn {f : Nat → Int32} (h : nm_tk I n a p) (ha : a = q_at n f) {c tok : Int32} (hct : (c = 44 ∧ tok = 4) ∨ (c = 59 ∧ tok = 5)) : (¬ I 219 17 = tok ∧ q_sgn a p c = .inl (1, p)) ∨ (I 219 17 = tok ∧ q_sgn a p c = .inr (p + 1) ∧ I 219 15 = nI (p + 1) ∧ p + 1 ≤ n) := by
  obtain ⟨h1, h2, h3, h4, ⟨h5, h6⟩ | ⟨h5, h6, h7, h8, h9, h10⟩ | ⟨h5, h6, h7⟩ | ⟨h5, h6, h7, h8, h9⟩⟩ := h
  · have e : a p = -1 := by rw [ha]; unfold q_at; rw [if_neg (by omega)]
    left
    rcases hct with ⟨rfl, rfl⟩ | ⟨rfl, rfl⟩ <;> exact ⟨by rw [h6]; decide, by unfold q_sgn; rw [if_neg (by rw [e]; decide)]⟩
  · left
    rcases hct with ⟨rfl, rfl⟩ | ⟨rfl, rfl⟩ <;> exact ⟨by rw [h6]; decide, by unfold q_sgn; rw [if_neg (fun q => by rw [q] at h5; revert h5; decide)]⟩
  · left
    rcases hct with ⟨rfl, rfl⟩ | ⟨rfl, rfl⟩ <;> exact ⟨by rw [h6]; decide, by unfold q_sgn; rw [if_neg (fun q => by rw [q] at h5; revert h5; decide)]⟩
  · by_cases e : a p = c
    · right
      refine ⟨?_, by unfold q_sgn; rw [if_pos e], h8, by omega⟩
      rw [h9, e]
      rcases hct with ⟨rfl, rfl⟩ | ⟨rfl, rfl⟩ <;> decide
    · left
      refine ⟨?_, by unfold q_sgn; rw [if_neg e]⟩
      rw [h9]
      unfold t_tok
      rcases hct with ⟨rfl, rfl⟩ | ⟨rfl, rfl⟩
      · split
        · decide
        · first | decide | (split <;> decide) | (rw [if_neg e]; split <;> decide)
      · split
        · decide
        · split
          · decide
          · first | decide | (rw [if_neg e]; decide)
theorem nm_tk.let {f : Nat → Int32} (h : nm_tk I n a p) (ha : a = q_at n f) : (I 219 17 = 3 → I 219 18 = a p ∧ I 219 15 = nI (p + 1) ∧ p + 1 ≤ n) ∧ ∀ c, nv_in c 97 122 = true → a p = c → I 219 17 = 3 := by
  obtain ⟨h1, h2, h3, h4, ⟨h5, h6⟩ | ⟨h5, h6, h7, h8, h9, h10⟩ | ⟨h5, h6, h7⟩ | ⟨h5, h6, h7, h8, h9⟩⟩ := h
  · refine ⟨fun q => absurd (h6.symm.trans q) (by decide), fun c hc e => ?_⟩
    have e2 : a p = -1 := by rw [ha]; unfold q_at; rw [if_neg (by omega)]
    rw [← e, e2] at hc
    exact absurd hc (by decide)
  · refine ⟨fun q => absurd (h6.symm.trans q) (by decide), fun c hc e => ?_⟩
    obtain ⟨j, hj, e2⟩ := q_dig h5
    rw [← e, e2] at hc
    exfalso
    revert hc
    rcases (show j = 0 ∨ j = 1 ∨ j = 2 ∨ j = 3 ∨ j = 4 ∨ j = 5 ∨ j = 6 ∨ j = 7 ∨ j = 8 ∨ j = 9 by omega) with rfl | rfl | rfl | rfl | rfl | rfl | rfl | rfl | rfl | rfl <;> decide
  · refine ⟨fun q => absurd (h6.symm.trans q) (by decide), fun c hc e => ?_⟩
    obtain ⟨j, hj, e2⟩ := q_dig h5
    rw [← e, e2] at hc
    exfalso
    revert hc
    rcases (show j = 0 ∨ j = 1 ∨ j = 2 ∨ j = 3 ∨ j = 4 ∨ j = 5 ∨ j = 6 ∨ j = 7 ∨ j = 8 ∨ j = 9 by omega) with rfl | rfl | rfl | rfl | rfl | rfl | rfl | rfl | rfl | rfl <;> decide
  · refine ⟨fun q => ⟨h7, h8, by omega⟩, fun c hc e => ?_⟩
    rw [h9, e]
    unfold t_tok
    rw [if_pos hc]
theorem m_faults (e : Int32) : nw_dZ l g 0 mX10_faults [.ref (nw_a g 219), .int e] I false (nw_up I 219 19 e) := by
  refine ⟨(Nat.le_of_ble_eq_true rfl), ?_⟩
  refine ev_aload_n (i := 0) dX10_faults_0 rfl rfl ?_
  refine ev_iload_n (i := 1) dX10_faults_1 rfl rfl ?_
  refine ev_putI fX10_117 dX10_faults_2 rfl rfl (by decide) rfl rfl rfl rfl ?_
  refine ev_iconst (v := 0) dX10_faults_5 kc_0 ?_
  exact s_ret0 dX10_faults_6 ⟨rfl, rfl⟩
theorem m_takes (h : nm_tk I n a p) (ha : a = q_at n (I 224)) (m : Int32) : nw_cZ l g 3 mX10_takes [.ref (nw_a g 219), .int 0, .int m] I (fun bb K => ((∃ e, q_num a p m = .inl (e, p) ∧ bb = false ∧ K 219 19 = e ∧ K 219 16 = nI p) ∨ ∃ x q, q_num a p m = .inr (x, q) ∧ bb = true ∧ K 219 20 = x ∧ nm_tk K n a q) ∧ nm_f1 I K) := by
  refine ⟨(Nat.le_of_ble_eq_true rfl), ?_⟩
  have h2 := h.2.1
  refine ev_aload_n (i := 0) dX10_takes_0 rfl rfl ?_
  refine ev_getI fX10_103 dX10_takes_1 rfl rfl (by decide) ?_
  refine ev_iconst (v := 2) dX10_takes_4 kc_2 ?_
  refine ev_icmp_eq (tgt := 14) dX10_takes_5 (by decide) (fun h5 => ?_) (fun h5 => ?_)
  · obtain ⟨-, k, hk, hv0, h15, hq⟩ : I 219 17 = 2 ∧ ∃ k, p + k ≤ n ∧ ¬ I 219 18 < 0 ∧ I 219 15 = nI (p + k) ∧ q_num a p m = if I 219 18 ≤ m then .inr (I 219 18, p + k) else .inl (2, p) := (h.num ha m).resolve_left (fun q => q.1 h5)
    refine ev_aload_n (i := 0) dX10_takes_14 rfl rfl ?_
    refine ev_getI fX10_106 dX10_takes_15 rfl rfl (by decide) ?_
    refine ev_i2l dX10_takes_18 ?_
    refine ev_iload_n (i := 1) dX10_takes_19 rfl rfl ?_
    refine ev_i2l dX10_takes_20 ?_
    refine ev_iload_n (i := 2) dX10_takes_21 rfl rfl ?_
    refine ev_i2l dX10_takes_22 ?_
    refine s_dSz (As := [_, _, _]) (m_in _ 0 _ rfl rfl) (Nat.le_of_ble_eq_true rfl) lX10_64 kX10_in sX10_in dX10_takes_23 rfl rfl (Nat.le_of_ble_eq_true rfl) ?_
    refine s_ifZ_ne (tgt := 35) dX10_takes_26 (by decide) (fun h26 => ?_) (fun h26 => ?_)
    · refine ev_aload_n (i := 0) dX10_takes_35 rfl rfl ?_
      refine ev_aload_n (i := 0) dX10_takes_36 rfl rfl ?_
      refine ev_getI fX10_106 dX10_takes_37 rfl rfl (by decide) ?_
      refine ev_putI fX10_123 dX10_takes_40 rfl rfl (by decide) rfl rfl rfl rfl ?_
      refine ev_aload_n (i := 0) dX10_takes_43 rfl rfl ?_
      refine s_callVv (As := []) (m_scans (n := n) (p := p + k) (a := a) h.2.2.2.1 (by rw [nw_up_ne (by decide)]; exact ha) (by rw [nw_up_self, pk_un (by decide)]; exact h.1) (by rw [nw_up_self, pk_un (by decide)]; exact h15) hk) (Nat.le_of_ble_eq_true rfl) lX10_126 kX10_scans vX10_scans dX10_takes_44 rfl rfl rfl (by decide) rfl (Nat.le_of_ble_eq_true rfl) (fun K hK => ?_)
      refine ev_iconst (v := 1) dX10_takes_47 kc_1 ?_
      exact s_ret1 dX10_takes_48 ⟨Or.inr ⟨I 219 18, p + k, by
        rw [hq, if_pos]
        unfold nv_in at h26
        simp at h26
        exact h26.2, rfl, by rw [hK.2.1 20 (by omega), nw_up_self, pk_us], hK.1⟩, ((nm_f1.refl I).up (by decide) (by decide) _).trans hK.2.f1⟩
    · refine ev_aload_n (i := 0) dX10_takes_29 rfl rfl ?_
      refine ev_iconst (v := 2) dX10_takes_30 kc_2 ?_
      refine s_dVz (As := [_]) (m_faults _) (Nat.le_of_ble_eq_true rfl) lX10_120 kX10_faults vX10_faults dX10_takes_31 rfl rfl rfl (by decide) rfl (Nat.le_of_ble_eq_true rfl) ?_
      exact s_retZ dX10_takes_34 ⟨Or.inl ⟨2, by
        have hn : ¬ I 219 18 ≤ m := fun q => by
          rw [show nv_in (I 219 18) 0 m = true by unfold nv_in; rw [decide_eq_true hv0, decide_eq_true (Int32.not_lt.mpr q)]; rfl] at h26
          cases h26
        rw [hq, if_neg hn], rfl, by rw [nw_up_self, pk_us], by rw [nw_up_self, pk_un (by decide)]; exact h2⟩, (nm_f1.refl I).up (by decide) (by decide) _⟩
  · refine ev_aload_n (i := 0) dX10_takes_8 rfl rfl ?_
    refine ev_iconst (v := 1) dX10_takes_9 kc_1 ?_
    refine s_dVz (As := [_]) (m_faults _) (Nat.le_of_ble_eq_true rfl) lX10_120 kX10_faults vX10_faults dX10_takes_10 rfl rfl rfl (by decide) rfl (Nat.le_of_ble_eq_true rfl) ?_
    exact s_retZ dX10_takes_13 ⟨Or.inl ⟨1, ((h.num ha m).resolve_right (fun q => h5 q.1)).2, rfl, by rw [nw_up_self, pk_us], by rw [nw_up_self, pk_un (by decide)]; exact h2⟩, (nm_f1.refl I).up (by decide) (by decide) _⟩
theorem m_signs (h : nm_tk I n a p) (ha : a = q_at n (I 224)) {c tok : Int32} (hct : (c = 44 ∧ tok = 4) ∨ (c = 59 ∧ tok = 5)) : nw_cZ l g 3 mX10_signs [.ref (nw_a g 219), .int tok] I (fun bb K => ((q_sgn a p c = .inl (1, p) ∧ bb = false ∧ K 219 19 = 1 ∧ K 219 16 = nI p) ∨ (q_sgn a p c = .inr (p + 1) ∧ bb = true ∧ nm_tk K n a (p + 1))) ∧ nm_f1 I K) := by
  refine ⟨(Nat.le_of_ble_eq_true rfl), ?_⟩
  have h2 := h.2.1
  refine ev_aload_n (i := 0) dX10_signs_0 rfl rfl ?_
  refine ev_getI fX10_103 dX10_signs_1 rfl rfl (by decide) ?_
  refine ev_iload_n (i := 1) dX10_signs_4 rfl rfl ?_
  refine ev_icmp_eq (tgt := 14) dX10_signs_5 (by decide) (fun h5 => ?_) (fun h5 => ?_)
  · have hs := (h.sgn ha hct).resolve_left (fun q => q.1 h5)
    refine ev_aload_n (i := 0) dX10_signs_14 rfl rfl ?_
    refine s_callVv (As := []) (m_scans (n := n) (p := p + 1) (a := a) h.2.2.2.1 ha h.1 hs.2.2.1 hs.2.2.2) (Nat.le_of_ble_eq_true rfl) lX10_126 kX10_scans vX10_scans dX10_signs_15 rfl rfl rfl (by decide) rfl (Nat.le_of_ble_eq_true rfl) (fun K hK => ?_)
    refine ev_iconst (v := 1) dX10_signs_18 kc_1 ?_
    exact s_ret1 dX10_signs_19 ⟨Or.inr ⟨hs.2.1, rfl, hK.1⟩, hK.2.f1⟩
  · refine ev_aload_n (i := 0) dX10_signs_8 rfl rfl ?_
    refine ev_iconst (v := 1) dX10_signs_9 kc_1 ?_
    refine s_dVz (As := [_]) (m_faults _) (Nat.le_of_ble_eq_true rfl) lX10_120 kX10_faults vX10_faults dX10_signs_10 rfl rfl rfl (by decide) rfl (Nat.le_of_ble_eq_true rfl) ?_
    exact s_retZ dX10_signs_13 ⟨Or.inl ⟨((h.sgn ha hct).resolve_right (fun q => h5 q.1)).2, rfl, by rw [nw_up_self, pk_us], by rw [nw_up_self, pk_un (by decide)]; exact h2⟩, (nm_f1.refl I).up (by decide) (by decide) _⟩
def nm_f2 (I K : nw_Me) : Prop := (∀ j, j < 15 ∨ 21 < j → K 219 j = I 219 j) ∧ ∀ q, q ≠ 219 → q ≠ 227 → K q = I q
theorem nm_f2.trans {J K : nw_Me} (h1 : nm_f2 I J) (h2 : nm_f2 J K) : nm_f2 I K := ⟨fun j hj => (h2.1 j hj).trans (h1.1 j hj), fun q hq hr => (h2.2 q hq hr).trans (h1.2 q hq hr)⟩
theorem nm_f1.f2 {J : nw_Me} (h : nm_f1 I J) : nm_f2 I J := ⟨fun j hj => h.1 j (by omega), fun q hq _ => h.2 q hq⟩
theorem nm_f2.r (I : nw_Me) (i : Nat) (v : Int32) : nm_f2 I (nw_up I 227 i v) := ⟨fun j hj => by rw [nw_up_ne (by decide)], fun q _ hr => nw_up_ne hr⟩
theorem nm_f2.o (I : nw_Me) (v : Int32) : nm_f2 I (nw_up I 219 21 v) := ⟨fun j hj => by rw [nw_up_self, pk_un (by omega)], fun q hq _ => nw_up_ne hq⟩
theorem m_two (h : nm_tk I n a p) (ha : a = q_at n (I 224)) {t0 : Nat} (ht0 : t0 < 55) (m1 m2 : Int32) : nw_cZ l g 4 mX10_two [.ref (nw_a g 219), .int m1, .int (nI t0), .int m2] I (fun bb K => ((∃ e q, q_pair a p m1 m2 = .inl (e, q) ∧ bb = false ∧ K 219 19 = e ∧ K 219 16 = nI q) ∨ ∃ x y q, q_pair a p m1 m2 = .inr (x, y, q) ∧ bb = true ∧ K 227 = upd (I 227) t0 x ∧ K 219 21 = y ∧ nm_tk K n a q) ∧ nm_f2 I K) := by
  refine ⟨(Nat.le_of_ble_eq_true rfl), ?_⟩
  refine ev_aload_n (i := 0) dX10_two_0 rfl rfl ?_
  refine ev_iconst (v := 0) dX10_two_1 kc_0 ?_
  refine ev_iload_n (i := 1) dX10_two_2 rfl rfl ?_
  refine s_callVz (As := [_, _]) (m_takes h ha m1) (Nat.le_of_ble_eq_true rfl) lX10_129 kX10_takes vX10_takes dX10_two_3 rfl rfl rfl (by decide) rfl (Nat.le_of_ble_eq_true rfl) (fun b1 J1 h1 => ?_)
  refine s_ifZ_ne (tgt := 11) dX10_two_6 (by decide) (fun h6 => ?_) (fun h6 => ?_)
  · obtain ⟨x, q, e1, -, g1, tk0⟩ := h1.1.resolve_left (by rintro ⟨e, -, hb, -⟩; rw [hb] at h6; cases h6)
    have tk1 : nm_tk (nw_up J1 227 t0 x) n a q := tk0.ext (nw_up_ne (by decide))
    refine ev_aload_n (i := 0) dX10_two_11 rfl rfl ?_
    refine ev_getR fX10_31 dX10_two_12 rfl rfl (by decide) ?_
    refine ev_iload_n (i := 2) dX10_two_15 rfl rfl ?_
    refine ev_aload_n (i := 0) dX10_two_16 rfl rfl ?_
    refine ev_getI fX10_123 dX10_two_17 rfl rfl (by decide) ?_
    rw [g1]
    refine ev_iastN (j := t0) dX10_two_20 rfl (by omega) (by decide) ?_
    refine ev_aload_n (i := 0) dX10_two_21 rfl rfl ?_
    refine ev_iconst (v := 4) dX10_two_22 kc_4 ?_
    refine s_callVz (As := [_]) (m_signs (c := 44) tk1 (by rw [nw_up_ne (by decide), h1.2.2 224 (by decide)]; exact ha) (Or.inl ⟨rfl, rfl⟩)) (Nat.le_of_ble_eq_true rfl) lX10_133 kX10_signs vX10_signs dX10_two_23 rfl rfl rfl (by decide) rfl (Nat.le_of_ble_eq_true rfl) (fun b2 J2 h2 => ?_)
    refine s_ifZ_eq (tgt := 38) dX10_two_26 (by decide) (fun h26 => ?_) (fun h26 => ?_)
    · refine ev_iconst (v := 0) dX10_two_38 kc_0 ?_
      exact s_ret0 dX10_two_39 (by
        have f1 := (h1.2.f2.trans (nm_f2.r J1 t0 x)).trans h2.2.f2
        first
          | (obtain ⟨e2, -, g2, g3⟩ := h2.1.resolve_right (by rintro ⟨-, hb, -⟩; rw [hb] at h26; cases h26)
             exact ⟨Or.inl ⟨1, q, by unfold q_pair; simp only [e1, e2], rfl, g2, g3⟩, f1⟩)
          | (obtain ⟨e, e3, -, g2, g3⟩ := h3.1.resolve_right (by rintro ⟨x, q, -, hb, -⟩; rw [hb] at h35; cases h35)
             exact ⟨Or.inl ⟨e, q + 1, by unfold q_pair; simp only [e1, e2, e3], rfl, g2, g3⟩, f1.trans h3.2.f2⟩))
    · obtain ⟨e2, -, tk2⟩ := h2.1.resolve_left (by rintro ⟨-, hb, -⟩; rw [hb] at h26; cases h26)
      have a2 : a = q_at n (J2 224) := by rw [h2.2.2 224 (by decide), nw_up_ne (by decide), h1.2.2 224 (by decide)]; exact ha
      refine ev_aload_n (i := 0) dX10_two_29 rfl rfl ?_
      refine ev_iconst (v := 0) dX10_two_30 kc_0 ?_
      refine ev_iload_n (i := 3) dX10_two_31 rfl rfl ?_
      refine s_callVz (As := [_, _]) (m_takes tk2 a2 m2) (Nat.le_of_ble_eq_true rfl) lX10_129 kX10_takes vX10_takes dX10_two_32 rfl rfl rfl (by decide) rfl (Nat.le_of_ble_eq_true rfl) (fun b3 J3 h3 => ?_)
      refine s_ifZ_ne (tgt := 40) dX10_two_35 (by decide) (fun h35 => ?_) (fun h35 => ?_)
      · obtain ⟨y, q3, e3, -, g3, tk3a⟩ := h3.1.resolve_left (by rintro ⟨e, -, hb, -⟩; rw [hb] at h35; cases h35)
        have tk3 : nm_tk (nw_up J3 219 21 y) n a q3 := by
          unfold nm_tk
          rw [nw_up_self, pk_un (by decide), pk_un (by decide), pk_un (by decide), pk_un (by decide), pk_un (by decide)]
          exact tk3a
        refine ev_aload_n (i := 0) dX10_two_40 rfl rfl ?_
        refine ev_aload_n (i := 0) dX10_two_41 rfl rfl ?_
        refine ev_getI fX10_123 dX10_two_42 rfl rfl (by decide) ?_
        rw [g3]
        refine ev_putI fX10_136 dX10_two_45 rfl rfl (by decide) rfl rfl rfl rfl ?_
        refine ev_aload_n (i := 0) dX10_two_48 rfl rfl ?_
        refine ev_iconst (v := 5) dX10_two_49 kc_5 ?_
        refine s_callVz (As := [_]) (m_signs (c := 59) tk3 (by rw [nw_up_ne (by decide), h3.2.2 224 (by decide)]; exact a2) (Or.inr ⟨rfl, rfl⟩)) (Nat.le_of_ble_eq_true rfl) lX10_133 kX10_signs vX10_signs dX10_two_50 rfl rfl rfl (by decide) rfl (Nat.le_of_ble_eq_true rfl) (fun b4 J4 h4 => ?_)
        exact s_retZ dX10_two_53 (by
        have f1 := ((((h1.2.f2.trans (nm_f2.r J1 t0 x)).trans h2.2.f2).trans h3.2.f2).trans (nm_f2.o J3 y)).trans h4.2.f2
        rcases h4.1 with ⟨e4, hb, g4, g5⟩ | ⟨e4, hb, tk4⟩
        · exact ⟨Or.inl ⟨1, q3, by unfold q_pair; simp only [e1, e2, e3, e4], hb, g4, g5⟩, f1⟩
        · refine ⟨Or.inr ⟨x, y, q3 + 1, by unfold q_pair; simp only [e1, e2, e3, e4], hb, ?_, ?_, tk4⟩, f1⟩
          · rw [h4.2.2 227 (by decide), nw_up_ne (by decide), h3.2.2 227 (by decide), h2.2.2 227 (by decide), nw_up_self, h1.2.2 227 (by decide)]
          · rw [h4.2.1 21 (by omega), nw_up_self, pk_us])
      · refine ev_iconst (v := 0) dX10_two_38 kc_0 ?_
        exact s_ret0 dX10_two_39 (by
        have f1 := (h1.2.f2.trans (nm_f2.r J1 t0 x)).trans h2.2.f2
        first
          | (obtain ⟨e2, -, g2, g3⟩ := h2.1.resolve_right (by rintro ⟨-, hb, -⟩; rw [hb] at h26; cases h26)
             exact ⟨Or.inl ⟨1, q, by unfold q_pair; simp only [e1, e2], rfl, g2, g3⟩, f1⟩)
          | (obtain ⟨e, e3, -, g2, g3⟩ := h3.1.resolve_right (by rintro ⟨x, q, -, hb, -⟩; rw [hb] at h35; cases h35)
             exact ⟨Or.inl ⟨e, q + 1, by unfold q_pair; simp only [e1, e2, e3], rfl, g2, g3⟩, f1.trans h3.2.f2⟩))
  · refine ev_iconst (v := 0) dX10_two_9 kc_0 ?_
    exact s_ret0 dX10_two_10 (by
      obtain ⟨e, e1, -, e2, e3⟩ := h1.1.resolve_right (by rintro ⟨x, q, -, hb, -⟩; rw [hb] at h6; cases h6)
      exact ⟨Or.inl ⟨e, p, by unfold q_pair; simp only [e1], rfl, e2, e3⟩, h1.2.f2⟩)
def t_sort (c : Int32) : Int32 := if c = 112 then 1 else if c = 115 then 2 else if c = 100 then 3 else if c = 108 then 4 else if c = 109 then 5 else 0
theorem m_sortOf (c : Int32) : nw_dI l g 0 mX10_sortOf [.int c] I (t_sort c) I := by
  refine ⟨(Nat.le_of_ble_eq_true rfl), ?_⟩
  refine ev_iload_n (i := 0) dX10_sortOf_0 rfl rfl ?_
  refine ev_bipush (v := 112) dX10_sortOf_1 kb_112 ?_
  refine ev_icmp_ne (tgt := 10) dX10_sortOf_3 (by decide) (fun h3 => ?_) (fun h3 => ?_)
  · refine ev_iload_n (i := 0) dX10_sortOf_10 rfl rfl ?_
    refine ev_bipush (v := 115) dX10_sortOf_11 kb_115 ?_
    refine ev_icmp_ne (tgt := 20) dX10_sortOf_13 (by decide) (fun h13 => ?_) (fun h13 => ?_)
    · refine ev_iload_n (i := 0) dX10_sortOf_20 rfl rfl ?_
      refine ev_bipush (v := 100) dX10_sortOf_21 kb_100 ?_
      refine ev_icmp_ne (tgt := 30) dX10_sortOf_23 (by decide) (fun h23 => ?_) (fun h23 => ?_)
      · refine ev_iload_n (i := 0) dX10_sortOf_30 rfl rfl ?_
        refine ev_bipush (v := 108) dX10_sortOf_31 kb_108 ?_
        refine ev_icmp_ne (tgt := 40) dX10_sortOf_33 (by decide) (fun h33 => ?_) (fun h33 => ?_)
        · refine ev_iload_n (i := 0) dX10_sortOf_40 rfl rfl ?_
          refine ev_bipush (v := 109) dX10_sortOf_41 kb_109 ?_
          refine ev_icmp_ne (tgt := 50) dX10_sortOf_43 (by decide) (fun h43 => ?_) (fun h43 => ?_)
          · refine ev_iconst (v := 0) dX10_sortOf_50 kc_0 ?_
            exact s_retI dX10_sortOf_51 ⟨by simp [t_sort, *], rfl⟩
          · refine ev_iconst (v := 5) dX10_sortOf_46 kc_5 ?_
            refine ev_goto (tgt := 51) dX10_sortOf_47 (by decide) ?_
            exact s_retI dX10_sortOf_51 ⟨by simp [t_sort, *], rfl⟩
        · refine ev_iconst (v := 4) dX10_sortOf_36 kc_4 ?_
          refine ev_goto (tgt := 51) dX10_sortOf_37 (by decide) ?_
          exact s_retI dX10_sortOf_51 ⟨by simp [t_sort, *], rfl⟩
      · refine ev_iconst (v := 3) dX10_sortOf_26 kc_3 ?_
        refine ev_goto (tgt := 51) dX10_sortOf_27 (by decide) ?_
        exact s_retI dX10_sortOf_51 ⟨by simp [t_sort, *], rfl⟩
    · refine ev_iconst (v := 2) dX10_sortOf_16 kc_2 ?_
      refine ev_goto (tgt := 51) dX10_sortOf_17 (by decide) ?_
      exact s_retI dX10_sortOf_51 ⟨by simp [t_sort, *], rfl⟩
  · refine ev_iconst (v := 1) dX10_sortOf_6 kc_1 ?_
    refine ev_goto (tgt := 51) dX10_sortOf_7 (by decide) ?_
    exact s_retI dX10_sortOf_51 ⟨by simp [t_sort, *], rfl⟩
theorem t_sort_eq (c : Int32) : (nv_told c = -1 ∧ t_sort c = 0) ∨ (¬ nv_told c = -1 ∧ t_sort c = nv_told c ∧ 0 < t_sort c ∧ nv_in c 97 122 = true) := by
  unfold nv_told t_sort
  by_cases h1 : c = 112
  · subst h1; right; decide
  by_cases h2 : c = 115
  · subst h2; right; decide
  by_cases h3 : c = 100
  · subst h3; right; decide
  by_cases h4 : c = 108
  · subst h4; right; decide
  by_cases h5 : c = 109
  · subst h5; right; decide
  · left
    rw [if_neg h1, if_neg h2, if_neg h3, if_neg h4, if_neg h5, if_neg h1, if_neg h2, if_neg h3, if_neg h4, if_neg h5]
    exact ⟨rfl, rfl⟩
theorem m_isLetter (h : nm_tk I n a p) (ha : a = q_at n (I 224)) {c : Int32} (hc : nv_in c 97 122 = true) : nw_dZ l g 0 mX10_isLetter [.ref (nw_a g 219), .int c] I (decide (a p = c)) I := by
  refine ⟨(Nat.le_of_ble_eq_true rfl), ?_⟩
  have hl := h.let ha
  refine ev_aload_n (i := 0) dX10_isLetter_0 rfl rfl ?_
  refine ev_getI fX10_103 dX10_isLetter_1 rfl rfl (by decide) ?_
  refine ev_iconst (v := 3) dX10_isLetter_4 kc_3 ?_
  refine ev_icmp_ne (tgt := 20) dX10_isLetter_5 (by decide) (fun h5 => ?_) (fun h5 => ?_)
  · refine ev_iconst (v := 0) dX10_isLetter_20 kc_0 ?_
    exact s_ret0 dX10_isLetter_21 ⟨by first | (rw [decide_eq_true ((hl.1 h5).1.symm.trans h13)]) | (rw [decide_eq_false (fun q => h13 ((hl.1 h5).1.trans q))]) | (rw [decide_eq_false (fun q => h5 (hl.2 c hc q))]), rfl⟩
  · refine ev_aload_n (i := 0) dX10_isLetter_8 rfl rfl ?_
    refine ev_getI fX10_106 dX10_isLetter_9 rfl rfl (by decide) ?_
    refine ev_iload_n (i := 1) dX10_isLetter_12 rfl rfl ?_
    refine ev_icmp_ne (tgt := 20) dX10_isLetter_13 (by decide) (fun h13 => ?_) (fun h13 => ?_)
    · refine ev_iconst (v := 0) dX10_isLetter_20 kc_0 ?_
      exact s_ret0 dX10_isLetter_21 ⟨by first | (rw [decide_eq_true ((hl.1 h5).1.symm.trans h13)]) | (rw [decide_eq_false (fun q => h13 ((hl.1 h5).1.trans q))]) | (rw [decide_eq_false (fun q => h5 (hl.2 c hc q))]), rfl⟩
    · refine ev_iconst (v := 1) dX10_isLetter_16 kc_1 ?_
      refine ev_goto (tgt := 21) dX10_isLetter_17 (by decide) ?_
      exact s_ret1 dX10_isLetter_21 ⟨by first | (rw [decide_eq_true ((hl.1 h5).1.symm.trans h13)]) | (rw [decide_eq_false (fun q => h13 ((hl.1 h5).1.trans q))]) | (rw [decide_eq_false (fun q => h5 (hl.2 c hc q))]), rfl⟩
end
