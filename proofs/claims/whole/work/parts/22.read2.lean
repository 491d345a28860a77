section
variable {l : Launch} {g : nw_G} {I : nw_Me}
theorem nv_rf.refl (I : nw_Me) : nv_rf I I := ⟨rfl, fun _ _ => rfl⟩
theorem nv_rf.trans {I J K : nw_Me} (h1 : nv_rf I J) (h2 : nv_rf J K) : nv_rf I K := ⟨h2.1.trans h1.1, fun k hk => (h2.2 k hk).trans (h1.2 k hk)⟩
theorem nv_rf.up {I J : nw_Me} (h : nv_rf I J) {i : Nat} (hi : i ≠ 1) (v : Int32) : nv_rf I (nw_up J 13 i v) := ⟨by rw [nw_up_self, pk_un (by omega)]; exact h.1, fun k hk => by rw [nw_up_ne hk]; exact h.2 k hk⟩
theorem nv_rd.up2 {I : nw_Me} {n p q : Nat} {f : Int32} (h : nv_rd I n p f) (hq : q ≤ n) : nv_rd (nw_up I 13 2 (nI q)) n q f := by
  obtain ⟨h1, h2, h3, h4, h5⟩ := h
  exact ⟨by simp [nw_up, h1], by simp [nw_up], by simp [nw_up, h3], h4, hq⟩
theorem nv_rd.up3 {I : nw_Me} {n p : Nat} {f : Int32} (h : nv_rd I n p f) (e : Int32) : nv_rd (nw_up I 13 3 e) n p e := by
  obtain ⟨h1, h2, h3, h4, h5⟩ := h
  exact ⟨by simp [nw_up, h1], by simp [nw_up, h2], by simp [nw_up], h4, h5⟩
theorem nv_rd.upx {I : nw_Me} {n p : Nat} {f : Int32} (h : nv_rd I n p f) {i : Nat} (hi : 3 < i) (e : Int32) : nv_rd (nw_up I 13 i e) n p f := by
  obtain ⟨h1, h2, h3, h4, h5⟩ := h
  exact ⟨by rw [nw_up_self, pk_un (by omega)]; exact h1, by rw [nw_up_self, pk_un (by omega)]; exact h2, by rw [nw_up_self, pk_un (by omega)]; exact h3, h4, h5⟩
theorem nv_rd.ext {I J : nw_Me} {n p : Nat} {f : Int32} (h : nv_rd I n p f) (hJ : J 13 = I 13) : nv_rd J n p f := by unfold nv_rd; rw [hJ]; exact h
theorem d_number {n p : Nat} (hr : nv_rd I n p 0) (m : Int32) : nw_cI l g 1 mX6_number [.ref (nw_a g 13), .int m] I (fun r J => ((∃ e, q_num (q_at n (I 14)) p m = .inl (e, p) ∧ e ≠ 0 ∧ nv_rd J n p e) ∨ ∃ q, q_num (q_at n (I 14)) p m = .inr (r, q) ∧ nv_rd J n q 0) ∧ nv_rf I J ∧ J 13 4 = I 13 4 ∧ J 13 5 = I 13 5) := by
  refine (c_number hr m).mono (fun r J q => ?_)
  rcases q with ⟨e, e1, e2, -, rfl⟩ | ⟨q, e1, rfl⟩
  · exact ⟨Or.inl ⟨e, e1, by rcases e2 with rfl | rfl <;> decide, hr.up3 e⟩, (nv_rf.refl I).up (by decide) _, by simp [nw_up], by simp [nw_up]⟩
  · exact ⟨Or.inr ⟨q, e1, hr.up2 (q_num_le hr.2.2.2.2 e1).2⟩, (nv_rf.refl I).up (by decide) _, by simp [nw_up], by simp [nw_up]⟩
theorem d_passes {n p : Nat} (hr : nv_rd I n p 0) (c : Int32) (hc : c ≠ -1) : nw_cZ l g 1 mX6_passes [.ref (nw_a g 13), .int c] I (fun b J => ((q_at n (I 14) p = c ∧ b = true ∧ nv_rd J n (p + 1) 0) ∨ (¬ q_at n (I 14) p = c ∧ b = false ∧ nv_rd J n p 1)) ∧ nv_rf I J ∧ J 13 4 = I 13 4 ∧ J 13 5 = I 13 5) := by
  refine (c_passes hr c hc).mono (fun b J q => ?_)
  obtain ⟨rfl, rfl⟩ := q
  by_cases e : q_at n (I 14) p = c
  · rw [if_pos e]
    exact ⟨Or.inl ⟨e, by simp [e], hr.up2 (by have := q_at_lt hc e; omega)⟩, (nv_rf.refl I).up (by decide) _, by simp [nw_up], by simp [nw_up]⟩
  · rw [if_neg e]
    exact ⟨Or.inr ⟨e, by simp [e], hr.up3 1⟩, (nv_rf.refl I).up (by decide) _, by simp [nw_up], by simp [nw_up]⟩
theorem c_readPair {n p : Nat} (hr : nv_rd I n p 0) (m1 m2 : Int32) : nw_cZ l g 2 mX6_readPair [.ref (nw_a g 13), .int m1, .int m2] I (fun b J => ((∃ e q, q_pair (q_at n (I 14)) p m1 m2 = .inl (e, q) ∧ e ≠ 0 ∧ q ≤ n ∧ b = false ∧ J 13 3 = e ∧ J 13 2 = nI q) ∨ ∃ x y q, q_pair (q_at n (I 14)) p m1 m2 = .inr (x, y, q) ∧ b = true ∧ J 13 3 = 0 ∧ J 13 2 = nI q ∧ J 13 4 = x ∧ J 13 5 = y) ∧ nv_rf I J) := by
  refine ⟨(Nat.le_of_ble_eq_true rfl), ?_⟩
  refine ev_aload_n (i := 0) dX6_readPair_0 rfl rfl ?_
  refine ev_aload_n (i := 0) dX6_readPair_1 rfl rfl ?_
  refine ev_iload_n (i := 1) dX6_readPair_2 rfl rfl ?_
  refine s_callVi (As := [_]) (d_number hr m1) (Nat.le_of_ble_eq_true rfl) lX6_98 kX6_number vX6_number dX6_readPair_3 rfl rfl rfl (by decide) rfl (Nat.le_of_ble_eq_true rfl) (fun r J1 hq => ?_)
  rcases hq with ⟨⟨e, e1, e2, hr1⟩ | ⟨q1, e1, hr1⟩, hf1, k4, k5⟩
  · refine ev_putI fX6_68 dX6_readPair_6 rfl rfl (by decide) rfl rfl rfl rfl ?_
    refine ev_aload_n (i := 0) dX6_readPair_9 rfl rfl ?_
    refine ev_bipush (v := 44) dX6_readPair_10 kb_44 ?_
    refine s_dVz (As := [_]) (c_passes0 (by rw [(hr1.upx (i := 4) (by decide) r).2.2.1]; exact e2) 44) (Nat.le_of_ble_eq_true rfl) lX6_60 kX6_passes vX6_passes dX6_readPair_12 rfl rfl rfl (by decide) rfl (Nat.le_of_ble_eq_true rfl) ?_
    refine s_ifZ_ne (tgt := 20) dX6_readPair_15 (by decide) (fun h15 => ?_) (fun h15 => ?_)
    · exact absurd h15 (by decide)
    · refine ev_iconst (v := 0) dX6_readPair_18 kc_0 ?_
      exact s_ret0 dX6_readPair_19 ⟨Or.inl ⟨e, p, by unfold q_pair; rw [e1], e2, hr.2.2.2.2, rfl, by simp [nw_up, hr1.2.2.1], by simp [nw_up, hr1.2.1]⟩, hf1.up (by decide) _⟩
  · refine ev_putI fX6_68 dX6_readPair_6 rfl rfl (by decide) rfl rfl rfl rfl ?_
    refine ev_aload_n (i := 0) dX6_readPair_9 rfl rfl ?_
    refine ev_bipush (v := 44) dX6_readPair_10 kb_44 ?_
    refine s_callVz (As := [_]) (d_passes (hr1.upx (i := 4) (by decide) r) 44 (by decide)) (Nat.le_of_ble_eq_true rfl) lX6_60 kX6_passes vX6_passes dX6_readPair_12 rfl rfl rfl (by decide) rfl (Nat.le_of_ble_eq_true rfl) (fun b2 J2 hq2 => ?_)
    have hT1 : nw_up J1 13 4 r 14 = I 14 := by rw [nw_up_ne (by decide)]; exact hf1.2 14 (by decide)
    rw [hT1] at hq2
    obtain ⟨hq2, hf2, k42, k52⟩ := hq2
    rcases hq2 with ⟨c2, rfl, hr2⟩ | ⟨c2, rfl, hr2⟩
    · refine s_ifZ_ne (tgt := 20) dX6_readPair_15 (by decide) (fun h15 => ?_) (fun h15 => ?_)
      · refine ev_aload_n (i := 0) dX6_readPair_20 rfl rfl ?_
        refine ev_aload_n (i := 0) dX6_readPair_21 rfl rfl ?_
        refine ev_iload_n (i := 2) dX6_readPair_22 rfl rfl ?_
        refine s_callVi (As := [_]) (d_number hr2 m2) (Nat.le_of_ble_eq_true rfl) lX6_98 kX6_number vX6_number dX6_readPair_23 rfl rfl rfl (by decide) rfl (Nat.le_of_ble_eq_true rfl) (fun y J3 hq3 => ?_)
        have hT2 : J2 14 = I 14 := (hf2.2 14 (by decide)).trans hT1
        rw [hT2] at hq3
        rcases hq3 with ⟨⟨e, e3, e4, hr3⟩ | ⟨q3, e3, hr3⟩, hf3, k43, k53⟩
        · refine ev_putI fX6_74 dX6_readPair_26 rfl rfl (by decide) rfl rfl rfl rfl ?_
          refine ev_aload_n (i := 0) dX6_readPair_29 rfl rfl ?_
          refine ev_bipush (v := 59) dX6_readPair_30 kb_59 ?_
          refine s_dVz (As := [_]) (c_passes0 (by rw [(hr3.upx (i := 5) (by decide) y).2.2.1]; exact e4) 59) (Nat.le_of_ble_eq_true rfl) lX6_60 kX6_passes vX6_passes dX6_readPair_32 rfl rfl rfl (by decide) rfl (Nat.le_of_ble_eq_true rfl) ?_
          exact s_retZ dX6_readPair_35 ⟨Or.inl ⟨e, q1 + 1, by unfold q_pair q_sgn; simp [e1, c2, e3], e4, hr2.2.2.2.2, rfl, by simp [nw_up, hr3.2.2.1], by simp [nw_up, hr3.2.1]⟩, ((hf1.up (by decide) _).trans hf2).trans (hf3.up (by decide) _)⟩
        · refine ev_putI fX6_74 dX6_readPair_26 rfl rfl (by decide) rfl rfl rfl rfl ?_
          refine ev_aload_n (i := 0) dX6_readPair_29 rfl rfl ?_
          refine ev_bipush (v := 59) dX6_readPair_30 kb_59 ?_
          refine s_callVz (As := [_]) (d_passes (hr3.upx (i := 5) (by decide) y) 59 (by decide)) (Nat.le_of_ble_eq_true rfl) lX6_60 kX6_passes vX6_passes dX6_readPair_32 rfl rfl rfl (by decide) rfl (Nat.le_of_ble_eq_true rfl) (fun b4 J4 hq4 => ?_)
          have hT3 : nw_up J3 13 5 y 14 = I 14 := by rw [nw_up_ne (by decide)]; exact (hf3.2 14 (by decide)).trans hT2
          rw [hT3] at hq4
          obtain ⟨hq4, hf4, k44, k54⟩ := hq4
          have hff := ((hf1.up (by decide) r).trans hf2).trans ((hf3.up (i := 5) (by decide) y).trans hf4)
          rcases hq4 with ⟨c4, rfl, hr4⟩ | ⟨c4, rfl, hr4⟩
          · exact s_retZ dX6_readPair_35 ⟨Or.inr ⟨r, y, q3 + 1, by unfold q_pair q_sgn; simp [e1, c2, e3, c4], rfl, hr4.2.2.1, hr4.2.1, by rw [k44, nw_up_self, pk_un (by decide), k43, k42, nw_up_self, pk_us], by rw [k54, nw_up_self, pk_us]⟩, hff⟩
          · exact s_retZ dX6_readPair_35 ⟨Or.inl ⟨1, q3, by unfold q_pair q_sgn; simp [e1, c2, e3, c4], by decide, hr4.2.2.2.2, rfl, hr4.2.2.1, hr4.2.1⟩, hff⟩
      · exact absurd h15 (by decide)
    · refine s_ifZ_ne (tgt := 20) dX6_readPair_15 (by decide) (fun h15 => ?_) (fun h15 => ?_)
      · exact absurd h15 (by decide)
      · refine ev_iconst (v := 0) dX6_readPair_18 kc_0 ?_
        exact s_ret0 dX6_readPair_19 ⟨Or.inl ⟨1, q1, by unfold q_pair q_sgn; simp [e1, c2], by decide, hr2.2.2.2.2, rfl, hr2.2.2.1, hr2.2.1⟩, (hf1.up (by decide) _).trans hf2⟩
theorem d_readPair {n p : Nat} (hr : nv_rd I n p 0) (m1 m2 : Int32) : nw_cZ l g 2 mX6_readPair [.ref (nw_a g 13), .int m1, .int m2] I (fun b J => ((∃ e q, q_pair (q_at n (I 14)) p m1 m2 = .inl (e, q) ∧ e ≠ 0 ∧ b = false ∧ nv_rd J n q e) ∨ ∃ x y q, q_pair (q_at n (I 14)) p m1 m2 = .inr (x, y, q) ∧ b = true ∧ nv_rd J n q 0 ∧ J 13 4 = x ∧ J 13 5 = y) ∧ nv_rf I J) := by
  refine (c_readPair hr m1 m2).mono (fun b J q => ⟨?_, q.2⟩)
  rcases q.1 with ⟨e, p2, h1, h2, h3, h4, h5, h6⟩ | ⟨x, y, p2, h1, h2, h3, h4, h5, h6⟩
  · exact Or.inl ⟨e, p2, h1, h2, h4, q.2.1.trans hr.1, h6, h5, hr.2.2.2.1, h3⟩
  · exact Or.inr ⟨x, y, p2, h1, h2, ⟨q.2.1.trans hr.1, h4, h3, hr.2.2.2.1, q_pair_le hr.2.2.2.2 h1⟩, h5, h6⟩
end
