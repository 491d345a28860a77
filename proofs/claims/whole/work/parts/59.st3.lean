section
variable {l : Launch} {g : nw_G} {I J K : nw_Me} {C F F' : Nat → Int32} {b : Bool} {N T S : Nat} {L : List (Nat → Int32)}
theorem iv_R.at {r : Nat} (h : iv_R I) (h8 : r < 8) (a2 : K 2 r = I 2 r) (a3 : K 3 r = I 3 r) (a0 : K 220 r = I 220 r) (a1 : K 221 r = I 221 r) (a5 : ∀ i, i < 40 → K (5 + r) i = I (5 + r) i) (a6 : ∀ i, i < 40 → K 222 (40 * r + i) = I 222 (40 * r + i)) : (K 3 r = -1 ∧ K 220 r < 0) ∨ ∃ m, m ≤ 40 ∧ K 3 r = nI m ∧ K 221 r = nI m ∧ K 220 r = K 2 r ∧ ¬ K 2 r < 0 ∧ ∀ i, i < m → K 222 (40 * r + i) = K (5 + r) i := by
  rw [a2, a3, a0, a1]
  rcases h r h8 with q | ⟨m, m1, m2, m3, m4, m5, m6⟩
  · exact Or.inl q
  · exact Or.inr ⟨m, m1, m2, m3, m4, m5, fun i hi => by rw [a5 i (by omega), a6 i (by omega)]; exact m6 i hi⟩
theorem iv.rw (hw : iv_W I b N T S L) (ht : iv_T I) (hs : iv_S I) (ha : iv_A I) (hi : iv_I I b) (g : ∀ k, k ≠ 0 ∧ ¬ (2 ≤ k ∧ k < 13) ∧ ¬ (219 ≤ k ∧ k ≤ 223) → K k = I k) (e10 : K 0 10 = I 0 10) (e11 : K 0 11 = I 0 11) (e9 : ∀ j, j ≠ 3 → K 219 j = I 219 j) (ef : K 0 12 = K 219 3) (hR : iv_R K) : iv K :=
  ⟨b, N, T, S, L, hw.ext e10 (e9 14 (by decide)) (fun k hk => g k (by omega)), hR, ht.ext (by rw [g 13 (by omega)]) (e9 6 (by decide)) (g 14 (by omega)) (g 224 (by omega)), ⟨by rw [e11, e9 7 (by decide)]; exact hs.1, ef⟩, ha.ext (by rw [g 192 (by omega)]) (e9 28 (by decide)) (g 193 (by omega)) (g 236 (by omega)), hi.ext (fun k hk => g k (by omega))⟩
theorem nv_has1 (s i : Int32) : nv_has s i 1 = nv_in i 0 (s - 1) := by
  unfold nv_has nv_in
  rw [decide_eq_true (p := ¬ (1 : Int32) < 0) (by decide), Bool.true_and]
theorem nv_row8 {q : Nat} (h : q < 8) : nv_in (nI q) 0 7 = true := nv_in_T (S := 8) (by decide) h
theorem nI_le40 {m : Nat} (h : m ≤ 40) : nI m ≤ 40 := (nI_leI (b := 40) (by omega) (by decide)).mpr h
theorem st_row (h : iv I) (x1 x2 x3 : Int32) : nw_cI l g 2 mX9_row [.ref (nw_a g 0), .int x1, .int x2, .int x3] I (fun r J => nw_cI l g 2 mX10_row [.ref (nw_a g 219), .int x1, .int x2, .int x3] J (fun r' K => r = r' ∧ iv K)) := by
  obtain ⟨b, N, T, S, L, hw, hr, ht, hs, ha, hi⟩ := id h
  refine (x_row x1 x2 x3).mono (fun r J hJ => ?_)
  refine (m_row x1 x2 x3).mono (fun r' K hK => ?_)
  rcases hJ with ⟨e1, eJ, c1⟩ | ⟨e1, eJ, c1, c2, c3, c4⟩ | ⟨q, m, rfl, q8, rfl, m40, c1, e1, z1, z2, z3, z4, z5, z6, fJ⟩
  · rcases hK with ⟨e2, eK, d1⟩ | ⟨e2, eK, d1, d2, d3, d4⟩ | ⟨q, m, rfl, q8, rfl, m40, d1, -⟩
    · rw [eK, eJ]; exact ⟨e1.trans e2.symm, h⟩
    · rcases c1 with c | c | c
      · exact absurd (c.symm.trans d1) Bool.false_ne_true
      · exact absurd (c.symm.trans d2) Bool.false_ne_true
      · exact absurd d3 c
    · rcases c1 with c | c | c
      · exact absurd (c.symm.trans (nv_row8 q8)) Bool.false_ne_true
      · exact absurd (c.symm.trans d1) Bool.false_ne_true
      · exact absurd (nI_le40 m40) c
  · rcases hK with ⟨e2, eK, d1⟩ | ⟨e2, eK, d1, d2, d3, d4⟩ | ⟨q, m, rfl, q8, rfl, m40, d1, -⟩
    · rcases d1 with d | d | d
      · exact absurd (d.symm.trans c1) Bool.false_ne_true
      · exact absurd (d.symm.trans c2) Bool.false_ne_true
      · exact absurd c3 d
    · rw [eK, eJ]; exact ⟨e1.trans e2.symm, h.fd 4⟩
    · exact absurd (nI_pos' (by omega)) c4
  · rcases hK with ⟨e2, eK, d1⟩ | ⟨e2, eK, d1, d2, d3, d4⟩ | ⟨q', m', eq, q8', em, -, -, e2, k1, k2, k3, k4, fK⟩
    · rcases d1 with d | d | d
      · exact absurd (d.symm.trans (nv_row8 q8)) Bool.false_ne_true
      · exact absurd (d.symm.trans c1) Bool.false_ne_true
      · exact absurd (nI_le40 m40) d
    · exact absurd (nI_pos' (by omega)) d4
    · obtain rfl : q = q' := (nI_eq (by omega) (by omega)).mp eq
      have g : ∀ k, k ≠ 0 ∧ ¬ (2 ≤ k ∧ k < 13) ∧ ¬ (219 ≤ k ∧ k ≤ 223) → K k = I k := fun k hk => (fK k (by omega) (by omega) (by omega) (by omega)).trans (fJ k (by omega) (by omega) (by omega) (by omega))
      have K0 : K 0 = J 0 := fK 0 (by decide) (by decide) (by decide) (by decide)
      have K2 : K 2 = upd (I 2) q x2 := (fK 2 (by decide) (by decide) (by decide) (by decide)).trans z4
      have K3 : K 3 = upd (I 3) q (nI m) := (fK 3 (by decide) (by decide) (by decide) (by decide)).trans z5
      have J9 : ∀ k, 219 ≤ k → J k = I k := fun k hk => fJ k (by omega) (by omega) (by omega) (by omega)
      rw [J9 219 (by omega)] at k1
      rw [J9 220 (by omega)] at k2
      rw [J9 221 (by omega)] at k3
      rw [J9 222 (by omega)] at k4
      refine ⟨e1.trans e2.symm, iv.rw hw ht hs ha hi g (by rw [K0]; exact z2) (by rw [K0]; exact z3) (fun j hj => by rw [k1, pk_un hj]) (by rw [K0, z1, k1, pk_us]) (fun r hr8 => ?_)⟩
      by_cases e : r = q
      · subst e
        refine Or.inr ⟨m, m40, by rw [K3, pk_us], by rw [k3, pk_us], by rw [k2, pk_us, K2, pk_us], ?_, fun i hi => ?_⟩
        · rw [K2, pk_us]
          rcases w02 c1 with rfl | rfl | rfl <;> decide
        · rw [k4, nm_mx_in (by omega), fK (5 + r) (by omega) (by omega) (by omega) (by omega)]
          exact (z6 i hi).symm
      · refine hr.at hr8 (by rw [K2, pk_un e]) (by rw [K3, pk_un e]) (by rw [k2, pk_un e]) (by rw [k3, pk_un e]) (fun i hi => ?_) (fun i hi => ?_)
        · rw [fK (5 + r) (by omega) (by omega) (by omega) (by omega), fJ (5 + r) (by omega) (by omega) (by omega) (by omega)]
        · rw [k4, nm_mx_out (by omega)]
theorem st_set (h : iv I) (x1 x2 x3 : Int32) : nw_cI l g 2 mX9_set [.ref (nw_a g 0), .int x1, .int x2, .int x3] I (fun r J => nw_cI l g 2 mX10_set [.ref (nw_a g 219), .int x1, .int x2, .int x3] J (fun r' K => r = r' ∧ iv K)) := by
  obtain ⟨b, N, T, S, L, hw, hr, ht, hs, ha, hi⟩ := id h
  refine (x_set x1 x2 x3 hr.sz).mono (fun r J hJ => ?_)
  obtain ⟨e1, eJ⟩ := hJ
  unfold R_set at e1
  unfold M_set at eJ
  have fJ : ∀ k, 13 ≤ k → J k = I k := fun k hk => by
    rw [eJ]
    by_cases c1 : nv_in x1 0 7 = true
    · obtain ⟨q, q8, rfl⟩ := nv_in_S (S := 8) (by decide) c1
      rw [if_pos c1, nI_clamp (by omega)]
      split
      · exact nw_up_ne (by omega)
      · split
        · rw [nw_up_ne (by omega), nw_up_ne (by omega)]
        · exact nw_up_ne (by omega)
    · rw [if_neg c1]
  refine (m_set (fun q hq hn => by
    rw [fJ 220 (by omega)] at hn
    obtain ⟨z, m, m1, m2, -⟩ := hr.mz hq hn
    exact ⟨m, m1, by rw [fJ 221 (by omega)]; exact m2⟩) x1 x2 x3).mono (fun r' K hK => ?_)
  rcases hK with ⟨c1, e2, eK⟩ | ⟨q, q8, rfl, hK⟩
  · rw [if_neg (by rw [c1]; decide)] at e1 eJ
    rw [eK, eJ]; exact ⟨e1.trans e2.symm, h⟩
  · rw [if_pos (nv_row8 q8), nI_clamp (by omega)] at e1 eJ
    rw [fJ 220 (by omega), fJ 221 (by omega)] at hK
    have hms := hr.ms q8
    rcases hK with ⟨d1, e2, eK⟩ | ⟨d1, d2, e2, eK⟩ | ⟨d1, d2, j, j40, rfl, e2, eK⟩
    · rw [if_pos (hms.mpr d1)] at e1 eJ
      rw [eK, eJ]; exact ⟨e1.trans e2.symm, h.fd 1⟩
    · rw [if_neg (fun q => d1 (hms.mp q)), nv_has1, ← (hr.mz q8 d1).1, if_neg (by rw [d2]; decide)] at e1 eJ
      rw [eK, eJ]; exact ⟨e1.trans e2.symm, h.fd 2⟩
    · obtain ⟨z, m, m1, m2, m3, m4⟩ := hr.mz q8 d1
      rw [if_neg (fun q => d1 (hms.mp q)), nv_has1, ← z, if_pos d2] at e1 eJ
      rw [nI_clamp (by omega)] at eJ
      rw [m3] at e2 eK
      refine ⟨e1.trans e2.symm, ?_⟩
      generalize nv_cut (I 2 q) x3 = y at *
      have g : ∀ k, k ≠ 0 → k ≠ 5 + q → k ≠ 219 → k ≠ 222 → K k = I k := fun k a1 a2 a3 a4 => by rw [eK, nw_up_ne a3, nw_up_ne a4, eJ, nw_up_ne a1, nw_up_ne a2]
      have K0 : K 0 = upd (I 0) 12 0 := by rw [eK, nw_up_ne (by decide), nw_up_ne (by decide), eJ, nw_up_self, nw_up_ne (by omega)]
      have K5 : K (5 + q) = upd (I (5 + q)) j y := by rw [eK, nw_up_ne (by omega), nw_up_ne (by omega), eJ, nw_up_ne (by omega), nw_up_self]
      have K9 : K 219 = upd (I 219) 3 0 := by rw [eK, nw_up_self, nw_up_ne (by decide), fJ 219 (by omega)]
      have K2 : K 222 = upd (I 222) (40 * q + j) y := by rw [eK, nw_up_ne (by decide), nw_up_self, fJ 222 (by omega)]
      refine iv.rw hw ht hs ha hi (fun k hk => g k (by omega) (by omega) (by omega) (by omega)) (by rw [K0, pk_un (by decide)]) (by rw [K0, pk_un (by decide)]) (fun j hj => by rw [K9, pk_un hj]) (by rw [K0, K9, pk_us, pk_us]) (fun r hr8 => ?_)
      by_cases e : r = q
      · subst e
        rcases hr r hr8 with ⟨-, q2⟩ | ⟨n, n1, n2, n3, n4, n5, n6⟩
        · exact absurd q2 d1
        · rw [g 2 (by decide) (by omega) (by decide) (by decide), g 3 (by decide) (by omega) (by decide) (by decide), g 220 (by decide) (by omega) (by decide) (by decide), g 221 (by decide) (by omega) (by decide) (by decide), K5, K2]
          refine Or.inr ⟨n, n1, n2, n3, n4, n5, fun i hi => ?_⟩
          by_cases ei : i = j
          · rw [ei, pk_us, pk_us]
          · rw [pk_un (by omega), pk_un ei]
            exact n6 i hi
      · refine hr.at hr8 (by rw [g 2 (by decide) (by omega) (by decide) (by decide)]) (by rw [g 3 (by decide) (by omega) (by decide) (by decide)]) (by rw [g 220 (by decide) (by omega) (by decide) (by decide)]) (by rw [g 221 (by decide) (by omega) (by decide) (by decide)]) (fun i hi => ?_) (fun i hi => ?_)
        · rw [g (5 + r) (by omega) (by omega) (by omega) (by omega)]
        · rw [K2, pk_un (by omega)]
theorem st_drop (h : iv I) (x1 : Int32) : nw_cI l g 2 mX9_drop [.ref (nw_a g 0), .int x1] I (fun r J => nw_cI l g 2 mX10_drop [.ref (nw_a g 219), .int x1] J (fun r' K => r = r' ∧ iv K)) := by
  obtain ⟨b, N, T, S, L, hw, hr, ht, hs, ha, hi⟩ := id h
  refine (x_drop x1).mono (fun r J hJ => ?_)
  obtain ⟨e1, eJ⟩ := hJ
  unfold R_drop at e1
  unfold M_drop at eJ
  have fJ : ∀ k, 13 ≤ k → J k = I k := fun k hk => by
    rw [eJ]
    split
    · split
      · exact nw_up_ne (by omega)
      · rw [nw_up_ne (by omega), nw_up_ne (by omega)]
    · rfl
  refine (m_drop x1).mono (fun r' K hK => ?_)
  rcases hK with ⟨c1, e2, eK⟩ | ⟨q, q8, rfl, hK⟩
  · rw [if_neg (by rw [c1]; decide)] at e1 eJ
    rw [eK, eJ]; exact ⟨e1.trans e2.symm, h⟩
  · rw [if_pos (nv_row8 q8), nI_clamp (by omega)] at e1 eJ
    rw [fJ 220 (by omega), fJ 221 (by omega)] at hK
    have hms := hr.ms q8
    rcases hK with ⟨d1, e2, eK⟩ | ⟨d1, e2, eK⟩
    · rw [if_pos (hms.mpr d1)] at e1 eJ
      rw [eK, eJ]; exact ⟨e1.trans e2.symm, h.fd 1⟩
    · rw [if_neg (fun q => d1 (hms.mp q))] at e1 eJ
      refine ⟨by rw [e1, e2, (hr.mz q8 d1).1], ?_⟩
      have g : ∀ k, k ≠ 0 → k ≠ 3 → k ≠ 219 → k ≠ 220 → K k = I k := fun k a1 a2 a3 a4 => by rw [eK, nw_up_ne a3, nw_up_ne a4, eJ, nw_up_ne a1, nw_up_ne a2]
      have K0 : K 0 = upd (I 0) 12 0 := by rw [eK, nw_up_ne (by decide), nw_up_ne (by decide), eJ, nw_up_self, nw_up_ne (by decide)]
      have K3 : K 3 = upd (I 3) q (-1) := by rw [eK, nw_up_ne (by decide), nw_up_ne (by decide), eJ, nw_up_ne (by decide), nw_up_self]
      have K9 : K 219 = upd (I 219) 3 0 := by rw [eK, nw_up_self, nw_up_ne (by decide), fJ 219 (by omega)]
      have K2 : K 220 = upd (I 220) q (-1) := by rw [eK, nw_up_ne (by decide), nw_up_self, fJ 220 (by omega)]
      refine iv.rw hw ht hs ha hi (fun k hk => g k (by omega) (by omega) (by omega) (by omega)) (by rw [K0, pk_un (by decide)]) (by rw [K0, pk_un (by decide)]) (fun j hj => by rw [K9, pk_un hj]) (by rw [K0, K9, pk_us, pk_us]) (fun r hr8 => ?_)
      by_cases e : r = q
      · subst e
        exact Or.inl ⟨by rw [K3, pk_us], by rw [K2, pk_us]; decide⟩
      · refine hr.at hr8 (by rw [g 2 (by decide) (by decide) (by decide) (by decide)]) (by rw [K3, pk_un e]) (by rw [K2, pk_un e]) (by rw [g 221 (by decide) (by decide) (by decide) (by decide)]) (fun i hi => ?_) (fun i hi => ?_)
        · rw [g (5 + r) (by omega) (by omega) (by omega) (by omega)]
        · rw [g 222 (by decide) (by decide) (by decide) (by decide)]
theorem st_copy (h : iv I) (x1 x2 x3 x4 x5 : Int32) : nw_cI l g 2 mX9_copy [.ref (nw_a g 0), .int x1, .int x2, .int x3, .int x4, .int x5] I (fun r J => nw_cI l g 2 mX10_copy [.ref (nw_a g 219), .int x1, .int x2, .int x3, .int x4, .int x5] J (fun r' K => r = r' ∧ iv K)) := by
  obtain ⟨b, N, T, S, L, hw, hr, ht, hs, ha, hi⟩ := id h
  refine (x_copy x1 x2 x3 x4 x5 hr.sz).mono (fun r J hJ => ?_)
  obtain ⟨e1, eJ⟩ := hJ
  unfold R_copy at e1
  unfold M_copy at eJ
  have fJ : ∀ k, 13 ≤ k → J k = I k := fun k hk => by
    rw [eJ]
    by_cases c1 : (nv_in x1 0 7 && nv_in x3 0 7) = true
    · obtain ⟨-, c2⟩ := (Bool.and_eq_true _ _).mp c1
      obtain ⟨c, c8, rfl⟩ := nv_in_S (S := 8) (by decide) c2
      rw [if_pos c1, nI_clamp (show c < 2 ^ 31 by omega)]
      split
      · exact nw_up_ne (by omega)
      · split
        · split
          · rw [nw_up_ne (by omega)]
            exact if_neg (by omega)
          · exact nw_up_ne (by omega)
        · exact nw_up_ne (by omega)
    · rw [if_neg c1]
  refine (m_copy (fun q hq hn => by
    rw [fJ 220 (by omega)] at hn
    obtain ⟨z, m, m1, m2, -⟩ := hr.mz hq hn
    exact ⟨m, m1, by rw [fJ 221 (by omega)]; exact m2⟩) x1 x2 x3 x4 x5).mono (fun r' K hK => ?_)
  rcases hK with ⟨c1, e2, eK⟩ | ⟨a, c, a8, c8, rfl, rfl, hK⟩
  · rw [if_neg (by rw [c1]; decide)] at e1 eJ
    rw [eK, eJ]; exact ⟨e1.trans e2.symm, h⟩
  · rw [if_pos (by rw [nv_row8 a8, nv_row8 c8]; rfl), nI_clamp (show a < 2 ^ 31 by omega), nI_clamp (show c < 2 ^ 31 by omega)] at e1 eJ
    rw [fJ 220 (by omega), fJ 221 (by omega)] at hK
    have hma := hr.ms a8
    have hmc := hr.ms c8
    rcases hK with ⟨d1, e2, eK⟩ | ⟨d1, d2, hK⟩
    · rw [if_pos (d1.imp hma.mpr hmc.mpr)] at e1 eJ
      rw [eK, eJ]; exact ⟨e1.trans e2.symm, h.fd 1⟩
    · rw [if_neg (fun q => q.elim (fun q => d1 (hma.mp q)) (fun q => d2 (hmc.mp q)))] at e1 eJ
      obtain ⟨za, ma, a1, a2, a3, a4⟩ := hr.mz a8 d1
      obtain ⟨zc, mc, c1, c2, c3, c4⟩ := hr.mz c8 d2
      rcases hK with ⟨d3, e2, eK⟩ | ⟨d3, hK⟩
      · rw [a3, c3] at d3
        rw [if_neg d3] at e1 eJ
        rw [eK, eJ]; exact ⟨e1.trans e2.symm, h.fd 5⟩
      · rw [a3, c3] at d3
        rw [if_pos d3, ← za, ← zc] at e1 eJ
        rcases hK with ⟨d4, e2, eK⟩ | ⟨i0, j0, n0, rfl, rfl, rfl, i40, j40, d4, e2, k1, k2, fK⟩
        · rw [if_neg (by rw [d4]; decide)] at e1 eJ
          rw [eK, eJ]; exact ⟨e1.trans e2.symm, h.fd 2⟩
        · rw [if_pos d4] at e1 eJ
          rw [nI_clamp (show i0 < 2 ^ 31 by omega), nI_clamp (show j0 < 2 ^ 31 by omega), nI_clamp (show n0 < 2 ^ 31 by omega)] at eJ
          refine ⟨e1.trans e2.symm, ?_⟩
          have hia : i0 + n0 ≤ ma := by
            have d5 := ((Bool.and_eq_true _ _).mp d4).1
            rw [a2] at d5
            obtain ⟨i1, n1, m1, f1, f2, f3, f4, f5⟩ := nv_has_in (Or.inr ⟨ma, a1, rfl⟩) d5
            have g1 := (nI_eq (by omega) (by omega)).mp f1
            have g2 := (nI_eq (by omega) (by omega)).mp f2
            have g3 := (nI_eq (by omega) (by omega)).mp f3
            omega
          rw [fJ 219 (by omega)] at k1
          rw [fJ 222 (by omega)] at k2
          have g : ∀ k, k ≠ 0 → k ≠ 5 + c → k ≠ 219 → k ≠ 222 → k ≠ 223 → K k = I k := fun k b1 b2 b3 b4 b5 => by
            rw [fK k b3 b4 b5, eJ, nw_up_ne b1]
            exact if_neg b2
          have K0 : K 0 = upd (I 0) 12 0 := by
            rw [fK 0 (by decide) (by decide) (by decide), eJ, nw_up_self]
            congr 1
            exact if_neg (by omega)
          have K5 : K (5 + c) = va_cpy (I (5 + a)) (I (5 + c)) i0 j0 n0 := by
            rw [fK (5 + c) (by omega) (by omega) (by omega), eJ, nw_up_ne (by omega)]
            exact if_pos rfl
          refine iv.rw hw ht hs ha hi (fun k hk => g k (by omega) (by omega) (by omega) (by omega) (by omega)) (by rw [K0, pk_un (by decide)]) (by rw [K0, pk_un (by decide)]) (fun j hj => by rw [k1, pk_un hj]) (by rw [K0, k1, pk_us, pk_us]) (fun r hr8 => ?_)
          by_cases e : r = c
          · subst e
            rcases hr r hr8 with ⟨-, q2⟩ | ⟨n, n1, n2, n3, n4, n5, n6⟩
            · exact absurd q2 d2
            · rw [g 2 (by decide) (by omega) (by decide) (by decide) (by decide), g 3 (by decide) (by omega) (by decide) (by decide) (by decide), g 220 (by decide) (by omega) (by decide) (by decide) (by decide), g 221 (by decide) (by omega) (by decide) (by decide) (by decide), K5, k2]
              refine Or.inr ⟨n, n1, n2, n3, n4, n5, fun i hi => ?_⟩
              by_cases ei : j0 ≤ i ∧ i < j0 + n0
              · rw [pk_cpy_in ei.1 ei.2]
                unfold nm_mx
                rw [if_pos (by omega)]
                have := a4 (i0 + (i - j0)) (by omega)
                show I 222 (40 * a + i0 + (40 * r + i - (40 * r + j0))) = _
                rw [show 40 * a + i0 + (40 * r + i - (40 * r + j0)) = 40 * a + (i0 + (i - j0)) by omega]
                exact this
              · rw [pk_cpy_out (by omega), nm_mx_out (by omega)]
                exact n6 i hi
          · refine hr.at hr8 (by rw [g 2 (by decide) (by omega) (by decide) (by decide) (by decide)]) (by rw [g 3 (by decide) (by omega) (by decide) (by decide) (by decide)]) (by rw [g 220 (by decide) (by omega) (by decide) (by decide) (by decide)]) (by rw [g 221 (by decide) (by omega) (by decide) (by decide) (by decide)]) (fun i hi => ?_) (fun i hi => ?_)
            · rw [g (5 + r) (by omega) (by omega) (by omega) (by omega) (by omega)]
            · rw [k2, nm_mx_out (by omega)]
theorem st_feed (h : iv I) (x1 : Int32) : nw_cI l g 2 mX9_feed [.ref (nw_a g 0), .int x1] I (fun r J => nw_cI l g 1 mX10_feed [.ref (nw_a g 219), .int x1] J (fun r' K => r = r' ∧ iv K)) := by
  obtain ⟨b, N, T, S, L, hw, hr, ht, hs, ha, hi⟩ := id h
  obtain ⟨n, n1, n2, n3, n4⟩ := ht
  refine (x_feed n2 n1 x1).mono (fun r J hJ => ?_)
  obtain ⟨e1, eJ⟩ := hJ
  have fJ : ∀ k, 15 ≤ k → J k = I k := fun k hk => by
    rw [eJ]
    split
    · split
      · rfl
      · rw [nw_up_ne (by omega), nw_up_ne (by omega)]
    · rfl
  refine (m_feed (n := n) (by rw [fJ 219 (by omega)]; exact n3) n1 x1).mono (fun r' K hK => ?_)
  obtain ⟨e2, eK⟩ := hK
  refine ⟨e1.trans e2.symm, ?_⟩
  by_cases c1 : nv_in x1 0 255 = true
  · rw [if_pos c1] at eJ eK
    by_cases c2 : n = 160
    · rw [if_pos c2] at eJ eK
      rw [eK, eJ]
      exact h
    · rw [if_neg c2] at eJ eK
      have g : ∀ k, k ≠ 13 → k ≠ 14 → k ≠ 219 → k ≠ 224 → K k = I k := fun k a1 a2 a3 a4 => by rw [eK, nw_up_ne a3, nw_up_ne a4, eJ, nw_up_ne a1, nw_up_ne a2]
      have K9 : K 219 = upd (I 219) 6 (nI (n + 1)) := by rw [eK, nw_up_self, nw_up_ne (by decide), fJ 219 (by omega)]
      have K13 : K 13 = upd (I 13) 1 (nI (n + 1)) := by rw [eK, nw_up_ne (by decide), nw_up_ne (by decide), eJ, nw_up_self, nw_up_ne (by decide)]
      have K14 : K 14 = upd (I 14) n x1 := by rw [eK, nw_up_ne (by decide), nw_up_ne (by decide), eJ, nw_up_ne (by decide), nw_up_self]
      have K24 : K 224 = upd (I 224) n x1 := by rw [eK, nw_up_ne (by decide), nw_up_self, fJ 224 (by omega)]
      have g9 : ∀ j, j ≠ 6 → K 219 j = I 219 j := fun j hj => by rw [K9, pk_un hj]
      refine ⟨b, N, T, S, L, hw.ext (by rw [g 0 (by decide) (by decide) (by decide) (by decide)]) (g9 14 (by decide)) (fun k hk => g k (by omega) (by omega) (by omega) (by omega)), hr.ext (fun k hk => g k (by omega) (by omega) (by omega) (by omega)), ⟨n + 1, by omega, by rw [K13, pk_us], by rw [K9, pk_us], fun i hi => ?_⟩, hs.ext (by rw [g 0 (by decide) (by decide) (by decide) (by decide)]) (by rw [g 0 (by decide) (by decide) (by decide) (by decide)]) (g9 7 (by decide)) (g9 3 (by decide)), ha.ext (by rw [g 192 (by decide) (by decide) (by decide) (by decide)]) (g9 28 (by decide)) (g 193 (by decide) (by decide) (by decide) (by decide)) (g 236 (by decide) (by decide) (by decide) (by decide)), hi.ext (fun k hk => g k (by omega) (by omega) (by omega) (by omega))⟩
      rw [K14, K24]
      by_cases e : i = n
      · rw [e, pk_us, pk_us]
        refine ⟨rfl, fun q => ?_⟩
        rw [q] at c1
        exact absurd c1 (by decide)
      · rw [pk_un e, pk_un e]
        exact n4 i (by omega)
  · rw [if_neg c1] at eJ eK
    rw [eK, eJ]
    exact h
end
