section
variable {l : Launch} {g : nw_G} {I J K : nw_Me} {C F F' : Nat → Int32} {b : Bool} {N T S : Nat} {L : List (Nat → Int32)}
theorem st_image (h : iv I) (x1 : Int32) : nw_cI l g 2 mX9_image [.ref (nw_a g 0), .int x1] I (fun r J => nw_cI l g 1 mX10_image [.ref (nw_a g 219), .int x1] J (fun r' K => r = r' ∧ iv K)) := by
  obtain ⟨b, N, T, S, L, hw, hr, ht, hs, ha, hi⟩ := id h
  refine (x_image hw.1 x1).mono (fun r J hJ => ?_)
  have J9 : ∀ k, k < 195 ∨ 219 ≤ k → J k = I k := by
    rcases hJ with ⟨-, -, q⟩ | ⟨-, -, -, q⟩ | ⟨k, k2, -, -, -, -, -, -, q⟩
    · rw [q]; exact fun _ _ => rfl
    · rw [q]; exact fun _ _ => rfl
    · exact fun j hj => q j (by omega)
  refine (m_image (hw.2.1.ext (J9 225 (by omega)) (J9 226 (by omega))) x1).mono (fun r' K hK => ?_)
  rcases hJ with ⟨c1, e1, eJ⟩ | ⟨c1, c2, e1, eJ⟩ | ⟨k, k2, rfl, c1, e1, z1, z2, z3, fJ⟩
  · rcases hK with ⟨-, e2, eK⟩ | ⟨d1, -⟩ | ⟨k, k2, rfl, -⟩
    · rw [eK, eJ]; exact ⟨e1.trans e2.symm, h⟩
    · exact absurd (c1.symm.trans d1) Bool.false_ne_true
    · exact absurd (c1.symm.trans (nv_in_T (S := 2) (by decide) k2)) Bool.false_ne_true
  · rcases hK with ⟨d1, -⟩ | ⟨-, -, e2, eK⟩ | ⟨k, k2, rfl, d1, -⟩
    · exact absurd (d1.symm.trans c1) Bool.false_ne_true
    · rw [eK, eJ]; exact ⟨e1.trans e2.symm, h⟩
    · exact absurd (c2.symm.trans d1) Bool.false_ne_true
  · rcases hK with ⟨d1, -⟩ | ⟨-, d1, -⟩ | ⟨k', k2', ek, -, e2, y1, y2, fK⟩
    · exact absurd (d1.symm.trans (nv_in_T (S := 2) (by decide) k2)) Bool.false_ne_true
    · exact absurd (d1.symm.trans c1) Bool.false_ne_true
    · obtain rfl : k = k' := (nI_eq (by omega) (by omega)).mp ek
      refine ⟨e1.trans e2.symm, ?_⟩
      rw [J9 225 (by omega), J9 226 (by omega), J9 228 (by omega)] at y1
      rw [J9 229 (by omega)] at y2
      have g : ∀ q, (q < 195 ∨ 219 ≤ q) ∧ q ≠ 228 ∧ q ≠ 229 → K q = I q := fun q hq => (fK q (by omega) (by omega)).trans (J9 q hq.1)
      obtain ⟨-, h0, h0T, hk, hsok⟩ := hw.2.1.sea (Or.inr (Or.inr (Or.inr c1)))
      have hN2 : N ≤ 20 := hw.1.2.1.2.2.2.1
      have hT3 : T ≤ 3 := hw.1.2.1.2.2.2.2.1
      have hS6 : S ≤ 6 := hw.1.2.1.2.2.2.2.2
      refine ⟨b, N, T, S, L, hw.ext (by rw [g 0 (by omega)]) (by rw [g 219 (by omega)]) (fun q hq => g q (by omega)), hr.ext (fun q hq => g q (by omega)), ht.ext (by rw [g 13 (by omega)]) (by rw [g 219 (by omega)]) (g 14 (by omega)) (g 224 (by omega)), hs.ext (by rw [g 0 (by omega)]) (by rw [g 0 (by omega)]) (by rw [g 219 (by omega)]) (by rw [g 219 (by omega)]), ha.ext (by rw [g 192 (by omega)]) (by rw [g 219 (by omega)]) (g 193 (by omega)) (g 236 (by omega)), fun u hu => ?_⟩
      by_cases e : u = k
      · subst e
        have cK : nv_cf K (196 + 12 * u) = nv_cf I 15 := by rw [nv_cf_ext (I := J) (fun q a1 a2 => fK q (by omega) (by omega))]; exact z1
        have fKK : nv_fl K (201 + 12 * u) = nv_fl I 25 := by rw [nv_fl_ext (I := J) (fun q a1 a2 => fK q (by omega) (by omega))]; exact z2
        refine ⟨true, by rw [fK _ (by omega) (by omega)]; exact z3, by rw [y2, pk_us]; rfl, fun _ => ⟨c1, N, T, S, h0, h0T, by rw [cK]; exact hk, by rw [fKK]; exact hsok, ?_, ?_, ?_⟩⟩
        · rw [y1, nm_mx_out (by omega)]
          have := nm_mx_in (o := 84 * u) (n := 55) (i := 0) (f := I 225) (h := I 228) (by decide)
          rw [Nat.add_zero] at this
          rw [this, hw.2.1.1, c1]
          rfl
        · rw [cK]
          refine ⟨hw.1.2.1, fun i hi => ?_⟩
          show K 228 (84 * u + i) = _
          rw [y1, nm_mx_out (by unfold nl_c at hi; omega), nm_mx_in (by unfold nl_c at hi; omega)]
          exact hw.2.1.2.1.2 i hi
        · rw [fKK]
          intro i hi
          show K 228 (84 * u + 55 + i) = _
          rw [y1, nm_mx_in (by unfold nl_f at hi; omega)]
          exact hw.2.1.2.2.1 i hi
      · obtain ⟨kb, h1⟩ := hi u hu
        refine ⟨kb, h1.ext (fun q hq => (fK q (by omega) (by omega)).trans (fJ q (by omega))) (by rw [y2, pk_un e]) (fun j hj => ?_)⟩
        rw [y1, nm_mx_out (by omega), nm_mx_out (by omega)]
theorem nm_acts_nil {I : nw_Me} {T S : Nat} (h : I 219 14 = 0) : nm_acts I T S [] := ⟨by rw [h]; exact nI_0.symm, by decide, fun i G hG => by simp at hG⟩
theorem st_restore (h : iv I) (x1 : Int32) : nw_cI l g 1 mX9_restore [.ref (nw_a g 0), .int x1] I (fun r J => nw_cI l g 1 mX10_restore [.ref (nw_a g 219), .int x1] J (fun r' K => r = r' ∧ iv K)) := by
  obtain ⟨b, N, T, S, L, hw, hr, ht, hs, ha, hi⟩ := id h
  obtain ⟨kb0, i0⟩ := hi 0 (by decide)
  obtain ⟨kb1, i1⟩ := hi 1 (by decide)
  have hkk : ∀ k, k < 2 → iv_1 I b k (if k = 0 then kb0 else kb1) := fun k hk => by
    rcases (show k = 0 ∨ k = 1 by omega) with rfl | rfl
    · exact i0
    · exact i1
  refine (x_restore (kb := fun k => if k = 0 then kb0 else kb1) x1 (fun k hk => (hkk k hk).1) hw.2.2.1).mono (fun r J hJ => ?_)
  have J9 : ∀ k, ¬ (15 ≤ k ∧ k < 20) → ¬ (25 ≤ k ∧ k < 31) → k ≠ 37 → J k = I k := by
    rcases hJ with ⟨-, -, q⟩ | ⟨k, -, -, ⟨-, -, q⟩ | ⟨-, -, -, -, -, q⟩⟩
    · rw [q]; exact fun _ _ _ _ => rfl
    · rw [q]; exact fun _ _ _ _ => rfl
    · exact q
  refine (m_restore x1).mono (fun r' K hK => ?_)
  rcases hJ with ⟨c1, e1, eJ⟩ | ⟨k, k2, rfl, hJ⟩
  · rcases hK with ⟨-, e2, eK⟩ | ⟨k, k2, rfl, -⟩
    · rw [eK, eJ]; exact ⟨e1.trans e2.symm, h⟩
    · exact absurd (c1.symm.trans (nv_in_T (S := 2) (by decide) k2)) Bool.false_ne_true
  · rcases hK with ⟨d1, -⟩ | ⟨k', k2', ek, hK⟩
    · exact absurd (d1.symm.trans (nv_in_T (S := 2) (by decide) k2)) Bool.false_ne_true
    · obtain rfl : k = k' := (nI_eq (by omega) (by omega)).mp ek
      rw [J9 219 (by omega) (by omega) (by omega), J9 225 (by omega) (by omega) (by omega), J9 226 (by omega) (by omega) (by omega), J9 228 (by omega) (by omega) (by omega), J9 229 (by omega) (by omega) (by omega)] at hK
      obtain ⟨a1, a2, a3⟩ := hkk k k2
      rcases hJ with ⟨c1, e1, eJ⟩ | ⟨c1, e1, z1, z2, z3, fJ⟩
      · have c1 : (if k = 0 then kb0 else kb1) = false := c1
        rw [c1] at a2
        rcases hK with ⟨-, e2, eK⟩ | ⟨d1, -⟩
        · rw [eK, eJ]; exact ⟨e1.trans e2.symm, h⟩
        · exact absurd a2 d1
      · have c1 : (if k = 0 then kb0 else kb1) = true := c1
        rw [c1] at a2
        rcases hK with ⟨d1, -⟩ | ⟨-, e2, y1, y2, y3, fK⟩
        · rw [d1] at a2
          exact absurd a2 (by decide)
        · refine ⟨e1.trans e2.symm, ?_⟩
          obtain ⟨hb, N', T', S', b1, b2, b3, b4, b5, b6, b7⟩ := a3 c1
          have gK : ∀ q, q ≠ 219 → q ≠ 225 → q ≠ 226 → K q = J q := fK
          have g : ∀ q, ¬ (15 ≤ q ∧ q < 20) ∧ ¬ (25 ≤ q ∧ q < 31) ∧ q ≠ 37 ∧ q ≠ 219 ∧ q ≠ 225 ∧ q ≠ 226 → K q = I q := fun q hq => (fK q (by omega) (by omega) (by omega)).trans (fJ q (by omega) (by omega) (by omega))
          have g9 : ∀ j, j ≠ 14 → K 219 j = I 219 j := fun j hj => by rw [y3, pk_un hj]
          have cK : nv_cf K 15 = nv_cf I (196 + 12 * k) := by rw [nv_cf_ext (I := J) (fun q a1 a2 => gK q (by omega) (by omega) (by omega))]; exact z1
          have fKK : nv_fl K 25 = nv_fl I (201 + 12 * k) := by rw [nv_fl_ext (I := J) (fun q a1 a2 => gK q (by omega) (by omega) (by omega))]; exact z2
          have q := b6.1.2.2.2
          refine ⟨b, N', T', S', [], ⟨?_, ?_, z3.ext2 (fun q a1 a2 => gK q (by omega) (by omega) (by omega)), nm_acts_nil (by rw [y3, pk_us]), fun G hG => by simp at hG, fun q => absurd (q.symm.trans hb) Bool.false_ne_true⟩, hr.ext (fun q hq => g q (by omega)), ht.ext (by rw [g 13 (by omega)]) (g9 6 (by decide)) (g 14 (by omega)) (g 224 (by omega)), hs.ext (by rw [g 0 (by omega)]) (by rw [g 0 (by omega)]) (g9 7 (by decide)) (g9 3 (by decide)), ha.ext (by rw [g 192 (by omega)]) (g9 28 (by decide)) (g 193 (by omega)) (g 236 (by omega)), hi.ext (fun q hq => g q (by omega))⟩
          · exact ⟨by rw [g 0 (by omega)]; exact hw.1.1, by rw [cK]; exact b6.1, Or.inl ⟨hb, b1, b2, by rw [cK]; exact b3, by rw [fKK]; exact b4⟩⟩
          · rw [cK, fKK]
            refine ⟨?_, ⟨b6.1, fun i hi => ?_⟩, fun i hi => ?_, Or.inl ⟨hb, b1, b2, b3, b4⟩⟩
            · rw [y1]
              have := nm_mx_in (o := 0) (n := 55) (i := 0) (f := fun j => I 228 (84 * k + j)) (h := I 225) (by decide)
              rw [Nat.zero_add] at this
              rw [this, hb]
              exact b5
            · rw [y1]
              have := nm_mx_in (o := 0) (n := 55) (i := i) (f := fun j => I 228 (84 * k + j)) (h := I 225) (by unfold nl_c at hi; omega)
              rw [Nat.zero_add] at this
              rw [this]
              exact b6.2 i hi
            · rw [y2]
              have := nm_mx_in (o := 0) (n := 29) (i := i) (f := fun j => I 228 (84 * k + 55 + j)) (h := I 226) (by unfold nl_f at hi; omega)
              rw [Nat.zero_add] at this
              rw [this]
              exact b7 i hi
theorem st_sea (h : iv I) : nw_cI l g 5 mX9_sea [.ref (nw_a g 0)] I (fun r J => nw_cI l g 7 mX10_sea [.ref (nw_a g 219)] J (fun r' K => r = r' ∧ iv K)) := by
  obtain ⟨b, N, T, S, L, hw, hr, ht, hs, ha, hi⟩ := id h
  obtain ⟨n, n1, n2, n3, n4⟩ := ht
  refine (x_sea n2 n1 hw.2.2.1).mono (fun r J hJ => ?_)
  obtain ⟨fJ, j13, j12, hJ⟩ := hJ
  have J9 : ∀ k, 38 ≤ k → J k = I k := fun k hk => fJ k (by omega) (by omega) (by omega) (by omega)
  have ea : q_at n (J 224) = q_at n (I 14) := by
    funext i
    unfold q_at
    by_cases c : i < n
    · rw [if_pos c, if_pos c, J9 224 (by omega)]
      exact (n4 i c).1.symm
    · rw [if_neg c, if_neg c]
  refine (m_sea (a := q_at n (J 224)) n1 rfl (fun i hi => by rw [J9 224 (by omega)]; exact (n4 i hi).2) (by rw [J9 219 (by omega)]; exact n3) (nv_cf I 20) (nv_fl I 31)).mono (fun r' K hK => ?_)
  rw [ea] at hK
  rcases hJ with ⟨e, q, c1, e1, z1, z2, z3, z4, z5⟩ | ⟨N', T', S', C, F, c1, e1, z1, z2, z3, z4, z5⟩
  · rcases hK with ⟨e', q', d1, e2, y1, y2, f9, fK⟩ | ⟨N', T', S', C, F, d1, -⟩
    · rw [c1] at d1
      cases d1
      refine ⟨e1.trans e2.symm, ?_⟩
      have gK : ∀ k, k ≠ 219 ∧ k ≠ 227 ∧ k ≠ 231 ∧ k ≠ 232 → K k = J k := fun k hk => fK k (by omega) (by omega) (by omega) (by omega)
      have g : ∀ k, k ≠ 0 ∧ k ≠ 13 ∧ ¬ (15 ≤ k ∧ k < 38) ∧ k ≠ 219 ∧ k ≠ 227 ∧ k ≠ 231 ∧ k ≠ 232 → K k = I k := fun k hk => (gK k (by omega)).trans (fJ k (by omega) (by omega) (by omega) (by omega))
      have g9 : ∀ j, j < 6 ∨ (7 < j ∧ j < 15) ∨ 21 < j → K 219 j = I 219 j := fun j hj => by rw [f9 j hj, J9 219 (by omega)]
      have K0 : K 0 = J 0 := gK 0 (by omega)
      refine ⟨b, N, T, S, L, hw.ext2 (by rw [K0]; exact z2) ?_ ?_ (g9 14 (by omega)) (fun k hk => ?_), hr.ext (fun k hk => g k (by omega)), ⟨0, by decide, by rw [gK 13 (by omega), j13]; exact nI_0.symm, by rw [y2]; exact nI_0.symm, fun i hi => absurd hi (Nat.not_lt_zero i)⟩, ⟨by rw [K0, z1, y1], by rw [K0, j12, g9 3 (by omega)]; exact hs.2⟩, ha.ext (by rw [g 192 (by omega)]) (g9 28 (by omega)) (g 193 (by omega)) (g 236 (by omega)), hi.ext (fun k hk => g k (by omega))⟩
      · rw [nv_cf_ext (I := J) (fun q a1 a2 => gK q (by omega))]
        exact z3
      · rw [nv_fl_ext (I := J) (fun q a1 a2 => gK q (by omega))]
        exact z4
      · by_cases e37 : k = 37
        · rw [e37, gK 37 (by omega)]
          exact z5
        · exact g k (by omega)
    · rw [c1] at d1
      cases d1
  · rcases hK with ⟨e', q', d1, -⟩ | ⟨N2, T2, S2, C2, F2, d1, e2, y0, y1, y2, y3, y4, f9, fK⟩
    · rw [c1] at d1
      cases d1
    · rw [c1] at d1
      cases d1
      obtain ⟨a1, a2, a3, a4, -⟩ := q_all_ok c1
      have hsok := q_all_sok c1
      refine ⟨by rw [e1, e2]; exact a1.1, ?_⟩
      have gK : ∀ k, k ≠ 219 ∧ k ≠ 225 ∧ k ≠ 226 ∧ k ≠ 227 ∧ k ≠ 231 ∧ k ≠ 232 → K k = J k := fun k hk => fK k (by omega) (by omega) (by omega) (by omega) (by omega) (by omega)
      have g : ∀ k, k ≠ 0 ∧ k ≠ 13 ∧ ¬ (15 ≤ k ∧ k < 38) ∧ k ≠ 219 ∧ k ≠ 225 ∧ k ≠ 226 ∧ k ≠ 227 ∧ k ≠ 231 ∧ k ≠ 232 → K k = I k := fun k hk => (gK k (by omega)).trans (fJ k (by omega) (by omega) (by omega) (by omega))
      have g9 : ∀ j, j < 6 ∨ (6 < j ∧ j < 14) ∨ 21 < j → K 219 j = I 219 j := fun j hj => by rw [f9 j hj, J9 219 (by omega)]
      have K0 : K 0 = J 0 := gK 0 (by omega)
      have cK : nv_cf K 15 = C := by rw [nv_cf_ext (I := J) (fun q a1 a2 => gK q (by omega))]; exact z3
      have fKK : nv_fl K 25 = F := by rw [nv_fl_ext (I := J) (fun q a1 a2 => gK q (by omega))]; exact z4
      refine ⟨true, N', T', S', [], ⟨⟨by rw [K0]; exact z2, by rw [cK]; exact a1, Or.inl ⟨rfl, a2, a3, by rw [cK]; exact a4, by rw [fKK]; exact hsok⟩⟩, by rw [cK, fKK]; exact ⟨y0, y1, y2, Or.inl ⟨rfl, a2, a3, a4, hsok⟩⟩, z5.ext2 (fun q a1 a2 => gK q (by omega)), nm_acts_nil y3, fun G hG => by simp at hG, fun q => absurd q (by decide)⟩, hr.ext (fun k hk => g k (by omega)), ⟨0, by decide, by rw [gK 13 (by omega), j13]; exact nI_0.symm, by rw [y4]; exact nI_0.symm, fun i hi => absurd hi (Nat.not_lt_zero i)⟩, ⟨by rw [K0, z1, g9 7 (by omega)]; exact hs.1, by rw [K0, j12, g9 3 (by omega)]; exact hs.2⟩, ha.ext (by rw [g 192 (by omega)]) (g9 28 (by omega)) (g 193 (by omega)) (g 236 (by omega)), (hi.ext (fun k hk => g k (by omega))).up (fun _ => rfl)⟩
theorem nv_lvs_at : ∀ (bs : List Int32) (t : Nat) (J : nw_Me), J 192 1 = nI t → t + bs.length ≤ 16 → nv_lvs bs J 192 1 = nI (t + bs.length) ∧ (∀ i, i < t → nv_lvs bs J 193 i = J 193 i) ∧ ∀ i x, bs[i]? = some x → nv_lvs bs J 193 (t + i) = x
  | [], t, J, h, _ => ⟨h, fun _ _ => rfl, fun i x hx => by simp at hx⟩
  | y :: r, t, J, h, hl => by
    rw [List.length_cons] at hl
    have h1 : nv_lv J y 192 1 = nI (t + 1) := by unfold nv_lv; rw [nw_up_self, pk_us, h, nI_1]
    have h2 : nv_lv J y 193 = upd (J 193) t y := by unfold nv_lv; rw [nw_up_ne (by decide), nw_up_self, h, nI_clamp (by omega)]
    obtain ⟨a1, a2, a3⟩ := nv_lvs_at r (t + 1) (nv_lv J y) h1 (by omega)
    refine ⟨?_, fun i hi => ?_, fun i x hx => ?_⟩
    · rw [List.length_cons, show t + (r.length + 1) = t + 1 + r.length by omega]
      exact a1
    · exact (a2 i (by omega)).trans (by rw [h2, pk_un (by omega)])
    · cases i with
      | zero =>
        simp at hx
        subst hx
        exact (a2 t (by omega)).trans (by rw [h2, pk_us])
      | succ i =>
        rw [show t + (i + 1) = t + 1 + i by omega]
        exact a3 i x (by simpa using hx)
theorem nv_ask_len {k w : Nat} (h1 : 1 ≤ k) (h5 : k ≤ 5) (hw : w ≤ 1) (h lf sn : Int32) : (nv_ask k w h lf sn).2.length ≤ 16 := by
  rcases (show k = 1 ∨ k = 2 ∨ k = 3 ∨ k = 4 ∨ k = 5 by omega) with rfl | rfl | rfl | rfl | rfl <;> rcases (show w = 0 ∨ w = 1 by omega) with rfl | rfl <;> exact Nat.le_of_ble_eq_true rfl
theorem st_ask (h : iv I) (x1 x2 : Int32) : nw_cI l g 9 mX9_ask [.ref (nw_a g 0), .int x1, .int x2] I (fun r J => nw_cI l g 5 mX10_ask [.ref (nw_a g 219), .int x1, .int x2] J (fun r' K => r = r' ∧ iv K)) := by
  obtain ⟨b, N, T, S, L, hw, hr, ht, hs, ha, hi⟩ := id h
  have hN2 : N ≤ 20 := hw.1.2.1.2.2.2.1
  refine (x_ask hw.1 x1 x2).mono (fun r J hJ => ?_)
  have J9 : ∀ k, k ≠ 192 → k ≠ 193 → J k = I k := by
    rcases hJ with ⟨-, -, q⟩ | ⟨s, k, w0, J0, -, -, -, -, -, -, -, -, -, q1, q⟩
    · rw [q]; exact fun _ _ _ => rfl
    · intro j a1 a2
      rw [q, nv_lvs_ne _ _ a1 a2]
      exact q1 j a1
  refine (m_ask (hw.2.1.ext (J9 225 (by omega) (by omega)) (J9 226 (by omega) (by omega))) x1 x2).mono (fun r' K hK => ?_)
  rcases hJ with ⟨c1, e1, eJ⟩ | ⟨s, k, w0, J0, s1, rfl, rfl, w1, k1, k5, ck, e1, z1, z2, eJ⟩
  · rcases hK with ⟨-, e2, eK⟩ | ⟨s, k, w0, s1, rfl, rfl, w1, -⟩
    · rw [eK, eJ]; exact ⟨e1.trans e2.symm, h⟩
    · rcases c1 with c | c
      · exact absurd (c.symm.trans (nv_in_T (by omega) s1)) Bool.false_ne_true
      · exact absurd (c.symm.trans (nv_in_T (S := 2) (by decide) (by omega))) Bool.false_ne_true
  · rcases hK with ⟨c, -⟩ | ⟨s', k', w0', s1', es, ew, w1', k1', k5', dk, e2, y1, y2⟩
    · rcases c with c | c
      · exact absurd (c.symm.trans (nv_in_T (by omega) s1)) Bool.false_ne_true
      · exact absurd (c.symm.trans (nv_in_T (S := 2) (by decide) (by omega))) Bool.false_ne_true
    · obtain rfl : s = s' := (nI_eq (by omega) (by omega)).mp es
      obtain rfl : w0 = w0' := (nI_eq (by omega) (by omega)).mp ew
      obtain rfl : k = k' := (nI_eq (by omega) (by omega)).mp (ck.symm.trans dk)
      refine ⟨e1.trans e2.symm, ?_⟩
      have hl := nv_ask_len k1 k5 w1 (nv_cf I 15 (26 + s)) (nv_lift (nI k) (nv_cf I 15 (26 + s))) (nI s)
      obtain ⟨a1, -, a3⟩ := nv_lvs_at (nv_ask k w0 (nv_cf I 15 (26 + s)) (nv_lift (nI k) (nv_cf I 15 (26 + s))) (nI s)).2 0 J0 (by rw [z1]; exact nI_0.symm) (by omega)
      rw [← eJ] at a1 a3
      obtain ⟨f9, fK⟩ := y2
      have g : ∀ q, q ≠ 192 ∧ q ≠ 193 ∧ q ≠ 219 ∧ q ≠ 236 → K q = I q := fun q hq => (fK q (by omega) (by omega)).trans (J9 q (by omega) (by omega))
      have g9 : ∀ j, j ≠ 28 → K 219 j = I 219 j := fun j hj => by rw [f9 j hj, J9 219 (by omega) (by omega)]
      refine ⟨b, N, T, S, L, hw.ext (by rw [g 0 (by omega)]) (g9 14 (by omega)) (fun q hq => g q (by omega)), hr.ext (fun q hq => g q (by omega)), ht.ext (by rw [g 13 (by omega)]) (g9 6 (by omega)) (g 14 (by omega)) (g 224 (by omega)), hs.ext (by rw [g 0 (by omega)]) (by rw [g 0 (by omega)]) (g9 7 (by omega)) (g9 3 (by omega)), ⟨_, hl, ?_, y1.1, fun i hi => ?_⟩, hi.ext (fun q hq => g q (by omega))⟩
      · rw [fK 192 (by omega) (by omega), a1, Nat.zero_add]
      · have hx : (nv_ask k w0 (nv_cf I 15 (26 + s)) (nv_lift (nI k) (nv_cf I 15 (26 + s))) (nI s)).2[i]? = some ((nv_ask k w0 (nv_cf I 15 (26 + s)) (nv_lift (nI k) (nv_cf I 15 (26 + s))) (nI s)).2[i]) := List.getElem?_eq_getElem hi
        have := a3 i _ hx
        rw [Nat.zero_add] at this
        rw [fK 193 (by omega) (by omega), this, y1.2 i _ hx]
end
