section
variable {l : Launch} {g : nw_G} {I : nw_Me} {C F F' : Nat → Int32} {N T S : Nat} {L : List (Nat → Int32)}
theorem nv_sok.ext (h : nv_sok T S F) (hS : S ≤ 6) (e : ∀ i, i = 0 ∨ i = 1 ∨ (5 ≤ i ∧ i < 17) → F' i = F i) : nv_sok T S F' := by
  obtain ⟨h1, h2, h3, h4, h5⟩ := h
  refine ⟨fun p hp => by rw [e _ (by omega)]; exact h1 p hp, fun p q hp hq => by rw [e _ (by omega), e _ (by omega)]; exact h2 p q hp hq, by rw [e 0 (by omega)]; exact h3, by rw [e 1 (by omega)]; exact h4, fun s hs => by rw [e _ (by omega)]; exact h5 s hs⟩
theorem nv_sok.take (h : nv_sok T S F) (hL : ∀ G ∈ L, nv_sok T S G) : ∀ G ∈ (F :: L).take 24, nv_sok T S G := fun G hG => by
  rcases List.mem_cons.mp (List.mem_of_mem_take hG) with rfl | q
  · exact h
  · exact hL G q
theorem nv_sok.lw (h : nv_sok T S F) {k : Nat} (h2 : 2 ≤ k) (h12 : k ≤ 12) : nv_sok T S (upd F 1 (nI k)) := by
  obtain ⟨h1, h3, h4, -, h5⟩ := h
  exact ⟨fun p hp => by rw [pk_un (by omega)]; exact h1 p hp, fun p q hp hq => by rw [pk_un (by omega), pk_un (by omega)]; exact h3 p q hp hq, by rw [pk_un (by omega)]; exact h4, ⟨k, h2, h12, pk_us⟩, fun s hs => by rw [pk_un (by omega)]; exact h5 s hs⟩
theorem nv_sok.hd (h : nv_sok T S F) (hS : S ≤ 6) {s t : Nat} (hs : s < S) (ht : t < T) : nv_sok T S (upd F (11 + s) (nI t)) := by
  obtain ⟨h1, h3, h4, h6, h5⟩ := h
  refine ⟨fun p hp => by rw [pk_un (by omega)]; exact h1 p hp, fun p q hp hq => by rw [pk_un (by omega), pk_un (by omega)]; exact h3 p q hp hq, by rw [pk_un (by omega)]; exact h4, by rw [pk_un (by omega)]; exact h6, fun u hu => ?_⟩
  by_cases e : u = s
  · rw [e]
    exact ⟨t, ht, pk_us⟩
  · rw [pk_un (by omega)]
    exact h5 u hu
theorem nv_sok.ch (h : nv_sok T S F) (hS : S ≤ 6) {s t : Nat} (hs : s < S) (ht : t < S) (hst : s ≠ t) : nv_sok T S (upd (upd F (5 + p_place F (nI s) 6 0) (nI t)) (5 + p_place F (nI t) 6 0) (nI s)) := by
  obtain ⟨a1, a2, a3⟩ := h.pl hS hs
  obtain ⟨c1, c2, c3⟩ := h.pl hS ht
  generalize p_place F (nI s) 6 0 = u at *
  generalize p_place F (nI t) 6 0 = v at *
  have huv : u ≠ v := fun e => hst ((nI_eq (by omega) (by omega)).mp (by rw [← a2, ← c2, e]))
  have key : ∀ p, p < S → (p = v ∧ upd (upd F (5 + u) (nI t)) (5 + v) (nI s) (5 + p) = nI s) ∨ (p = u ∧ upd (upd F (5 + u) (nI t)) (5 + v) (nI s) (5 + p) = nI t) ∨ (p ≠ u ∧ p ≠ v ∧ upd (upd F (5 + u) (nI t)) (5 + v) (nI s) (5 + p) = F (5 + p)) := fun p hp => by
    by_cases e : p = v
    · exact Or.inl ⟨e, by rw [e, pk_us]⟩
    · by_cases e2 : p = u
      · exact Or.inr (Or.inl ⟨e2, by rw [pk_un (by omega), e2, pk_us]⟩)
      · exact Or.inr (Or.inr ⟨e2, e, by rw [pk_un (by omega), pk_un (by omega)]⟩)
  obtain ⟨h1, h3, h4, h6, h5⟩ := h
  have h4' : ∃ v, v ≤ 999 ∧ F 0 = nI v := h4
  refine ⟨fun p hp => ?_, fun p q hp hq e => ?_, by rw [pk_un (by omega), pk_un (by omega)]; exact h4, by rw [pk_un (by omega), pk_un (by omega)]; exact h6, fun x hx => by rw [pk_un (by omega), pk_un (by omega)]; exact h5 x hx⟩
  · rcases key p hp with ⟨-, q⟩ | ⟨-, q⟩ | ⟨-, -, q⟩
    · exact ⟨s, hs, q⟩
    · exact ⟨t, ht, q⟩
    · rw [q]
      exact h1 p hp
  · have ne : ¬ nI s = nI t := fun e => hst ((nI_eq (by omega) (by omega)).mp e)
    rcases key p hp with ⟨p1, q1⟩ | ⟨p1, q1⟩ | ⟨p1, p2, q1⟩ <;> rcases key q hq with ⟨r1, w1⟩ | ⟨r1, w1⟩ | ⟨r1, r2, w1⟩ <;> rw [q1, w1] at e
    · omega
    · exact absurd e ne
    · exact absurd (a3 q hq e.symm) r1
    · exact absurd e.symm ne
    · omega
    · exact absurd (c3 q hq e.symm) r2
    · exact absurd (a3 p hp e) p1
    · exact absurd (c3 p hp e) p2
    · exact h3 p q hp hq e
theorem p_tow_mid (C : Nat → Int32) (S : Nat) (k w : Int32) {i : Nat} (h5 : 5 ≤ i) (h17 : i < 17) : ∀ (n t : Nat) (F : Nat → Int32), t + n ≤ 3 → p_tow C S k w n t F i = F i
  | 0, _, _, _ => rfl
  | n + 1, t, F, h => (p_tow_mid C S k w h5 h17 n (t + 1) (p_turn C S k w t F) (by omega)).trans (p_turn_at C S k w t F h17 (by omega))
theorem p_by_sok (h : nv_sok T S F) (hS : S ≤ 6) (hT : T ≤ 3) {v : Nat} (hv : F 0 = nI v) (h9 : v + 1 ≤ 999) : nv_sok T S (p_by C T S F) := by
  have e : ∀ i, 5 ≤ i → i < 17 → p_by C T S F i = F i := fun i a c => by
    unfold p_by p_come
    rw [pk_un (by omega)]
    exact p_tow_mid _ _ _ _ a c _ _ _ (by omega)
  obtain ⟨h1, h3, h4, h6, h5⟩ := h
  refine ⟨fun p hp => by rw [e _ (by omega) (by omega)]; exact h1 p hp, fun p q hp hq => by rw [e _ (by omega) (by omega), e _ (by omega) (by omega)]; exact h3 p q hp hq, ⟨v + 1, h9, by rw [p_by_0 C hT, hv, nI_1]⟩, by unfold p_by; rw [p_come_1]; exact h6, fun s hs => by rw [e _ (by omega) (by omega)]; exact h5 s hs⟩
theorem p_wk_sok (hS : S ≤ 6) (hT : T ≤ 3) : ∀ (m v : Nat) (F : Nat → Int32) (L : List (Nat → Int32)), nv_sok T S F → F 0 = nI v → v + m ≤ 999 → (∀ G ∈ L, nv_sok T S G) → nv_sok T S (p_pass C T S m F) ∧ ∀ G ∈ p_wk C T S m F L, nv_sok T S G
  | 0, _, _, _, h, _, _, hL => ⟨h, hL⟩
  | m + 1, v, F, L, h, hv, h9, hL => p_wk_sok hS hT m (v + 1) (p_by C T S F) ((F :: L).take 24) (p_by_sok h hS hT hv (by omega)) (by rw [p_by_0 C hT, hv, nI_1]) (by omega) (h.take hL)
theorem st_slip (h : iv I) (x1 x2 : Int32) : nw_cI l g 2 mX9_slip [.ref (nw_a g 0), .int x1, .int x2] I (fun r J => nw_cI l g 2 mX10_slip [.ref (nw_a g 219), .int x1, .int x2] J (fun r' K => r = r' ∧ iv K)) := by
  obtain ⟨b, N, T, S, L, hw, hr, ht, hs, ha, hi⟩ := id h
  have hN2 : N ≤ 20 := hw.1.2.1.2.2.2.1
  have hT3 : T ≤ 3 := hw.1.2.1.2.2.2.2.1
  have hS6 : S ≤ 6 := hw.1.2.1.2.2.2.2.2
  refine (x_slip hw.1 hw.2.2.1 x1 x2).mono (fun r J hJ => ?_)
  have fJ : nv_mf I J := by
    rcases hJ with ⟨-, -, q⟩ | ⟨t, -, -, -, -, -, -, q⟩
    · rw [q]; exact fun _ _ => rfl
    · exact q
  refine (m_slip (hw.2.1.ext (fJ 225 (by omega)) (fJ 226 (by omega))) (hw.2.2.2.1.ext (by rw [fJ 219 (by omega)]) (fJ 230 (by omega))) x1 x2).mono (fun r' K hK => ?_)
  rcases hJ with ⟨c1, e1, eJ⟩ | ⟨t, t1, rfl, c1, e1, q1, q2, q3⟩
  · rcases hK with ⟨-, e2, eK⟩ | ⟨t, t1, rfl, c2, -⟩
    · rw [eK, eJ]
      exact ⟨e1.trans e2.symm, h⟩
    · rw [nv_in_T (by omega) t1, c2] at c1
      exact absurd c1 (by decide)
  · rcases hK with ⟨c2, -⟩ | ⟨t', t2, et, c2, e2, k1, k2, k3⟩
    · rw [nv_in_T (by omega) t1, c1] at c2
      exact absurd c2 (by decide)
    · obtain rfl : t = t' := (nI_eq (by omega) (by omega)).mp et
      have hb := hw.2.1.sea (Or.inr (Or.inl (by omega)))
      exact ⟨e1.trans e2.symm, iv.act hw hr ht hs ha hi hb.1 q3 q1 q2 k3 k1 k2 (hb.2.2.2.2.ext hS6 (fun i hi => pk_un (by omega))) (hb.2.2.2.2.take hw.2.2.2.2.1)⟩
theorem st_law (h : iv I) (x1 : Int32) : nw_cI l g 2 mX9_law [.ref (nw_a g 0), .int x1] I (fun r J => nw_cI l g 1 mX10_law [.ref (nw_a g 219), .int x1] J (fun r' K => r = r' ∧ iv K)) := by
  obtain ⟨b, N, T, S, L, hw, hr, ht, hs, ha, hi⟩ := id h
  have hN2 : N ≤ 20 := hw.1.2.1.2.2.2.1
  have hT3 : T ≤ 3 := hw.1.2.1.2.2.2.2.1
  have hS6 : S ≤ 6 := hw.1.2.1.2.2.2.2.2
  refine (x_law hw.1 hw.2.2.1 x1).mono (fun r J hJ => ?_)
  have fJ : nv_mf I J := by
    rcases hJ with ⟨-, -, q⟩ | ⟨-, -, -, q⟩ | ⟨-, -, -, -, -, q⟩
    · rw [q]; exact fun _ _ => rfl
    · rw [q]; exact fun _ _ => rfl
    · exact q
  refine (m_law (hw.2.1.ext (fJ 225 (by omega)) (fJ 226 (by omega))) (hw.2.2.2.1.ext (by rw [fJ 219 (by omega)]) (fJ 230 (by omega))) x1).mono (fun r' K hK => ?_)
  rcases hJ with ⟨c1, e1, eJ⟩ | ⟨c1, c2, e1, eJ⟩ | ⟨c1, c2, e1, q1, q2, q3⟩
  · rcases hK with ⟨-, e2, eK⟩ | ⟨d1, -⟩ | ⟨d1, -⟩
    · rw [eK, eJ]; exact ⟨e1.trans e2.symm, h⟩
    · exact absurd (c1.symm.trans d1) Bool.false_ne_true
    · exact absurd (c1.symm.trans d1) Bool.false_ne_true
  · rcases hK with ⟨d1, -⟩ | ⟨-, -, e2, eK⟩ | ⟨-, d2, -⟩
    · exact absurd (d1.symm.trans c1) Bool.false_ne_true
    · rw [eK, eJ]; exact ⟨e1.trans e2.symm, h⟩
    · exact absurd (c2.symm.trans d2) Bool.false_ne_true
  · rcases hK with ⟨d1, -⟩ | ⟨-, d2, -⟩ | ⟨-, -, e2, k1, k2, k3⟩
    · exact absurd (d1.symm.trans c1) Bool.false_ne_true
    · exact absurd (d2.symm.trans c2) Bool.false_ne_true
    · have hb := hw.2.1.sea (Or.inr (Or.inr (Or.inr c1)))
      obtain ⟨k, kk1, kk2, rfl⟩ := nv_in_n (a := 2) (c := 12) c2 (by decide) (by decide)
      exact ⟨e1.trans e2.symm, iv.act hw hr ht hs ha hi c1 q3 q1 q2 k3 k1 k2 (hb.2.2.2.2.lw kk1 kk2) (hb.2.2.2.2.take hw.2.2.2.2.1)⟩
theorem st_change (h : iv I) (x1 x2 : Int32) : nw_cI l g 2 mX9_change [.ref (nw_a g 0), .int x1, .int x2] I (fun r J => nw_cI l g 2 mX10_change [.ref (nw_a g 219), .int x1, .int x2] J (fun r' K => r = r' ∧ iv K)) := by
  obtain ⟨b, N, T, S, L, hw, hr, ht, hs, ha, hi⟩ := id h
  have hN2 : N ≤ 20 := hw.1.2.1.2.2.2.1
  have hT3 : T ≤ 3 := hw.1.2.1.2.2.2.2.1
  have hS6 : S ≤ 6 := hw.1.2.1.2.2.2.2.2
  refine (x_change hw.1 hw.2.2.1 x1 x2).mono (fun r J hJ => ?_)
  have fJ : nv_mf I J := by
    rcases hJ with ⟨-, -, q⟩ | ⟨-, -, -, -, -, -, q⟩
    · rw [q]; exact fun _ _ => rfl
    · exact q
  refine (m_change (hw.2.1.ext (fJ 225 (by omega)) (fJ 226 (by omega))) (hw.2.2.2.1.ext (by rw [fJ 219 (by omega)]) (fJ 230 (by omega))) x1 x2).mono (fun r' K hK => ?_)
  rcases hJ with ⟨c1, e1, eJ⟩ | ⟨c1, c2, c3, e1, q1, q2, q3⟩
  · rcases hK with ⟨-, e2, eK⟩ | ⟨d1, d2, d3, -⟩
    · rw [eK, eJ]; exact ⟨e1.trans e2.symm, h⟩
    · rw [d1, d2, decide_eq_false d3] at c1
      exact absurd c1 (by decide)
  · rcases hK with ⟨d1, -⟩ | ⟨-, -, -, e2, k1, k2, k3⟩
    · rw [c1, c2, decide_eq_false c3] at d1
      exact absurd d1 (by decide)
    · obtain ⟨s, s1, rfl⟩ := nv_in_S (by omega) c1
      obtain ⟨t, t1, rfl⟩ := nv_in_S (by omega) c2
      have hb := hw.2.1.sea (Or.inl (by omega))
      exact ⟨e1.trans e2.symm, iv.act hw hr ht hs ha hi hb.1 q3 q1 q2 k3 k1 k2 (hb.2.2.2.2.ch hS6 s1 t1 (fun e => c3 (by rw [e]))) (hb.2.2.2.2.take hw.2.2.2.2.1)⟩
theorem st_heeds (h : iv I) (x1 x2 : Int32) : nw_cI l g 2 mX9_heeds [.ref (nw_a g 0), .int x1, .int x2] I (fun r J => nw_cI l g 2 mX10_heeds [.ref (nw_a g 219), .int x1, .int x2] J (fun r' K => r = r' ∧ iv K)) := by
  obtain ⟨b, N, T, S, L, hw, hr, ht, hs, ha, hi⟩ := id h
  have hN2 : N ≤ 20 := hw.1.2.1.2.2.2.1
  have hT3 : T ≤ 3 := hw.1.2.1.2.2.2.2.1
  have hS6 : S ≤ 6 := hw.1.2.1.2.2.2.2.2
  refine (x_heeds hw.1 hw.2.2.1 x1 x2).mono (fun r J hJ => ?_)
  have fJ : nv_mf I J := by
    rcases hJ with ⟨-, -, q⟩ | ⟨s, t, -, -, -, -, ⟨-, -, q⟩ | ⟨-, -, -, -, q⟩⟩
    · rw [q]; exact fun _ _ => rfl
    · rw [q]; exact fun _ _ => rfl
    · exact q
  refine (m_heeds (hw.2.1.ext (fJ 225 (by omega)) (fJ 226 (by omega))) (hw.2.2.2.1.ext (by rw [fJ 219 (by omega)]) (fJ 230 (by omega))) x1 x2).mono (fun r' K hK => ?_)
  rcases hJ with ⟨c1, e1, eJ⟩ | ⟨s, t, s1, t1, rfl, rfl, hJ⟩
  · rcases hK with ⟨-, e2, eK⟩ | ⟨s, t, s1, t1, rfl, rfl, -⟩
    · rw [eK, eJ]; exact ⟨e1.trans e2.symm, h⟩
    · rw [nv_in_T (by omega) s1, nv_in_T (by omega) t1] at c1
      exact absurd c1 (by decide)
  · rcases hK with ⟨c2, -⟩ | ⟨s', t', s2, t2, es, et, hK⟩
    · rw [nv_in_T (by omega) s1, nv_in_T (by omega) t1] at c2
      exact absurd c2 (by decide)
    · obtain rfl : s = s' := (nI_eq (by omega) (by omega)).mp es
      obtain rfl : t = t' := (nI_eq (by omega) (by omega)).mp et
      rcases hJ with ⟨c1, e1, eJ⟩ | ⟨c1, e1, q1, q2, q3⟩
      · rcases hK with ⟨-, e2, eK⟩ | ⟨d1, -⟩
        · rw [eK, eJ]; exact ⟨e1.trans e2.symm, h⟩
        · exact absurd d1 c1
      · rcases hK with ⟨d1, -⟩ | ⟨-, e2, k1, k2, k3⟩
        · exact absurd c1 d1
        · have hb := hw.2.1.sea (Or.inl (by omega))
          exact ⟨e1.trans e2.symm, iv.act hw hr ht hs ha hi hb.1 q3 q1 q2 k3 k1 k2 (hb.2.2.2.2.hd hS6 s1 t1) (hb.2.2.2.2.take hw.2.2.2.2.1)⟩
theorem st_undo (h : iv I) : nw_cI l g 2 mX9_undo [.ref (nw_a g 0)] I (fun r J => nw_cI l g 0 mX10_undo [.ref (nw_a g 219)] J (fun r' K => r = r' ∧ iv K)) := by
  obtain ⟨b, N, T, S, L, hw, hr, ht, hs, ha, hi⟩ := id h
  have hN2 : N ≤ 20 := hw.1.2.1.2.2.2.1
  have hT3 : T ≤ 3 := hw.1.2.1.2.2.2.2.1
  have hS6 : S ≤ 6 := hw.1.2.1.2.2.2.2.2
  refine (x_undo hw.2.2.1).mono (fun r J hJ => ?_)
  have fJ : nv_mf I J := by
    rcases hJ with ⟨-, -, q⟩ | ⟨F, L2, -, -, -, -, q⟩
    · rw [q]; exact fun _ _ => rfl
    · exact q
  refine (m_undo (hw.2.2.2.1.ext (by rw [fJ 219 (by omega)]) (fJ 230 (by omega))) hT3 hS6).mono (fun r' K hK => ?_)
  rcases hJ with ⟨c1, e1, eJ⟩ | ⟨F, L2, c1, e1, q1, q2, q3⟩
  · rcases hK with ⟨-, e2, eK⟩ | ⟨G, L3, c2, -⟩
    · rw [eK, eJ]; exact ⟨e1.trans e2.symm, h⟩
    · rw [c1] at c2; cases c2
  · rcases hK with ⟨c2, -⟩ | ⟨G, L3, c2, e2, k1, k2, k3⟩
    · rw [c1] at c2; cases c2
    · rw [c1] at c2
      cases c2
      have hb : b = true := by
        cases hb : b with
        | true => rfl
        | false => have := (hw.2.2.2.2.2 hb).1; rw [c1] at this; cases this
      have hL : ∀ G ∈ F :: L2, nv_sok T S G := by rw [← c1]; exact hw.2.2.2.2.1
      exact ⟨e1.trans e2.symm, iv.act hw hr ht hs ha hi hb q3 q1 q2 k3 k1 k2 (hL F List.mem_cons_self) (fun G hG => hL G (List.mem_cons_of_mem _ hG))⟩
theorem st_waves (h : iv I) (x1 : Int32) : nw_cI l g 4 mX9_waves [.ref (nw_a g 0), .int x1] I (fun r J => nw_cI l g 5 mX10_waves [.ref (nw_a g 219), .int x1] J (fun r' K => r = r' ∧ iv K)) := by
  obtain ⟨b, N, T, S, L, hw, hr, ht, hs, ha, hi⟩ := id h
  have hN2 : N ≤ 20 := hw.1.2.1.2.2.2.1
  have hT3 : T ≤ 3 := hw.1.2.1.2.2.2.2.1
  have hS6 : S ≤ 6 := hw.1.2.1.2.2.2.2.2
  refine (x_waves hw.1 hw.2.2.1 x1).mono (fun r J hJ => ?_)
  have fJ : nv_mf I J := by
    rcases hJ with ⟨-, -, q⟩ | ⟨-, -, -, q⟩ | ⟨v, m, -, -, -, -, -, -, -, ⟨-, -, q⟩ | ⟨-, -, -, -, q⟩⟩
    · rw [q]; exact fun _ _ => rfl
    · rw [q]; exact fun _ _ => rfl
    · rw [q]; exact fun _ _ => rfl
    · exact q
  refine (m_waves (hw.2.1.ext (fJ 225 (by omega)) (fJ 226 (by omega))) (hw.2.2.2.1.ext (by rw [fJ 219 (by omega)]) (fJ 230 (by omega))) x1).mono (fun r' K hK => ?_)
  rcases hJ with ⟨c1, e1, eJ⟩ | ⟨c1, c2, e1, eJ⟩ | ⟨v, m, c1, c2, rfl, m1, m2, v1, v2, hJ⟩
  · rcases hK with ⟨-, e2, eK⟩ | ⟨d1, -⟩ | ⟨v, m, d1, -⟩
    · rw [eK, eJ]; exact ⟨e1.trans e2.symm, h⟩
    · exact absurd (c1.symm.trans d1) Bool.false_ne_true
    · exact absurd (c1.symm.trans d1) Bool.false_ne_true
  · rcases hK with ⟨d1, -⟩ | ⟨-, -, e2, eK⟩ | ⟨v, m, d1, rfl, m1, m2, -⟩
    · exact absurd (d1.symm.trans c1) Bool.false_ne_true
    · rw [eK, eJ]; exact ⟨e1.trans e2.symm, h⟩
    · have q : nv_in (nI m) (nI 1) (nI 24) = true := by
        unfold nv_in
        rw [decide_eq_true (nI_nlt m1 (by omega)), decide_eq_true (nI_nlt m2 (by omega))]
        rfl
      exact absurd (c2.symm.trans q) Bool.false_ne_true
  · rcases hK with ⟨d1, -⟩ | ⟨-, d2, -⟩ | ⟨v', m', d1, em, -, mm2, vv1, v3, hK⟩
    · exact absurd (d1.symm.trans c1) Bool.false_ne_true
    · exact absurd (d2.symm.trans c2) Bool.false_ne_true
    · obtain rfl : m = m' := (nI_eq (by omega) (by omega)).mp em
      obtain rfl : v = v' := (nI_eq (by omega) (by omega)).mp (v2.symm.trans v3)
      rcases hJ with ⟨c3, e1, eJ⟩ | ⟨c3, e1, q1, q2, q3⟩
      · rcases hK with ⟨-, e2, eK⟩ | ⟨d3, -⟩
        · rw [eK, eJ]; exact ⟨e1.trans e2.symm, h⟩
        · omega
      · rcases hK with ⟨d3, -⟩ | ⟨-, e2, k1, k2, k3⟩
        · omega
        · have hb := hw.2.1.sea (Or.inr (Or.inr (Or.inr c1)))
          have hwk := p_wk_sok (C := nv_cf I 15) hS6 hT3 m v (nv_fl I 25) L hb.2.2.2.2 v2 c3 hw.2.2.2.2.1
          exact ⟨e1.trans e2.symm, iv.act hw hr ht hs ha hi c1 q3 q1 q2 k3 k1 k2 hwk.1 hwk.2⟩
theorem st_order (h : iv I) (x1 x2 : Int32) : nw_cI l g 4 mX9_order [.ref (nw_a g 0), .int x1, .int x2] I (fun r J => nw_cI l g 5 mX10_order [.ref (nw_a g 219), .int x1, .int x2] J (fun r' K => r = r' ∧ iv K)) := by
  obtain ⟨b, N, T, S, L, hw, hr, ht, hs, ha, hi⟩ := id h
  have hN2 : N ≤ 20 := hw.1.2.1.2.2.2.1
  have hT3 : T ≤ 3 := hw.1.2.1.2.2.2.2.1
  have hS6 : S ≤ 6 := hw.1.2.1.2.2.2.2.2
  refine (x_order hw.1 x1 x2).mono (fun r J hJ => ?_)
  obtain ⟨fJ, hJ⟩ := hJ
  refine (m_order (hw.2.1.ext (fJ 225 (by omega)) (fJ 226 (by omega))) x1 x2).mono (fun r' K hK => ?_)
  obtain ⟨fK, hK⟩ := hK
  refine ⟨?_, h.q (fun k a1 a2 a3 a4 => (fK k (by omega) (by omega) (by omega)).trans (fJ k (by omega)))⟩
  rcases hJ with ⟨c1, e1⟩ | ⟨c1, c2, e1⟩ | ⟨c1, c2, c3, P, hP, e1⟩
  · rcases hK with ⟨-, e2⟩ | ⟨d1, -⟩ | ⟨d1, -⟩
    · exact e1.trans e2.symm
    · exact absurd (c1.symm.trans d1) Bool.false_ne_true
    · exact absurd (c1.symm.trans d1) Bool.false_ne_true
  · rcases hK with ⟨d1, -⟩ | ⟨-, -, e2⟩ | ⟨-, d2, d3, -⟩
    · exact absurd (d1.symm.trans c1) Bool.false_ne_true
    · exact e1.trans e2.symm
    · rw [d2, d3] at c2
      exact absurd c2 (by decide)
  · rcases hK with ⟨d1, -⟩ | ⟨-, d2, -⟩ | ⟨-, -, -, e2⟩
    · exact absurd (d1.symm.trans c1) Bool.false_ne_true
    · rw [c2, c3] at d2
      exact absurd d2 (by decide)
    · obtain ⟨-, h0, h0T, hk, hsok⟩ := hw.2.1.sea (Or.inr (Or.inr (Or.inr c1)))
      obtain ⟨v, hv2, hv⟩ := hsok.2.2.1
      have key := b_full hS6 (ov := fun c => p_cnt (p_isf (p_pass (nv_cf I 15) T S x1.toNatClampNeg (o_put (b_P S c) S (nv_fl I 25))) 1) S 0) (oc := fun P => o_phi (I 19) (nv_fl I 25) P (fun t => (p_hear (nv_cf I 15) (nv_fl I 25 1) t x1.toNatClampNeg (nv_fl I 25 0).toNatClampNeg (nv_fl I 25 (2 + t)) 0 (I (185 + t))).1) (fun t => (p_hear (nv_cf I 15) (nv_fl I 25 1) t x1.toNatClampNeg (nv_fl I 25 0).toNatClampNeg (nv_fl I 25 (2 + t)) 0 (I (185 + t))).2) S 0 (fun _ => 0)) (K := p_cnt (p_isf (nv_fl I 25) 1) S 0) (Nat.le_trans (p_cnt_le S 0) hS6) (fun c P hc hP => by
        have e : o_put (b_P S c) S (nv_fl I 25) = o_put P S (nv_fl I 25) := by
          funext i
          unfold o_put
          by_cases hi : 5 ≤ i ∧ i < 5 + S
          · rw [if_pos hi, if_pos hi, hP (i - 5) (by omega)]
          · rw [if_neg hi, if_neg hi]
        have hv3 : (nv_fl I 25 0).toNatClampNeg = v := by rw [hv, nI_clamp (by omega)]
        have main := o_main (C := nv_cf I 15) (D := I 19) (F := nv_fl I 25) (P := P) (W := fun t => I (185 + t)) (n := x1.toNatClampNeg) hS6 hT3 hv hsok.2.2.2.2 (fun p hp => ⟨b_dg S c p, b_dg_lt hp, hP p hp⟩) (fun p q hp hq e => b_inj_spec hc hp hq (by
          rw [hP p hp, hP q hq] at e
          have l1 := b_dg_lt (S := S) (c := c) hp
          have l2 := b_dg_lt (S := S) (c := c) hq
          exact (nI_eq (by omega) (by omega)).mp e)) (fun s hs => (cf_dra I 15 (by omega)).symm)
        have le := p_cnt_le (f := p_isf (p_pass (nv_cf I 15) T S x1.toNatClampNeg (o_put P S (nv_fl I 25))) 1) S 0
        rw [hv3]
        refine ⟨?_, ?_⟩
        · show p_cnt (p_isf (p_pass (nv_cf I 15) T S x1.toNatClampNeg (o_put (b_P S c) S (nv_fl I 25))) 1) S 0 = _
          rw [e]
          exact main
        · omega) (J 235) (I 191) P hP
      by_cases hk1 : x2 = -1
      · rw [if_pos (by rw [hk1]; decide)] at e1
        rw [if_pos hk1] at e2
        rw [e1, e2]
        exact key.1.symm
      · obtain ⟨k0, k1, rfl⟩ := ord_k hS6 c3 hk1
        rw [if_neg (nI_pos (by omega))] at e1
        rw [if_neg hk1] at e2
        rw [e1, e2, nI_clamp (by omega)]
        exact (key.2 k0 k1).symm
theorem iv_R.sz (hr : iv_R I) : ∀ r, r < 8 → nv_sz (I 3 r) := fun r h8 => by
  rcases hr r h8 with ⟨q, -⟩ | ⟨m, m1, m2, -⟩
  · exact Or.inl q
  · exact Or.inr ⟨m, m1, m2⟩
theorem iv_R.ms {r : Nat} (hr : iv_R I) (h8 : r < 8) : I 3 r = -1 ↔ I 220 r < 0 := by
  rcases hr r h8 with ⟨q1, q2⟩ | ⟨m, m1, m2, m3, m4, m5, m6⟩
  · exact ⟨fun _ => q2, fun _ => q1⟩
  · refine ⟨fun q => ?_, fun q => ?_⟩
    · rw [m2] at q
      exact absurd (by rw [q]; decide) (nI_pos (n := m) (by omega))
    · rw [m4] at q
      exact absurd q m5
theorem iv_R.mz {r : Nat} (hr : iv_R I) (h8 : r < 8) (h : ¬ I 220 r < 0) : I 221 r = I 3 r ∧ ∃ m, m ≤ 40 ∧ I 221 r = nI m ∧ I 220 r = I 2 r ∧ ∀ i, i < m → I 222 (40 * r + i) = I (5 + r) i := by
  rcases hr r h8 with ⟨q1, q2⟩ | ⟨m, m1, m2, m3, m4, m5, m6⟩
  · exact absurd q2 h
  · exact ⟨by rw [m2, m3], m, m1, m3, m4, m6⟩
theorem st_log (h : iv I) (x1 x2 x3 x4 : Int32) : nw_cI l g 3 mX9_log [.ref (nw_a g 0), .int x1, .int x2, .int x3, .int x4] I (fun r J => nw_cI l g 2 mX10_log [.ref (nw_a g 219), .int x1, .int x2, .int x3, .int x4] J (fun r' K => r = r' ∧ iv K)) := by
  obtain ⟨b, N, T, S, L, hw, hr, ht, hs, ha, hi⟩ := id h
  have hN2 : N ≤ 20 := hw.1.2.1.2.2.2.1
  have hT3 : T ≤ 3 := hw.1.2.1.2.2.2.2.1
  have hS6 : S ≤ 6 := hw.1.2.1.2.2.2.2.2
  refine (x_log hw.1 hr.sz x1 x2 x3 x4).mono (fun r J hJ => ?_)
  have fJ : ∀ k, k ≠ 0 → J k = I k := by
    rcases hJ with ⟨-, -, q⟩ | ⟨-, -, -, q⟩ | ⟨-, -, -, r0, -, -, ⟨-, -, q⟩ | ⟨-, -, -, q⟩ | ⟨-, i0, n0, -, -, -, -, -, -, ⟨-, -, q⟩ | ⟨-, L, -, -, -, q⟩⟩⟩
    all_goals rw [q]; intro k hk; first | rfl | exact nw_up_ne hk
  have e9 : J 219 = I 219 := fJ 219 (by decide)
  refine (m_log (hw.2.1.ext (fJ 225 (by decide)) (fJ 226 (by decide))) (fun q => I (5 + q)) (p_it I) (fun q hq hn => by
    rw [fJ 220 (by decide)] at hn
    obtain ⟨z, m, m1, m2, m3, m4⟩ := hr.mz hq hn
    refine ⟨m, m1, by rw [fJ 221 (by decide)]; exact m2, fun k hk => ⟨by rw [fJ 222 (by decide)]; exact m4 k hk, ?_⟩⟩
    unfold p_it
    rw [← z, m2]
    exact if_pos (nv_has_of (n := 1) m1 hk)) x1 x2 x3 x4).mono (fun r' K hK => ?_)
  rcases hJ with ⟨c1, e1, eJ⟩ | ⟨c1, c2, e1, eJ⟩ | ⟨c1, c2, c3, r0, r8, rfl, hJ⟩
  · rcases hK with ⟨-, e2, eK⟩ | ⟨d1, -⟩ | ⟨d1, -⟩
    · rw [eK, eJ]; exact ⟨e1.trans e2.symm, h⟩
    · exact absurd (c1.symm.trans d1) Bool.false_ne_true
    · exact absurd (c1.symm.trans d1) Bool.false_ne_true
  · rcases hK with ⟨d1, -⟩ | ⟨-, -, e2, eK⟩ | ⟨-, d2, d3, r0, r8, rfl, -⟩
    · exact absurd (d1.symm.trans c1) Bool.false_ne_true
    · rw [eK, eJ]; exact ⟨e1.trans e2.symm, h⟩
    · rw [show nv_in (nI r0) 0 7 = true from nv_in_T (S := 8) (by decide) r8, d2, d3] at c2
      exact absurd c2 (by decide)
  · rcases hK with ⟨d1, -⟩ | ⟨-, d2, -⟩ | ⟨-, -, -, r1, r18, er, hK⟩
    · exact absurd (d1.symm.trans c1) Bool.false_ne_true
    · rw [show nv_in (nI r0) 0 7 = true from nv_in_T (S := 8) (by decide) r8, c2, c3] at d2
      exact absurd d2 (by decide)
    · obtain rfl : r0 = r1 := (nI_eq (by omega) (by omega)).mp er
      rw [fJ 220 (by decide), fJ 221 (by decide)] at hK
      have hms := hr.ms r8
      rcases hJ with ⟨c4, e1, eJ⟩ | ⟨c4, c5, e1, eJ⟩ | ⟨c4, i0, n0, rfl, rfl, n1, n2, i40, c5, hJ⟩
      · rcases hK with ⟨-, e2, eK⟩ | ⟨d4, -⟩ | ⟨d4, -⟩
        · rw [eK, eJ]; exact ⟨e1.trans e2.symm, h.fd 1⟩
        · exact absurd (hms.mp c4) d4
        · exact absurd (hms.mp c4) d4
      · rcases hK with ⟨d4, -⟩ | ⟨-, -, e2, eK⟩ | ⟨d4, d5, -⟩
        · exact absurd (hms.mpr d4) c4
        · rw [eK, eJ]; exact ⟨e1.trans e2.symm, h.fd 2⟩
        · rw [(hr.mz r8 d4).1] at d5
          exact absurd (c5.symm.trans d5) Bool.false_ne_true
      · rcases hK with ⟨d4, -⟩ | ⟨d4, d5, -⟩ | ⟨d4, -, j0, m0, ei, en, -, mm2, j40, hK⟩
        · exact absurd (hms.mpr d4) c4
        · rw [(hr.mz r8 d4).1] at d5
          exact absurd (d5.symm.trans c5) Bool.false_ne_true
        · obtain rfl : i0 = j0 := (nI_eq (by omega) (by omega)).mp ei
          obtain rfl : n0 = m0 := (nI_eq (by omega) (by omega)).mp en
          rcases hJ with ⟨c6, e1, eJ⟩ | ⟨c6, L1, l1, l2, e1, eJ⟩
          · rcases hK with ⟨-, e2, eK⟩ | ⟨d6, -⟩
            · rw [eK, eJ]; exact ⟨e1.trans e2.symm, h⟩
            · exact absurd (c6.symm.trans d6) Bool.false_ne_true
          · rcases hK with ⟨d6, -⟩ | ⟨-, L2, k1, k2, e2, eK⟩
            · exact absurd (d6.symm.trans c6) Bool.false_ne_true
            · obtain rfl : L1 = L2 := (nI_eq (by omega) (by omega)).mp (l2.symm.trans k2)
              rw [eK, eJ]
              exact ⟨e1.trans e2.symm, h.fd 0⟩
end
