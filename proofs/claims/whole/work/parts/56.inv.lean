/-! What ties the class to the reference between two calls. -/
def iv_W (I : nw_Me) (b : Bool) (N T S : Nat) (L : List (Nat → Int32)) : Prop := nv_W I b N T S ∧ nm_W I b N T S (nv_cf I 15) (nv_fl I 25) ∧ nv_acts I L ∧ nm_acts I T S L ∧ (∀ G ∈ L, nv_sok T S G) ∧ (b = false → L = [] ∧ I 226 1 = 0 ∧ nv_fl I 25 0 = 0)
def iv_R (I : nw_Me) : Prop := ∀ r, r < 8 → (I 3 r = -1 ∧ I 220 r < 0) ∨ ∃ m, m ≤ 40 ∧ I 3 r = nI m ∧ I 221 r = nI m ∧ I 220 r = I 2 r ∧ ¬ I 2 r < 0 ∧ ∀ i, i < m → I 222 (40 * r + i) = I (5 + r) i
def iv_T (I : nw_Me) : Prop := ∃ n, n ≤ 160 ∧ I 13 1 = nI n ∧ I 219 6 = nI n ∧ ∀ i, i < n → I 14 i = I 224 i ∧ ¬ I 224 i = -1
def iv_S (I : nw_Me) : Prop := I 0 11 = I 219 7 ∧ I 0 12 = I 219 3
def iv_A (I : nw_Me) : Prop := ∃ t, t ≤ 16 ∧ I 192 1 = nI t ∧ I 219 28 = nI t ∧ ∀ i, i < t → I 193 i = I 236 i
def iv_1 (I : nw_Me) (b : Bool) (k : Nat) (kb : Bool) : Prop := I (195 + 12 * k) 2 = nw_bi kb ∧ I 229 k = nw_bi kb ∧ (kb = true → b = true ∧ ∃ N T S, 0 < N ∧ 0 < T ∧ nv_kok N (nv_cf I (196 + 12 * k)) ∧ nv_sok T S (nv_fl I (201 + 12 * k)) ∧ I 228 (84 * k) = 1 ∧ nl_C N T S (nv_cf I (196 + 12 * k)) (fun j => I 228 (84 * k + j)) ∧ nl_F T S (nv_fl I (201 + 12 * k)) (fun j => I 228 (84 * k + 55 + j)))
def iv_I (I : nw_Me) (b : Bool) : Prop := ∀ k, k < 2 → ∃ kb, iv_1 I b k kb
def iv (I : nw_Me) : Prop := ∃ b N T S L, iv_W I b N T S L ∧ iv_R I ∧ iv_T I ∧ iv_S I ∧ iv_A I ∧ iv_I I b
section
variable {I J K : nw_Me} {b : Bool} {N T S : Nat} {L : List (Nat → Int32)}
theorem nv_acts.ext2 (h : nv_acts I L) (e : ∀ k, 37 ≤ k → k < 183 → K k = I k) : nv_acts K L := by
  obtain ⟨j, j1, j2, j3, j4, j5⟩ := h
  refine ⟨j, j1, by rw [e 37 (by omega) (by omega)]; exact j2, by rw [e 37 (by omega) (by omega)]; exact j3, j4, fun i F hF => ?_⟩
  have hm : (j + 23 - i) % 24 < 24 := Nat.mod_lt _ (by decide)
  rw [nv_fl_ext (I := I) (fun k h1 h2 => e k (by omega) (by omega))]
  exact j5 i F hF
theorem iv_W.ext2 (h : iv_W I b N T S L) (e0 : K 0 10 = I 0 10) (c : nv_cf K 15 = nv_cf I 15) (f : nv_fl K 25 = nv_fl I 25) (e14 : K 219 14 = I 219 14) (e : ∀ k, (37 ≤ k ∧ k < 183) ∨ k = 225 ∨ k = 226 ∨ k = 230 → K k = I k) : iv_W K b N T S L := by
  obtain ⟨h1, h2, h3, h4, h5, h6⟩ := h
  refine ⟨?_, ?_, h3.ext2 (fun k a c => e k (by omega)), h4.ext e14 (e 230 (by omega)), h5, fun hb => ?_⟩
  · unfold nv_W at h1 ⊢
    rw [e0, c, f]
    exact h1
  · rw [c, f]
    exact h2.ext (e 225 (by omega)) (e 226 (by omega))
  · obtain ⟨a1, a2, a3⟩ := h6 hb
    exact ⟨a1, by rw [e 226 (by omega)]; exact a2, by rw [f]; exact a3⟩
theorem iv_W.ext (h : iv_W I b N T S L) (e0 : K 0 10 = I 0 10) (e14 : K 219 14 = I 219 14) (e : ∀ k, (15 ≤ k ∧ k < 20) ∨ (25 ≤ k ∧ k < 31) ∨ (37 ≤ k ∧ k < 183) ∨ k = 225 ∨ k = 226 ∨ k = 230 → K k = I k) : iv_W K b N T S L :=
  h.ext2 e0 (nv_cf_ext (fun k h1 h2 => e k (by omega))) (nv_fl_ext (fun k h1 h2 => e k (by omega))) e14 (fun k hk => e k (by omega))
theorem iv_R.ext (h : iv_R I) (e : ∀ k, k = 2 ∨ k = 3 ∨ (5 ≤ k ∧ k < 13) ∨ k = 220 ∨ k = 221 ∨ k = 222 → K k = I k) : iv_R K := fun r hr => by
  rw [e 2 (by omega), e 3 (by omega), e (5 + r) (by omega), e 220 (by omega), e 221 (by omega), e 222 (by omega)]
  exact h r hr
theorem iv_T.ext (h : iv_T I) (e1 : K 13 1 = I 13 1) (e2 : K 219 6 = I 219 6) (e3 : K 14 = I 14) (e4 : K 224 = I 224) : iv_T K := by
  unfold iv_T at h ⊢
  rw [e1, e2, e3, e4]
  exact h
theorem iv_S.ext (h : iv_S I) (e1 : K 0 11 = I 0 11) (e2 : K 0 12 = I 0 12) (e3 : K 219 7 = I 219 7) (e4 : K 219 3 = I 219 3) : iv_S K := by
  unfold iv_S at h ⊢
  rw [e1, e2, e3, e4]
  exact h
theorem iv_A.ext (h : iv_A I) (e1 : K 192 1 = I 192 1) (e2 : K 219 28 = I 219 28) (e3 : K 193 = I 193) (e4 : K 236 = I 236) : iv_A K := by
  unfold iv_A at h ⊢
  rw [e1, e2, e3, e4]
  exact h
theorem iv_1.ext {k : Nat} {kb : Bool} (h : iv_1 I b k kb) (e : ∀ q, (195 + 12 * k ≤ q ∧ q < 207 + 12 * k) → K q = I q) (e1 : K 229 k = I 229 k) (e2 : ∀ j, j < 84 → K 228 (84 * k + j) = I 228 (84 * k + j)) : iv_1 K b k kb := by
  have c : nv_cf K (196 + 12 * k) = nv_cf I (196 + 12 * k) := nv_cf_ext (fun k h1 h2 => e k (by omega))
  have f : nv_fl K (201 + 12 * k) = nv_fl I (201 + 12 * k) := nv_fl_ext (fun k h1 h2 => e k (by omega))
  obtain ⟨h1, h2, h3⟩ := h
  refine ⟨by rw [e _ (by omega)]; exact h1, by rw [e1]; exact h2, fun hk => ?_⟩
  obtain ⟨hb, N, T, S, a1, a2, a3, a4, a5, a6, a7⟩ := h3 hk
  refine ⟨hb, N, T, S, a1, a2, by rw [c]; exact a3, by rw [f]; exact a4, ?_, ?_, ?_⟩
  · have := e2 0 (by decide)
    rw [Nat.add_zero] at this
    rw [this]
    exact a5
  · rw [c]
    have q := a6.1.2.2.2
    refine ⟨a6.1, fun i hi => ?_⟩
    show K 228 (84 * k + i) = _
    rw [e2 i (by unfold nl_c at hi; omega)]
    exact a6.2 i hi
  · rw [f]
    have q := a6.1.2.2.2
    intro i hi
    show K 228 (84 * k + 55 + i) = _
    have := e2 (55 + i) (by unfold nl_f at hi; omega)
    rw [← Nat.add_assoc] at this
    rw [this]
    exact a7 i hi
theorem iv_I.ext (h : iv_I I b) (e : ∀ k, (195 ≤ k ∧ k < 219) ∨ k = 228 ∨ k = 229 → K k = I k) : iv_I K b := fun k hk => by
  obtain ⟨kb, h1⟩ := h k hk
  exact ⟨kb, h1.ext (fun q hq => e q (by omega)) (by rw [e 229 (by omega)]) (fun j _ => by rw [e 228 (by omega)])⟩
theorem iv_I.up {c : Bool} (h : iv_I I b) (hc : b = true → c = true) : iv_I I c := fun k hk => by
  obtain ⟨kb, h1, h2, h3⟩ := h k hk
  exact ⟨kb, h1, h2, fun q => ⟨hc (h3 q).1, (h3 q).2⟩⟩
/-- nothing but scratch has changed -/
theorem iv.q (h : iv I) (e : ∀ k, ¬ (20 ≤ k ∧ k < 25) → ¬ (31 ≤ k ∧ k < 37) → ¬ (183 ≤ k ∧ k ≤ 191) → ¬ (233 ≤ k ∧ k ≤ 235) → K k = I k) : iv K := by
  obtain ⟨b, N, T, S, L, h1, h2, h3, h4, h5, h6⟩ := h
  have g : ∀ k, ¬ ((20 ≤ k ∧ k < 25) ∨ (31 ≤ k ∧ k < 37) ∨ (183 ≤ k ∧ k ≤ 191) ∨ (233 ≤ k ∧ k ≤ 235)) → K k = I k := fun k hk => e k (by omega) (by omega) (by omega) (by omega)
  exact ⟨b, N, T, S, L, h1.ext (by rw [g 0 (by omega)]) (by rw [g 219 (by omega)]) (fun k hk => g k (by omega)), h2.ext (fun k hk => g k (by omega)), h3.ext (by rw [g 13 (by omega)]) (by rw [g 219 (by omega)]) (g 14 (by omega)) (g 224 (by omega)), h4.ext (by rw [g 0 (by omega)]) (by rw [g 0 (by omega)]) (by rw [g 219 (by omega)]) (by rw [g 219 (by omega)]), h5.ext (by rw [g 192 (by omega)]) (by rw [g 219 (by omega)]) (g 193 (by omega)) (g 236 (by omega)), h6.ext (fun k hk => g k (by omega))⟩
/-- an act: the scene and the acts have changed, on both sides alike -/
theorem iv.act {F' : Nat → Int32} {L' : List (Nat → Int32)} (hw : iv_W I b N T S L) (hr : iv_R I) (ht : iv_T I) (hs : iv_S I) (ha : iv_A I) (hi : iv_I I b) (hb : b = true) (hJ : nv_mf I J) (hF : nv_fl J 25 = F') (hA : nv_acts J L') (hM : nm_mf J K) (hG : nl_F T S F' (K 226)) (hB : nm_acts K T S L') (hsk : nv_sok T S F') (hL : ∀ G ∈ L', nv_sok T S G) : iv K := by
  have gJ : ∀ k, k ≠ 219 → k ≠ 226 → k ≠ 230 → k ≠ 233 → K k = J k := hM.2
  have g : ∀ k, (k < 25 ∨ (31 ≤ k ∧ k < 37) ∨ 183 ≤ k) ∧ k ≠ 219 ∧ k ≠ 226 ∧ k ≠ 230 ∧ k ≠ 233 → K k = I k := fun k h1 => (hM.2 k (by omega) (by omega) (by omega) (by omega)).trans (hJ k h1.1)
  have g9 : ∀ j, j ≠ 14 → K 219 j = I 219 j := fun j hj => by rw [hM.1 j hj, hJ 219 (by omega)]
  have c : nv_cf K 15 = nv_cf I 15 := nv_cf_ext (fun k h1 h2 => g k (by omega))
  have f : nv_fl K 25 = F' := by rw [nv_fl_ext (I := J) (fun k h1 h2 => gJ k (by omega) (by omega) (by omega) (by omega))]; exact hF
  obtain ⟨-, h0, h0T, hk, hsok⟩ := hw.2.1.sea (Or.inr (Or.inr (Or.inr hb)))
  refine ⟨b, N, T, S, L', ⟨?_, ?_, hA.ext2 (fun k h1 h2 => gJ k (by omega) (by omega) (by omega) (by omega)), hB, hL, fun q => absurd (q.symm.trans hb) Bool.false_ne_true⟩, hr.ext (fun k hk => g k (by omega)), ht.ext (by rw [g 13 (by omega)]) (g9 6 (by decide)) (g 14 (by omega)) (g 224 (by omega)), hs.ext (by rw [g 0 (by omega)]) (by rw [g 0 (by omega)]) (g9 7 (by decide)) (g9 3 (by decide)), ha.ext (by rw [g 192 (by omega)]) (g9 28 (by decide)) (g 193 (by omega)) (g 236 (by omega)), hi.ext (fun k hk => g k (by omega))⟩
  · exact ⟨by rw [g 0 (by omega)]; exact hw.1.1, by rw [c]; exact hw.1.2.1, Or.inl ⟨hb, h0, h0T, by rw [c]; exact hk, by rw [f]; exact hsk⟩⟩
  · rw [c, f]
    exact ⟨by rw [g 225 (by omega)]; exact hw.2.1.1, by rw [g 225 (by omega)]; exact hw.2.1.2.1, hG, Or.inl ⟨hb, h0, h0T, hk, hsk⟩⟩
/-- only the finding has changed, on both sides alike -/
theorem iv.fd (h : iv I) (x : Int32) : iv (nw_up (nw_up I 0 12 x) 219 3 x) := by
  obtain ⟨b, N, T, S, L, h1, h2, h3, h4, h5, h6⟩ := h
  have g : ∀ k, k ≠ 0 → k ≠ 219 → nw_up (nw_up I 0 12 x) 219 3 x k = I k := fun k a c => by rw [nw_up_ne c, nw_up_ne a]
  have g0 : ∀ j, j ≠ 12 → nw_up (nw_up I 0 12 x) 219 3 x 0 j = I 0 j := fun j hj => by rw [nw_up_ne (by decide), nw_up_self, pk_un hj]
  have g9 : ∀ j, j ≠ 3 → nw_up (nw_up I 0 12 x) 219 3 x 219 j = I 219 j := fun j hj => by rw [nw_up_self, pk_un hj, nw_up_ne (by decide)]
  refine ⟨b, N, T, S, L, h1.ext (g0 10 (by decide)) (g9 14 (by decide)) (fun k hk => g k (by omega) (by omega)), h2.ext (fun k hk => g k (by omega) (by omega)), h3.ext (by rw [g 13 (by decide) (by decide)]) (g9 6 (by decide)) (g 14 (by decide) (by decide)) (g 224 (by decide) (by decide)), ⟨?_, ?_⟩, h5.ext (by rw [g 192 (by decide) (by decide)]) (g9 28 (by decide)) (g 193 (by decide) (by decide)) (g 236 (by decide) (by decide)), h6.ext (fun k hk => g k (by omega) (by omega))⟩
  · rw [g0 11 (by decide), g9 7 (by decide)]
    exact h4.1
  · rw [nw_up_ne (by decide), nw_up_self, nw_up_self, pk_us, pk_us]
end
