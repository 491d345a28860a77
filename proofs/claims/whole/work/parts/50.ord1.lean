section
/-! The order: what the waves give, tower by tower, as lists. -/
def o_lst (C : Nat → Int32) (law : Int32) (t : Nat) : Nat → Nat → Int32 → List Int32
  | 0, _, _ => []
  | n + 1, w, c => if nv_calls c (p_more C (p_kind C (nI w)) t) law = true then p_wat C (nI w) :: o_lst C law t n (w + 1) (c + p_more C (p_kind C (nI w)) t) else o_lst C law t n (w + 1) (c + p_more C (p_kind C (nI w)) t)
def o_pop (ls : Nat → List Int32) (t : Nat) (r : List Int32) : Nat → List Int32 := fun j => if j = t then r else ls j
theorem o_pop_self (ls : Nat → List Int32) (t : Nat) (r : List Int32) : o_pop ls t r t = r := if_pos rfl
theorem o_pop_ne {ls : Nat → List Int32} {t j : Nat} {r : List Int32} (h : j ≠ t) : o_pop ls t r j = ls j := if_neg h
theorem o_pop_comm {ls : Nat → List Int32} {t u : Nat} {r q : List Int32} (h : t ≠ u) : o_pop (o_pop ls t r) u q = o_pop (o_pop ls u q) t r := by
  funext j
  unfold o_pop
  by_cases h1 : j = u
  · rw [if_pos h1, if_neg (by omega), if_pos h1]
  · rw [if_neg h1]
    by_cases h2 : j = t
    · rw [if_pos h2, if_pos h2]
    · rw [if_neg h2, if_neg h2, if_neg h1]
theorem o_pop_pop (ls : Nat → List Int32) (t : Nat) (r q : List Int32) : o_pop (o_pop ls t r) t q = o_pop ls t q := by
  funext j
  unfold o_pop
  by_cases h1 : j = t
  · rw [if_pos h1, if_pos h1]
  · rw [if_neg h1, if_neg h1, if_neg h1]
/-- the ship at a place, its tower -/
def o_s (G : Nat → Int32) (p : Nat) : Nat := (G (5 + p)).toNatClampNeg
def o_t (G : Nat → Int32) (p : Nat) : Nat := (G (11 + o_s G p)).toNatClampNeg
/-- how many more are over, by the waters that are left -/
def o_q (D G : Nat → Int32) : Nat → Nat → (Nat → List Int32) → Nat
  | 0, _, _ => 0
  | m + 1, p, ls => if G (17 + o_s G p) = 0 then (match ls (o_t G p) with
      | [] => o_q D G m (p + 1) ls
      | x :: r => (if x < D (o_s G p) then 0 else 1) + o_q D G m (p + 1) (o_pop ls (o_t G p) r)) else o_q D G m (p + 1) ls
theorem o_q_w {D G : Nat → Int32} {m p : Nat} {ls : Nat → List Int32} (h : ¬ G (17 + o_s G p) = 0) : o_q D G (m + 1) p ls = o_q D G m (p + 1) ls := by
  conv => lhs; unfold o_q
  rw [if_neg h]
theorem o_q_n {D G : Nat → Int32} {m p : Nat} {ls : Nat → List Int32} (h : ls (o_t G p) = []) : o_q D G (m + 1) p ls = o_q D G m (p + 1) ls := by
  conv => lhs; unfold o_q
  rw [h]
  split <;> rfl
theorem o_q_c {D G : Nat → Int32} {m p : Nat} {ls : Nat → List Int32} {x : Int32} {r : List Int32} (h : G (17 + o_s G p) = 0) (hl : ls (o_t G p) = x :: r) : o_q D G (m + 1) p ls = (if x < D (o_s G p) then 0 else 1) + o_q D G m (p + 1) (o_pop ls (o_t G p) r) := by
  conv => lhs; unfold o_q
  rw [if_pos h, hl]
theorem o_q_ext {D G K : Nat → Int32} : ∀ (m p : Nat) (ls : Nat → List Int32), (∀ q, p ≤ q → q < p + m → K (5 + q) = G (5 + q) ∧ K (11 + o_s G q) = G (11 + o_s G q) ∧ K (17 + o_s G q) = G (17 + o_s G q)) → o_q D K m p ls = o_q D G m p ls
  | 0, _, _, _ => rfl
  | m + 1, p, ls, h => by
    obtain ⟨h1, h2, h3⟩ := h p (by omega) (by omega)
    have es : o_s K p = o_s G p := by unfold o_s; rw [h1]
    have et : o_t K p = o_t G p := by unfold o_t; rw [es, h2]
    have ih := fun ls => o_q_ext (D := D) m (p + 1) ls (fun q q1 q2 => h q (by omega) (by omega))
    by_cases hw : G (17 + o_s G p) = 0
    · cases hl : ls (o_t G p) with
      | nil => rw [o_q_n (by rw [et]; exact hl), o_q_n hl, ih]
      | cons x r => rw [o_q_c (by rw [es, h3]; exact hw) (by rw [et]; exact hl), o_q_c hw hl, ih, es, et]
    · rw [o_q_w (by rw [es, h3]; exact hw), o_q_w hw, ih]
theorem o_q_ls {D G : Nat → Int32} {T : Nat} : ∀ (m p : Nat) (ls ks : Nat → List Int32), (∀ q, p ≤ q → q < p + m → o_t G q < T) → (∀ j, j < T → ls j = ks j) → o_q D G m p ls = o_q D G m p ks
  | 0, _, _, _, _, _ => rfl
  | m + 1, p, ls, ks, ht, h => by
    have h1 := ht p (by omega) (by omega)
    have ih := fun ls ks => o_q_ls (D := D) m (p + 1) ls ks (fun q q1 q2 => ht q (by omega) (by omega))
    by_cases hw : G (17 + o_s G p) = 0
    · cases hl : ls (o_t G p) with
      | nil => rw [o_q_n hl, o_q_n (by rw [← h _ h1]; exact hl), ih ls ks h]
      | cons x r =>
        rw [o_q_c hw hl, o_q_c hw (by rw [← h _ h1]; exact hl), ih (o_pop ls (o_t G p) r) (o_pop ks (o_t G p) r) (fun j hj => by unfold o_pop; split; rfl; exact h j hj)]
    · rw [o_q_w hw, o_q_w hw, ih ls ks h]
theorem o_q_nil {D G : Nat → Int32} : ∀ (m p : Nat) (ls : Nat → List Int32), (∀ j, ls j = []) → o_q D G m p ls = 0
  | 0, _, _, _ => rfl
  | m + 1, p, ls, h => by rw [o_q_n (h _)]; exact o_q_nil m (p + 1) ls h
/-- each place has its own ship, each ship a tower -/
def o_ok (T S : Nat) (G : Nat → Int32) : Prop := nv_fok G S ∧ (∀ p q, p < S → q < S → G (5 + p) = G (5 + q) → p = q) ∧ ∀ s, s < S → ∃ t, t < T ∧ G (11 + s) = nI t
theorem o_ok.s {T S : Nat} {G : Nat → Int32} (h : o_ok T S G) (hS : S ≤ 6) {p : Nat} (hp : p < S) : o_s G p < S ∧ G (5 + p) = nI (o_s G p) := by
  obtain ⟨s, h1, h2⟩ := h.1 p hp
  have e : o_s G p = s := by unfold o_s; rw [h2, nI_clamp (by omega)]
  rw [e]
  exact ⟨h1, h2⟩
theorem o_ok.inj {T S : Nat} {G : Nat → Int32} (h : o_ok T S G) (hS : S ≤ 6) {p q : Nat} (hp : p < S) (hq : q < S) (e : o_s G p = o_s G q) : p = q := h.2.1 p q hp hq (by rw [(h.s hS hp).2, (h.s hS hq).2, e])
theorem o_ok.t {T S : Nat} {G : Nat → Int32} (h : o_ok T S G) (hS : S ≤ 6) (hT : T ≤ 3) {p : Nat} (hp : p < S) : o_t G p < T ∧ G (11 + o_s G p) = nI (o_t G p) := by
  obtain ⟨t, h1, h2⟩ := h.2.2 _ (h.s hS hp).1
  have e : o_t G p = t := by unfold o_t; rw [h2, nI_clamp (by omega)]
  rw [e]
  exact ⟨h1, h2⟩
theorem o_ok.ext {T S : Nat} {G K : Nat → Int32} (h : o_ok T S G) (hS : S ≤ 6) (e : ∀ i, 5 ≤ i → i < 17 → K i = G i) : o_ok T S K := by
  refine ⟨fun p hp => by rw [e _ (by omega) (by omega)]; exact h.1 p hp, fun p q hp hq => by rw [e _ (by omega) (by omega), e _ (by omega) (by omega)]; exact h.2.1 p q hp hq, fun s hs => by rw [e _ (by omega) (by omega)]; exact h.2.2 s hs⟩
theorem p_find_u {F : Nat → Int32} {t : Int32} {n p : Nat} : p_find F t (n + 1) p = if F (17 + o_s F p) = 0 ∧ F (11 + o_s F p) = t then some (o_s F p) else p_find F t n (p + 1) := rfl
theorem p_find_at {F : Nat → Int32} {t : Int32} : ∀ (n p s : Nat), p_find F t n p = some s → ∃ q, p ≤ q ∧ q < p + n ∧ o_s F q = s ∧ F (17 + s) = 0
  | 0, _, _, h => by cases h
  | n + 1, p, s, h => by
    rw [p_find_u] at h
    split at h
    · rename_i hc
      cases h
      exact ⟨p, by omega, by omega, rfl, hc.1⟩
    · obtain ⟨q, a, b, c⟩ := p_find_at n (p + 1) s h
      exact ⟨q, by omega, by omega, c⟩
theorem o_q_upd {D G : Nat → Int32} {T S s : Nat} {v : Int32} (hk : o_ok T S G) (hS : S ≤ 6) {m p : Nat} (hp : p + m ≤ S) (hs : ∀ q, p ≤ q → q < p + m → o_s G q ≠ s) (ls : Nat → List Int32) : o_q D (upd G (17 + s) v) m p ls = o_q D G m p ls := o_q_ext m p ls (fun q q1 q2 => by
  have h1 := (hk.s hS (show q < S by omega)).1
  exact ⟨pk_un (by omega), pk_un (by omega), pk_un (by have := hs q q1 q2; omega)⟩)
/-- a tower calls: the first that waits for it is taken -/
theorem o_q_pop {D G : Nat → Int32} {T S t : Nat} {v x : Int32} {r : List Int32} (hk : o_ok T S G) (hS : S ≤ 6) (hT : T ≤ 3) (ht : t < T) (hv : ¬ v = 0) : ∀ (m p : Nat) (ls : Nat → List Int32), p + m ≤ S → ls t = x :: r → o_q D G m p ls = match p_find G (nI t) m p with
    | none => o_q D G m p (o_pop ls t r)
    | some s => (if x < D s then 0 else 1) + o_q D (upd G (17 + s) v) m p (o_pop ls t r)
  | 0, _, _, _, _ => rfl
  | m + 1, p, ls, hp, hl => by
    have hs := hk.s hS (show p < S by omega)
    have htt := hk.t hS hT (show p < S by omega)
    by_cases hw : G (17 + o_s G p) = 0
    · by_cases e : o_t G p = t
      · rw [p_find_u, if_pos ⟨hw, by rw [htt.2, e]⟩]
        show _ = (if x < D (o_s G p) then 0 else 1) + o_q D (upd G (17 + o_s G p) v) (m + 1) p (o_pop ls t r)
        have es : o_s (upd G (17 + o_s G p) v) p = o_s G p := by
          show (upd G (17 + o_s G p) v (5 + p)).toNatClampNeg = _
          rw [pk_un (by omega)]
          rfl
        rw [o_q_c hw (by rw [e]; exact hl), o_q_w (by rw [es, pk_us]; exact hv), e, o_q_upd hk hS (by omega) (fun q q1 q2 h => by have := hk.inj hS (show q < S by omega) (show p < S by omega) h; omega)]
      · rw [p_find_u, if_neg (fun h => e (by have := h.2; rw [htt.2] at this; exact (nI_eq (by omega) (by omega)).mp this))]
        cases hq : ls (o_t G p) with
        | nil =>
          rw [o_q_n hq, o_q_pop hk hS hT ht hv m (p + 1) ls (by omega) hl]
          cases hf : p_find G (nI t) m (p + 1) with
          | none => exact (o_q_n (by rw [o_pop_ne e]; exact hq)).symm
          | some s =>
            have et : o_t (upd G (17 + s) v) p = o_t G p := by
              have es : o_s (upd G (17 + s) v) p = o_s G p := by show (upd G (17 + s) v (5 + p)).toNatClampNeg = _; rw [pk_un (by omega)]; rfl
              show (upd G (17 + s) v (11 + o_s (upd G (17 + s) v) p)).toNatClampNeg = _
              rw [es, pk_un (by omega)]
              rfl
            show _ = _ + o_q D (upd G (17 + s) v) (m + 1) p (o_pop ls t r)
            rw [o_q_n (by rw [et, o_pop_ne e]; exact hq)]
        | cons y u =>
          rw [o_q_c hw hq, o_q_pop hk hS hT ht hv m (p + 1) (o_pop ls (o_t G p) u) (by omega) (by rw [o_pop_ne (fun h => e h.symm)]; exact hl)]
          cases hf : p_find G (nI t) m (p + 1) with
          | none =>
            show _ + _ = o_q D G (m + 1) p (o_pop ls t r)
            rw [o_q_c hw (by rw [o_pop_ne e]; exact hq), o_pop_comm e]
          | some s =>
            obtain ⟨q, q1, q2, q3, q4⟩ := p_find_at m (p + 1) s hf
            have hne : o_s G p ≠ s := fun h => by have := hk.inj hS (show p < S by omega) (show q < S by omega) (h.trans q3.symm); omega
            have es : o_s (upd G (17 + s) v) p = o_s G p := by show (upd G (17 + s) v (5 + p)).toNatClampNeg = _; rw [pk_un (by omega)]; rfl
            have et : o_t (upd G (17 + s) v) p = o_t G p := by
              show (upd G (17 + s) v (11 + o_s (upd G (17 + s) v) p)).toNatClampNeg = _
              rw [es, pk_un (by omega)]
              rfl
            show _ + (_ + _) = _ + o_q D (upd G (17 + s) v) (m + 1) p (o_pop ls t r)
            rw [o_q_c (by rw [es, pk_un (by omega)]; exact hw) (by rw [et, o_pop_ne e]; exact hq), es, et, o_pop_comm e]
            omega
    · rw [p_find_u, if_neg (fun h => hw h.1), o_q_w hw, o_q_pop hk hS hT ht hv m (p + 1) ls (by omega) hl]
      cases hf : p_find G (nI t) m (p + 1) with
      | none => exact (o_q_w hw).symm
      | some s =>
        have es : o_s (upd G (17 + s) v) p = o_s G p := by show (upd G (17 + s) v (5 + p)).toNatClampNeg = _; rw [pk_un (by omega)]; rfl
        show _ = _ + o_q D (upd G (17 + s) v) (m + 1) p (o_pop ls t r)
        rw [o_q_w (by
          rw [es]
          by_cases e : o_s G p = s
          · rw [e, pk_us]; exact hv
          · rw [pk_un (by omega)]; exact hw)]
theorem p_cnt_up {f h : Nat → Bool} {s : Nat} (hf : f s = false) (he : ∀ j, j ≠ s → h j = f j) : ∀ (n a : Nat), p_cnt h n a = p_cnt f n a + (if a ≤ s ∧ s < a + n then (if h s then 1 else 0) else 0)
  | 0, a => by rw [if_neg (by omega)]; rfl
  | n + 1, a => by
    have ih := p_cnt_up hf he n (a + 1)
    unfold p_cnt
    rw [ih]
    by_cases e : a = s
    · subst e
      rw [hf, if_neg (show ¬ (a + 1 ≤ a ∧ a < a + 1 + n) by omega), if_pos (show a ≤ a ∧ a < a + (n + 1) by omega)]
      simp only [Bool.false_eq_true, if_false]
      omega
    · rw [he a e]
      by_cases h1 : a ≤ s ∧ s < a + (n + 1)
      · rw [if_pos h1, if_pos (show a + 1 ≤ s ∧ s < a + 1 + n by omega)]
        omega
      · rw [if_neg h1, if_neg (show ¬ (a + 1 ≤ s ∧ s < a + 1 + n) by omega)]
        omega
/-- in the midst of a wave: the towers ahead of t have had their turn -/
def o_mix (C : Nat → Int32) (n w t : Nat) (G : Nat → Int32) : Nat → List Int32 := fun j => if j < t then o_lst C (G 1) j n (w + 1) (G (2 + j)) else o_lst C (G 1) j (n + 1) w (G (2 + j))
theorem o_turn {C G : Nat → Int32} {T S n w t : Nat} (hk : o_ok T S G) (hS : S ≤ 6) (hT : T ≤ 3) (ht : t < T) : p_cnt (p_isf G 1) S 0 + o_q (fun s => C (49 + s)) G S 0 (o_mix C n w t G) = p_cnt (p_isf (p_turn C S (p_kind C (nI w)) (p_wat C (nI w)) t G) 1) S 0 + o_q (fun s => C (49 + s)) (p_turn C S (p_kind C (nI w)) (p_wat C (nI w)) t G) S 0 (o_mix C n w (t + 1) (p_turn C S (p_kind C (nI w)) (p_wat C (nI w)) t G)) := by
  have at17 : ∀ i, i < 17 → i ≠ 2 + t → p_turn C S (p_kind C (nI w)) (p_wat C (nI w)) t G i = G i := fun i h1 h2 => p_turn_at _ _ _ _ _ _ h1 h2
  have a2 : p_turn C S (p_kind C (nI w)) (p_wat C (nI w)) t G (2 + t) = G (2 + t) + p_more C (p_kind C (nI w)) t := by unfold p_turn; rw [pk_us]
  have hmx : ∀ j, j < T → o_mix C n w (t + 1) (p_turn C S (p_kind C (nI w)) (p_wat C (nI w)) t G) j = o_pop (o_mix C n w t G) t (o_lst C (G 1) t n (w + 1) (G (2 + t) + p_more C (p_kind C (nI w)) t)) j := fun j hj => by
    unfold o_mix
    rw [at17 1 (by omega) (by omega)]
    by_cases e : j = t
    · subst e
      rw [if_pos (by omega), a2, o_pop_self]
    · rw [at17 (2 + j) (by omega) (by omega), o_pop_ne e]
      by_cases h1 : j < t
      · rw [if_pos (by omega), if_pos h1]
      · rw [if_neg (by omega), if_neg h1]
  have hks : o_ok T S (p_turn C S (p_kind C (nI w)) (p_wat C (nI w)) t G) := hk.ext hS (fun i h1 h2 => at17 i h2 (by omega))
  rw [o_q_ls (T := T) S 0 (o_mix C n w (t + 1) (p_turn C S (p_kind C (nI w)) (p_wat C (nI w)) t G)) _ (fun q _ q2 => (hks.t hS hT (by omega)).1) hmx]
  have h49 : ∀ i, 17 ≤ i → (p_call C (p_kind C (nI w)) G t = false ∨ p_find G (nI t) S 0 = none) → p_turn C S (p_kind C (nI w)) (p_wat C (nI w)) t G i = G i := fun i hi h => by
    unfold p_turn
    rw [pk_un (by omega)]
    rcases h with h | h
    · rw [h]; rfl
    · rw [h]; split <;> rfl
  have same : (p_call C (p_kind C (nI w)) G t = false ∨ p_find G (nI t) S 0 = none) → ∀ ls, p_cnt (p_isf (p_turn C S (p_kind C (nI w)) (p_wat C (nI w)) t G) 1) S 0 + o_q (fun s => C (49 + s)) (p_turn C S (p_kind C (nI w)) (p_wat C (nI w)) t G) S 0 ls = p_cnt (p_isf G 1) S 0 + o_q (fun s => C (49 + s)) G S 0 ls := fun h ls => by
    rw [o_q_ext (G := G) S 0 ls (fun q _ q2 => by
      have h1 := (hk.s hS (show q < S by omega)).1
      exact ⟨at17 _ (by omega) (by omega), at17 _ (by omega) (by omega), h49 _ (by omega) h⟩)]
    rw [p_cnt_ext (f' := p_isf G 1) S 0 (fun j _ _ => by unfold p_isf; rw [h49 _ (by omega) h])]
  cases hc : p_call C (p_kind C (nI w)) G t with
  | false =>
    rw [same (Or.inl hc)]
    congr 1
    have e : o_mix C n w t G t = o_lst C (G 1) t n (w + 1) (G (2 + t) + p_more C (p_kind C (nI w)) t) := by
      unfold o_mix
      rw [if_neg (by omega)]
      conv => lhs; unfold o_lst
      rw [if_neg (by unfold p_call at hc; rw [hc]; decide)]
    refine o_q_ls (T := T) S 0 _ _ (fun q _ q2 => (hk.t hS hT (by omega)).1) (fun j hj => ?_)
    by_cases ej : j = t
    · rw [ej, o_pop_self, e]
    · rw [o_pop_ne ej]
  | true =>
    have e : o_mix C n w t G t = p_wat C (nI w) :: o_lst C (G 1) t n (w + 1) (G (2 + t) + p_more C (p_kind C (nI w)) t) := by
      unfold o_mix
      rw [if_neg (by omega)]
      conv => lhs; unfold o_lst
      rw [if_pos (by unfold p_call at hc; exact hc)]
    cases hf : p_find G (nI t) S 0 with
    | none =>
      rw [same (Or.inr hf), o_q_pop (v := 1) hk hS hT ht (by decide) S 0 _ (by omega) e, hf]
    | some s =>
      obtain ⟨q, -, q2, q3, q4⟩ := p_find_at S 0 s hf
      have hs6 : s < S := by rw [← q3]; exact (hk.s hS (by omega)).1
      have hv : ¬ (if p_wat C (nI w) < C (49 + s) then (2 : Int32) else 1) = 0 := by split <;> decide
      have e17 : ∀ i, 17 ≤ i → i < 23 → p_turn C S (p_kind C (nI w)) (p_wat C (nI w)) t G i = upd G (17 + s) (if p_wat C (nI w) < C (49 + s) then (2 : Int32) else 1) i := fun i h1 h2 => by
        unfold p_turn
        rw [pk_un (by omega), if_pos hc, hf]
        show upd (upd G (17 + s) _) (23 + s) _ i = _
        rw [pk_un (by omega)]
      rw [o_q_pop hk hS hT ht hv S 0 _ (by omega) e, hf]
      show _ + ((if p_wat C (nI w) < C (49 + s) then 0 else 1) + _) = _
      rw [o_q_ext (G := upd G (17 + s) (if p_wat C (nI w) < C (49 + s) then (2 : Int32) else 1)) (K := p_turn C S (p_kind C (nI w)) (p_wat C (nI w)) t G) S 0 _ (fun q _ q2 => by
        have h1 := (hk.s hS (show q < S by omega)).1
        have es : o_s (upd G (17 + s) (if p_wat C (nI w) < C (49 + s) then (2 : Int32) else 1)) q = o_s G q := by
          show (upd G (17 + s) _ (5 + q)).toNatClampNeg = _
          rw [pk_un (by omega)]
          rfl
        rw [es]
        exact ⟨by rw [at17 _ (by omega) (by omega), pk_un (by omega)], by rw [at17 _ (by omega) (by omega), pk_un (by omega)], e17 _ (by omega) (by omega)⟩)]
      have hcn : p_cnt (p_isf (p_turn C S (p_kind C (nI w)) (p_wat C (nI w)) t G) 1) S 0 = p_cnt (p_isf G 1) S 0 + (if p_wat C (nI w) < C (49 + s) then 0 else 1) := by
        rw [p_cnt_ext (f' := p_isf (upd G (17 + s) (if p_wat C (nI w) < C (49 + s) then (2 : Int32) else 1)) 1) S 0 (fun j _ j2 => by unfold p_isf; rw [e17 _ (by omega) (by omega)])]
        rw [p_cnt_up (f := p_isf G 1) (s := s) (by unfold p_isf; rw [q4]; decide) (fun j hj => by unfold p_isf; rw [pk_un (by omega)]) S 0, if_pos (by omega)]
        congr 1
        unfold p_isf
        rw [pk_us]
        by_cases hlt : p_wat C (nI w) < C (49 + s)
        · rw [if_pos hlt, if_pos hlt]; decide
        · rw [if_neg hlt, if_neg hlt]; decide
      rw [hcn]
      omega
theorem o_towers {C : Nat → Int32} {T S n w : Nat} (hS : S ≤ 6) (hT : T ≤ 3) : ∀ (m t : Nat) (G : Nat → Int32), t + m = T → o_ok T S G → p_cnt (p_isf G 1) S 0 + o_q (fun s => C (49 + s)) G S 0 (o_mix C n w t G) = p_cnt (p_isf (p_tow C S (p_kind C (nI w)) (p_wat C (nI w)) m t G) 1) S 0 + o_q (fun s => C (49 + s)) (p_tow C S (p_kind C (nI w)) (p_wat C (nI w)) m t G) S 0 (o_mix C n w T (p_tow C S (p_kind C (nI w)) (p_wat C (nI w)) m t G)) ∧ o_ok T S (p_tow C S (p_kind C (nI w)) (p_wat C (nI w)) m t G)
  | 0, t, G, ht, hk => by
    obtain rfl : t = T := by omega
    exact ⟨rfl, hk⟩
  | m + 1, t, G, ht, hk => by
    have ih := o_towers (C := C) (n := n) (w := w) hS hT m (t + 1) (p_turn C S (p_kind C (nI w)) (p_wat C (nI w)) t G) (by omega) (hk.ext hS (fun i h1 h2 => p_turn_at _ _ _ _ _ _ h2 (by omega)))
    rw [o_turn hk hS hT (by omega)]
    exact ih
/-- the waves give what the lists say -/
theorem o_pass {C : Nat → Int32} {T S : Nat} (hS : S ≤ 6) (hT : T ≤ 3) : ∀ (n w : Nat) (G : Nat → Int32), G 0 = nI w → o_ok T S G → p_cnt (p_isf (p_pass C T S n G) 1) S 0 = p_cnt (p_isf G 1) S 0 + o_q (fun s => C (49 + s)) G S 0 (fun t => o_lst C (G 1) t n w (G (2 + t)))
  | 0, w, G, hw, hk => by
    show p_cnt (p_isf G 1) S 0 = _
    rw [o_q_nil S 0 (fun t => o_lst C (G 1) t 0 w (G (2 + t))) (fun _ => rfl)]
    rfl
  | n + 1, w, G, hw, hk => by
    have hb0 := p_by_0 C (T := T) (S := S) hT (F := G)
    obtain ⟨h1, h2⟩ := o_towers (C := C) (n := n) (w := w) hS hT T 0 G (by omega) hk
    have eb : ∀ i, i ≠ 0 → p_by C T S G i = p_tow C S (p_kind C (nI w)) (p_wat C (nI w)) T 0 G i := fun i hi => by
      unfold p_by p_come
      rw [hw, pk_un hi]
    have hkb : o_ok T S (p_by C T S G) := h2.ext hS (fun i h1 h2 => eb i (by omega))
    have ih := o_pass (C := C) hS hT n (w + 1) (p_by C T S G) (by rw [hb0, hw, nI_1]) hkb
    show p_cnt (p_isf (p_pass C T S n (p_by C T S G)) 1) S 0 = _
    rw [ih]
    have e0 : o_mix C n w 0 G = fun t => o_lst C (G 1) t (n + 1) w (G (2 + t)) := by
      funext j
      unfold o_mix
      rw [if_neg (by omega)]
    rw [← e0, h1, p_cnt_ext (f' := p_isf (p_tow C S (p_kind C (nI w)) (p_wat C (nI w)) T 0 G) 1) S 0 (fun j _ _ => by unfold p_isf; rw [eb _ (by omega)])]
    congr 1
    rw [o_q_ext (G := p_tow C S (p_kind C (nI w)) (p_wat C (nI w)) T 0 G) S 0 _ (fun q _ _ => ⟨eb _ (by omega), eb _ (by omega), eb _ (by omega)⟩)]
    refine o_q_ls (T := T) S 0 _ _ (fun q _ q2 => (h2.t hS hT (by omega)).1) (fun j hj => ?_)
    unfold o_mix
    rw [if_pos hj, eb 1 (by omega), eb (2 + j) (by omega)]
/-- the waters that are kept are the first six -/
theorem p_hear_lst {C : Nat → Int32} {law : Int32} {t : Nat} : ∀ (n w : Nat) (c : Int32) (h : Nat) (W : Nat → Int32), h ≤ 6 → (∀ i, i < h → (p_hear C law t n w c h W).2 i = W i) ∧ h ≤ (p_hear C law t n w c h W).1 ∧ ∀ i, h + i < 6 → (o_lst C law t n w c)[i]? = if h + i < (p_hear C law t n w c h W).1 then some ((p_hear C law t n w c h W).2 (h + i)) else none
  | 0, w, c, h, W, hh => ⟨fun _ _ => rfl, Nat.le_refl _, fun i hi => by
      show ([] : List Int32)[i]? = if h + i < h then _ else none
      rw [if_neg (by omega)]
      rfl⟩
  | n + 1, w, c, h, W, hh => by
    by_cases hc : nv_calls c (p_more C (p_kind C (nI w)) t) law = true
    · have el : o_lst C law t (n + 1) w c = p_wat C (nI w) :: o_lst C law t n (w + 1) (c + p_more C (p_kind C (nI w)) t) := by
        conv => lhs; unfold o_lst
        rw [if_pos hc]
      rw [el]
      by_cases h6 : h < 6
      · have eh : p_hear C law t (n + 1) w c h W = p_hear C law t n (w + 1) (c + p_more C (p_kind C (nI w)) t) (h + 1) (upd W h (p_wat C (nI w))) := by
          conv => lhs; unfold p_hear
          rw [if_pos ⟨h6, hc⟩]
        rw [eh]
        obtain ⟨i1, i2, i3⟩ := p_hear_lst (C := C) (law := law) (t := t) n (w + 1) (c + p_more C (p_kind C (nI w)) t) (h + 1) (upd W h (p_wat C (nI w))) (by omega)
        refine ⟨fun i hi => by rw [i1 i (by omega), pk_un (by omega)], by omega, fun i hi => ?_⟩
        cases i with
        | zero =>
          rw [if_pos (by omega)]
          show some (p_wat C (nI w)) = some ((p_hear C law t n (w + 1) (c + p_more C (p_kind C (nI w)) t) (h + 1) (upd W h (p_wat C (nI w)))).2 h)
          rw [i1 h (by omega), pk_us]
        | succ i =>
          rw [List.getElem?_cons_succ, i3 i (by omega), show h + 1 + i = h + (i + 1) by omega]
      · have eh : p_hear C law t (n + 1) w c h W = p_hear C law t n (w + 1) (c + p_more C (p_kind C (nI w)) t) h W := by
          conv => lhs; unfold p_hear
          rw [if_neg (fun q => h6 q.1)]
        rw [eh]
        obtain ⟨i1, i2, i3⟩ := p_hear_lst (C := C) (law := law) (t := t) n (w + 1) (c + p_more C (p_kind C (nI w)) t) h W hh
        exact ⟨i1, i2, fun i hi => by omega⟩
    · have el : o_lst C law t (n + 1) w c = o_lst C law t n (w + 1) (c + p_more C (p_kind C (nI w)) t) := by
        conv => lhs; unfold o_lst
        rw [if_neg hc]
      have eh : p_hear C law t (n + 1) w c h W = p_hear C law t n (w + 1) (c + p_more C (p_kind C (nI w)) t) h W := by
        conv => lhs; unfold p_hear
        rw [if_neg (fun q => hc q.2)]
      rw [el, eh]
      exact p_hear_lst n (w + 1) _ h W hh
theorem o_phi_q {D E F G P : Nat → Int32} {H : Nat → Nat} {f : Nat → Nat → Int32} {T S : Nat} (hS : S ≤ 6) (hP : ∀ p, p < S → P p = G (5 + p)) (hE : ∀ s, s < S → E s = D s) (hok : ∀ p, p < S → o_s G p < S) (hot : ∀ p, p < S → o_t G p < T) (h11 : ∀ s, s < S → F (11 + s) = G (11 + s)) (h17 : ∀ s, s < S → F (17 + s) = G (17 + s)) : ∀ (m p : Nat) (U : Nat → Nat) (ls : Nat → List Int32), p + m = S → (∀ t, t < T → ∀ i, i < m → (ls t)[i]? = if U t + i < H t then some (f t (U t + i)) else none) → o_phi E F P H f m p U = o_q D G m p ls
  | 0, _, _, _, _, _ => rfl
  | m + 1, p, U, ls, hp, h => by
    have es : (P p).toNatClampNeg = o_s G p := by rw [hP p (by omega)]; rfl
    have hs := hok p (by omega)
    have et : (F (11 + (P p).toNatClampNeg)).toNatClampNeg = o_t G p := by rw [es, h11 _ hs]; rfl
    have ew : F (17 + (P p).toNatClampNeg) = G (17 + o_s G p) := by rw [es, h17 _ hs]
    have ih := fun U ls => o_phi_q (H := H) (f := f) hS hP hE hok hot h11 h17 m (p + 1) U ls (by omega)
    have htp := hot p (by omega)
    have h0 := h (o_t G p) htp 0 (by omega)
    rw [Nat.add_zero] at h0
    unfold o_phi
    rw [ew, et, es]
    by_cases hw : G (17 + o_s G p) = 0
    · by_cases hu : U (o_t G p) < H (o_t G p)
      · rw [if_pos ⟨hw, hu⟩]
        rw [if_pos hu] at h0
        cases hl : ls (o_t G p) with
        | nil => rw [hl] at h0; cases h0
        | cons x r =>
          rw [hl] at h0
          have hx : x = f (o_t G p) (U (o_t G p)) := by simpa using h0
          rw [o_q_c hw hl, hE _ hs, hx]
          congr 1
          refine ih _ _ (fun t ht i hi => ?_)
          by_cases e : t = o_t G p
          · subst e
            have h1 := h (o_t G p) ht (i + 1) (by omega)
            rw [hl, List.getElem?_cons_succ] at h1
            rw [o_pop_self, h1, if_pos rfl, show U (o_t G p) + 1 + i = U (o_t G p) + (i + 1) by omega]
          · rw [o_pop_ne e, if_neg e]
            exact h t ht i (by omega)
      · rw [if_neg (fun q => hu q.2)]
        rw [if_neg hu] at h0
        have hl : ls (o_t G p) = [] := by
          cases hl : ls (o_t G p) with
          | nil => rfl
          | cons x r => rw [hl] at h0; cases h0
        rw [o_q_n hl]
        exact ih U ls (fun t ht i hi => h t ht i (by omega))
    · rw [if_neg (fun q => hw q.1), o_q_w hw]
      exact ih U ls (fun t ht i hi => h t ht i (by omega))
/-- the order P laid into the scene F -/
def o_put (P : Nat → Int32) (S : Nat) (F : Nat → Int32) : Nat → Int32 := fun i => if 5 ≤ i ∧ i < 5 + S then P (i - 5) else F i
theorem o_put_in {P F : Nat → Int32} {S p : Nat} (hp : p < S) : o_put P S F (5 + p) = P p := by unfold o_put; rw [if_pos (by omega), Nat.add_sub_cancel_left]
theorem o_put_out {P F : Nat → Int32} {S i : Nat} (h : i < 5 ∨ 5 + S ≤ i) : o_put P S F i = F i := if_neg (by omega)
/-- what an order gives: by going through the waves, and by the waters heard -/
theorem o_main {C D F P : Nat → Int32} {W : Nat → Nat → Int32} {T S n v : Nat} (hS : S ≤ 6) (hT : T ≤ 3) (hv : F 0 = nI v) (hF : ∀ s, s < S → ∃ t, t < T ∧ F (11 + s) = nI t) (hP : ∀ p, p < S → ∃ s, s < S ∧ P p = nI s) (hi : ∀ p q, p < S → q < S → P p = P q → p = q) (hD : ∀ s, s < S → D s = C (49 + s)) : p_cnt (p_isf (p_pass C T S n (o_put P S F)) 1) S 0 = p_cnt (p_isf F 1) S 0 + o_phi D F P (fun t => (p_hear C (F 1) t n v (F (2 + t)) 0 (W t)).1) (fun t => (p_hear C (F 1) t n v (F (2 + t)) 0 (W t)).2) S 0 (fun _ => 0) := by
  have hk : o_ok T S (o_put P S F) := by
    refine ⟨fun p hp => by rw [o_put_in hp]; exact hP p hp, fun p q hp hq => by rw [o_put_in hp, o_put_in hq]; exact hi p q hp hq, fun s hs => by rw [o_put_out (by omega)]; exact hF s hs⟩
  rw [o_pass hS hT n v (o_put P S F) (by rw [o_put_out (by omega)]; exact hv) hk]
  rw [p_cnt_ext (f' := p_isf F 1) S 0 (fun j _ _ => by unfold p_isf; rw [o_put_out (by omega)])]
  congr 1
  symm
  refine o_phi_q hS (fun p hp => (o_put_in hp).symm) hD (fun p hp => (hk.s hS hp).1) (fun p hp => (hk.t hS hT hp).1) (fun s hs => (o_put_out (by omega)).symm) (fun s hs => (o_put_out (by omega)).symm) S 0 _ _ (by omega) (fun t ht i hi => ?_)
  rw [o_put_out (show 1 < 5 ∨ 5 + S ≤ 1 by omega), o_put_out (show 2 + t < 5 ∨ 5 + S ≤ 2 + t by omega)]
  exact (p_hear_lst n v (F (2 + t)) 0 (W t) (by omega)).2.2 i (by omega)
end
