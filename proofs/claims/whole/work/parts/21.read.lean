section
variable {l : Launch} {g : nw_G} {I : nw_Me}
/-! Reading, on the letters alone. -/
def q_at (n : Nat) (f : Nat → Int32) (k : Nat) : Int32 := if k < n then f k else -1
def q_d (x : Int32) : Bool := decide (¬ x < 48) && decide (¬ 57 < x)
def q_fig (a : Nat → Int32) (p : Nat) : Nat → Nat → Int32 → Nat × Int32
  | 0, k, v => (k, v)
  | n + 1, k, v => if q_d (a (p + k)) then q_fig a p n (k + 1) (10 * v + a (p + k) - 48) else (k, v)
abbrev q_E : Type := Int32 × Nat
def q_num (a : Nat → Int32) (p : Nat) (m : Int32) : q_E ⊕ (Int32 × Nat) := if (q_fig a p 3 0 0).1 = 0 ∨ 2 < (q_fig a p 3 0 0).1 then .inl (1, p) else if (q_fig a p 3 0 0).2 ≤ m then .inr ((q_fig a p 3 0 0).2, p + (q_fig a p 3 0 0).1) else .inl (2, p)
def q_sgn (a : Nat → Int32) (p : Nat) (c : Int32) : q_E ⊕ Nat := if a p = c then .inr (p + 1) else .inl (1, p)
def q_pair (a : Nat → Int32) (p : Nat) (m n : Int32) : q_E ⊕ (Int32 × Int32 × Nat) := match q_num a p m with
  | .inl e => .inl e
  | .inr (x, p1) => match q_sgn a p1 44 with
    | .inl e => .inl e
    | .inr p2 => match q_num a p2 n with
      | .inl e => .inl e
      | .inr (y, p3) => match q_sgn a p3 59 with
        | .inl e => .inl e
        | .inr p4 => .inr (x, y, p4)
def q_swl (a : Nat → Int32) : Nat → Nat → Nat → (Nat → Int32) → q_E ⊕ (Nat × Nat × (Nat → Int32))
  | 0, _, p, _ => .inl (3, p)
  | n + 1, k, p, C => if nv_told (a p) = -1 then .inr (k, p, C) else if n = 0 then .inl (3, p) else match q_num a (p + 1) 30 with
    | .inl e => .inl e
    | .inr (h, p1) => match q_sgn a p1 59 with
      | .inl e => .inl e
      | .inr p2 => q_swl a n (k + 1) p2 (upd (upd (upd C (6 + k) (nv_told (a p))) (26 + k) h) 3 (nI (k + 1)))
def q_tow (a : Nat → Int32) : Nat → Nat → Nat → (Nat → Int32) → (Nat → Int32) → q_E ⊕ (Nat × Nat × (Nat → Int32) × (Nat → Int32))
  | 0, _, p, _, _ => .inl (3, p)
  | n + 1, k, p, C, A => if a p = 116 then if n = 0 then .inl (3, p) else match q_pair a (p + 1) 7 8 with
    | .inl e => .inl e
    | .inr (x, y, p1) => q_tow a n (k + 1) p1 (upd (upd C (46 + k) x) 4 (nI (k + 1))) (upd A (2 + k) y)
    else .inr (k, p, C, A)
def q_shp (a : Nat → Int32) (T : Int32) : Nat → Nat → Nat → (Nat → Int32) → (Nat → Int32) → q_E ⊕ (Nat × Nat × (Nat → Int32) × (Nat → Int32))
  | 0, _, p, _, _ => .inl (3, p)
  | n + 1, k, p, C, A => if a p = 104 then if n = 0 then .inl (3, p) else match q_pair a (p + 1) 99 (T - 1) with
    | .inl e => .inl e
    | .inr (x, y, p1) => q_shp a T n (k + 1) p1 (upd (upd C (49 + k) x) 5 (nI (k + 1))) (upd A (11 + k) y)
    else .inr (k, p, C, A)
theorem q_fig_le {n : Nat} {f : Nat → Int32} {p : Nat} : ∀ (m k : Nat) (v : Int32), p + k ≤ n → p + (q_fig (q_at n f) p m k v).1 ≤ n ∧ k ≤ (q_fig (q_at n f) p m k v).1 ∧ (q_fig (q_at n f) p m k v).1 ≤ k + m
  | 0, k, v, h => ⟨h, Nat.le_refl _, Nat.le_refl _⟩
  | m + 1, k, v, h => by
    unfold q_fig
    split
    · rename_i hd
      have hlt : p + k < n := by
        rcases Nat.lt_or_ge (p + k) n with q | q
        · exact q
        · exfalso
          unfold q_at at hd
          rw [if_neg (by omega)] at hd
          exact absurd hd (by decide)
      have := q_fig_le (f := f) m (k + 1) (10 * v + q_at n f (p + k) - 48) (show p + (k + 1) ≤ n by omega)
      exact ⟨this.1, by omega, by omega⟩
    · exact ⟨h, Nat.le_refl _, by omega⟩
theorem q_num_le {n : Nat} {f : Nat → Int32} {p : Nat} {m x : Int32} {q : Nat} (hp : p ≤ n) (h : q_num (q_at n f) p m = .inr (x, q)) : p < q ∧ q ≤ n := by
  have h1 := q_fig_le (f := f) 3 0 0 (show p + 0 ≤ n by omega)
  unfold q_num at h
  split at h
  · cases h
  · split at h
    · cases h
      rename_i h2 h3
      constructor <;> omega
    · cases h
theorem q_sgn_le {n : Nat} {f : Nat → Int32} {p : Nat} {c : Int32} {q : Nat} (hc : c ≠ -1) (h : q_sgn (q_at n f) p c = .inr q) : q = p + 1 ∧ q ≤ n ∧ q_at n f p = c := by
  unfold q_sgn at h
  split at h
  · rename_i e
    cases h
    refine ⟨rfl, ?_, e⟩
    rcases Nat.lt_or_ge p n with w | w
    · omega
    · exfalso
      unfold q_at at e
      rw [if_neg (by omega)] at e
      exact hc e.symm
  · cases h
theorem q_pair_le {n : Nat} {f : Nat → Int32} {p : Nat} {m1 m2 x y : Int32} {q : Nat} (hp : p ≤ n) (h : q_pair (q_at n f) p m1 m2 = .inr (x, y, q)) : q ≤ n := by
  unfold q_pair at h
  split at h
  · cases h
  · split at h
    · cases h
    · split at h
      · cases h
      · split at h
        · cases h
        · rename_i e
          cases h
          exact (q_sgn_le (by decide) e).2.1
theorem q_at_lt {n : Nat} {f : Nat → Int32} {p : Nat} {c : Int32} (hc : c ≠ -1) (h : q_at n f p = c) : p < n := by
  rcases Nat.lt_or_ge p n with w | w
  · exact w
  · unfold q_at at h
    rw [if_neg (by omega)] at h
    exact absurd h.symm hc
/-- the reader: n letters, at p, the flaw -/
def nv_rd (I : nw_Me) (n p : Nat) (fl : Int32) : Prop := I 13 1 = nI n ∧ I 13 2 = nI p ∧ I 13 3 = fl ∧ n ≤ 160 ∧ p ≤ n
def nv_rf (I I' : nw_Me) : Prop := I' 13 1 = I 13 1 ∧ ∀ k, k ≠ 13 → I' k = I k
theorem c_fig (x : Int32) : nw_dZ l g 0 mX6_isFigure [.int x] I (q_d x) I := by
  refine ⟨(Nat.le_of_ble_eq_true rfl), ?_⟩
  refine ev_iload_n (i := 0) dX6_isFigure_0 rfl rfl ?_
  refine ev_bipush (v := 48) dX6_isFigure_1 kb_48 ?_
  refine ev_icmp_lt (tgt := 16) dX6_isFigure_3 (by decide) (fun h3 => ?_) (fun h3 => ?_)
  · refine ev_iconst (v := 0) dX6_isFigure_16 kc_0 ?_
    exact s_ret0 dX6_isFigure_17 ⟨by simp [q_d, *], rfl⟩
  · refine ev_iload_n (i := 0) dX6_isFigure_6 rfl rfl ?_
    refine ev_bipush (v := 57) dX6_isFigure_7 kb_57 ?_
    refine ev_icmp_gt (tgt := 16) dX6_isFigure_9 (by decide) (fun h9 => ?_) (fun h9 => ?_)
    · refine ev_iconst (v := 0) dX6_isFigure_16 kc_0 ?_
      exact s_ret0 dX6_isFigure_17 ⟨by simp [q_d, *], rfl⟩
    · refine ev_iconst (v := 1) dX6_isFigure_12 kc_1 ?_
      refine ev_goto (tgt := 17) dX6_isFigure_13 (by decide) ?_
      exact s_ret1 dX6_isFigure_17 ⟨by simp [q_d, *], rfl⟩
theorem c_at {n k : Nat} (hn : I 13 1 = nI n) (h160 : n ≤ 160) (hk : k < 2 ^ 31) : nw_dI l g 0 mX6_at [.ref (nw_a g 13), .int (nI k)] I (q_at n (I 14) k) I := by
  refine ⟨(Nat.le_of_ble_eq_true rfl), ?_⟩
  refine ev_iload_n (i := 1) dX6_at_0 rfl rfl ?_
  refine ev_if_lt (tgt := 21) dX6_at_1 (by decide) (fun h1 => ?_) (fun h1 => ?_)
  · exact absurd h1 (nI_pos hk)
  · refine ev_iload_n (i := 1) dX6_at_4 rfl rfl ?_
    refine ev_aload_n (i := 0) dX6_at_5 rfl rfl ?_
    refine ev_getI fX6_13 dX6_at_6 rfl rfl (by decide) ?_
    rw [hn]
    refine ev_icmp_ge (tgt := 21) dX6_at_9 (by decide) (fun h9 => ?_) (fun h9 => ?_)
    · refine ev_iconst (v := (-1)) dX6_at_21 kc_m1 ?_
      exact s_retI dX6_at_22 ⟨by
  unfold q_at
  first
    | (rw [if_pos (by rcases Nat.lt_or_ge k n with q | q; exact q; exact absurd (nI_le q hk) h9)]; done)
    | (rw [if_neg (fun q => absurd h9 (nI_ge q (by omega)))]; done), rfl⟩
    · refine ev_aload_n (i := 0) dX6_at_12 rfl rfl ?_
      refine ev_getR fX6_9 dX6_at_13 rfl rfl (by decide) ?_
      refine ev_iload_n (i := 1) dX6_at_16 rfl rfl ?_
      refine ev_ialdN dX6_at_17 rfl (show k < 160 by rcases Nat.lt_or_ge k n with q | q; omega; exact absurd (nI_le q hk) h9) (by decide) ?_
      refine ev_goto (tgt := 22) dX6_at_18 (by decide) ?_
      exact s_retI dX6_at_22 ⟨by
  unfold q_at
  first
    | (rw [if_pos (by rcases Nat.lt_or_ge k n with q | q; exact q; exact absurd (nI_le q hk) h9)]; done)
    | (rw [if_neg (fun q => absurd h9 (nI_ge q (by omega)))]; done), rfl⟩
theorem c_fails (h : I 13 3 = 0) (e : Int32) : nw_dZ l g 0 mX6_fails [.ref (nw_a g 13), .int e] I false (nw_up I 13 3 e) := by
  refine ⟨(Nat.le_of_ble_eq_true rfl), ?_⟩
  refine ev_aload_n (i := 0) dX6_fails_0 rfl rfl ?_
  refine ev_getI fX6_21 dX6_fails_1 rfl rfl (by decide) ?_
  refine ev_if_ne (tgt := 12) dX6_fails_4 (by decide) (fun h4 => ?_) (fun h4 => ?_)
  · exact absurd h h4
  · refine ev_aload_n (i := 0) dX6_fails_7 rfl rfl ?_
    refine ev_iload_n (i := 1) dX6_fails_8 rfl rfl ?_
    refine ev_putI fX6_21 dX6_fails_9 rfl rfl (by decide) rfl rfl rfl rfl ?_
    refine ev_iconst (v := 0) dX6_fails_12 kc_0 ?_
    exact s_ret0 dX6_fails_13 ⟨rfl, rfl⟩
theorem c_passes0 (h : ¬ I 13 3 = 0) (c : Int32) : nw_dZ l g 1 mX6_passes [.ref (nw_a g 13), .int c] I false I := by
  refine ⟨(Nat.le_of_ble_eq_true rfl), ?_⟩
  refine ev_aload_n (i := 0) dX6_passes_0 rfl rfl ?_
  refine ev_getI fX6_21 dX6_passes_1 rfl rfl (by decide) ?_
  refine ev_if_eq (tgt := 9) dX6_passes_4 (by decide) (fun h4 => ?_) (fun h4 => ?_)
  · exact absurd h4 h
  · refine ev_iconst (v := 0) dX6_passes_7 kc_0 ?_
    exact s_ret0 dX6_passes_8 ⟨rfl, rfl⟩
theorem c_passes {n p : Nat} (hr : nv_rd I n p 0) (c : Int32) (hc : c ≠ -1) : nw_dZ l g 1 mX6_passes [.ref (nw_a g 13), .int c] I (decide (q_at n (I 14) p = c)) (if q_at n (I 14) p = c then nw_up I 13 2 (nI (p + 1)) else nw_up I 13 3 1) := by
  obtain ⟨hn, hp, hf, h160, hpn⟩ := hr
  refine ⟨(Nat.le_of_ble_eq_true rfl), ?_⟩
  refine ev_aload_n (i := 0) dX6_passes_0 rfl rfl ?_
  refine ev_getI fX6_21 dX6_passes_1 rfl rfl (by decide) ?_
  refine ev_if_eq (tgt := 9) dX6_passes_4 (by decide) (fun h4 => ?_) (fun h4 => ?_)
  · refine ev_aload_n (i := 0) dX6_passes_9 rfl rfl ?_
    refine ev_aload_n (i := 0) dX6_passes_10 rfl rfl ?_
    refine ev_getI fX6_24 dX6_passes_11 rfl rfl (by decide) ?_
    rw [hp]
    refine s_dVi (As := [_]) (c_at hn h160 (by omega)) (Nat.le_of_ble_eq_true rfl) lX6_80 kX6_at vX6_at dX6_passes_14 rfl rfl rfl (by decide) rfl (Nat.le_of_ble_eq_true rfl) ?_
    refine ev_iload_n (i := 1) dX6_passes_17 rfl rfl ?_
    refine ev_icmp_eq (tgt := 27) dX6_passes_18 (by decide) (fun h18 => ?_) (fun h18 => ?_)
    · refine ev_aload_n (i := 0) dX6_passes_27 rfl rfl ?_
      refine ev_dup dX6_passes_28 rfl ?_
      refine ev_getI fX6_24 dX6_passes_29 rfl rfl (by decide) ?_
      rw [hp]
      refine ev_iconst (v := 1) dX6_passes_32 kc_1 ?_
      refine ev_iadd dX6_passes_33 ?_
      rw [nI_1]
      refine ev_putI fX6_24 dX6_passes_34 rfl rfl (by decide) rfl rfl rfl rfl ?_
      refine ev_iconst (v := 1) dX6_passes_37 kc_1 ?_
      exact s_ret1 dX6_passes_38 ⟨by simp [h18], by simp [h18]⟩
    · refine ev_aload_n (i := 0) dX6_passes_21 rfl rfl ?_
      refine ev_iconst (v := 1) dX6_passes_22 kc_1 ?_
      refine s_dVz (As := [_]) (c_fails hf 1) (Nat.le_of_ble_eq_true rfl) lX6_89 kX6_fails vX6_fails dX6_passes_23 rfl rfl rfl (by decide) rfl (Nat.le_of_ble_eq_true rfl) ?_
      exact s_retZ dX6_passes_26 ⟨by simp [h18], by simp [h18]⟩
  · exact absurd hf h4
theorem l_number {n p : Nat} (hr : nv_rd I n p 0) (m : Int32) : ∀ (j k : Nat) (v : Int32), k + j = 3 → nw_S l g 1 mX6_number 4 [some (.ref (nw_a g 13)), some (.int m), some (.int (nI k)), some (.int v)] [] I (nw_qI (fun r I' => (∃ e, (if (q_fig (q_at n (I 14)) p j k v).1 = 0 ∨ 2 < (q_fig (q_at n (I 14)) p j k v).1 then (.inl (1, p) : q_E ⊕ (Int32 × Nat)) else if (q_fig (q_at n (I 14)) p j k v).2 ≤ m then .inr ((q_fig (q_at n (I 14)) p j k v).2, p + (q_fig (q_at n (I 14)) p j k v).1) else .inl (2, p)) = .inl (e, p) ∧ (e = 1 ∨ e = 2) ∧ r = 0 ∧ I' = nw_up I 13 3 e) ∨ ∃ q, (if (q_fig (q_at n (I 14)) p j k v).1 = 0 ∨ 2 < (q_fig (q_at n (I 14)) p j k v).1 then (.inl (1, p) : q_E ⊕ (Int32 × Nat)) else if (q_fig (q_at n (I 14)) p j k v).2 ≤ m then .inr ((q_fig (q_at n (I 14)) p j k v).2, p + (q_fig (q_at n (I 14)) p j k v).1) else .inl (2, p)) = .inr (r, q) ∧ I' = nw_up I 13 2 (nI q))) := by
  obtain ⟨hn, hp, hf, h160, hpn⟩ := hr
  have h3 : (3 : Int32) = nI 3 := by decide
  have h2 : (2 : Int32) = nI 2 := by decide
  have fin : ∀ (k : Nat) (v : Int32), k ≤ 3 → nw_S l g 1 mX6_number 50 [some (.ref (nw_a g 13)), some (.int m), some (.int (nI k)), some (.int v)] [] I (nw_qI (fun r I' => (∃ e, (if k = 0 ∨ 2 < k then (.inl (1, p) : q_E ⊕ (Int32 × Nat)) else if v ≤ m then .inr (v, p + k) else .inl (2, p)) = .inl (e, p) ∧ (e = 1 ∨ e = 2) ∧ r = 0 ∧ I' = nw_up I 13 3 e) ∨ ∃ q, (if k = 0 ∨ 2 < k then (.inl (1, p) : q_E ⊕ (Int32 × Nat)) else if v ≤ m then .inr (v, p + k) else .inl (2, p)) = .inr (r, q) ∧ I' = nw_up I 13 2 (nI q))) := by
    intro k v hk
    refine ev_iload_n (i := 2) dX6_number_50 rfl rfl ?_
    refine ev_if_eq (tgt := 59) dX6_number_51 (by decide) (fun h51 => ?_) (fun h51 => ?_)
    · refine ev_aload_n (i := 0) dX6_number_59 rfl rfl ?_
      refine ev_iconst (v := 1) dX6_number_60 kc_1 ?_
      refine s_dVz (As := [_]) (c_fails hf 1) (Nat.le_of_ble_eq_true rfl) lX6_89 kX6_fails vX6_fails dX6_number_61 rfl rfl rfl (by decide) rfl (Nat.le_of_ble_eq_true rfl) ?_
      refine ev_pop dX6_number_64 rfl ?_
      refine ev_iconst (v := 0) dX6_number_65 kc_0 ?_
      exact s_retI dX6_number_66 (by left; refine ⟨1, if_pos ?_, Or.inl rfl, rfl, rfl⟩; first | (left; exact (nI_eq (by omega) (by decide)).mp (h51.trans nI_0.symm)) | (right; rw [h2, nI_leI (by omega) (by decide)] at h56; omega))
    · refine ev_iload_n (i := 2) dX6_number_54 rfl rfl ?_
      refine ev_iconst (v := 2) dX6_number_55 kc_2 ?_
      refine ev_icmp_le (tgt := 67) dX6_number_56 (by decide) (fun h56 => ?_) (fun h56 => ?_)
      · refine ev_iload_n (i := 3) dX6_number_67 rfl rfl ?_
        refine ev_iload_n (i := 1) dX6_number_68 rfl rfl ?_
        refine ev_icmp_le (tgt := 80) dX6_number_69 (by decide) (fun h69 => ?_) (fun h69 => ?_)
        · refine ev_aload_n (i := 0) dX6_number_80 rfl rfl ?_
          refine ev_dup dX6_number_81 rfl ?_
          refine ev_getI fX6_24 dX6_number_82 rfl rfl (by decide) ?_
          rw [hp]
          refine ev_iload_n (i := 2) dX6_number_85 rfl rfl ?_
          refine ev_iadd dX6_number_86 ?_
          rw [nI_add]
          refine ev_putI fX6_24 dX6_number_87 rfl rfl (by decide) rfl rfl rfl rfl ?_
          refine ev_iload_n (i := 3) dX6_number_90 rfl rfl ?_
          exact s_retI dX6_number_91 (by right; rw [h2, nI_leI (by omega) (by decide)] at h56; refine ⟨p + k, ?_, rfl⟩; rw [if_neg (by have hk0 : k ≠ 0 := fun e => h51 (by rw [e]; exact nI_0); omega), if_pos h69])
        · refine ev_aload_n (i := 0) dX6_number_72 rfl rfl ?_
          refine ev_iconst (v := 2) dX6_number_73 kc_2 ?_
          refine s_dVz (As := [_]) (c_fails hf 2) (Nat.le_of_ble_eq_true rfl) lX6_89 kX6_fails vX6_fails dX6_number_74 rfl rfl rfl (by decide) rfl (Nat.le_of_ble_eq_true rfl) ?_
          refine ev_pop dX6_number_77 rfl ?_
          refine ev_iconst (v := 0) dX6_number_78 kc_0 ?_
          exact s_retI dX6_number_79 (by left; rw [h2, nI_leI (by omega) (by decide)] at h56; refine ⟨2, ?_, Or.inr rfl, rfl, rfl⟩; rw [if_neg (by have hk0 : k ≠ 0 := fun e => h51 (by rw [e]; exact nI_0); omega), if_neg h69])
      · refine ev_aload_n (i := 0) dX6_number_59 rfl rfl ?_
        refine ev_iconst (v := 1) dX6_number_60 kc_1 ?_
        refine s_dVz (As := [_]) (c_fails hf 1) (Nat.le_of_ble_eq_true rfl) lX6_89 kX6_fails vX6_fails dX6_number_61 rfl rfl rfl (by decide) rfl (Nat.le_of_ble_eq_true rfl) ?_
        refine ev_pop dX6_number_64 rfl ?_
        refine ev_iconst (v := 0) dX6_number_65 kc_0 ?_
        exact s_retI dX6_number_66 (by left; refine ⟨1, if_pos ?_, Or.inl rfl, rfl, rfl⟩; first | (left; exact (nI_eq (by omega) (by decide)).mp (h51.trans nI_0.symm)) | (right; rw [h2, nI_leI (by omega) (by decide)] at h56; omega))
  intro j
  induction j with
  | zero =>
    intro k v hk
    refine ev_iload_n (i := 2) dX6_number_4 rfl rfl ?_
    refine ev_iconst (v := 3) dX6_number_5 kc_3 ?_
    refine ev_icmp_ge (tgt := 50) dX6_number_6 (by decide) (fun h6 => ?_) (fun h6 => ?_)
    · exact fin k v (by omega)
    · exact absurd (by rw [h3]; exact nI_le (by omega) (by omega)) h6
  | succ j ih =>
    intro k v hk
    refine ev_iload_n (i := 2) dX6_number_4 rfl rfl ?_
    refine ev_iconst (v := 3) dX6_number_5 kc_3 ?_
    refine ev_icmp_ge (tgt := 50) dX6_number_6 (by decide) (fun h6 => ?_) (fun h6 => ?_)
    · exact absurd h6 (by rw [h3]; exact nI_ge (by omega) (by omega))
    · refine ev_aload_n (i := 0) dX6_number_9 rfl rfl ?_
      refine ev_aload_n (i := 0) dX6_number_10 rfl rfl ?_
      refine ev_getI fX6_24 dX6_number_11 rfl rfl (by decide) ?_
      rw [hp]
      refine ev_iload_n (i := 2) dX6_number_14 rfl rfl ?_
      refine ev_iadd dX6_number_15 ?_
      rw [nI_add]
      refine s_dVi (As := [_]) (c_at hn h160 (by omega)) (Nat.le_of_ble_eq_true rfl) lX6_80 kX6_at vX6_at dX6_number_16 rfl rfl rfl (by decide) rfl (Nat.le_of_ble_eq_true rfl) ?_
      refine s_dSz (As := [_]) (c_fig _) (Nat.le_of_ble_eq_true rfl) lX6_113 kX6_isFigure sX6_isFigure dX6_number_19 rfl rfl (Nat.le_of_ble_eq_true rfl) ?_
      refine s_ifZ_eq (tgt := 50) dX6_number_22 (by decide) (fun h22 => ?_) (fun h22 => ?_)
      · have e : q_fig (q_at n (I 14)) p (j + 1) k v = (k, v) := by simp [q_fig, h22]
        rw [e]
        exact fin k v (by omega)
      · refine ev_bipush (v := 10) dX6_number_25 kb_10 ?_
        refine ev_iload_n (i := 3) dX6_number_27 rfl rfl ?_
        refine ev_imul dX6_number_28 ?_
        refine ev_aload_n (i := 0) dX6_number_29 rfl rfl ?_
        refine ev_aload_n (i := 0) dX6_number_30 rfl rfl ?_
        refine ev_getI fX6_24 dX6_number_31 rfl rfl (by decide) ?_
        rw [hp]
        refine ev_iload_n (i := 2) dX6_number_34 rfl rfl ?_
        refine ev_iadd dX6_number_35 ?_
        rw [nI_add]
        refine s_dVi (As := [_]) (c_at hn h160 (by omega)) (Nat.le_of_ble_eq_true rfl) lX6_80 kX6_at vX6_at dX6_number_36 rfl rfl rfl (by decide) rfl (Nat.le_of_ble_eq_true rfl) ?_
        refine ev_iadd dX6_number_39 ?_
        refine ev_bipush (v := 48) dX6_number_40 kb_48 ?_
        refine ev_isub dX6_number_42 ?_
        refine ev_istore_n (i := 3) dX6_number_43 rfl (Nat.le_of_ble_eq_true rfl) rfl ?_
        refine ev_iincm (m := 1) dX6_number_44 kc_1 rfl (Nat.le_of_ble_eq_true rfl) rfl ?_
        refine ev_goto (tgt := 4) dX6_number_47 (by decide) ?_
        have e : q_fig (q_at n (I 14)) p (j + 1) k v = q_fig (q_at n (I 14)) p j (k + 1) (10 * v + q_at n (I 14) (p + k) - 48) := by simp [q_fig, h22]
        rw [e, nI_1]
        exact ih (k + 1) _ (by omega)
theorem c_number {n p : Nat} (hr : nv_rd I n p 0) (m : Int32) : nw_cI l g 1 mX6_number [.ref (nw_a g 13), .int m] I (fun r I' => (∃ e, q_num (q_at n (I 14)) p m = .inl (e, p) ∧ (e = 1 ∨ e = 2) ∧ r = 0 ∧ I' = nw_up I 13 3 e) ∨ ∃ q, q_num (q_at n (I 14)) p m = .inr (r, q) ∧ I' = nw_up I 13 2 (nI q)) := by
  refine ⟨(Nat.le_of_ble_eq_true rfl), ?_⟩
  refine ev_iconst (v := 0) dX6_number_0 kc_0 ?_
  refine ev_istore_n (i := 2) dX6_number_1 rfl (Nat.le_of_ble_eq_true rfl) rfl ?_
  refine ev_iconst (v := 0) dX6_number_2 kc_0 ?_
  refine ev_istore_n (i := 3) dX6_number_3 rfl (Nat.le_of_ble_eq_true rfl) rfl ?_
  exact l_number hr m 3 0 0 rfl
end
