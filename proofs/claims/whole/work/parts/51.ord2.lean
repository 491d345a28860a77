section
/-! All orders as codes: digits to the base S; those that name each ship once come one behind another as the class finds them. -/
def b_us (S c : Nat) : Nat → Nat
  | 0 => 0
  | i + 1 => b_us S c i ||| 2 ^ (c / S ^ i % S)
def b_pm (S c : Nat) : Bool := Nat.beq (b_us S c S) (2 ^ S - 1)
def b_dg (S c p : Nat) : Nat := c / S ^ (S - 1 - p) % S
def b_P (S c : Nat) : Nat → Int32 := fun p => nI (b_dg S c p)
def b_no (S : Nat) : Nat → Nat → Bool
  | 0, _ => true
  | m + 1, d => !b_pm S d && b_no S m (d + 1)
def b_inj (S c : Nat) : Bool := (List.range S).all fun p => (List.range S).all fun q => Nat.beq p q || !Nat.beq (b_dg S c p) (b_dg S c q)
def b_dig (S : Nat) (Q : Nat → Int32) (d : Nat) : Bool := (List.range S).all fun p => decide (Q p = nI (b_dg S d p))
def b_code (S : Nat) (Q : Nat → Int32) : Nat := (List.range S).foldl (fun a p => a * S + (Q p).toNatClampNeg) 0
def b_force (n : Nat) (f : Nat → Bool) : Bool := match n with
  | 0 => f 0
  | m + 1 => f (m + 1)
theorem b_force_eq (n : Nat) (f : Nat → Bool) : b_force n f = f n := by cases n <;> rfl
def b_run (S e : Nat) : Nat → Nat → Bool
  | 0, c => Nat.beq c e
  | k + 1, c => b_pm S c && (b_inj S c && (match g_next (b_P S c) S with
    | none => Nat.beq k 0 && (Nat.beq e (S ^ S) && (Nat.blt c e && b_no S (S ^ S - 1 - c) (c + 1)))
    | some Q => b_force (b_code S Q) (fun d => Nat.blt c d && (Nat.ble d e && (Nat.blt d (S ^ S) && (b_dig S Q d && (b_no S (d - 1 - c) (c + 1) && b_run S e k d)))))))
theorem b_r0 : b_no 0 0 0 = true ∧ b_run 0 1 1 0 = true := by decide +kernel
theorem b_r1 : b_no 1 0 0 = true ∧ b_run 1 1 1 0 = true := by decide +kernel
theorem b_r2 : b_no 2 1 0 = true ∧ b_run 2 4 2 1 = true := by decide +kernel
theorem b_r3 : b_no 3 5 0 = true ∧ b_run 3 27 6 5 = true := by decide +kernel
theorem b_r4 : b_no 4 27 0 = true ∧ b_run 4 256 24 27 = true := by decide +kernel
theorem b_r5 : b_no 5 194 0 = true ∧ b_run 5 3125 120 194 = true := by decide +kernel
theorem b_r6a : b_no 6 1865 0 = true ∧ b_run 6 8345 120 1865 = true := by decide +kernel
theorem b_r6b : b_run 6 15905 120 8345 = true := by decide +kernel
theorem b_r6c : b_run 6 23645 120 15905 = true := by decide +kernel
theorem b_r6d : b_run 6 31415 120 23645 = true := by decide +kernel
theorem b_r6e : b_run 6 39190 120 31415 = true := by decide +kernel
theorem b_r6f : b_run 6 46656 120 39190 = true := by decide +kernel
/-- the codes gone through -/
def b_fold (ov : Nat → Nat) (S : Nat) : Nat → Nat → Int32 → (Nat → Int32) → Int32 × (Nat → Int32)
  | 0, _, mx, B => (mx, B)
  | m + 1, c, mx, B => if b_pm S c = true then (if nI (ov c) ≤ mx then b_fold ov S m (c + 1) mx B else b_fold ov S m (c + 1) (nI (ov c)) (nm_mx 0 S (b_P S c) B)) else b_fold ov S m (c + 1) mx B
theorem b_fold_no {ov : Nat → Nat} {S : Nat} : ∀ (m c n : Nat) (mx : Int32) (B : Nat → Int32), b_no S m c = true → b_fold ov S (m + n) c mx B = b_fold ov S n (c + m) mx B
  | 0, c, n, mx, B, _ => by rw [Nat.zero_add, Nat.add_zero]
  | m + 1, c, n, mx, B, h => by
    unfold b_no at h
    rw [Bool.and_eq_true] at h
    rw [show m + 1 + n = m + n + 1 by omega]
    conv => lhs; unfold b_fold
    rw [if_neg (by intro q; rw [q] at h; exact absurd h.1 (by decide)), b_fold_no m (c + 1) n mx B h.2, show c + 1 + m = c + (m + 1) by omega]
theorem g_swap_ext {P Q : Nat → Int32} {S i j : Nat} (hi : i < S) (hj : j < S) (h : ∀ p, p < S → P p = Q p) : ∀ p, p < S → g_swap P i j p = g_swap Q i j p := fun p hp => by
  unfold g_swap upd
  rw [h i hi, h j hj, h p hp]
theorem g_rise_ext {P Q : Nat → Int32} {S : Nat} (h : ∀ p, p < S → P p = Q p) : ∀ r, r < S → g_rise P r = g_rise Q r
  | 0, _ => rfl
  | r + 1, hr => by unfold g_rise; rw [h r (by omega), h (r + 1) hr, g_rise_ext h r (by omega)]
theorem g_more_ext {P Q : Nat → Int32} {S k : Nat} (h : ∀ p, p < S → P p = Q p) (hk : k < S) : ∀ r, r < S → g_more P k r = g_more Q k r
  | 0, _ => rfl
  | r + 1, hr => by unfold g_more; rw [h k hk, h (r + 1) hr, g_more_ext h hk r (by omega)]
theorem g_rev_ext {S : Nat} : ∀ (k : Nat) (P Q : Nat → Int32) (lo hi : Nat), hi < S → (∀ p, p < S → P p = Q p) → ∀ p, p < S → g_rev k P lo hi p = g_rev k Q lo hi p
  | 0, _, _, _, _, _, h => h
  | k + 1, P, Q, lo, hi, h1, h => fun p hp => by
    unfold g_rev
    split
    · exact h p hp
    · exact g_rev_ext k _ _ (lo + 1) (hi - 1) (by omega) (g_swap_ext (by omega) h1 h) p hp
theorem g_next_ext {P Q : Nat → Int32} {S : Nat} (h : ∀ p, p < S → P p = Q p) : (g_next P S = none ∧ g_next Q S = none) ∨ ∃ P' Q', g_next P S = some P' ∧ g_next Q S = some Q' ∧ ∀ p, p < S → P' p = Q' p := by
  rcases Nat.eq_zero_or_pos S with rfl | hS
  · exact Or.inl ⟨rfl, rfl⟩
  · have e := g_rise_ext h (S - 1) (by omega)
    unfold g_next
    cases hr : g_rise Q (S - 1) with
    | none => rw [e, hr]; exact Or.inl ⟨rfl, rfl⟩
    | some r =>
      have h1 := g_rise_lt _ _ hr
      have h2 := g_more_le Q r (S - 1)
      rw [e, hr]
      refine Or.inr ⟨_, _, rfl, rfl, ?_⟩
      rw [g_more_ext h (show r < S by omega) (S - 1) (by omega)]
      exact g_rev_ext S _ _ _ _ (by omega) (g_swap_ext (by omega) (by omega) h)
theorem b_inj_spec {S c : Nat} (h : b_inj S c = true) {p q : Nat} (hp : p < S) (hq : q < S) (e : b_dg S c p = b_dg S c q) : p = q := by
  unfold b_inj at h
  have h1 := List.all_eq_true.mp h p (List.mem_range.mpr hp)
  have h2 := List.all_eq_true.mp h1 q (List.mem_range.mpr hq)
  rw [e] at h2
  have h3 : Nat.beq (b_dg S c q) (b_dg S c q) = true := Nat.beq_refl _
  rw [h3, Bool.not_true, Bool.or_false] at h2
  exact Nat.eq_of_beq_eq_true h2
theorem b_dig_spec {S d : Nat} {Q : Nat → Int32} (h : b_dig S Q d = true) {p : Nat} (hp : p < S) : Q p = b_P S d p := of_decide_eq_true (List.all_eq_true.mp h p (List.mem_range.mpr hp))
theorem b_dg_lt {S c p : Nat} (hp : p < S) : b_dg S c p < S := Nat.mod_lt _ (by omega)
/-- what is best on both sides -/
def b_R (S K : Nat) (a c : Int32 × (Nat → Int32)) : Prop := (a.1 = -1 ∧ c.1 = -1) ∨ ∃ x, x ≤ 6 ∧ c.1 = nI x ∧ a.1 = nI (K + x) ∧ ∀ p, p < S → a.2 p = c.2 p
/-- the first time or not: one order -/
theorem b_R.step {S K c v u : Nat} {mx my : Int32} {B E P : Nat → Int32} (hK : K ≤ 6) (h : b_R S K (mx, B) (my, E)) (hv : v ≤ 6) (hu : u = K + v) (hP : ∀ p, p < S → P p = b_P S c p) : b_R S K (if nI u ≤ mx then (mx, B) else (nI u, nm_mx 0 S (b_P S c) B)) (if nI v ≤ my then (my, E) else (nI v, va_cpy P E 0 0 S)) ∧ ∃ x, x ≤ 6 ∧ (if nI v ≤ my then (my, E) else (nI v, va_cpy P E 0 0 S)).1 = nI x := by
  subst hu
  have e1 : (-1 : Int32).toInt = -1 := by decide
  have hnew : b_R S K (nI (K + v), nm_mx 0 S (b_P S c) B) (nI v, va_cpy P E 0 0 S) := Or.inr ⟨v, hv, rfl, rfl, fun p hp => by
    have e2 := nm_mx_in (o := 0) (f := b_P S c) (h := B) hp
    rw [Nat.zero_add] at e2
    show nm_mx 0 S (b_P S c) B p = va_cpy P E 0 0 S p
    rw [e2, pk_cpy_in (by omega) (by omega), show 0 + (p - 0) = p by omega]
    exact (hP p hp).symm⟩
  rcases h with ⟨h1, h2⟩ | ⟨x, h1, h2, h3, h4⟩
  · have h1 : mx = -1 := h1
    have h2 : my = -1 := h2
    subst h1
    subst h2
    have n1 : ¬ nI (K + v) ≤ -1 := fun q => by rw [Int32.le_iff_toInt_le, nI_toInt (by omega)] at q; omega
    have n2 : ¬ nI v ≤ -1 := fun q => by rw [Int32.le_iff_toInt_le, nI_toInt (by omega)] at q; omega
    rw [if_neg n1, if_neg n2]
    exact ⟨hnew, v, hv, rfl⟩
  · have h2 : my = nI x := h2
    have h3 : mx = nI (K + x) := h3
    subst h2
    subst h3
    by_cases hle : v ≤ x
    · rw [if_pos (nI_le (by omega) (by omega)), if_pos (nI_le hle (by omega))]
      exact ⟨Or.inr ⟨x, h1, rfl, rfl, h4⟩, x, h1, rfl⟩
    · rw [if_neg (nI_ge (by omega) (by omega)), if_neg (nI_ge (by omega) (by omega))]
      exact ⟨hnew, v, hv, rfl⟩
theorem b_fold_s {ov : Nat → Nat} {S m c : Nat} {mx : Int32} {B : Nat → Int32} (h : b_pm S c = true) : b_fold ov S (m + 1) c mx B = b_fold ov S m (c + 1) (if nI (ov c) ≤ mx then (mx, B) else (nI (ov c), nm_mx 0 S (b_P S c) B)).1 (if nI (ov c) ≤ mx then (mx, B) else (nI (ov c), nm_mx 0 S (b_P S c) B)).2 := by
  conv => lhs; unfold b_fold
  rw [if_pos h]
  split <;> rfl
theorem o_srch_s {ov : (Nat → Int32) → Nat} {S k : Nat} {P : Nat → Int32} {mx : Int32} {B : Nat → Int32} : o_srch ov S (k + 1) P mx B = o_tail ov S k P (if nI (ov P) ≤ mx then (mx, B) else (nI (ov P), va_cpy P B 0 0 S)).1 (if nI (ov P) ≤ mx then (mx, B) else (nI (ov P), va_cpy P B 0 0 S)).2 := by
  rw [o_srch_tail]
  split <;> rfl
/-- a stretch of codes, and of the class's search -/
theorem b_stretch {ov : Nat → Nat} {oc : (Nat → Int32) → Nat} {S K e r : Nat} (hK : K ≤ 6) (he : e ≤ S ^ S) (hov : ∀ (c : Nat) (P : Nat → Int32), b_inj S c = true → (∀ p, p < S → P p = b_P S c p) → ov c = K + oc P ∧ oc P ≤ 6) : ∀ (k c : Nat) (mx my : Int32) (B E P : Nat → Int32), b_run S e k c = true → b_R S K (mx, B) (my, E) → (∀ p, p < S → P p = b_P S c p) → ∃ mx2 my2 B2 E2 P2, b_R S K (mx2, B2) (my2, E2) ∧ (0 < k → ∃ x, x ≤ 6 ∧ my2 = nI x) ∧ b_fold ov S (S ^ S - c) c mx B = b_fold ov S (S ^ S - e) e mx2 B2 ∧ (∀ p, p < S → P2 p = b_P S e p ∨ e = S ^ S) ∧ o_srch oc S (k + r) P my E = (if e = S ^ S ∧ 0 < k then (my2, E2) else o_srch oc S r P2 my2 E2)
  | 0, c, mx, my, B, E, P, h, hR, hP => by
    have ec : c = e := Nat.eq_of_beq_eq_true h
    subst ec
    exact ⟨mx, my, B, E, P, hR, fun q => by omega, rfl, fun p hp => Or.inl (hP p hp), by rw [if_neg (by omega), Nat.zero_add]⟩
  | k + 1, c, mx, my, B, E, P, h, hR, hP => by
    unfold b_run at h
    rw [Bool.and_eq_true, Bool.and_eq_true] at h
    obtain ⟨hpm, hin, h⟩ := h
    obtain ⟨ho, ho6⟩ := hov c P hin hP
    obtain ⟨hR2, x, hx, ex⟩ := hR.step hK ho6 ho hP
    have es : k + 1 + r = (k + r) + 1 := by omega
    rw [es, o_srch_s]
    generalize hAA : (if nI (ov c) ≤ mx then (mx, B) else (nI (ov c), nm_mx 0 S (b_P S c) B)) = AA at hR2
    generalize hCC : (if nI (oc P) ≤ my then (my, E) else (nI (oc P), va_cpy P E 0 0 S)) = CC at hR2 ex
    obtain ⟨mx1, B1⟩ := AA
    obtain ⟨my1, E1⟩ := CC
    have hf : ∀ m, b_fold ov S (m + 1) c mx B = b_fold ov S m (c + 1) mx1 B1 := fun m => by rw [b_fold_s hpm, hAA]
    unfold o_tail
    rcases g_next_ext hP with ⟨g1, g2⟩ | ⟨P', Q', g1, g2, g3⟩
    · rw [g2] at h
      rw [g1]
      simp only [Bool.and_eq_true] at h
      obtain ⟨hk0, he2, hlt, hno⟩ := h
      have hk0 : k = 0 := Nat.eq_of_beq_eq_true hk0
      have he2 : e = S ^ S := Nat.eq_of_beq_eq_true he2
      have hlt : c < e := Nat.le_of_ble_eq_true hlt
      refine ⟨mx1, my1, B1, E1, P, hR2, fun _ => ⟨x, hx, ex⟩, ?_, fun p hp => Or.inr he2, ?_⟩
      · have e3 : S ^ S - c = (S ^ S - 1 - c) + 0 + 1 := by omega
        have e4 : c + 1 + (S ^ S - 1 - c) = e := by omega
        have e5 := b_fold_no (ov := ov) (S ^ S - 1 - c) (c + 1) 0 mx1 B1 hno
        rw [e4, Nat.add_zero] at e5
        rw [e3, hf, e5, he2, Nat.sub_self]
      · rw [if_pos ⟨he2, by omega⟩]
    · rw [g2] at h
      rw [g1]
      rw [show (match some Q' with
        | none => Nat.beq k 0 && (Nat.beq e (S ^ S) && (Nat.blt c e && b_no S (S ^ S - 1 - c) (c + 1)))
        | some Q => b_force (b_code S Q) (fun d => Nat.blt c d && (Nat.ble d e && (Nat.blt d (S ^ S) && (b_dig S Q d && (b_no S (d - 1 - c) (c + 1) && b_run S e k d)))))) = b_force (b_code S Q') (fun d => Nat.blt c d && (Nat.ble d e && (Nat.blt d (S ^ S) && (b_dig S Q' d && (b_no S (d - 1 - c) (c + 1) && b_run S e k d))))) from rfl, b_force_eq] at h
      generalize b_code S Q' = d at h
      simp only [Bool.and_eq_true] at h
      obtain ⟨hlt, hle, hSS, hdg, hno, hrun⟩ := h
      have hSS : d < S ^ S := Nat.le_of_ble_eq_true hSS
      have hlt : c < d := Nat.le_of_ble_eq_true hlt
      have hle : d ≤ e := Nat.le_of_ble_eq_true hle
      obtain ⟨mx2, my2, B2, E2, P2, q1, q2, q3, q4, q5⟩ := b_stretch (r := r) hK he hov k d mx1 my1 B1 E1 P' hrun hR2 (fun p hp => (g3 p hp).trans (b_dig_spec hdg hp))
      have hfold : b_fold ov S (S ^ S - c) c mx B = b_fold ov S (S ^ S - d) d mx1 B1 := by
        have e3 : S ^ S - c = (d - 1 - c) + (S ^ S - d) + 1 := by omega
        have e4 : c + 1 + (d - 1 - c) = d := by omega
        rw [e3, hf, b_fold_no _ _ _ _ _ hno, e4]
      rcases Nat.eq_zero_or_pos k with rfl | hk
      · have ed : d = e := Nat.eq_of_beq_eq_true hrun
        subst ed
        refine ⟨mx1, my1, B1, E1, P', hR2, fun _ => ⟨x, hx, ex⟩, hfold, fun p hp => Or.inl ((g3 p hp).trans (b_dig_spec hdg hp)), ?_⟩
        rw [if_neg (by omega), Nat.zero_add]
      · refine ⟨mx2, my2, B2, E2, P2, q1, fun _ => q2 hk, hfold.trans q3, q4, ?_⟩
        show o_srch oc S (k + r) P' my1 E1 = _
        rw [q5]
        simp only [hk, Nat.succ_pos, and_true]
theorem b_full {S : Nat} (hS : S ≤ 6) {ov : Nat → Nat} {oc : (Nat → Int32) → Nat} {K : Nat} (hK : K ≤ 6) (hov : ∀ (c : Nat) (P : Nat → Int32), b_inj S c = true → (∀ p, p < S → P p = b_P S c p) → ov c = K + oc P ∧ oc P ≤ 6) (B E P : Nat → Int32) (hP : ∀ p, p < S → P p = nI p) : (b_fold ov S (S ^ S) 0 (-1) B).1 = (o_srch oc S 720 P (-1) E).1 + nI K ∧ ∀ p, p < S → (b_fold ov S (S ^ S) 0 (-1) B).2 p = (o_srch oc S 720 P (-1) E).2 p := by
  have fin : ∀ {mx my : Int32} {B E : Nat → Int32}, b_R S K (mx, B) (my, E) → (∃ x, x ≤ 6 ∧ my = nI x) → mx = my + nI K ∧ ∀ p, p < S → B p = E p := by
    intro mx my B E h hx
    obtain ⟨x, hx6, hx⟩ := hx
    rcases h with ⟨-, h2⟩ | ⟨y, h1, h2, h3, h4⟩
    · exfalso
      have h2 : my = -1 := h2
      rw [hx] at h2
      have e := congrArg Int32.toInt h2
      rw [nI_toInt (by omega)] at e
      have e1 : (-1 : Int32).toInt = -1 := by decide
      omega
    · have h2 : my = nI y := h2
      have h3 : mx = nI (K + y) := h3
      exact ⟨by rw [h3, h2, nI_add, Nat.add_comm], h4⟩
  have one : ∀ (k c0 : Nat), 0 < k → k ≤ 720 → c0 ≤ S ^ S → b_no S c0 0 = true → b_run S (S ^ S) k c0 = true → (∀ p, p < S → nI p = b_P S c0 p) → (b_fold ov S (S ^ S) 0 (-1) B).1 = (o_srch oc S 720 P (-1) E).1 + nI K ∧ ∀ p, p < S → (b_fold ov S (S ^ S) 0 (-1) B).2 p = (o_srch oc S 720 P (-1) E).2 p := by
    intro k c0 hk hk7 hc hno hrun hid
    obtain ⟨mx2, my2, B2, E2, P2, q1, q2, q3, -, q5⟩ := b_stretch (r := 720 - k) hK (Nat.le_refl _) hov k c0 (-1) (-1) B E P hrun (Or.inl ⟨rfl, rfl⟩) (fun p hp => (hP p hp).trans (hid p hp))
    have e1 : b_fold ov S (S ^ S) 0 (-1) B = (mx2, B2) := by
      have e := b_fold_no (ov := ov) c0 0 (S ^ S - c0) (-1) B hno
      rw [show c0 + (S ^ S - c0) = S ^ S by omega, Nat.zero_add] at e
      rw [e, q3, Nat.sub_self]
      rfl
    rw [if_pos ⟨rfl, hk⟩, show k + (720 - k) = 720 by omega] at q5
    rw [e1, q5]
    exact fin q1 (q2 hk)
  rcases (show S = 0 ∨ S = 1 ∨ S = 2 ∨ S = 3 ∨ S = 4 ∨ S = 5 ∨ S = 6 by omega) with rfl | rfl | rfl | rfl | rfl | rfl | rfl
  · exact one 1 0 (by decide) (by decide) (by decide) b_r0.1 b_r0.2 (fun p hp => by omega)
  · exact one 1 0 (by decide) (by decide) (by decide) b_r1.1 b_r1.2 (by decide)
  · exact one 2 1 (by decide) (by decide) (by decide) b_r2.1 b_r2.2 (by decide)
  · exact one 6 5 (by decide) (by decide) (by decide) b_r3.1 b_r3.2 (by decide)
  · exact one 24 27 (by decide) (by decide) (by decide) b_r4.1 b_r4.2 (by decide)
  · exact one 120 194 (by decide) (by decide) (by decide) b_r5.1 b_r5.2 (by decide)
  · have id6 : ∀ p, p < 6 → nI p = b_P 6 1865 p := by decide
    have s6 : (6 : Nat) ^ 6 = 46656 := by decide
    have link : ∀ {e : Nat}, e ≠ 6 ^ 6 → ∀ {P2 : Nat → Int32}, (∀ p, p < 6 → P2 p = b_P 6 e p ∨ e = 6 ^ 6) → ∀ p, p < 6 → P2 p = b_P 6 e p := fun he _ h p hp => (h p hp).resolve_right he
    obtain ⟨x1, y1, B1, E1, P1, a1, -, a3, a4, a5⟩ := b_stretch (r := 600) hK (show 8345 ≤ 6 ^ 6 by decide) hov 120 1865 (-1) (-1) B E P b_r6a.2 (Or.inl ⟨rfl, rfl⟩) (fun p hp => (hP p hp).trans (id6 p hp))
    obtain ⟨x2, y2, B2, E2, P2, c1, -, c3, c4, c5⟩ := b_stretch (r := 480) hK (show 15905 ≤ 6 ^ 6 by decide) hov 120 8345 x1 y1 B1 E1 P1 b_r6b a1 (link (by decide) a4)
    obtain ⟨x3, y3, B3, E3, P3, d1, -, d3, d4, d5⟩ := b_stretch (r := 360) hK (show 23645 ≤ 6 ^ 6 by decide) hov 120 15905 x2 y2 B2 E2 P2 b_r6c c1 (link (by decide) c4)
    obtain ⟨x4, y4, B4, E4, P4, f1, -, f3, f4, f5⟩ := b_stretch (r := 240) hK (show 31415 ≤ 6 ^ 6 by decide) hov 120 23645 x3 y3 B3 E3 P3 b_r6d d1 (link (by decide) d4)
    obtain ⟨x5, y5, B5, E5, P5, k1, -, k3, k4, k5⟩ := b_stretch (r := 120) hK (show 39190 ≤ 6 ^ 6 by decide) hov 120 31415 x4 y4 B4 E4 P4 b_r6e f1 (link (by decide) f4)
    obtain ⟨x6, y6, B6, E6, P6, m1, m2, m3, -, m5⟩ := b_stretch (r := 0) hK (show 46656 ≤ 6 ^ 6 by decide) hov 120 39190 x5 y5 B5 E5 P5 b_r6f k1 (link (by decide) k4)
    rw [if_neg (by decide)] at a5 c5 d5 f5 k5
    rw [if_pos (by decide)] at m5
    have e1 : b_fold ov 6 (6 ^ 6) 0 (-1) B = (x6, B6) := by
      have e := b_fold_no (ov := ov) 1865 0 (6 ^ 6 - 1865) (-1) B b_r6a.1
      rw [show 1865 + (6 ^ 6 - 1865) = 6 ^ 6 by decide, Nat.zero_add] at e
      rw [e, a3, c3, d3, f3, k3, m3]
      rfl
    have e2 : o_srch oc 6 720 P (-1) E = (y6, E6) := a5.trans (c5.trans (d5.trans (f5.trans (k5.trans m5))))
    rw [e1, e2]
    exact fin m1 (m2 (by decide))
end
