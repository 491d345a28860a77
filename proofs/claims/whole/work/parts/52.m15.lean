section
variable {l : Launch} {g : nw_G} {I : nw_Me} {N T S : Nat} {C F G : Nat → Int32} {b : Bool} {L : List (Nat → Int32)}
theorem b_us_lt {S c : Nat} (h0 : 0 < S) (hS : S ≤ 6) : ∀ i, b_us S c i < 2 ^ 6
  | 0 => (by decide : 0 < 2 ^ 6)
  | i + 1 => Nat.or_lt_two_pow (b_us_lt h0 hS i) (Nat.pow_lt_pow_right (by decide) (Nat.lt_of_lt_of_le (Nat.mod_lt _ h0) hS))
theorem b_bit : ∀ u, u < 64 → ∀ d, d < 6 → nI u ||| ((1 : Int32) <<< (nI d &&& 31)) = nI (u ||| 2 ^ d) := by decide +kernel
theorem b_all : ∀ s, s < 7 → ((1 : Int32) <<< (nI s &&& 31)) - 1 = nI (2 ^ s - 1) := by decide +kernel
theorem b_pow {S : Nat} (hS : S ≤ 6) : S ^ S ≤ 46656 := by
  rcases (show S = 0 ∨ S = 1 ∨ S = 2 ∨ S = 3 ∨ S = 4 ∨ S = 5 ∨ S = 6 by omega) with rfl | rfl | rfl | rfl | rfl | rfl | rfl <;> decide
theorem ord_k {S : Nat} (hS : S ≤ 6) {k : Int32} (h : nv_in k (-1) (nI S - 1) = true) (hk : ¬ k = -1) : ∃ k0, k0 < S ∧ k = nI k0 := by
  refine nv_in_S (by omega) ?_
  unfold nv_in at h ⊢
  rw [Bool.and_eq_true] at h ⊢
  refine ⟨decide_eq_true (fun q => ?_), h.2⟩
  have h1 := of_decide_eq_true h.1
  rw [Int32.lt_iff_toInt_lt] at h1 q
  have e1 : (-1 : Int32).toInt = -1 := by decide
  have e0 : (0 : Int32).toInt = 0 := by decide
  exact hk (Int32.toInt_inj.mp (by omega))
theorem l_lays {c : Nat} (hS : S ≤ 6) (hc : c < 2 ^ 30) : ∀ (m i : Nat) (J : nw_Me), i + m = S → (∀ k, m ≤ k → k < S → J 234 k = b_P S c k) → (∀ q, q ≠ 234 → J q = I q) → nw_S l g 0 mX10_lays 10 [some (.ref (nw_a g 219)), some (.int (nI c)), some (.int (nI S)), some (.int (nI (c / S ^ i))), some (.int (nI (b_us S c i))), some (.int (nI m - 1))] [] J (nw_qZ (fun b J => b = b_pm S c ∧ (∀ k, k < S → J 234 k = b_P S c k) ∧ ∀ q, q ≠ 234 → J q = I q)) := by
  intro m
  induction m with
  | zero =>
    intro i J hi hd hJ
    obtain rfl : i = S := by omega
    have hu : b_us i c i < 2 ^ 31 := by
      rcases Nat.eq_zero_or_pos i with rfl | h0
      · exact (by decide : 0 < 2 ^ 31)
      · exact Nat.lt_trans (b_us_lt h0 hS i) (by decide)
    have hp : 2 ^ i - 1 < 2 ^ 31 := by have : 2 ^ i ≤ 2 ^ 6 := Nat.pow_le_pow_right (by decide) hS; omega
    refine ev_iload dX10_lays_10 rfl ?_
    refine ev_if_lt (tgt := 49) dX10_lays_12 (by decide) (fun h12 => ?_) (fun h12 => ?_)
    · refine ev_iload dX10_lays_49 rfl ?_
      refine ev_iconst (v := 1) dX10_lays_51 kc_1 ?_
      refine ev_iload_n (i := 2) dX10_lays_52 rfl rfl ?_
      refine ev_ishl dX10_lays_53 ?_
      refine ev_iconst (v := 1) dX10_lays_54 kc_1 ?_
      refine ev_isub dX10_lays_55 ?_
      rw [b_all i (by omega)]
      refine ev_icmp_ne (tgt := 63) dX10_lays_56 (by decide) (fun h56 => ?_) (fun h56 => ?_)
      · refine ev_iconst (v := 0) dX10_lays_63 kc_0 ?_
        exact s_ret0 dX10_lays_64 ⟨by
        unfold b_pm
        first
          | (cases hb : Nat.beq (b_us i c i) (2 ^ i - 1) with
             | false => rfl
             | true => exact absurd (congrArg nI (Nat.eq_of_beq_eq_true hb)) h56)
          | (rw [(nI_eq hu hp).mp h56]; exact (Nat.beq_refl _).symm), fun k hk => hd k (by omega) hk, hJ⟩
      · refine ev_iconst (v := 1) dX10_lays_59 kc_1 ?_
        refine ev_goto (tgt := 64) dX10_lays_60 (by decide) ?_
        exact s_ret1 dX10_lays_64 ⟨by
        unfold b_pm
        first
          | (cases hb : Nat.beq (b_us i c i) (2 ^ i - 1) with
             | false => rfl
             | true => exact absurd (congrArg nI (Nat.eq_of_beq_eq_true hb)) h56)
          | (rw [(nI_eq hu hp).mp h56]; exact (Nat.beq_refl _).symm), fun k hk => hd k (by omega) hk, hJ⟩
    · exact absurd (show nI 0 - 1 < 0 by decide) h12
  | succ m ih =>
    intro i J hi hd hJ
    have h0 : 0 < S := by omega
    have hdiv : c / S ^ i < 2 ^ 30 := Nat.lt_of_le_of_lt (Nat.div_le_self _ _) hc
    have hdl : c / S ^ i % S < S := Nat.mod_lt _ h0
    have erem : nI (c / S ^ i) - nI (c / S ^ i) / nI S * nI S = nI (c / S ^ i % S) := pk_rem (by omega) h0 (by omega)
    have ediv : nI (c / S ^ i) / nI S = nI (c / S ^ (i + 1)) := by rw [pk_div (by omega) h0 (by omega), Nat.div_div_eq_div_mul, Nat.pow_succ]
    have hne : ¬ nI S = 0 := nI_ne0 h0 (by omega)
    rw [nI_pred m]
    refine ev_iload dX10_lays_10 rfl ?_
    refine ev_if_lt (tgt := 49) dX10_lays_12 (by decide) (fun h12 => ?_) (fun h12 => ?_)
    · exact absurd h12 (nI_pos (by omega))
    · refine ev_aload_n (i := 0) dX10_lays_15 rfl rfl ?_
      refine ev_getR fX10_53 dX10_lays_16 rfl rfl (by decide) ?_
      refine ev_iload dX10_lays_19 rfl ?_
      refine ev_iload_n (i := 3) dX10_lays_21 rfl rfl ?_
      refine ev_iload_n (i := 2) dX10_lays_22 rfl rfl ?_
      refine ev_irem dX10_lays_23 hne ?_
      rw [erem]
      refine ev_iastN (j := m) dX10_lays_24 rfl (by omega) (by decide) ?_
      refine ev_iload_n (i := 3) dX10_lays_25 rfl rfl ?_
      refine ev_iload_n (i := 2) dX10_lays_26 rfl rfl ?_
      refine ev_idiv dX10_lays_27 hne ?_
      rw [ediv]
      refine ev_istore_n (i := 3) dX10_lays_28 rfl (Nat.le_of_ble_eq_true rfl) rfl ?_
      refine ev_iload dX10_lays_29 rfl ?_
      refine ev_iconst (v := 1) dX10_lays_31 kc_1 ?_
      refine ev_aload_n (i := 0) dX10_lays_32 rfl rfl ?_
      refine ev_getR fX10_53 dX10_lays_33 rfl rfl (by decide) ?_
      refine ev_iload dX10_lays_36 rfl ?_
      refine ev_ialdN (j := m) dX10_lays_38 rfl (by omega) (by decide) ?_
      rw [nw_up_self, pk_us]
      refine ev_ishl dX10_lays_39 ?_
      refine ev_ior dX10_lays_40 ?_
      rw [b_bit _ (b_us_lt h0 hS i) _ (by omega)]
      refine ev_istore dX10_lays_41 (Nat.le_of_ble_eq_true rfl) rfl ?_
      refine ev_iincm (m := (-1)) dX10_lays_43 kc_m1 rfl (Nat.le_of_ble_eq_true rfl) rfl ?_
      refine ev_goto (tgt := 10) dX10_lays_46 (by decide) ?_
      rw [nI_sub1]
      refine ih (i + 1) _ (by omega) (fun k k1 k2 => ?_) (fun q hq => by rw [nw_up_ne hq]; exact hJ q hq)
      rw [nw_up_self]
      by_cases e : k = m
      · subst e
        rw [pk_us]
        unfold b_P b_dg
        rw [show S - 1 - k = i by omega]
      · rw [pk_un e]
        exact hd k (by omega) k2
theorem m_lays {c : Nat} (hS : S ≤ 6) (hc : c < 2 ^ 30) : nw_cZ l g 0 mX10_lays [.ref (nw_a g 219), .int (nI c), .int (nI S)] I (fun b J => b = b_pm S c ∧ (∀ k, k < S → J 234 k = b_P S c k) ∧ ∀ q, q ≠ 234 → J q = I q) := by
  refine ⟨(Nat.le_of_ble_eq_true rfl), ?_⟩
  refine ev_iload_n (i := 1) dX10_lays_0 rfl rfl ?_
  refine ev_istore_n (i := 3) dX10_lays_1 rfl (Nat.le_of_ble_eq_true rfl) rfl ?_
  refine ev_iconst (v := 0) dX10_lays_2 kc_0 ?_
  refine ev_istore dX10_lays_3 (Nat.le_of_ble_eq_true rfl) rfl ?_
  refine ev_iload_n (i := 2) dX10_lays_5 rfl rfl ?_
  refine ev_iconst (v := 1) dX10_lays_6 kc_1 ?_
  refine ev_isub dX10_lays_7 ?_
  refine ev_istore dX10_lays_8 (Nat.le_of_ble_eq_true rfl) rfl ?_
  have := l_lays (l := l) (g := g) (I := I) hS hc S 0 I (by omega) (fun k k1 k2 => by omega) (fun _ _ => rfl)
  rw [show c / S ^ 0 = c by rw [Nat.pow_zero, Nat.div_one]] at this
  exact this
theorem l_ord1 {n c : Nat} {k mx : Int32} {z8 : Option Value} {Post : Option Int32 → List nw_Sh → nw_Me → Prop} (hS : S ≤ 6) (kk : ∀ (K : nw_Me), (∀ i, i < 29 → K 233 i = o_put (I 234) S (I 233) i) → (∀ q, q ≠ 233 → K q = I q) → nw_S l g 5 mX10_order 134 [some (.ref (nw_a g 219)), some (.int (nI n)), some (.int k), some (.int (nI S)), some (.int (nI (S ^ S))), some (.int mx), some (.int (nI c)), some (.int (nI S)), z8] [] K Post) : ∀ (m j : Nat) (J : nw_Me), j + m = S → (∀ i, i < 29 → J 233 i = o_put (I 234) j (I 233) i) → (∀ q, q ≠ 233 → J q = I q) → nw_S l g 5 mX10_order 106 [some (.ref (nw_a g 219)), some (.int (nI n)), some (.int k), some (.int (nI S)), some (.int (nI (S ^ S))), some (.int mx), some (.int (nI c)), some (.int (nI j)), z8] [] J Post := by
  intro m
  induction m with
  | zero =>
    intro j J hj h1 h2
    obtain rfl : j = S := by omega
    refine ev_iload dX10_order_106 rfl ?_
    refine ev_iload_n (i := 3) dX10_order_108 rfl rfl ?_
    refine ev_icmp_ge (tgt := 134) dX10_order_109 (by decide) (fun h109 => ?_) (fun h109 => ?_)
    · exact kk J h1 h2
    · exact absurd (nI_le (by omega) (by omega)) h109
  | succ m ih =>
    intro j J hj h1 h2
    refine ev_iload dX10_order_106 rfl ?_
    refine ev_iload_n (i := 3) dX10_order_108 rfl rfl ?_
    refine ev_icmp_ge (tgt := 134) dX10_order_109 (by decide) (fun h109 => ?_) (fun h109 => ?_)
    · exact absurd h109 (nI_ge (by omega) (by omega))
    · refine ev_aload_n (i := 0) dX10_order_112 rfl rfl ?_
      refine ev_getR fX10_50 dX10_order_113 rfl rfl (by decide) ?_
      refine ev_iconst (v := 5) dX10_order_116 kc_5 ?_
      refine ev_iload dX10_order_117 rfl ?_
      refine ev_iaddN (a := 5) (b := j) dX10_order_119 ?_
      refine ev_aload_n (i := 0) dX10_order_120 rfl rfl ?_
      refine ev_getR fX10_53 dX10_order_121 rfl rfl (by decide) ?_
      refine ev_iload dX10_order_124 rfl ?_
      refine ev_ialdN (j := j) dX10_order_126 rfl (by omega) (by decide) ?_
      refine ev_iastN (j := (5 + j)) dX10_order_127 rfl (by omega) (by decide) ?_
      refine ev_iincN (a := j) dX10_order_128 rfl (Nat.le_of_ble_eq_true rfl) rfl ?_
      refine ev_goto (tgt := 106) dX10_order_131 (by decide) ?_
      refine ih (j + 1) _ (by omega) (fun i hi => ?_) (fun q hq => by rw [nw_up_ne hq]; exact h2 q hq)
      rw [nw_up_self, h2 234 (by decide)]
      by_cases e : i = 5 + j
      · subst e
        rw [pk_us, o_put_in (by omega)]
      · rw [pk_un e, h1 i hi]
        unfold o_put
        by_cases e2 : 5 ≤ i ∧ i < 5 + j
        · rw [if_pos e2, if_pos (by omega)]
        · rw [if_neg e2, if_neg (by omega)]
theorem l_ord2 {n c : Nat} {k mx z7 : Int32} {Post : Option Int32 → List nw_Sh → nw_Me → Prop} (hS : S ≤ 6) (kk : ∀ (K : nw_Me), K 235 = nm_mx 0 S (I 234) (I 235) → (∀ q, q ≠ 235 → K q = I q) → nw_S l g 5 mX10_order 186 [some (.ref (nw_a g 219)), some (.int (nI n)), some (.int k), some (.int (nI S)), some (.int (nI (S ^ S))), some (.int mx), some (.int (nI c)), some (.int z7), some (.int (nI S))] [] K Post) : ∀ (m j : Nat) (J : nw_Me), j + m = S → J 235 = nm_mx 0 j (I 234) (I 235) → (∀ q, q ≠ 235 → J q = I q) → nw_S l g 5 mX10_order 160 [some (.ref (nw_a g 219)), some (.int (nI n)), some (.int k), some (.int (nI S)), some (.int (nI (S ^ S))), some (.int mx), some (.int (nI c)), some (.int z7), some (.int (nI j))] [] J Post := by
  intro m
  induction m with
  | zero =>
    intro j J hj h1 h2
    obtain rfl : j = S := by omega
    refine ev_iload dX10_order_160 rfl ?_
    refine ev_iload_n (i := 3) dX10_order_162 rfl rfl ?_
    refine ev_icmp_ge (tgt := 186) dX10_order_163 (by decide) (fun h163 => ?_) (fun h163 => ?_)
    · exact kk J h1 h2
    · exact absurd (nI_le (by omega) (by omega)) h163
  | succ m ih =>
    intro j J hj h1 h2
    refine ev_iload dX10_order_160 rfl ?_
    refine ev_iload_n (i := 3) dX10_order_162 rfl rfl ?_
    refine ev_icmp_ge (tgt := 186) dX10_order_163 (by decide) (fun h163 => ?_) (fun h163 => ?_)
    · exact absurd h163 (nI_ge (by omega) (by omega))
    · refine ev_aload_n (i := 0) dX10_order_166 rfl rfl ?_
      refine ev_getR fX10_56 dX10_order_167 rfl rfl (by decide) ?_
      refine ev_iload dX10_order_170 rfl ?_
      refine ev_aload_n (i := 0) dX10_order_172 rfl rfl ?_
      refine ev_getR fX10_53 dX10_order_173 rfl rfl (by decide) ?_
      refine ev_iload dX10_order_176 rfl ?_
      refine ev_ialdN (j := j) dX10_order_178 rfl (by omega) (by decide) ?_
      refine ev_iastN (j := j) dX10_order_179 rfl (by omega) (by decide) ?_
      refine ev_iincN (a := j) dX10_order_180 rfl (Nat.le_of_ble_eq_true rfl) rfl ?_
      refine ev_goto (tgt := 160) dX10_order_183 (by decide) ?_
      refine ih (j + 1) _ (by omega) ?_ (fun q hq => by rw [nw_up_ne hq]; exact h2 q hq)
      rw [nw_up_self, h2 234 (by decide), h1]
      have e := nm_mx_s 0 j (I 234) (I 235)
      rw [Nat.zero_add] at e
      exact e
theorem l_codes {n : Nat} {k : Int32} (hW : nm_W I true N T S C F) (hn : n ≤ 60) (hk1 : nv_in k (-1) (nI S - 1) = true) : ∀ (m c : Nat) (mx : Int32) (B : Nat → Int32) (J : nw_Me) (z7 z8 : Option Value), c + m = S ^ S → (∀ p, p < S → J 235 p = B p) → (∀ q, q ≠ 233 → q ≠ 234 → q ≠ 235 → J q = I q) → nw_S l g 5 mX10_order 82 [some (.ref (nw_a g 219)), some (.int (nI n)), some (.int k), some (.int (nI S)), some (.int (nI (S ^ S))), some (.int mx), some (.int (nI c)), z7, z8] [] J (nw_qI (fun r K => r = (if k = -1 then (b_fold (fun c => p_cnt (p_isf (p_pass C T S n (o_put (b_P S c) S F)) 1) S 0) S m c mx B).1 else (b_fold (fun c => p_cnt (p_isf (p_pass C T S n (o_put (b_P S c) S F)) 1) S 0) S m c mx B).2 k.toNatClampNeg) ∧ ∀ q, q ≠ 233 → q ≠ 234 → q ≠ 235 → K q = I q)) := by
  obtain ⟨-, h0, h0T, hk, hsok⟩ := hW.sea (Or.inr (Or.inr (Or.inr rfl)))
  obtain ⟨v, hv2, hv⟩ := hsok.2.2.1
  have hT3 := hW.2.1.hT
  have hS6 := hW.2.1.hS
  have hSS := b_pow hS6
  intro m
  induction m with
  | zero =>
    intro c mx B J z7 z8 hc hB hJ
    obtain rfl : c = S ^ S := by omega
    refine ev_iload dX10_order_82 rfl ?_
    refine ev_iload dX10_order_84 rfl ?_
    refine ev_icmp_ge (tgt := 192) dX10_order_86 (by decide) (fun h86 => ?_) (fun h86 => ?_)
    · refine ev_iload_n (i := 2) dX10_order_192 rfl rfl ?_
      refine ev_iconst (v := (-1)) dX10_order_193 kc_m1 ?_
      refine ev_icmp_ne (tgt := 202) dX10_order_194 (by decide) (fun h194 => ?_) (fun h194 => ?_)
      · obtain ⟨k0, hk0, rfl⟩ : ∃ k0, k0 < S ∧ k = nI k0 := ord_k hS6 hk1 h194
        refine ev_aload_n (i := 0) dX10_order_202 rfl rfl ?_
        refine ev_getR fX10_56 dX10_order_203 rfl rfl (by decide) ?_
        refine ev_iload_n (i := 2) dX10_order_206 rfl rfl ?_
        refine ev_ialdN (j := k0) dX10_order_207 rfl (by omega) (by decide) ?_
        exact s_retI dX10_order_208 ⟨by first
        | (rw [if_pos h194]; rfl)
        | (rw [if_neg h194, nI_clamp (by omega)]; exact hB k0 hk0)
        | (rw [if_pos (Decidable.byContradiction (fun q => h194 q))]; rfl), hJ⟩
      · refine ev_iload dX10_order_197 rfl ?_
        refine ev_goto (tgt := 208) dX10_order_199 (by decide) ?_
        exact s_retI dX10_order_208 ⟨by first
        | (rw [if_pos h194]; rfl)
        | (rw [if_neg h194, nI_clamp (by omega)]; exact hB k0 hk0)
        | (rw [if_pos (Decidable.byContradiction (fun q => h194 q))]; rfl), hJ⟩
    · exact absurd (nI_le (by omega) (by omega)) h86
  | succ m ih =>
    intro c mx B J z7 z8 hc hB hJ
    have hWJ := hW.ext (hJ 225 (by decide) (by decide) (by decide)) (hJ 226 (by decide) (by decide) (by decide))
    refine ev_iload dX10_order_82 rfl ?_
    refine ev_iload dX10_order_84 rfl ?_
    refine ev_icmp_ge (tgt := 192) dX10_order_86 (by decide) (fun h86 => ?_) (fun h86 => ?_)
    · exact absurd h86 (nI_ge (by omega) (by omega))
    · refine ev_aload_n (i := 0) dX10_order_89 rfl rfl ?_
      refine ev_iload dX10_order_90 rfl ?_
      refine ev_iload_n (i := 3) dX10_order_92 rfl rfl ?_
      refine s_callVz (As := [_, _]) (m_lays hS6 (show c < 2 ^ 30 by omega)) (Nat.le_of_ble_eq_true rfl) lX10_247 kX10_lays vX10_lays dX10_order_93 rfl rfl rfl (by decide) rfl (Nat.le_of_ble_eq_true rfl) (fun bb J1 h1 => ?_)
      obtain ⟨eb, hd, hJ1⟩ := h1
      subst eb
      have hJ1I : ∀ q, q ≠ 233 → q ≠ 234 → q ≠ 235 → J1 q = I q := fun q q1 q2 q3 => by rw [hJ1 q q2]; exact hJ q q1 q2 q3
      have hW1 := hW.ext (hJ1I 225 (by decide) (by decide) (by decide)) (hJ1I 226 (by decide) (by decide) (by decide))
      refine s_ifZ_eq (tgt := 186) dX10_order_96 (by decide) (fun h96 => ?_) (fun h96 => ?_)
      · refine ev_iincN (a := c) dX10_order_186 rfl (Nat.le_of_ble_eq_true rfl) rfl ?_
        refine ev_goto (tgt := 82) dX10_order_189 (by decide) ?_
        have ep : (b_fold (fun c => p_cnt (p_isf (p_pass C T S n (o_put (b_P S c) S F)) 1) S 0) S (m + 1) c mx B) = (b_fold (fun c => p_cnt (p_isf (p_pass C T S n (o_put (b_P S c) S F)) 1) S 0) S m (c + 1) mx B) := by
          conv => lhs; unfold b_fold
          rw [if_neg (by rw [h96]; decide)]
        rw [ep]
        exact ih (c + 1) mx B J1 _ _ (by omega) (fun p hp => by rw [hJ1 235 (by decide)]; exact hB p hp) hJ1I
      · refine ev_aload_n (i := 0) dX10_order_99 rfl rfl ?_
        refine s_callVv (As := []) (m_asNow) (Nat.le_of_ble_eq_true rfl) lX10_205 kX10_asNow vX10_asNow dX10_order_100 rfl rfl rfl (by decide) rfl (Nat.le_of_ble_eq_true rfl) (fun J2 h2 => ?_)
        refine ev_iconst (v := 0) dX10_order_103 kc_0 ?_
        refine ev_istore dX10_order_104 (Nat.le_of_ble_eq_true rfl) rfl ?_
        refine l_ord1 (I := J2) hS6 (fun J3 a1 a2 => ?_) S 0 _ (by omega) (fun i hi => by unfold o_put; rw [if_neg (by omega)]) (fun _ _ => rfl)
        have hso := hW1.so h2.1
        have hG : nl_F T S (o_put (b_P S c) S F) (J3 233) := fun i hi => by
          have hi29 : i < 29 := by unfold nl_f at hi; omega
          rw [a1 i hi29]
          unfold o_put
          by_cases e : 5 ≤ i ∧ i < 5 + S
          · rw [if_pos e, if_pos e, h2.2 234 (by decide)]
            exact hd _ (by omega)
          · rw [if_neg e, if_neg e]
            exact hso i hi
        have hFk : nv_fok (o_put (b_P S c) S F) S := fun p hp => ⟨b_dg S c p, b_dg_lt hp, by rw [o_put_in hp]; rfl⟩
        have hC3 : nl_C N T S C (J3 225) := by rw [a2 225 (by decide), h2.2 225 (by decide)]; exact hW1.2.1
        refine ev_aload_n (i := 0) dX10_order_134 rfl rfl ?_
        refine ev_iload_n (i := 1) dX10_order_135 rfl rfl ?_
        refine s_callVv (As := [_]) (m_waves0 (x := n) (v := v) hC3 h0 hk (by omega) hFk (by rw [o_put_out (by omega)]; exact hsok.law) (by rw [o_put_out (by omega)]; exact hv) (by omega) hG) (Nat.le_of_ble_eq_true rfl) lX10_208 kX10_waves0 vX10_waves0 dX10_order_136 rfl rfl rfl (by decide) rfl (Nat.le_of_ble_eq_true rfl) (fun J4 h4 => ?_)
        refine ev_aload_n (i := 0) dX10_order_139 rfl rfl ?_
        refine ev_iconst (v := 1) dX10_order_140 kc_1 ?_
        refine s_dVi (As := [_]) (m_many (by rw [h4.2 225 (by decide)]; exact hC3) h4.1 _) (Nat.le_of_ble_eq_true rfl) lX10_238 kX10_many vX10_many dX10_order_141 rfl rfl rfl (by decide) rfl (Nat.le_of_ble_eq_true rfl) ?_
        have hJ4 : ∀ q, q ≠ 233 → J4 q = J1 q := fun q hq => by rw [h4.2 q hq, a2 q hq, h2.2 q hq]
        refine ev_istore dX10_order_144 (Nat.le_of_ble_eq_true rfl) rfl ?_
        refine ev_iload dX10_order_146 rfl ?_
        refine ev_iload dX10_order_148 rfl ?_
        refine ev_icmp_le (tgt := 186) dX10_order_150 (by decide) (fun h150 => ?_) (fun h150 => ?_)
        · refine ev_iincN (a := c) dX10_order_186 rfl (Nat.le_of_ble_eq_true rfl) rfl ?_
          refine ev_goto (tgt := 82) dX10_order_189 (by decide) ?_
          have ep : (b_fold (fun c => p_cnt (p_isf (p_pass C T S n (o_put (b_P S c) S F)) 1) S 0) S (m + 1) c mx B) = (b_fold (fun c => p_cnt (p_isf (p_pass C T S n (o_put (b_P S c) S F)) 1) S 0) S m (c + 1) mx (B)) := by
            conv => lhs; unfold b_fold
            rw [if_pos h96]
            exact if_pos h150
          rw [ep]
          exact ih (c + 1) _ (B) J4 _ _ (by omega) (fun p hp => by rw [hJ4 235 (by decide), hJ1 235 (by decide)]; exact hB p hp) (fun q q1 q2 q3 => by rw [hJ4 q q1]; exact hJ1I q q1 q2 q3)
        · refine ev_iload dX10_order_153 rfl ?_
          refine ev_istore dX10_order_155 (Nat.le_of_ble_eq_true rfl) rfl ?_
          refine ev_iconst (v := 0) dX10_order_157 kc_0 ?_
          refine ev_istore dX10_order_158 (Nat.le_of_ble_eq_true rfl) rfl ?_
          refine l_ord2 (I := J4) hS6 (fun J5 c1 c2 => ?_) S 0 _ (by omega) (nm_mx_0 _ _ _).symm (fun _ _ => rfl)
          refine ev_iincN (a := c) dX10_order_186 rfl (Nat.le_of_ble_eq_true rfl) rfl ?_
          refine ev_goto (tgt := 82) dX10_order_189 (by decide) ?_
          have ep : (b_fold (fun c => p_cnt (p_isf (p_pass C T S n (o_put (b_P S c) S F)) 1) S 0) S (m + 1) c mx B) = (b_fold (fun c => p_cnt (p_isf (p_pass C T S n (o_put (b_P S c) S F)) 1) S 0) S m (c + 1) (nI ((fun c => p_cnt (p_isf (p_pass C T S n (o_put (b_P S c) S F)) 1) S 0) c)) (nm_mx 0 S (b_P S c) B)) := by
            conv => lhs; unfold b_fold
            rw [if_pos h96]
            exact if_neg h150
          rw [ep]
          exact ih (c + 1) _ (nm_mx 0 S (b_P S c) B) J5 _ _ (by omega) (fun p hp => by
            have e1 := nm_mx_in (o := 0) (f := J4 234) (h := J4 235) hp
            have e2 := nm_mx_in (o := 0) (f := b_P S c) (h := B) hp
            rw [Nat.zero_add] at e1 e2
            rw [c1, e1, e2, hJ4 234 (by decide)]
            exact hd p hp) (fun q q1 q2 q3 => by rw [c2 q q3, hJ4 q q1]; exact hJ1I q q1 q2 q3)
theorem l_ways {n : Nat} {k : Int32} {z6 z7 z8 : Option Value} {Post : Option Int32 → List nw_Sh → nw_Me → Prop} (hS : S ≤ 6) (kk : nw_S l g 5 mX10_order 76 [some (.ref (nw_a g 219)), some (.int (nI n)), some (.int k), some (.int (nI S)), some (.int (nI (S ^ S))), some (.int (nI S)), z6, z7, z8] [] I Post) : ∀ (m j : Nat), j + m = S → nw_S l g 5 mX10_order 58 [some (.ref (nw_a g 219)), some (.int (nI n)), some (.int k), some (.int (nI S)), some (.int (nI (S ^ j))), some (.int (nI j)), z6, z7, z8] [] I Post := by
  intro m
  induction m with
  | zero =>
    intro j hj
    obtain rfl : j = S := by omega
    refine ev_iload dX10_order_58 rfl ?_
    refine ev_iload_n (i := 3) dX10_order_60 rfl rfl ?_
    refine ev_icmp_ge (tgt := 76) dX10_order_61 (by decide) (fun h61 => ?_) (fun h61 => ?_)
    · exact kk
    · exact absurd (nI_le (by omega) (by omega)) h61
  | succ m ih =>
    intro j hj
    refine ev_iload dX10_order_58 rfl ?_
    refine ev_iload_n (i := 3) dX10_order_60 rfl rfl ?_
    refine ev_icmp_ge (tgt := 76) dX10_order_61 (by decide) (fun h61 => ?_) (fun h61 => ?_)
    · exact absurd h61 (nI_ge (by omega) (by omega))
    · refine ev_iload dX10_order_64 rfl ?_
      refine ev_iload_n (i := 3) dX10_order_66 rfl rfl ?_
      refine ev_imulN (a := (S ^ j)) (b := S) dX10_order_67 ?_
      refine ev_istore dX10_order_68 (Nat.le_of_ble_eq_true rfl) rfl ?_
      refine ev_iincN (a := j) dX10_order_70 rfl (Nat.le_of_ble_eq_true rfl) rfl ?_
      refine ev_goto (tgt := 58) dX10_order_73 (by decide) ?_
      exact ih (j + 1) (by omega)
theorem m_order (hW : nm_W I b N T S C F) (n k : Int32) : nw_cI l g 5 mX10_order [.ref (nw_a g 219), .int n, .int k] I (fun r J => (∀ q, q ≠ 233 → q ≠ 234 → q ≠ 235 → J q = I q) ∧ ((b = false ∧ r = -1000002) ∨ (b = true ∧ (nv_in n 1 60 && nv_in k (-1) (nI S - 1)) = false ∧ r = -1000001) ∨ (b = true ∧ nv_in n 1 60 = true ∧ nv_in k (-1) (nI S - 1) = true ∧ r = (if k = -1 then (b_fold (fun c => p_cnt (p_isf (p_pass C T S n.toNatClampNeg (o_put (b_P S c) S F)) 1) S 0) S (S ^ S) 0 (-1) (I 235)).1 else (b_fold (fun c => p_cnt (p_isf (p_pass C T S n.toNatClampNeg (o_put (b_P S c) S F)) 1) S 0) S (S ^ S) 0 (-1) (I 235)).2 k.toNatClampNeg)))) := by
  refine ⟨(Nat.le_of_ble_eq_true rfl), ?_⟩
  obtain ⟨hb, hC, hF, hor⟩ := id hW
  have hbd := hW.bd
  have hN := hC.n
  have hT := hC.t
  have hS := hC.s
  have hN2 := hC.hN
  have hT3 := hC.hT
  have hS6 := hC.hS
  refine ev_aload_n (i := 0) dX10_order_0 rfl rfl ?_
  refine s_dVz (As := []) (m_isSea) (Nat.le_of_ble_eq_true rfl) lX10_196 kX10_isSea vX10_isSea dX10_order_1 rfl rfl rfl (by decide) rfl (Nat.le_of_ble_eq_true rfl) ?_
  rw [hbd]
  refine s_ifZ_ne (tgt := 10) dX10_order_4 (by decide) (fun h4 => ?_) (fun h4 => ?_)
  · refine ev_iload_n (i := 1) dX10_order_10 rfl rfl ?_
    refine ev_i2l dX10_order_11 ?_
    refine ev_lconst (v := 1) dX10_order_12 rfl ?_
    refine ev_ldc2 qX10_243 dX10_order_13 ?_
    refine s_dSz (As := [_, _, _]) (m_in _ 1 60 (by decide) (by decide)) (Nat.le_of_ble_eq_true rfl) lX10_64 kX10_in sX10_in dX10_order_16 rfl rfl (Nat.le_of_ble_eq_true rfl) ?_
    refine s_ifZ_eq (tgt := 42) dX10_order_19 (by decide) (fun h19 => ?_) (fun h19 => ?_)
    · refine ev_ldc qX10_79 dX10_order_42 ?_
      exact s_retI dX10_order_44 ⟨fun _ _ _ _ => rfl, Or.inr (Or.inl ⟨h4, by first | (simp [h19]; done) | (simp [h39]; done), rfl⟩)⟩
    · refine ev_iload_n (i := 2) dX10_order_22 rfl rfl ?_
      refine ev_i2l dX10_order_23 ?_
      refine ev_ldc2 qX10_245 dX10_order_24 ?_
      refine ev_aload_n (i := 0) dX10_order_27 rfl rfl ?_
      refine ev_getR fX10_25 dX10_order_28 rfl rfl (by decide) ?_
      refine ev_iconst (v := 5) dX10_order_31 kc_5 ?_
      refine ev_ialdN (j := 5) dX10_order_32 rfl (by omega) (by decide) ?_
      rw [hS]
      refine ev_iconst (v := 1) dX10_order_33 kc_1 ?_
      refine ev_isub dX10_order_34 ?_
      refine ev_i2l dX10_order_35 ?_
      refine s_dSz (As := [_, _, _]) (m_in _ (-1) (nI S - 1) (by decide) rfl) (Nat.le_of_ble_eq_true rfl) lX10_64 kX10_in sX10_in dX10_order_36 rfl rfl (Nat.le_of_ble_eq_true rfl) ?_
      refine s_ifZ_ne (tgt := 45) dX10_order_39 (by decide) (fun h39 => ?_) (fun h39 => ?_)
      · have eb : b = true := h4
        subst eb
        obtain ⟨-, h0, h0T, hk, hsok⟩ := hW.sea (Or.inr (Or.inr (Or.inr rfl)))
        obtain ⟨v, hv2, hv⟩ := hsok.2.2.1
        have hl := hsok.law
        have hfk := hsok.1
        obtain ⟨x, -, hx, rfl⟩ := nv_in_n (a := 1) (c := 60) h19 (by decide) (by decide)
        refine ev_aload_n (i := 0) dX10_order_45 rfl rfl ?_
        refine ev_getR fX10_25 dX10_order_46 rfl rfl (by decide) ?_
        refine ev_iconst (v := 5) dX10_order_49 kc_5 ?_
        refine ev_ialdN (j := 5) dX10_order_50 rfl (by omega) (by decide) ?_
        rw [hS]
        refine ev_istore_n (i := 3) dX10_order_51 rfl (Nat.le_of_ble_eq_true rfl) rfl ?_
        refine ev_iconst (v := 1) dX10_order_52 kc_1 ?_
        refine ev_istore dX10_order_53 (Nat.le_of_ble_eq_true rfl) rfl ?_
        refine ev_iconst (v := 0) dX10_order_55 kc_0 ?_
        refine ev_istore dX10_order_56 (Nat.le_of_ble_eq_true rfl) rfl ?_
        refine l_ways hS6 ?_ S 0 (by omega)
        refine ev_iconst (v := (-1)) dX10_order_76 kc_m1 ?_
        refine ev_istore dX10_order_77 (Nat.le_of_ble_eq_true rfl) rfl ?_
        refine ev_iconst (v := 0) dX10_order_79 kc_0 ?_
        refine ev_istore dX10_order_80 (Nat.le_of_ble_eq_true rfl) rfl ?_
        refine s_postI (l_codes hW hx h39 (S ^ S) 0 (-1) (I 235) I _ _ (by omega) (fun _ _ => rfl) (fun _ _ _ _ => rfl)) (fun r J q => ⟨q.2, Or.inr (Or.inr ⟨rfl, h19, h39, ?_⟩)⟩)
        rw [nI_clamp (by omega)]
        exact q.1
      · refine ev_ldc qX10_79 dX10_order_42 ?_
        exact s_retI dX10_order_44 ⟨fun _ _ _ _ => rfl, Or.inr (Or.inl ⟨h4, by first | (simp [h19]; done) | (simp [h39]; done), rfl⟩)⟩
  · refine ev_ldc qX10_199 dX10_order_7 ?_
    exact s_retI dX10_order_9 ⟨fun _ _ _ _ => rfl, Or.inl ⟨h4, rfl⟩⟩
end
