section
variable {l : Launch} {g : nw_G} {I : nw_Me}
/-! Orders: the next one, by numbers. -/
def g_swap (P : Nat → Int32) (i j : Nat) : Nat → Int32 := upd (upd P i (P j)) j (P i)
def g_rise (P : Nat → Int32) : Nat → Option Nat
  | 0 => none
  | r + 1 => if P r ≤ P (r + 1) then some r else g_rise P r
def g_more (P : Nat → Int32) (r : Nat) : Nat → Nat
  | 0 => 0
  | m + 1 => if m + 1 ≤ r then m + 1 else if P r ≤ P (m + 1) then m + 1 else g_more P r m
def g_rev : Nat → (Nat → Int32) → Nat → Nat → (Nat → Int32)
  | 0, P, _, _ => P
  | k + 1, P, lo, hi => if hi ≤ lo then P else g_rev k (g_swap P lo hi) (lo + 1) (hi - 1)
def g_next (P : Nat → Int32) (S : Nat) : Option (Nat → Int32) := match g_rise P (S - 1) with
  | none => none
  | some r => some (g_rev S (g_swap P r (g_more P r (S - 1))) (r + 1) (S - 1))
theorem g_more_le (P : Nat → Int32) (r : Nat) : ∀ m, g_more P r m ≤ m
  | 0 => Nat.le_refl _
  | m + 1 => by
    unfold g_more
    split
    · exact Nat.le_refl _
    · split
      · exact Nat.le_refl _
      · exact Nat.le_trans (g_more_le P r m) (Nat.le_succ m)
theorem c_swap {i j : Nat} (hi : i < 6) (hj : j < 6) : nw_cV l g 0 mX5_swap [.ref (nw_a g 183), .int (nI i), .int (nI j)] I (fun I' => I' 190 = g_swap (I 190) i j ∧ ∀ k, k ≠ 190 → I' k = I k) := by
  refine ⟨(Nat.le_of_ble_eq_true rfl), ?_⟩
  refine ev_aload_n (i := 0) dX5_swap_0 rfl rfl ?_
  refine ev_getR fX5_23 dX5_swap_1 rfl rfl (by decide) ?_
  refine ev_iload_n (i := 1) dX5_swap_4 rfl rfl ?_
  refine ev_ialdN dX5_swap_5 rfl hi (by decide) ?_
  refine ev_istore_n (i := 3) dX5_swap_6 rfl (Nat.le_of_ble_eq_true rfl) rfl ?_
  refine ev_aload_n (i := 0) dX5_swap_7 rfl rfl ?_
  refine ev_getR fX5_23 dX5_swap_8 rfl rfl (by decide) ?_
  refine ev_iload_n (i := 1) dX5_swap_11 rfl rfl ?_
  refine ev_aload_n (i := 0) dX5_swap_12 rfl rfl ?_
  refine ev_getR fX5_23 dX5_swap_13 rfl rfl (by decide) ?_
  refine ev_iload_n (i := 2) dX5_swap_16 rfl rfl ?_
  refine ev_ialdN dX5_swap_17 rfl hj (by decide) ?_
  refine ev_iastN dX5_swap_18 rfl hi (by decide) ?_
  refine ev_aload_n (i := 0) dX5_swap_19 rfl rfl ?_
  refine ev_getR fX5_23 dX5_swap_20 rfl rfl (by decide) ?_
  refine ev_iload_n (i := 2) dX5_swap_23 rfl rfl ?_
  refine ev_iload_n (i := 3) dX5_swap_24 rfl rfl ?_
  refine ev_iastN dX5_swap_25 rfl hj (by decide) ?_
  exact s_retV dX5_swap_26 ⟨by rw [nw_up_self, nw_up_self]; rfl, fun k hk => by rw [nw_up_ne hk, nw_up_ne hk]⟩
theorem l_rev {S : Nat} (hS : S ≤ 6) (z2 z3 : Int32) : ∀ (k lo hi : Nat) (J : nw_Me), hi < S → hi < lo + k → lo ≤ S → nw_S l g 1 mX5_goOn 83 [some (.ref (nw_a g 183)), some (.int (nI S)), some (.int z2), some (.int z3), some (.int (nI lo)), some (.int (nI hi))] [] J (nw_qZ (fun b I' => b = true ∧ I' 190 = g_rev k (J 190) lo hi ∧ ∀ q, q ≠ 190 → I' q = J q)) := by
  intro k
  induction k with
  | zero =>
    intro lo hi J h1 h2 h3
    refine ev_iload dX5_goOn_83 rfl ?_
    refine ev_iload dX5_goOn_85 rfl ?_
    refine ev_icmp_ge (tgt := 107) dX5_goOn_87 (by decide) (fun h87 => ?_) (fun h87 => ?_)
    · refine ev_iconst (v := 1) dX5_goOn_107 kc_1 ?_
      exact s_ret1 dX5_goOn_108 ⟨rfl, rfl, fun _ _ => rfl⟩
    · exact absurd (nI_le (by omega) (by omega)) h87
  | succ k ih =>
    intro lo hi J h1 h2 h3
    refine ev_iload dX5_goOn_83 rfl ?_
    refine ev_iload dX5_goOn_85 rfl ?_
    refine ev_icmp_ge (tgt := 107) dX5_goOn_87 (by decide) (fun h87 => ?_) (fun h87 => ?_)
    · refine ev_iconst (v := 1) dX5_goOn_107 kc_1 ?_
      exact s_ret1 dX5_goOn_108 ⟨rfl, by unfold g_rev; rw [if_pos ((nI_leI (by omega) (by omega)).mp h87)], fun _ _ => rfl⟩
    · have hlt : lo < hi := Nat.not_le.mp (fun q => h87 (nI_le q (by omega)))
      refine ev_aload_n (i := 0) dX5_goOn_90 rfl rfl ?_
      refine ev_iload dX5_goOn_91 rfl ?_
      refine ev_iload dX5_goOn_93 rfl ?_
      refine s_callVv (As := [_, _]) (c_swap (show lo < 6 by omega) (show hi < 6 by omega)) (Nat.le_of_ble_eq_true rfl) lX5_90 kX5_swap vX5_swap dX5_goOn_95 rfl rfl rfl (by decide) rfl (Nat.le_of_ble_eq_true rfl) (fun J1 hq => ?_)
      refine ev_iincm (m := 1) dX5_goOn_98 kc_1 rfl (Nat.le_of_ble_eq_true rfl) rfl ?_
      refine ev_iincm (m := (-1)) dX5_goOn_101 kc_m1 rfl (Nat.le_of_ble_eq_true rfl) rfl ?_
      refine ev_goto (tgt := 83) dX5_goOn_104 (by decide) ?_
      obtain ⟨h0, rfl⟩ : ∃ h0, hi = h0 + 1 := ⟨hi - 1, by omega⟩
      rw [nI_1, pk_m1]
      refine s_postZ (ih (lo + 1) h0 J1 (by omega) (by omega) (by omega)) (fun b I1 q => ⟨q.1, ?_, fun x hx => (q.2.2 x hx).trans (hq.2 x hx)⟩)
      rw [q.2.1, hq.1]
      conv => rhs; unfold g_rev
      rw [if_neg (by omega)]
      rfl
theorem l_more {S r : Nat} (hS : S ≤ 6) (hr : r + 1 < S) (z4 z5 : Option Value) : ∀ (m : Nat), r ≤ m → m < S → nw_S l g 1 mX5_goOn 41 [some (.ref (nw_a g 183)), some (.int (nI S)), some (.int (nI r)), some (.int (nI m)), z4, z5] [] I (nw_qZ (fun b I' => b = true ∧ I' 190 = g_rev S (g_swap (I 190) r (g_more (I 190) r m)) (r + 1) (S - 1) ∧ ∀ q, q ≠ 190 → I' q = I q)) := by
  have fin : ∀ (m : Nat) (z4 z5 : Option Value), m < S → nw_S l g 1 mX5_goOn 67 [some (.ref (nw_a g 183)), some (.int (nI S)), some (.int (nI r)), some (.int (nI m)), z4, z5] [] I (nw_qZ (fun b I' => b = true ∧ I' 190 = g_rev S (g_swap (I 190) r m) (r + 1) (S - 1) ∧ ∀ q, q ≠ 190 → I' q = I q)) := by
    intro m z4 z5 hm
    refine ev_aload_n (i := 0) dX5_goOn_67 rfl rfl ?_
    refine ev_iload_n (i := 2) dX5_goOn_68 rfl rfl ?_
    refine ev_iload_n (i := 3) dX5_goOn_69 rfl rfl ?_
    refine s_callVv (As := [_, _]) (c_swap (show r < 6 by omega) (show m < 6 by omega)) (Nat.le_of_ble_eq_true rfl) lX5_90 kX5_swap vX5_swap dX5_goOn_70 rfl rfl rfl (by decide) rfl (Nat.le_of_ble_eq_true rfl) (fun J1 hq => ?_)
    refine ev_iload_n (i := 2) dX5_goOn_73 rfl rfl ?_
    refine ev_iconst (v := 1) dX5_goOn_74 kc_1 ?_
    refine ev_iadd dX5_goOn_75 ?_
    refine ev_istore dX5_goOn_76 (Nat.le_of_ble_eq_true rfl) rfl ?_
    refine ev_iload_n (i := 1) dX5_goOn_78 rfl rfl ?_
    refine ev_iconst (v := 1) dX5_goOn_79 kc_1 ?_
    refine ev_isub dX5_goOn_80 ?_
    refine ev_istore dX5_goOn_81 (Nat.le_of_ble_eq_true rfl) rfl ?_
    rw [nI_1, show nI S - 1 = nI (S - 1) from pk_sub (b := 1) (by omega)]
    refine s_postZ (l_rev hS _ _ S (r + 1) (S - 1) J1 (by omega) (by omega) (by omega)) (fun b I1 q => ⟨q.1, ?_, fun x hx => (q.2.2 x hx).trans (hq.2 x hx)⟩)
    rw [q.2.1, hq.1]
  intro m
  induction m with
  | zero =>
    intro h1 h2
    refine ev_iload_n (i := 3) dX5_goOn_41 rfl rfl ?_
    refine ev_iload_n (i := 2) dX5_goOn_42 rfl rfl ?_
    refine ev_icmp_le (tgt := 67) dX5_goOn_43 (by decide) (fun h43 => ?_) (fun h43 => ?_)
    · exact fin 0 _ _ h2
    · exact absurd (nI_le (by omega) (by omega)) h43
  | succ m ih =>
    intro h1 h2
    refine ev_iload_n (i := 3) dX5_goOn_41 rfl rfl ?_
    refine ev_iload_n (i := 2) dX5_goOn_42 rfl rfl ?_
    refine ev_icmp_le (tgt := 67) dX5_goOn_43 (by decide) (fun h43 => ?_) (fun h43 => ?_)
    · have e : g_more (I 190) r (m + 1) = m + 1 := by
        unfold g_more
        first
          | rw [if_pos ((nI_leI (by omega) (by omega)).mp h43)]
          | rw [if_neg (fun q => h43 (nI_le q (by omega))), if_pos h58]
      rw [e]
      exact fin (m + 1) _ _ h2
    · refine ev_aload_n (i := 0) dX5_goOn_46 rfl rfl ?_
      refine ev_getR fX5_23 dX5_goOn_47 rfl rfl (by decide) ?_
      refine ev_iload_n (i := 3) dX5_goOn_50 rfl rfl ?_
      refine ev_ialdN dX5_goOn_51 rfl (show m + 1 < 6 by omega) (by decide) ?_
      refine ev_aload_n (i := 0) dX5_goOn_52 rfl rfl ?_
      refine ev_getR fX5_23 dX5_goOn_53 rfl rfl (by decide) ?_
      refine ev_iload_n (i := 2) dX5_goOn_56 rfl rfl ?_
      refine ev_ialdN dX5_goOn_57 rfl (show r < 6 by omega) (by decide) ?_
      refine ev_icmp_ge (tgt := 67) dX5_goOn_58 (by decide) (fun h58 => ?_) (fun h58 => ?_)
      · have e : g_more (I 190) r (m + 1) = m + 1 := by
          unfold g_more
          first
            | rw [if_pos ((nI_leI (by omega) (by omega)).mp h43)]
            | rw [if_neg (fun q => h43 (nI_le q (by omega))), if_pos h58]
        rw [e]
        exact fin (m + 1) _ _ h2
      · refine ev_iincm (m := (-1)) dX5_goOn_61 kc_m1 rfl (Nat.le_of_ble_eq_true rfl) rfl ?_
        refine ev_goto (tgt := 41) dX5_goOn_64 (by decide) ?_
        have hlt : ¬ m + 1 ≤ r := fun q => h43 (nI_le q (by omega))
        have e : g_more (I 190) r (m + 1) = g_more (I 190) r m := by
          conv => lhs; unfold g_more
          rw [if_neg hlt, if_neg h58]
        rw [e, pk_m1]
        exact ih (by omega) (by omega)
theorem l_rise {S : Nat} (hS : S ≤ 6) (z3 z4 z5 : Option Value) : ∀ (r : Nat), r < S → nw_S l g 1 mX5_goOn 4 [some (.ref (nw_a g 183)), some (.int (nI S)), some (.int (nI r - 1)), z3, z4, z5] [] I (nw_qZ (fun b I' => (match g_rise (I 190) r with
    | none => b = false ∧ I' 190 = I 190
    | some k => b = true ∧ I' 190 = g_rev S (g_swap (I 190) k (g_more (I 190) k (S - 1))) (k + 1) (S - 1)) ∧ ∀ q, q ≠ 190 → I' q = I q)) := by
  intro r
  induction r with
  | zero =>
    intro hr
    refine ev_iload_n (i := 2) dX5_goOn_4 rfl rfl ?_
    refine ev_if_lt (tgt := 31) dX5_goOn_5 (by decide) (fun h5 => ?_) (fun h5 => ?_)
    · refine ev_iload_n (i := 2) dX5_goOn_31 rfl rfl ?_
      refine ev_if_ge (tgt := 37) dX5_goOn_32 (by decide) (fun h32 => ?_) (fun h32 => ?_)
      · exact absurd h32 (by rw [nI_0]; decide)
      · refine ev_iconst (v := 0) dX5_goOn_35 kc_0 ?_
        exact s_ret0 dX5_goOn_36 ⟨⟨rfl, rfl⟩, fun _ _ => rfl⟩
    · exact absurd (by rw [nI_0]; decide) h5
  | succ r ih =>
    intro hr
    rw [nI_pred]
    refine ev_iload_n (i := 2) dX5_goOn_4 rfl rfl ?_
    refine ev_if_lt (tgt := 31) dX5_goOn_5 (by decide) (fun h5 => ?_) (fun h5 => ?_)
    · exact absurd h5 (nI_pos (by omega))
    · refine ev_aload_n (i := 0) dX5_goOn_8 rfl rfl ?_
      refine ev_getR fX5_23 dX5_goOn_9 rfl rfl (by decide) ?_
      refine ev_iload_n (i := 2) dX5_goOn_12 rfl rfl ?_
      refine ev_ialdN dX5_goOn_13 rfl (show r < 6 by omega) (by decide) ?_
      refine ev_aload_n (i := 0) dX5_goOn_14 rfl rfl ?_
      refine ev_getR fX5_23 dX5_goOn_15 rfl rfl (by decide) ?_
      refine ev_iload_n (i := 2) dX5_goOn_18 rfl rfl ?_
      refine ev_iconst (v := 1) dX5_goOn_19 kc_1 ?_
      refine ev_iadd dX5_goOn_20 ?_
      rw [nI_1]
      refine ev_ialdN dX5_goOn_21 rfl (show r + 1 < 6 by omega) (by decide) ?_
      refine ev_icmp_le (tgt := 31) dX5_goOn_22 (by decide) (fun h22 => ?_) (fun h22 => ?_)
      · refine ev_iload_n (i := 2) dX5_goOn_31 rfl rfl ?_
        refine ev_if_ge (tgt := 37) dX5_goOn_32 (by decide) (fun h32 => ?_) (fun h32 => ?_)
        · refine ev_iload_n (i := 1) dX5_goOn_37 rfl rfl ?_
          refine ev_iconst (v := 1) dX5_goOn_38 kc_1 ?_
          refine ev_isub dX5_goOn_39 ?_
          refine ev_istore_n (i := 3) dX5_goOn_40 rfl (Nat.le_of_ble_eq_true rfl) rfl ?_
          have e : g_rise (I 190) (r + 1) = some r := by unfold g_rise; rw [if_pos h22]
          rw [e, show nI S - 1 = nI (S - 1) from pk_sub (b := 1) (by omega)]
          refine s_postZ (l_more hS (by omega) _ _ (S - 1) (by omega) (by omega)) (fun b I1 q => ⟨⟨q.1, q.2.1⟩, q.2.2⟩)
        · exact absurd (nI_pos' (by omega)) h32
      · refine ev_iincm (m := (-1)) dX5_goOn_25 kc_m1 rfl (Nat.le_of_ble_eq_true rfl) rfl ?_
        refine ev_goto (tgt := 4) dX5_goOn_28 (by decide) ?_
        have e : g_rise (I 190) (r + 1) = g_rise (I 190) r := by conv => lhs; unfold g_rise; rw [if_neg h22]
        rw [e, show nI r + (-1) = nI r - 1 from (Int32.sub_eq_add_neg _ _).symm]
        exact ih (by omega)
theorem c_goOn {S : Nat} (hS : S ≤ 6) : nw_cZ l g 1 mX5_goOn [.ref (nw_a g 183), .int (nI S)] I (fun b I' => (match g_next (I 190) S with
    | none => b = false ∧ I' 190 = I 190
    | some P => b = true ∧ I' 190 = P) ∧ ∀ q, q ≠ 190 → I' q = I q) := by
  refine ⟨(Nat.le_of_ble_eq_true rfl), ?_⟩
  rcases Nat.eq_zero_or_pos S with rfl | h0
  · refine ev_iload_n (i := 1) dX5_goOn_0 rfl rfl ?_
    refine ev_iconst (v := 2) dX5_goOn_1 kc_2 ?_
    refine ev_isub dX5_goOn_2 ?_
    refine ev_istore_n (i := 2) dX5_goOn_3 rfl (Nat.le_of_ble_eq_true rfl) rfl ?_
    refine ev_iload_n (i := 2) dX5_goOn_4 rfl rfl ?_
    refine ev_if_lt (tgt := 31) dX5_goOn_5 (by decide) (fun h5 => ?_) (fun h5 => ?_)
    · refine ev_iload_n (i := 2) dX5_goOn_31 rfl rfl ?_
      refine ev_if_ge (tgt := 37) dX5_goOn_32 (by decide) (fun h32 => ?_) (fun h32 => ?_)
      · exact absurd h32 (by decide)
      · refine ev_iconst (v := 0) dX5_goOn_35 kc_0 ?_
        exact s_ret0 dX5_goOn_36 ⟨⟨rfl, rfl⟩, fun _ _ => rfl⟩
    · exact absurd (by decide) h5
  · refine ev_iload_n (i := 1) dX5_goOn_0 rfl rfl ?_
    refine ev_iconst (v := 2) dX5_goOn_1 kc_2 ?_
    refine ev_isub dX5_goOn_2 ?_
    refine ev_istore_n (i := 2) dX5_goOn_3 rfl (Nat.le_of_ble_eq_true rfl) rfl ?_
    have e : nI S - 2 = nI (S - 1) - 1 := by
      rcases (show S = 1 ∨ S = 2 ∨ S = 3 ∨ S = 4 ∨ S = 5 ∨ S = 6 by omega) with rfl | rfl | rfl | rfl | rfl | rfl <;> decide
    rw [e]
    refine s_postZ (l_rise hS _ _ _ (S - 1) (by omega)) (fun b I1 q => ⟨?_, q.2⟩)
    unfold g_next
    cases h : g_rise (I 190) (S - 1) with
    | none => rw [h] at q; exact q.1
    | some k => rw [h] at q; exact q.1
/-- how many of those that wait are over: ships in the order P, towers with H waters f -/
def o_phi (D F P : Nat → Int32) (H : Nat → Nat) (f : Nat → Nat → Int32) : Nat → Nat → (Nat → Nat) → Nat
  | 0, _, _ => 0
  | m + 1, p, U => if F (17 + (P p).toNatClampNeg) = 0 ∧ U (F (11 + (P p).toNatClampNeg)).toNatClampNeg < H (F (11 + (P p).toNatClampNeg)).toNatClampNeg then (if f (F (11 + (P p).toNatClampNeg)).toNatClampNeg (U (F (11 + (P p).toNatClampNeg)).toNatClampNeg) < D (P p).toNatClampNeg then 0 else 1) + o_phi D F P H f m (p + 1) (fun j => if j = (F (11 + (P p).toNatClampNeg)).toNatClampNeg then U j + 1 else U j) else o_phi D F P H f m (p + 1) U
theorem l_hmc {T S : Nat} {D F P : Nat → Int32} {H : Nat → Nat} {f : Nat → Nat → Int32} (hS6 : S ≤ 6) (hT3 : T ≤ 3) (hP : ∀ p, p < S → ∃ s, s < S ∧ P p = nI s) (hF : ∀ s, s < S → ∃ t, t < T ∧ F (11 + s) = nI t) (hH : ∀ t, t < T → H t ≤ 6) : ∀ (m p r : Nat) (U : Nat → Nat) (J : nw_Me) (z5 z6 : Option Value), p + m = S → (∀ t, t < T → U t ≤ p) → J 15 4 = nI S → nv_fl J 25 = F → J 190 = P → (∀ t, t < T → J 188 t = nI (H t)) → (∀ t, t < T → J 189 t = nI (U t)) → (∀ t, t < T → ∀ i, i < 6 → J (185 + t) i = f t i) → (∀ s, s < 6 → J 19 s = D s) → nw_S l g 1 mX5_howManyCross 31 [some (.ref (nw_a g 183)), some (.ref (nw_a g 15)), some (.ref (nw_a g 25)), some (.int (nI r)), some (.int (nI p)), z5, z6] [] J (nw_qI (fun v I' => v = nI (r + o_phi D F P H f m p U) ∧ ∀ q, q ≠ 189 → I' q = J q)) := by
  intro m
  induction m with
  | zero =>
    intro p r U J z5 z6 hp hU hS' hJF hJP hJH hJU hJf hJD
    refine ev_iload dX5_howManyCross_31 rfl ?_
    refine ev_aload_n (i := 1) dX5_howManyCross_33 rfl rfl ?_
    refine ev_getI fX5_64 dX5_howManyCross_34 rfl rfl (by decide) ?_
    refine ev_icmp_ge (tgt := 134) dX5_howManyCross_37 (by decide) (fun h37 => ?_) (fun h37 => ?_)
    · refine ev_iload_n (i := 3) dX5_howManyCross_134 rfl rfl ?_
      exact s_retI dX5_howManyCross_135 ⟨rfl, fun _ _ => rfl⟩
    · exact absurd (by rw [hS']; exact nI_le (by omega) (by omega)) h37
  | succ m ih =>
    intro p r U J z5 z6 hp hU hS' hJF hJP hJH hJU hJf hJD
    obtain ⟨s, hs, hPs⟩ := hP p (by omega)
    obtain ⟨t, ht, hFt⟩ := hF s hs
    have eP : (P p).toNatClampNeg = s := by rw [hPs]; exact nI_clamp (by omega)
    have eF : (F (11 + s)).toNatClampNeg = t := by rw [hFt]; exact nI_clamp (by omega)
    have hUt := hU t ht
    have hHt := hH t ht
    have hsk : o_phi D F P H f (m + 1) p U = if F (17 + s) = 0 ∧ U t < H t then (if f t (U t) < D s then 0 else 1) + o_phi D F P H f m (p + 1) (fun j => if j = t then U j + 1 else U j) else o_phi D F P H f m (p + 1) U := by
      conv => lhs; unfold o_phi
      rw [eP, eF]
    refine ev_iload dX5_howManyCross_31 rfl ?_
    refine ev_aload_n (i := 1) dX5_howManyCross_33 rfl rfl ?_
    refine ev_getI fX5_64 dX5_howManyCross_34 rfl rfl (by decide) ?_
    refine ev_icmp_ge (tgt := 134) dX5_howManyCross_37 (by decide) (fun h37 => ?_) (fun h37 => ?_)
    · exact absurd h37 (by rw [hS']; exact nI_ge (by omega) (by omega))
    · refine ev_aload_n (i := 0) dX5_howManyCross_40 rfl rfl ?_
      refine ev_getR fX5_23 dX5_howManyCross_41 rfl rfl (by decide) ?_
      refine ev_iload dX5_howManyCross_44 rfl ?_
      refine ev_ialdN dX5_howManyCross_46 rfl (show p < 6 by omega) (by decide) ?_
      rw [hJP, hPs]
      refine ev_istore dX5_howManyCross_47 (Nat.le_of_ble_eq_true rfl) rfl ?_
      refine ev_aload_n (i := 2) dX5_howManyCross_49 rfl rfl ?_
      refine ev_getR fX5_81 dX5_howManyCross_50 rfl rfl (by decide) ?_
      refine ev_iload dX5_howManyCross_53 rfl ?_
      refine ev_ialdN dX5_howManyCross_55 rfl (show s < 6 by omega) (by decide) ?_
      rw [show J 28 s = nI t from (fl_hee J 25 (show s < 6 by omega)).symm.trans (by rw [hJF]; exact hFt)]
      refine ev_istore dX5_howManyCross_56 (Nat.le_of_ble_eq_true rfl) rfl ?_
      refine ev_aload_n (i := 2) dX5_howManyCross_58 rfl rfl ?_
      refine ev_iload dX5_howManyCross_59 rfl ?_
      refine s_dVz (As := [_]) (c_waits nw_sc25 (show s < 6 by omega)) (Nat.le_of_ble_eq_true rfl) lX5_84 kX8_waits vX8_waits dX5_howManyCross_61 rfl rfl rfl (by decide) rfl (Nat.le_of_ble_eq_true rfl) ?_
      refine s_ifZ_eq (tgt := 128) dX5_howManyCross_64 (by decide) (fun h64 => ?_) (fun h64 => ?_)
      · refine ev_iincm (m := 1) dX5_howManyCross_128 kc_1 rfl (Nat.le_of_ble_eq_true rfl) rfl ?_
        refine ev_goto (tgt := 31) dX5_howManyCross_131 (by decide) ?_
        rw [hsk]
        first
          | (rw [if_neg (fun q => by rw [hJF] at h64; exact absurd (decide_eq_true q.1) (by rw [h64]; decide)), nI_1]
             exact ih (p + 1) r U J _ _ (by omega) (fun j hj => Nat.le_succ_of_le (hU j hj)) hS' hJF hJP hJH hJU hJf hJD)
          | (rw [if_neg (fun q => absurd h81 (nI_ge q.2 (by omega))), nI_1]
             exact ih (p + 1) r U J _ _ (by omega) (fun j hj => Nat.le_succ_of_le (hU j hj)) hS' hJF hJP hJH hJU hJf hJD)
          | (rw [if_pos ⟨by rw [hJF] at h64; exact of_decide_eq_true h64, hlt⟩, nI_1]
             first
               | rw [if_pos h107, Int32.add_zero, show ∀ x, r + (0 + x) = r + x from fun x => by omega]
               | rw [if_neg h107, nI_1, ← Nat.add_assoc]
             refine s_postI (ih (p + 1) _ (fun j => if j = t then U j + 1 else U j) (nw_up J 189 t (nI (U t + 1))) _ _ (by omega) (fun j hj => ?_) ?_ ?_ ?_ ?_ ?_ ?_ ?_) (fun v I1 q => ⟨q.1, fun x hx => (q.2 x hx).trans (nw_up_ne hx)⟩)
             · by_cases e : j = t
               · subst e
                 rw [if_pos rfl]
                 omega
               · rw [if_neg e]
                 exact Nat.le_succ_of_le (hU j hj)
             · rw [nw_up_ne (by decide)]
               exact hS'
             · rw [nv_fl_ext (I := J) (fun x g1 g2 => nw_up_ne (by omega))]
               exact hJF
             · rw [nw_up_ne (by decide)]
               exact hJP
             · intro j hj
               rw [nw_up_ne (by decide)]
               exact hJH j hj
             · intro j hj
               rw [nw_up_self]
               by_cases e : j = t
               · subst e
                 rw [pk_us, if_pos rfl]
               · rw [pk_un e, if_neg e]
                 exact hJU j hj
             · intro j hj i hi
               rw [nw_up_ne (by omega)]
               exact hJf j hj i hi
             · intro x hx
               rw [nw_up_ne (by decide)]
               exact hJD x hx)
      · refine ev_aload_n (i := 0) dX5_howManyCross_67 rfl rfl ?_
        refine ev_getR fX5_20 dX5_howManyCross_68 rfl rfl (by decide) ?_
        refine ev_iload dX5_howManyCross_71 rfl ?_
        refine ev_ialdN dX5_howManyCross_73 rfl (show t < 3 by omega) (by decide) ?_
        rw [hJU t ht]
        refine ev_aload_n (i := 0) dX5_howManyCross_74 rfl rfl ?_
        refine ev_getR fX5_16 dX5_howManyCross_75 rfl rfl (by decide) ?_
        refine ev_iload dX5_howManyCross_78 rfl ?_
        refine ev_ialdN dX5_howManyCross_80 rfl (show t < 3 by omega) (by decide) ?_
        rw [hJH t ht]
        refine ev_icmp_ge (tgt := 128) dX5_howManyCross_81 (by decide) (fun h81 => ?_) (fun h81 => ?_)
        · refine ev_iincm (m := 1) dX5_howManyCross_128 kc_1 rfl (Nat.le_of_ble_eq_true rfl) rfl ?_
          refine ev_goto (tgt := 31) dX5_howManyCross_131 (by decide) ?_
          rw [hsk]
          first
            | (rw [if_neg (fun q => by rw [hJF] at h64; exact absurd (decide_eq_true q.1) (by rw [h64]; decide)), nI_1]
               exact ih (p + 1) r U J _ _ (by omega) (fun j hj => Nat.le_succ_of_le (hU j hj)) hS' hJF hJP hJH hJU hJf hJD)
            | (rw [if_neg (fun q => absurd h81 (nI_ge q.2 (by omega))), nI_1]
               exact ih (p + 1) r U J _ _ (by omega) (fun j hj => Nat.le_succ_of_le (hU j hj)) hS' hJF hJP hJH hJU hJf hJD)
            | (rw [if_pos ⟨by rw [hJF] at h64; exact of_decide_eq_true h64, hlt⟩, nI_1]
               first
                 | rw [if_pos h107, Int32.add_zero, show ∀ x, r + (0 + x) = r + x from fun x => by omega]
                 | rw [if_neg h107, nI_1, ← Nat.add_assoc]
               refine s_postI (ih (p + 1) _ (fun j => if j = t then U j + 1 else U j) (nw_up J 189 t (nI (U t + 1))) _ _ (by omega) (fun j hj => ?_) ?_ ?_ ?_ ?_ ?_ ?_ ?_) (fun v I1 q => ⟨q.1, fun x hx => (q.2 x hx).trans (nw_up_ne hx)⟩)
               · by_cases e : j = t
                 · subst e
                   rw [if_pos rfl]
                   omega
                 · rw [if_neg e]
                   exact Nat.le_succ_of_le (hU j hj)
               · rw [nw_up_ne (by decide)]
                 exact hS'
               · rw [nv_fl_ext (I := J) (fun x g1 g2 => nw_up_ne (by omega))]
                 exact hJF
               · rw [nw_up_ne (by decide)]
                 exact hJP
               · intro j hj
                 rw [nw_up_ne (by decide)]
                 exact hJH j hj
               · intro j hj
                 rw [nw_up_self]
                 by_cases e : j = t
                 · subst e
                   rw [pk_us, if_pos rfl]
                 · rw [pk_un e, if_neg e]
                   exact hJU j hj
               · intro j hj i hi
                 rw [nw_up_ne (by omega)]
                 exact hJf j hj i hi
               · intro x hx
                 rw [nw_up_ne (by decide)]
                 exact hJD x hx)
        · have hlt : U t < H t := Nat.not_le.mp (fun q => h81 (nI_le q (by omega)))
          refine ev_iload_n (i := 3) dX5_howManyCross_84 rfl rfl ?_
          refine ev_aload_n (i := 0) dX5_howManyCross_85 rfl rfl ?_
          refine ev_getR fX5_11 dX5_howManyCross_86 rfl rfl (by decide) ?_
          refine ev_iload dX5_howManyCross_89 rfl ?_
          refine ev_aaldN (t := 4) (q := 185 + t) rfl rfl dX5_howManyCross_91 rfl (show t < 3 by omega) (by decide) (nw_wa_get t (by omega)) ?_
          refine ev_aload_n (i := 0) dX5_howManyCross_92 rfl rfl ?_
          refine ev_getR fX5_20 dX5_howManyCross_93 rfl rfl (by decide) ?_
          refine ev_iload dX5_howManyCross_96 rfl ?_
          refine ev_ialdN dX5_howManyCross_98 rfl (show t < 3 by omega) (by decide) ?_
          rw [hJU t ht]
          refine ev_ialdN dX5_howManyCross_99 (nw_wa_sh t (by omega)) (show U t < 6 by omega) (by decide) ?_
          rw [hJf t ht (U t) (by omega)]
          refine ev_aload_n (i := 1) dX5_howManyCross_100 rfl rfl ?_
          refine ev_getR fX5_87 dX5_howManyCross_101 rfl rfl (by decide) ?_
          refine ev_iload dX5_howManyCross_104 rfl ?_
          refine ev_ialdN dX5_howManyCross_106 rfl (show s < 6 by omega) (by decide) ?_
          rw [hJD s (by omega)]
          refine ev_icmp_lt (tgt := 114) dX5_howManyCross_107 (by decide) (fun h107 => ?_) (fun h107 => ?_)
          · refine ev_iconst (v := 0) dX5_howManyCross_114 kc_0 ?_
            refine ev_iadd dX5_howManyCross_115 ?_
            refine ev_istore_n (i := 3) dX5_howManyCross_116 rfl (Nat.le_of_ble_eq_true rfl) rfl ?_
            refine ev_aload_n (i := 0) dX5_howManyCross_117 rfl rfl ?_
            refine ev_getR fX5_20 dX5_howManyCross_118 rfl rfl (by decide) ?_
            refine ev_iload dX5_howManyCross_121 rfl ?_
            refine ev_dup2 dX5_howManyCross_123 rfl rfl ?_
            refine ev_ialdN dX5_howManyCross_124 rfl (show t < 3 by omega) (by decide) ?_
            rw [hJU t ht]
            refine ev_iconst (v := 1) dX5_howManyCross_125 kc_1 ?_
            refine ev_iadd dX5_howManyCross_126 ?_
            rw [nI_1]
            refine ev_iastN dX5_howManyCross_127 rfl (show t < 3 by omega) (by decide) ?_
            refine ev_iincm (m := 1) dX5_howManyCross_128 kc_1 rfl (Nat.le_of_ble_eq_true rfl) rfl ?_
            refine ev_goto (tgt := 31) dX5_howManyCross_131 (by decide) ?_
            rw [hsk]
            first
              | (rw [if_neg (fun q => by rw [hJF] at h64; exact absurd (decide_eq_true q.1) (by rw [h64]; decide)), nI_1]
                 exact ih (p + 1) r U J _ _ (by omega) (fun j hj => Nat.le_succ_of_le (hU j hj)) hS' hJF hJP hJH hJU hJf hJD)
              | (rw [if_neg (fun q => absurd h81 (nI_ge q.2 (by omega))), nI_1]
                 exact ih (p + 1) r U J _ _ (by omega) (fun j hj => Nat.le_succ_of_le (hU j hj)) hS' hJF hJP hJH hJU hJf hJD)
              | (rw [if_pos ⟨by rw [hJF] at h64; exact of_decide_eq_true h64, hlt⟩, nI_1]
                 first
                   | rw [if_pos h107, Int32.add_zero, show ∀ x, r + (0 + x) = r + x from fun x => by omega]
                   | rw [if_neg h107, nI_1, ← Nat.add_assoc]
                 refine s_postI (ih (p + 1) _ (fun j => if j = t then U j + 1 else U j) (nw_up J 189 t (nI (U t + 1))) _ _ (by omega) (fun j hj => ?_) ?_ ?_ ?_ ?_ ?_ ?_ ?_) (fun v I1 q => ⟨q.1, fun x hx => (q.2 x hx).trans (nw_up_ne hx)⟩)
                 · by_cases e : j = t
                   · subst e
                     rw [if_pos rfl]
                     omega
                   · rw [if_neg e]
                     exact Nat.le_succ_of_le (hU j hj)
                 · rw [nw_up_ne (by decide)]
                   exact hS'
                 · rw [nv_fl_ext (I := J) (fun x g1 g2 => nw_up_ne (by omega))]
                   exact hJF
                 · rw [nw_up_ne (by decide)]
                   exact hJP
                 · intro j hj
                   rw [nw_up_ne (by decide)]
                   exact hJH j hj
                 · intro j hj
                   rw [nw_up_self]
                   by_cases e : j = t
                   · subst e
                     rw [pk_us, if_pos rfl]
                   · rw [pk_un e, if_neg e]
                     exact hJU j hj
                 · intro j hj i hi
                   rw [nw_up_ne (by omega)]
                   exact hJf j hj i hi
                 · intro x hx
                   rw [nw_up_ne (by decide)]
                   exact hJD x hx)
          · refine ev_iconst (v := 1) dX5_howManyCross_110 kc_1 ?_
            refine ev_goto (tgt := 115) dX5_howManyCross_111 (by decide) ?_
            refine ev_iadd dX5_howManyCross_115 ?_
            refine ev_istore_n (i := 3) dX5_howManyCross_116 rfl (Nat.le_of_ble_eq_true rfl) rfl ?_
            refine ev_aload_n (i := 0) dX5_howManyCross_117 rfl rfl ?_
            refine ev_getR fX5_20 dX5_howManyCross_118 rfl rfl (by decide) ?_
            refine ev_iload dX5_howManyCross_121 rfl ?_
            refine ev_dup2 dX5_howManyCross_123 rfl rfl ?_
            refine ev_ialdN dX5_howManyCross_124 rfl (show t < 3 by omega) (by decide) ?_
            rw [hJU t ht]
            refine ev_iconst (v := 1) dX5_howManyCross_125 kc_1 ?_
            refine ev_iadd dX5_howManyCross_126 ?_
            rw [nI_1]
            refine ev_iastN dX5_howManyCross_127 rfl (show t < 3 by omega) (by decide) ?_
            refine ev_iincm (m := 1) dX5_howManyCross_128 kc_1 rfl (Nat.le_of_ble_eq_true rfl) rfl ?_
            refine ev_goto (tgt := 31) dX5_howManyCross_131 (by decide) ?_
            rw [hsk]
            first
              | (rw [if_neg (fun q => by rw [hJF] at h64; exact absurd (decide_eq_true q.1) (by rw [h64]; decide)), nI_1]
                 exact ih (p + 1) r U J _ _ (by omega) (fun j hj => Nat.le_succ_of_le (hU j hj)) hS' hJF hJP hJH hJU hJf hJD)
              | (rw [if_neg (fun q => absurd h81 (nI_ge q.2 (by omega))), nI_1]
                 exact ih (p + 1) r U J _ _ (by omega) (fun j hj => Nat.le_succ_of_le (hU j hj)) hS' hJF hJP hJH hJU hJf hJD)
              | (rw [if_pos ⟨by rw [hJF] at h64; exact of_decide_eq_true h64, hlt⟩, nI_1]
                 first
                   | rw [if_pos h107, Int32.add_zero, show ∀ x, r + (0 + x) = r + x from fun x => by omega]
                   | rw [if_neg h107, nI_1, ← Nat.add_assoc]
                 refine s_postI (ih (p + 1) _ (fun j => if j = t then U j + 1 else U j) (nw_up J 189 t (nI (U t + 1))) _ _ (by omega) (fun j hj => ?_) ?_ ?_ ?_ ?_ ?_ ?_ ?_) (fun v I1 q => ⟨q.1, fun x hx => (q.2 x hx).trans (nw_up_ne hx)⟩)
                 · by_cases e : j = t
                   · subst e
                     rw [if_pos rfl]
                     omega
                   · rw [if_neg e]
                     exact Nat.le_succ_of_le (hU j hj)
                 · rw [nw_up_ne (by decide)]
                   exact hS'
                 · rw [nv_fl_ext (I := J) (fun x g1 g2 => nw_up_ne (by omega))]
                   exact hJF
                 · rw [nw_up_ne (by decide)]
                   exact hJP
                 · intro j hj
                   rw [nw_up_ne (by decide)]
                   exact hJH j hj
                 · intro j hj
                   rw [nw_up_self]
                   by_cases e : j = t
                   · subst e
                     rw [pk_us, if_pos rfl]
                   · rw [pk_un e, if_neg e]
                     exact hJU j hj
                 · intro j hj i hi
                   rw [nw_up_ne (by omega)]
                   exact hJf j hj i hi
                 · intro x hx
                   rw [nw_up_ne (by decide)]
                   exact hJD x hx)
theorem l_hmc0 {T : Nat} (hT3 : T ≤ 3) (z5 z6 : Option Value) {Post : Option Int32 → List nw_Sh → nw_Me → Prop} : ∀ (m t : Nat) (J : nw_Me), t + m = T → J 15 3 = nI T → (∀ J1 : nw_Me, (∀ j, j < t → J1 189 j = J 189 j) → (∀ j, t ≤ j → j < T → J1 189 j = nI 0) → (∀ q, q ≠ 189 → J1 q = J q) → nw_S l g 1 mX5_howManyCross 28 [some (.ref (nw_a g 183)), some (.ref (nw_a g 15)), some (.ref (nw_a g 25)), some (.int 0), some (.int (nI T)), z5, z6] [] J1 Post) → nw_S l g 1 mX5_howManyCross 5 [some (.ref (nw_a g 183)), some (.ref (nw_a g 15)), some (.ref (nw_a g 25)), some (.int 0), some (.int (nI t)), z5, z6] [] J Post := by
  intro m
  induction m with
  | zero =>
    intro t J ht hT' k
    have e : t = T := by omega
    subst e
    refine ev_iload dX5_howManyCross_5 rfl ?_
    refine ev_aload_n (i := 1) dX5_howManyCross_7 rfl rfl ?_
    refine ev_getI fX5_29 dX5_howManyCross_8 rfl rfl (by decide) ?_
    refine ev_icmp_ge (tgt := 28) dX5_howManyCross_11 (by decide) (fun h11 => ?_) (fun h11 => ?_)
    · exact k J (fun _ _ => rfl) (fun j h1 h2 => by omega) (fun _ _ => rfl)
    · exact absurd (by rw [hT']; exact nI_le (by omega) (by omega)) h11
  | succ m ih =>
    intro t J ht hT' k
    refine ev_iload dX5_howManyCross_5 rfl ?_
    refine ev_aload_n (i := 1) dX5_howManyCross_7 rfl rfl ?_
    refine ev_getI fX5_29 dX5_howManyCross_8 rfl rfl (by decide) ?_
    refine ev_icmp_ge (tgt := 28) dX5_howManyCross_11 (by decide) (fun h11 => ?_) (fun h11 => ?_)
    · exact absurd h11 (by rw [hT']; exact nI_ge (by omega) (by omega))
    · refine ev_aload_n (i := 0) dX5_howManyCross_14 rfl rfl ?_
      refine ev_getR fX5_20 dX5_howManyCross_15 rfl rfl (by decide) ?_
      refine ev_iload dX5_howManyCross_18 rfl ?_
      refine ev_iconst (v := 0) dX5_howManyCross_20 kc_0 ?_
      refine ev_iastN dX5_howManyCross_21 rfl (show t < 3 by omega) (by decide) ?_
      refine ev_iincm (m := 1) dX5_howManyCross_22 kc_1 rfl (Nat.le_of_ble_eq_true rfl) rfl ?_
      refine ev_goto (tgt := 5) dX5_howManyCross_25 (by decide) ?_
      rw [nI_1]
      refine ih (t + 1) _ (by omega) (by rw [nw_up_ne (by decide)]; exact hT') (fun J1 h1 h2 h3 => k J1 (fun j hj => ?_) (fun j g1 g2 => ?_) (fun q hq => (h3 q hq).trans (nw_up_ne hq)))
      · rw [h1 j (by omega), nw_up_self, pk_un (by omega)]
      · by_cases e : j = t
        · subst e
          rw [h1 j (by omega), nw_up_self, pk_us, nI_0]
        · exact h2 j (by omega) g2
theorem c_hmc {T S : Nat} {H : Nat → Nat} {f : Nat → Nat → Int32} (hT : I 15 3 = nI T) (hT3 : T ≤ 3) (hS : I 15 4 = nI S) (hS6 : S ≤ 6) (hP : ∀ p, p < S → ∃ s, s < S ∧ I 190 p = nI s) (hF : ∀ s, s < S → ∃ t, t < T ∧ nv_fl I 25 (11 + s) = nI t) (hH : ∀ t, t < T → H t ≤ 6) (hh : ∀ t, t < T → I 188 t = nI (H t)) (hf : ∀ t, t < T → ∀ i, i < 6 → I (185 + t) i = f t i) : nw_cI l g 1 mX5_howManyCross [.ref (nw_a g 183), .ref (nw_a g 15), .ref (nw_a g 25)] I (fun v I' => v = nI (o_phi (I 19) (nv_fl I 25) (I 190) H f S 0 (fun _ => 0)) ∧ ∀ q, q ≠ 189 → I' q = I q) := by
  refine ⟨(Nat.le_of_ble_eq_true rfl), ?_⟩
  refine ev_iconst (v := 0) dX5_howManyCross_0 kc_0 ?_
  refine ev_istore_n (i := 3) dX5_howManyCross_1 rfl (Nat.le_of_ble_eq_true rfl) rfl ?_
  refine ev_iconst (v := 0) dX5_howManyCross_2 kc_0 ?_
  refine ev_istore dX5_howManyCross_3 (Nat.le_of_ble_eq_true rfl) rfl ?_
  refine l_hmc0 hT3 _ _ T 0 I (by omega) hT (fun J h1 h2 h3 => ?_)
  refine ev_iconst (v := 0) dX5_howManyCross_28 kc_0 ?_
  refine ev_istore dX5_howManyCross_29 (Nat.le_of_ble_eq_true rfl) rfl ?_
  refine s_postI (l_hmc (D := I 19) (F := nv_fl I 25) (P := I 190) (H := H) (f := f) hS6 hT3 hP hF hH S 0 0 (fun _ => 0) J _ _ (by omega) (fun t ht => Nat.le_refl _) ?_ ?_ ?_ ?_ ?_ ?_ ?_) (fun v I1 q => ⟨?_, fun x hx => (q.2 x hx).trans (h3 x hx)⟩)
  · rw [h3 15 (by decide)]
    exact hS
  · exact nv_fl_ext (fun x g1 g2 => h3 x (by omega))
  · exact h3 190 (by decide)
  · intro t ht
    rw [h3 188 (by decide)]
    exact hh t ht
  · intro t ht
    exact h2 t (Nat.zero_le _) ht
  · intro t ht i hi
    rw [h3 _ (by omega)]
    exact hf t ht i hi
  · intro s hs
    rw [h3 19 (by decide)]
  · rw [q.1, Nat.zero_add]
end
