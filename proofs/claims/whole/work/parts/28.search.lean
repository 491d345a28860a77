section
variable {l : Launch} {g : nw_G} {I : nw_Me}
/-- all orders, from P on: the first with most over -/
def o_srch (ov : (Nat → Int32) → Nat) (S : Nat) : Nat → (Nat → Int32) → Int32 → (Nat → Int32) → Int32 × (Nat → Int32)
  | 0, _, mx, B => (mx, B)
  | k + 1, P, mx, B => match g_next P S with
    | none => if nI (ov P) ≤ mx then (mx, B) else (nI (ov P), va_cpy P B 0 0 S)
    | some P' => if nI (ov P) ≤ mx then o_srch ov S k P' mx B else o_srch ov S k P' (nI (ov P)) (va_cpy P B 0 0 S)
/-- what is behind one order -/
def o_tail (ov : (Nat → Int32) → Nat) (S k : Nat) (P : Nat → Int32) (mx : Int32) (B : Nat → Int32) : Int32 × (Nat → Int32) := match g_next P S with
  | none => (mx, B)
  | some P' => o_srch ov S k P' mx B
theorem o_srch_tail (ov : (Nat → Int32) → Nat) (S k : Nat) (P : Nat → Int32) (mx : Int32) (B : Nat → Int32) : o_srch ov S (k + 1) P mx B = if nI (ov P) ≤ mx then o_tail ov S k P mx B else o_tail ov S k P (nI (ov P)) (va_cpy P B 0 0 S) := by
  unfold o_srch o_tail
  cases g_next P S <;> rfl
theorem l_search {T S : Nat} {D F : Nat → Int32} {H : Nat → Nat} {f : Nat → Nat → Int32} (hT3 : T ≤ 3) (hS6 : S ≤ 6) (hF : ∀ s, s < S → ∃ t, t < T ∧ F (11 + s) = nI t) (hH : ∀ t, t < T → H t ≤ 6) (hperm : ∀ P, (∀ p, p < S → ∃ s, s < S ∧ P p = nI s) → ∀ P', g_next P S = some P' → ∀ p, p < S → ∃ s, s < S ∧ P' p = nI s) : ∀ (m k : Nat) (b : Bool) (J : nw_Me) (z : Option Value), k + m = 720 → J 15 3 = nI T → J 15 4 = nI S → nv_fl J 25 = F → (∀ t, t < T → J 188 t = nI (H t)) → (∀ t, t < T → ∀ i, i < 6 → J (185 + t) i = f t i) → J 19 = D → (∀ p, p < S → ∃ s, s < S ∧ J 190 p = nI s) → nw_S l g 2 mX5_search 33 [some (.ref (nw_a g 183)), some (.ref (nw_a g 15)), some (.ref (nw_a g 25)), some (.int (nw_bi b)), some (.int (nI k)), z] [] J (nw_qV (fun I' => I' 183 5 = (if b then (o_srch (fun P => o_phi D F P H f S 0 (fun _ => 0)) S m (J 190) (J 183 5) (J 191)).1 else J 183 5) ∧ I' 191 = (if b then (o_srch (fun P => o_phi D F P H f S 0 (fun _ => 0)) S m (J 190) (J 183 5) (J 191)).2 else J 191) ∧ ∀ q, q ≠ 183 → q ≠ 189 → q ≠ 190 → q ≠ 191 → I' q = J q)) := by
  have e720 : (720 : Int32) = nI 720 := by decide
  intro m
  induction m with
  | zero =>
    intro k b J z hk hT' hS' hJF hJH hJf hJD hJP
    refine ev_iload dX5_search_33 rfl ?_
    refine ev_sipush (v := 720) dX5_search_35 ks_720 ?_
    refine ev_icmp_ge (tgt := 100) dX5_search_38 (by decide) (fun h38 => ?_) (fun h38 => ?_)
    · exact s_retV dX5_search_100 ⟨by cases b <;> rfl, by cases b <;> rfl, fun _ _ _ _ _ => rfl⟩
    · exact absurd (by rw [e720]; exact nI_le (by omega) (by omega)) h38
  | succ m ih =>
    intro k b J z hk hT' hS' hJF hJH hJf hJD hJP
    have tail : ∀ (K : nw_Me) (z : Option Value), (∀ q, q ≠ 183 → q ≠ 189 → q ≠ 191 → K q = J q) → nw_S l g 2 mX5_search 85 [some (.ref (nw_a g 183)), some (.ref (nw_a g 15)), some (.ref (nw_a g 25)), some (.int (nw_bi b)), some (.int (nI k)), z] [] K (nw_qV (fun I' => I' 183 5 = (o_tail (fun P => o_phi D F P H f S 0 (fun _ => 0)) S m (J 190) (K 183 5) (K 191)).1 ∧ I' 191 = (o_tail (fun P => o_phi D F P H f S 0 (fun _ => 0)) S m (J 190) (K 183 5) (K 191)).2 ∧ ∀ q, q ≠ 183 → q ≠ 189 → q ≠ 190 → q ≠ 191 → I' q = J q)) := by
      intro K z hK
      refine ev_aload_n (i := 0) dX5_search_85 rfl rfl ?_
      refine ev_aload_n (i := 1) dX5_search_86 rfl rfl ?_
      refine ev_getI fX5_64 dX5_search_87 rfl rfl (by decide) ?_
      rw [show K 15 4 = nI S from by rw [hK 15 (by decide) (by decide) (by decide)]; exact hS']
      refine s_callVz (As := [_]) (c_goOn hS6) (Nat.le_of_ble_eq_true rfl) lX5_77 kX5_goOn vX5_goOn dX5_search_90 rfl rfl rfl (by decide) rfl (Nat.le_of_ble_eq_true rfl) (fun b2 J2 hq2 => ?_)
      rw [hK 190 (by decide) (by decide) (by decide)] at hq2
      obtain ⟨hq2, hf2⟩ := hq2
      refine ev_istore_n (i := 3) dX5_search_93 rfl (Nat.le_of_ble_eq_true rfl) rfl ?_
      refine ev_iincm (m := 1) dX5_search_94 kc_1 rfl (Nat.le_of_ble_eq_true rfl) rfl ?_
      refine ev_goto (tgt := 33) dX5_search_97 (by decide) ?_
      rw [nI_1]
      have hJ2 : ∀ q, q ≠ 183 → q ≠ 189 → q ≠ 190 → q ≠ 191 → J2 q = J q := fun q q1 q2 q3 q4 => (hf2 q q3).trans (hK q q1 q2 q4)
      have hP2 : ∀ p, p < S → ∃ s, s < S ∧ J2 190 p = nI s := by
        cases hg : g_next (J 190) S with
        | none => rw [hg] at hq2; rw [hq2.2]; exact hJP
        | some P' => rw [hg] at hq2; rw [hq2.2]; exact hperm _ hJP _ hg
      refine s_postV (ih (k + 1) b2 J2 _ (by omega) ?_ ?_ ?_ ?_ ?_ ?_ hP2) (fun I1 q => ?_)
      · rw [hJ2 15 (by decide) (by decide) (by decide) (by decide)]; exact hT'
      · rw [hJ2 15 (by decide) (by decide) (by decide) (by decide)]; exact hS'
      · rw [nv_fl_ext (I := J) (fun x x1 x2 => hJ2 x (by omega) (by omega) (by omega) (by omega))]; exact hJF
      · intro t ht; rw [hJ2 188 (by decide) (by decide) (by decide) (by decide)]; exact hJH t ht
      · intro t ht i hi; rw [hJ2 _ (by omega) (by omega) (by omega) (by omega)]; exact hJf t ht i hi
      · rw [hJ2 19 (by decide) (by decide) (by decide) (by decide)]; exact hJD
      · obtain ⟨q1, q2, q3⟩ := q
        rw [hf2 183 (by decide), hf2 191 (by decide)] at q1 q2
        refine ⟨?_, ?_, fun x x1 x2 x3 x4 => (q3 x x1 x2 x3 x4).trans (hJ2 x x1 x2 x3 x4)⟩
        · rw [q1]
          unfold o_tail
          cases hg : g_next (J 190) S with
          | none => rw [hg] at hq2; rw [hq2.1]; rfl
          | some P' => rw [hg] at hq2; rw [hq2.1, hq2.2]; rfl
        · rw [q2]
          unfold o_tail
          cases hg : g_next (J 190) S with
          | none => rw [hg] at hq2; rw [hq2.1]; rfl
          | some P' => rw [hg] at hq2; rw [hq2.1, hq2.2]; rfl
    refine ev_iload dX5_search_33 rfl ?_
    refine ev_sipush (v := 720) dX5_search_35 ks_720 ?_
    refine ev_icmp_ge (tgt := 100) dX5_search_38 (by decide) (fun h38 => ?_) (fun h38 => ?_)
    · exact absurd h38 (by rw [e720]; exact nI_ge (by omega) (by decide))
    · refine ev_iload_n (i := 3) dX5_search_41 rfl rfl ?_
      refine s_ifZ_eq (tgt := 100) dX5_search_42 (by decide) (fun h42 => ?_) (fun h42 => ?_)
      · exact s_retV dX5_search_100 ⟨by rw [h42]; rfl, by rw [h42]; rfl, fun _ _ _ _ _ => rfl⟩
      · refine ev_aload_n (i := 0) dX5_search_45 rfl rfl ?_
        refine ev_aload_n (i := 1) dX5_search_46 rfl rfl ?_
        refine ev_aload_n (i := 2) dX5_search_47 rfl rfl ?_
        refine s_callVi (As := [_, _]) (c_hmc (H := H) (f := f) hT' hT3 hS' hS6 hJP (by rw [hJF]; exact hF) hH hJH hJf) (Nat.le_of_ble_eq_true rfl) lX5_67 kX5_howManyCross vX5_howManyCross dX5_search_48 rfl rfl rfl (by decide) rfl (Nat.le_of_ble_eq_true rfl) (fun v J1 hq => ?_)
        rw [hJF, hJD] at hq
        obtain ⟨rfl, hq⟩ := hq
        refine ev_istore dX5_search_51 (Nat.le_of_ble_eq_true rfl) rfl ?_
        refine ev_iload dX5_search_53 rfl ?_
        refine ev_aload_n (i := 0) dX5_search_55 rfl rfl ?_
        refine ev_getI fX5_61 dX5_search_56 rfl rfl (by decide) ?_
        rw [hq 183 (by decide)]
        refine ev_icmp_le (tgt := 85) dX5_search_59 (by decide) (fun h59 => ?_) (fun h59 => ?_)
        · first
            | (refine s_postV (tail J1 _ (fun q q1 q2 q3 => hq q q2)) (fun I1 q => ?_)
               rw [hq 183 (by decide), hq 191 (by decide)] at q
               rw [h42, if_pos rfl, if_pos rfl, o_srch_tail, if_pos h59]
               exact q)
            | (refine s_postV (tail _ _ (fun q q1 q2 q3 => by show (if q = 191 then _ else nw_up J1 183 5 _ q) = _; rw [if_neg q3, nw_up_ne q1]; exact hq q q2)) (fun I1 q => ?_)
               rw [h42, if_pos rfl, if_pos rfl, o_srch_tail, if_neg h59]
               rw [nI_clamp (by omega)] at q
               have e1 : nw_cp (nw_up J1 183 5 (nI (o_phi D F (J 190) H f S 0 (fun _ => 0)))) 190 (0 : Int32).toNatClampNeg 191 (0 : Int32).toNatClampNeg S 183 5 = nI (o_phi D F (J 190) H f S 0 (fun _ => 0)) := by
                 show (if 183 = 191 then _ else nw_up J1 183 5 _ 183) 5 = _
                 rw [if_neg (by decide), nw_up_self, pk_us]
               have e2 : nw_cp (nw_up J1 183 5 (nI (o_phi D F (J 190) H f S 0 (fun _ => 0)))) 190 (0 : Int32).toNatClampNeg 191 (0 : Int32).toNatClampNeg S 191 = va_cpy (J 190) (J 191) 0 0 S := by
                 show (if 191 = 191 then va_cpy (nw_up J1 183 5 _ 190) (nw_up J1 183 5 _ 191) 0 0 S else _) = _
                 rw [if_pos rfl, nw_up_ne (by decide), nw_up_ne (by decide), hq 190 (by decide), hq 191 (by decide)]
               rw [e1, e2] at q
               exact q)
        · refine ev_aload_n (i := 0) dX5_search_62 rfl rfl ?_
          refine ev_iload dX5_search_63 rfl ?_
          refine ev_putI fX5_61 dX5_search_65 rfl rfl (by decide) rfl rfl rfl rfl ?_
          refine ev_aload_n (i := 0) dX5_search_68 rfl rfl ?_
          refine ev_getR fX5_23 dX5_search_69 rfl rfl (by decide) ?_
          refine ev_iconst (v := 0) dX5_search_72 kc_0 ?_
          refine ev_aload_n (i := 0) dX5_search_73 rfl rfl ?_
          refine ev_getR fX5_26 dX5_search_74 rfl rfl (by decide) ?_
          refine ev_iconst (v := 0) dX5_search_77 kc_0 ?_
          refine ev_aload_n (i := 1) dX5_search_78 rfl rfl ?_
          refine ev_getI fX5_64 dX5_search_79 rfl rfl (by decide) ?_
          rw [nw_up_ne (by decide), hq 15 (by decide), hS']
          refine ev_copy jX5_71 dX5_search_82 rfl rfl (by decide) (by decide) (nI_pos (by omega)) (by rw [nI_clamp (by omega)]; show 0 + S ≤ 6; omega) (by rw [nI_clamp (by omega)]; show 0 + S ≤ 6; omega) (Nat.le_of_ble_eq_true rfl) ?_
          first
            | (refine s_postV (tail J1 _ (fun q q1 q2 q3 => hq q q2)) (fun I1 q => ?_)
               rw [hq 183 (by decide), hq 191 (by decide)] at q
               rw [h42, if_pos rfl, if_pos rfl, o_srch_tail, if_pos h59]
               exact q)
            | (refine s_postV (tail _ _ (fun q q1 q2 q3 => by show (if q = 191 then _ else nw_up J1 183 5 _ q) = _; rw [if_neg q3, nw_up_ne q1]; exact hq q q2)) (fun I1 q => ?_)
               rw [h42, if_pos rfl, if_pos rfl, o_srch_tail, if_neg h59]
               rw [nI_clamp (by omega)] at q
               have e1 : nw_cp (nw_up J1 183 5 (nI (o_phi D F (J 190) H f S 0 (fun _ => 0)))) 190 (0 : Int32).toNatClampNeg 191 (0 : Int32).toNatClampNeg S 183 5 = nI (o_phi D F (J 190) H f S 0 (fun _ => 0)) := by
                 show (if 183 = 191 then _ else nw_up J1 183 5 _ 183) 5 = _
                 rw [if_neg (by decide), nw_up_self, pk_us]
               have e2 : nw_cp (nw_up J1 183 5 (nI (o_phi D F (J 190) H f S 0 (fun _ => 0)))) 190 (0 : Int32).toNatClampNeg 191 (0 : Int32).toNatClampNeg S 191 = va_cpy (J 190) (J 191) 0 0 S := by
                 show (if 191 = 191 then va_cpy (nw_up J1 183 5 _ 190) (nw_up J1 183 5 _ 191) 0 0 S else _) = _
                 rw [if_pos rfl, nw_up_ne (by decide), nw_up_ne (by decide), hq 190 (by decide), hq 191 (by decide)]
               rw [e1, e2] at q
               exact q)
theorem l_search0 {S : Nat} (hS6 : S ≤ 6) (z4 z5 : Option Value) {Post : Option Int32 → List nw_Sh → nw_Me → Prop} : ∀ (m s : Nat) (J : nw_Me), s + m = S → J 15 4 = nI S → (∀ (J1 : nw_Me), (∀ j, j < s → J1 190 j = J 190 j) → (∀ j, s ≤ j → j < S → J1 190 j = nI j) → (∀ q, q ≠ 190 → J1 q = J q) → nw_S l g 2 mX5_search 28 [some (.ref (nw_a g 183)), some (.ref (nw_a g 15)), some (.ref (nw_a g 25)), some (.int (nI S)), z4, z5] [] J1 Post) → nw_S l g 2 mX5_search 7 [some (.ref (nw_a g 183)), some (.ref (nw_a g 15)), some (.ref (nw_a g 25)), some (.int (nI s)), z4, z5] [] J Post := by
  intro m
  induction m with
  | zero =>
    intro s J hs hS' k
    have e : s = S := by omega
    subst e
    refine ev_iload_n (i := 3) dX5_search_7 rfl rfl ?_
    refine ev_aload_n (i := 1) dX5_search_8 rfl rfl ?_
    refine ev_getI fX5_64 dX5_search_9 rfl rfl (by decide) ?_
    refine ev_icmp_ge (tgt := 28) dX5_search_12 (by decide) (fun h12 => ?_) (fun h12 => ?_)
    · exact k J (fun _ _ => rfl) (fun j h1 h2 => by omega) (fun _ _ => rfl)
    · exact absurd (by rw [hS']; exact nI_le (by omega) (by omega)) h12
  | succ m ih =>
    intro s J hs hS' k
    refine ev_iload_n (i := 3) dX5_search_7 rfl rfl ?_
    refine ev_aload_n (i := 1) dX5_search_8 rfl rfl ?_
    refine ev_getI fX5_64 dX5_search_9 rfl rfl (by decide) ?_
    refine ev_icmp_ge (tgt := 28) dX5_search_12 (by decide) (fun h12 => ?_) (fun h12 => ?_)
    · exact absurd h12 (by rw [hS']; exact nI_ge (by omega) (by omega))
    · refine ev_aload_n (i := 0) dX5_search_15 rfl rfl ?_
      refine ev_getR fX5_23 dX5_search_16 rfl rfl (by decide) ?_
      refine ev_iload_n (i := 3) dX5_search_19 rfl rfl ?_
      refine ev_iload_n (i := 3) dX5_search_20 rfl rfl ?_
      refine ev_iastN dX5_search_21 rfl (show s < 6 by omega) (by decide) ?_
      refine ev_iincm (m := 1) dX5_search_22 kc_1 rfl (Nat.le_of_ble_eq_true rfl) rfl ?_
      refine ev_goto (tgt := 7) dX5_search_25 (by decide) ?_
      rw [nI_1]
      refine ih (s + 1) _ (by omega) (by rw [nw_up_ne (by decide)]; exact hS') (fun J1 h1 h2 h3 => k J1 (fun j hj => ?_) (fun j g1 g2 => ?_) (fun q hq => (h3 q hq).trans (nw_up_ne hq)))
      · rw [h1 j (by omega), nw_up_self, pk_un (by omega)]
      · by_cases e : j = s
        · subst e
          rw [h1 j (by omega), nw_up_self, pk_us]
        · exact h2 j (by omega) g2
theorem g_swap_ok {P : Nat → Int32} {S i j : Nat} (hi : i < S) (hj : j < S) (h : ∀ p, p < S → ∃ s, s < S ∧ P p = nI s) : ∀ p, p < S → ∃ s, s < S ∧ g_swap P i j p = nI s := by
  intro p hp
  unfold g_swap
  by_cases e1 : p = j
  · subst e1
    rw [pk_us]
    exact h i hi
  · rw [pk_un e1]
    by_cases e2 : p = i
    · subst e2
      rw [pk_us]
      exact h j hj
    · rw [pk_un e2]
      exact h p hp
theorem g_rev_ok {S : Nat} : ∀ (k : Nat) (P : Nat → Int32) (lo hi : Nat), hi < S → (∀ p, p < S → ∃ s, s < S ∧ P p = nI s) → ∀ p, p < S → ∃ s, s < S ∧ g_rev k P lo hi p = nI s
  | 0, P, lo, hi, h1, h => h
  | k + 1, P, lo, hi, h1, h => by
    intro p hp
    unfold g_rev
    split
    · exact h p hp
    · exact g_rev_ok k _ (lo + 1) (hi - 1) (by omega) (g_swap_ok (by omega) h1 h) p hp
theorem g_rise_lt {P : Nat → Int32} : ∀ (r k : Nat), g_rise P r = some k → k < r
  | 0, k, h => by cases h
  | r + 1, k, h => by
    unfold g_rise at h
    split at h
    · cases h
      omega
    · have := g_rise_lt r k h
      omega
theorem g_next_ok {S : Nat} (P : Nat → Int32) (h : ∀ p, p < S → ∃ s, s < S ∧ P p = nI s) (P' : Nat → Int32) (hn : g_next P S = some P') : ∀ p, p < S → ∃ s, s < S ∧ P' p = nI s := by
  unfold g_next at hn
  split at hn
  · cases hn
  · rename_i r hr
    cases hn
    have h1 := g_rise_lt _ _ hr
    have h2 := g_more_le P r (S - 1)
    exact g_rev_ok _ _ _ _ (by omega) (g_swap_ok (by omega) (by omega) h)
theorem c_search {T S : Nat} {H : Nat → Nat} {f : Nat → Nat → Int32} (hT : I 15 3 = nI T) (hT3 : T ≤ 3) (hS : I 15 4 = nI S) (hS6 : S ≤ 6) (hF : ∀ s, s < S → ∃ t, t < T ∧ nv_fl I 25 (11 + s) = nI t) (hH : ∀ t, t < T → H t ≤ 6) (hh : ∀ t, t < T → I 188 t = nI (H t)) (hf : ∀ t, t < T → ∀ i, i < 6 → I (185 + t) i = f t i) : nw_cV l g 2 mX5_search [.ref (nw_a g 183), .ref (nw_a g 15), .ref (nw_a g 25)] I (fun I' => ∃ P, (∀ p, p < S → P p = nI p) ∧ I' 183 5 = (o_srch (fun P => o_phi (I 19) (nv_fl I 25) P H f S 0 (fun _ => 0)) S 720 P (-1) (I 191)).1 ∧ I' 191 = (o_srch (fun P => o_phi (I 19) (nv_fl I 25) P H f S 0 (fun _ => 0)) S 720 P (-1) (I 191)).2 ∧ ∀ q, q ≠ 183 → q ≠ 189 → q ≠ 190 → q ≠ 191 → I' q = I q) := by
  refine ⟨(Nat.le_of_ble_eq_true rfl), ?_⟩
  refine ev_aload_n (i := 0) dX5_search_0 rfl rfl ?_
  refine ev_iconst (v := (-1)) dX5_search_1 kc_m1 ?_
  refine ev_putI fX5_61 dX5_search_2 rfl rfl (by decide) rfl rfl rfl rfl ?_
  refine ev_iconst (v := 0) dX5_search_5 kc_0 ?_
  refine ev_istore_n (i := 3) dX5_search_6 rfl (Nat.le_of_ble_eq_true rfl) rfl ?_
  refine l_search0 hS6 _ _ S 0 _ (by omega) (by rw [nw_up_ne (by decide)]; exact hS) (fun J h1 h2 h3 => ?_)
  have hJ : ∀ q, q ≠ 183 → q ≠ 190 → J q = I q := fun q q1 q2 => (h3 q q2).trans (nw_up_ne q1)
  refine ev_iconst (v := 1) dX5_search_28 kc_1 ?_
  refine ev_istore_n (i := 3) dX5_search_29 rfl (Nat.le_of_ble_eq_true rfl) rfl ?_
  refine ev_iconst (v := 0) dX5_search_30 kc_0 ?_
  refine ev_istore dX5_search_31 (Nat.le_of_ble_eq_true rfl) rfl ?_
  refine s_postV (l_search (D := I 19) (F := nv_fl I 25) (H := H) (f := f) hT3 hS6 hF hH g_next_ok 720 0 true J _ rfl ?_ ?_ ?_ ?_ ?_ ?_ (fun p hp => ⟨p, hp, h2 p (Nat.zero_le _) hp⟩)) (fun I1 q => ⟨J 190, fun p hp => h2 p (Nat.zero_le _) hp, ?_, ?_, fun x x1 x2 x3 x4 => (q.2.2 x x1 x2 x3 x4).trans (hJ x x1 x3)⟩)
  · rw [hJ 15 (by decide) (by decide)]; exact hT
  · rw [hJ 15 (by decide) (by decide)]; exact hS
  · exact nv_fl_ext (fun x x1 x2 => hJ x (by omega) (by omega))
  · intro t ht; rw [hJ 188 (by decide) (by decide)]; exact hh t ht
  · intro t ht i hi; rw [hJ _ (by omega) (by omega)]; exact hf t ht i hi
  · exact hJ 19 (by decide) (by decide)
  · rw [q.1, if_pos rfl, h3 183 (by decide), nw_up_self, pk_us, h3 191 (by decide), nw_up_ne (by decide)]
  · rw [q.2.1, if_pos rfl, h3 183 (by decide), nw_up_self, pk_us, h3 191 (by decide), nw_up_ne (by decide)]
end
