section
variable {l : Launch} {g : nw_G} {I : nw_Me} {N T S : Nat} {C F G : Nat → Int32} {b : Bool} {L : List (Nat → Int32)}
/-- what the model can go back to, the latest first -/
def nm_acts (I : nw_Me) (T S : Nat) (L : List (Nat → Int32)) : Prop := I 219 14 = nI L.length ∧ L.length ≤ 24 ∧ ∀ i G, L[i]? = some G → nl_F T S G (fun j => I 230 (29 * (L.length - 1 - i) + j))
/-- all but the model's scene, its acts, its trial are as they were -/
def nm_mf (I J : nw_Me) : Prop := (∀ j, j ≠ 14 → J 219 j = I 219 j) ∧ ∀ q, q ≠ 219 → q ≠ 226 → q ≠ 230 → q ≠ 233 → J q = I q
theorem nm_mf.trans {J K : nw_Me} (h1 : nm_mf I J) (h2 : nm_mf J K) : nm_mf I K := ⟨fun j hj => (h2.1 j hj).trans (h1.1 j hj), fun q a c d e => (h2.2 q a c d e).trans (h1.2 q a c d e)⟩
theorem nm_acts.ext {J : nw_Me} (h : nm_acts I T S L) (h1 : J 219 14 = I 219 14) (h2 : J 230 = I 230) : nm_acts J T S L := by unfold nm_acts; rw [h1, h2]; exact h
theorem l_rem2 {a : Nat} {V W : Nat → Int32} (ha : a < 24) : ∀ (k p : Nat) (J : nw_Me), p + k = 29 → J 219 = V → V 14 = nI a → J 230 = nm_mx (29 * a) p (I 226) W → (∀ q, q ≠ 219 → q ≠ 230 → J q = I q) → nw_S l g 0 mX10_remembers 51 [some (.ref (nw_a g 219)), some (.int (nI p))] [] J (nw_qV (fun K => K 219 = upd V 14 (nI (a + 1)) ∧ K 230 = nm_mx (29 * a) 29 (I 226) W ∧ ∀ q, q ≠ 219 → q ≠ 230 → K q = I q)) := by
  have e29 : (29 : Int32) = nI 29 := by decide
  intro k
  induction k with
  | zero =>
    intro p J hp hV hV2 hW hJ
    obtain rfl : p = 29 := by omega
    refine ev_iload_n (i := 1) dX10_remembers_51 rfl rfl ?_
    refine ev_bipush (v := 29) dX10_remembers_52 kb_29 ?_
    refine ev_icmp_ge (tgt := 83) dX10_remembers_54 (by decide) (fun h54 => ?_) (fun h54 => ?_)
    · refine ev_aload_n (i := 0) dX10_remembers_83 rfl rfl ?_
      refine ev_dup dX10_remembers_84 rfl ?_
      refine ev_getI fX10_166 dX10_remembers_85 rfl rfl (by decide) ?_
      rw [hV, hV2]
      refine ev_iconst (v := 1) dX10_remembers_88 kc_1 ?_
      refine ev_iaddN (a := a) (b := 1) dX10_remembers_89 ?_
      refine ev_putI fX10_166 dX10_remembers_90 rfl rfl (by decide) rfl rfl rfl rfl ?_
      exact s_retV dX10_remembers_93 ⟨by rw [nw_up_self, hV], by rw [nw_up_ne (by decide)]; exact hW, fun q q1 q2 => by rw [nw_up_ne q1]; exact hJ q q1 q2⟩
    · exact absurd (by decide) h54
  | succ k ih =>
    intro p J hp hV hV2 hW hJ
    refine ev_iload_n (i := 1) dX10_remembers_51 rfl rfl ?_
    refine ev_bipush (v := 29) dX10_remembers_52 kb_29 ?_
    refine ev_icmp_ge (tgt := 83) dX10_remembers_54 (by decide) (fun h54 => ?_) (fun h54 => ?_)
    · exact absurd h54 (by rw [e29]; exact nI_ge (by omega) (by omega))
    · refine ev_aload_n (i := 0) dX10_remembers_57 rfl rfl ?_
      refine ev_getR fX10_41 dX10_remembers_58 rfl rfl (by decide) ?_
      refine ev_bipush (v := 29) dX10_remembers_61 kb_29 ?_
      refine ev_aload_n (i := 0) dX10_remembers_63 rfl rfl ?_
      refine ev_getI fX10_166 dX10_remembers_64 rfl rfl (by decide) ?_
      rw [hV, hV2]
      refine ev_imulN (a := 29) (b := a) dX10_remembers_67 ?_
      refine ev_iload_n (i := 1) dX10_remembers_68 rfl rfl ?_
      refine ev_iaddN (a := (29 * a)) (b := p) dX10_remembers_69 ?_
      refine ev_aload_n (i := 0) dX10_remembers_70 rfl rfl ?_
      refine ev_getR fX10_28 dX10_remembers_71 rfl rfl (by decide) ?_
      refine ev_iload_n (i := 1) dX10_remembers_74 rfl rfl ?_
      refine ev_ialdN (j := p) dX10_remembers_75 rfl (by omega) (by decide) ?_
      rw [hJ 226 (by decide) (by decide)]
      refine ev_iastN (j := ((29 * a) + p)) dX10_remembers_76 rfl (by omega) (by decide) ?_
      refine ev_iincN (a := p) dX10_remembers_77 rfl (Nat.le_of_ble_eq_true rfl) rfl ?_
      refine ev_goto (tgt := 51) dX10_remembers_80 (by decide) ?_
      refine ih (p + 1) _ (by omega) (by rw [nw_up_ne (by decide)]; exact hV) hV2 ?_ (fun q q1 q2 => by rw [nw_up_ne q2]; exact hJ q q1 q2)
      rw [nw_up_self, hW]
      exact nm_mx_s (29 * a) p (I 226) W
theorem l_rem1 (h24 : I 219 14 = nI 24) : ∀ (k p : Nat) (J : nw_Me), p + k = 667 → J 230 = nm_mx 0 p (fun i => I 230 (i + 29)) (I 230) → (∀ q, q ≠ 230 → J q = I q) → nw_S l g 0 mX10_remembers 11 [some (.ref (nw_a g 219)), some (.int (nI p))] [] J (nw_qV (fun K => K 219 = upd (I 219) 14 (nI 24) ∧ K 230 = nm_mx 667 29 (I 226) (nm_mx 0 667 (fun i => I 230 (i + 29)) (I 230)) ∧ ∀ q, q ≠ 219 → q ≠ 230 → K q = I q)) := by
  have e29 : (667 : Int32) = nI 667 := by decide
  intro k
  induction k with
  | zero =>
    intro p J hp hW hJ
    obtain rfl : p = 667 := by omega
    refine ev_iload_n (i := 1) dX10_remembers_11 rfl rfl ?_
    refine ev_sipush (v := 667) dX10_remembers_12 ks_667 ?_
    refine ev_icmp_ge (tgt := 39) dX10_remembers_15 (by decide) (fun h15 => ?_) (fun h15 => ?_)
    · refine ev_aload_n (i := 0) dX10_remembers_39 rfl rfl ?_
      refine ev_dup dX10_remembers_40 rfl ?_
      refine ev_getI fX10_166 dX10_remembers_41 rfl rfl (by decide) ?_
      rw [hJ 219 (by decide), h24]
      refine ev_iconst (v := 1) dX10_remembers_44 kc_1 ?_
      refine ev_isub dX10_remembers_45 ?_
      rw [show nI 24 - 1 = nI 23 by decide]
      refine ev_putI fX10_166 dX10_remembers_46 rfl rfl (by decide) rfl rfl rfl rfl ?_
      refine ev_iconst (v := 0) dX10_remembers_49 kc_0 ?_
      refine ev_istore_n (i := 1) dX10_remembers_50 rfl (Nat.le_of_ble_eq_true rfl) rfl ?_
      refine s_postV (l_rem2 (I := I) (a := 23) (V := upd (I 219) 14 (nI 23)) (W := nm_mx 0 667 (fun i => I 230 (i + 29)) (I 230)) (by omega) 29 0 _ (by omega) (by rw [nw_up_self, hJ 219 (by decide)]) pk_us (by rw [nw_up_ne (by decide), nm_mx_0]; exact hW) (fun q q1 q2 => by rw [nw_up_ne q1]; exact hJ q q2)) (fun K h => ⟨?_, h.2.1, h.2.2⟩)
      rw [h.1]
      funext j
      unfold upd
      split <;> rfl
    · exact absurd (by decide) h15
  | succ k ih =>
    intro p J hp hW hJ
    refine ev_iload_n (i := 1) dX10_remembers_11 rfl rfl ?_
    refine ev_sipush (v := 667) dX10_remembers_12 ks_667 ?_
    refine ev_icmp_ge (tgt := 39) dX10_remembers_15 (by decide) (fun h15 => ?_) (fun h15 => ?_)
    · exact absurd h15 (by rw [e29]; exact nI_ge (by omega) (by omega))
    · refine ev_aload_n (i := 0) dX10_remembers_18 rfl rfl ?_
      refine ev_getR fX10_41 dX10_remembers_19 rfl rfl (by decide) ?_
      refine ev_iload_n (i := 1) dX10_remembers_22 rfl rfl ?_
      refine ev_aload_n (i := 0) dX10_remembers_23 rfl rfl ?_
      refine ev_getR fX10_41 dX10_remembers_24 rfl rfl (by decide) ?_
      refine ev_iload_n (i := 1) dX10_remembers_27 rfl rfl ?_
      refine ev_bipush (v := 29) dX10_remembers_28 kb_29 ?_
      refine ev_iaddN (a := p) (b := 29) dX10_remembers_30 ?_
      refine ev_ialdN (j := (p + 29)) dX10_remembers_31 rfl (by omega) (by decide) ?_
      rw [show J 230 (p + 29) = I 230 (p + 29) by rw [hW]; exact nm_mx_out (Or.inr (by omega))]
      refine ev_iastN (j := p) dX10_remembers_32 rfl (by omega) (by decide) ?_
      refine ev_iincN (a := p) dX10_remembers_33 rfl (Nat.le_of_ble_eq_true rfl) rfl ?_
      refine ev_goto (tgt := 11) dX10_remembers_36 (by decide) ?_
      refine ih (p + 1) _ (by omega) ?_ (fun q q1 => by rw [nw_up_ne q1]; exact hJ q q1)
      rw [nw_up_self, hW]
      have e := nm_mx_s 0 p (fun i => I 230 (i + 29)) (I 230)
      rw [Nat.zero_add] at e
      exact e
theorem m_remembers (hA : nm_acts I T S L) (hF : nl_F T S F (I 226)) (hT : T ≤ 3) (hS : S ≤ 6) : nw_cV l g 0 mX10_remembers [.ref (nw_a g 219)] I (fun J => nm_acts J T S ((F :: L).take 24) ∧ (∀ j, j ≠ 14 → J 219 j = I 219 j) ∧ ∀ q, q ≠ 219 → q ≠ 230 → J q = I q) := by
  refine ⟨(Nat.le_of_ble_eq_true rfl), ?_⟩
  have e24 : (24 : Int32) = nI 24 := by decide
  have hlt : ∀ i, nl_f T S i → i < 29 := fun i hi => by unfold nl_f at hi; omega
  refine ev_aload_n (i := 0) dX10_remembers_0 rfl rfl ?_
  refine ev_getI fX10_166 dX10_remembers_1 rfl rfl (by decide) ?_
  refine ev_bipush (v := 24) dX10_remembers_4 kb_24 ?_
  rw [hA.1]
  refine ev_icmp_ne (tgt := 49) dX10_remembers_6 (by decide) (fun h6 => ?_) (fun h6 => ?_)
  · refine ev_iconst (v := 0) dX10_remembers_49 kc_0 ?_
    refine ev_istore_n (i := 1) dX10_remembers_50 rfl (Nat.le_of_ble_eq_true rfl) rfl ?_
    have hlen : L.length < 24 := by
      have := hA.2.1
      have : L.length ≠ 24 := fun q => h6 (by rw [q, e24])
      omega
    refine s_postV (l_rem2 (I := I) (a := L.length) (V := I 219) (W := I 230) hlen 29 0 I (by omega) rfl hA.1 (nm_mx_0 _ _ _).symm (fun _ _ _ => rfl)) (fun K h => ⟨⟨?_, ?_, fun i G hG => ?_⟩, fun j hj => by rw [h.1, pk_un hj], h.2.2⟩)
    · rw [h.1, pk_us, List.length_take, List.length_cons, Nat.min_eq_right (by omega)]
    · rw [List.length_take]; omega
    · rw [show ((F :: L).take 24).length = L.length + 1 by rw [List.length_take, List.length_cons, Nat.min_eq_right (by omega)]]
      have hi : i < 24 := by have := (List.getElem?_eq_some_iff.mp hG).1; rw [List.length_take] at this; omega
      rw [List.getElem?_take_of_lt hi] at hG
      intro j hj
      have hj29 := hlt j hj
      show K 230 (29 * (L.length + 1 - 1 - i) + j) = G j
      rw [h.2.1]
      cases i with
      | zero =>
        simp at hG
        subst hG
        rw [show 29 * (L.length + 1 - 1 - 0) + j = 29 * L.length + j by omega, nm_mx_in hj29]
        exact hF j hj
      | succ i =>
        simp at hG
        have hi2 := (List.getElem?_eq_some_iff.mp hG).1
        have := hA.2.2 i G hG j hj
        rw [nm_mx_out (Or.inl (by omega)), show 29 * (L.length + 1 - 1 - (i + 1)) + j = 29 * (L.length - 1 - i) + j by omega]
        exact this
  · refine ev_iconst (v := 0) dX10_remembers_9 kc_0 ?_
    refine ev_istore_n (i := 1) dX10_remembers_10 rfl (Nat.le_of_ble_eq_true rfl) rfl ?_
    have hlen : L.length = 24 := by rw [e24] at h6; exact (nI_eq (by have := hA.2.1; omega) (by decide)).mp h6
    refine s_postV (l_rem1 (by rw [hA.1, hlen]) 667 0 I (by omega) (nm_mx_0 _ _ _).symm (fun _ _ => rfl)) (fun K h => ⟨⟨?_, ?_, fun i G hG => ?_⟩, fun j hj => by rw [h.1, pk_un hj], h.2.2⟩)
    · rw [h.1, pk_us, List.length_take, List.length_cons, hlen]; rfl
    · rw [List.length_take]; omega
    · rw [show ((F :: L).take 24).length = 24 by rw [List.length_take, List.length_cons, hlen]; rfl]
      have hi : i < 24 := by have := (List.getElem?_eq_some_iff.mp hG).1; rw [List.length_take] at this; omega
      rw [List.getElem?_take_of_lt hi] at hG
      intro j hj
      have hj29 := hlt j hj
      show K 230 (29 * (24 - 1 - i) + j) = G j
      rw [h.2.1]
      cases i with
      | zero =>
        simp at hG
        subst hG
        rw [show 29 * (24 - 1 - 0) + j = 667 + j by omega, nm_mx_in hj29]
        exact hF j hj
      | succ i =>
        simp at hG
        have := hA.2.2 i G hG j hj
        rw [hlen] at this
        rw [nm_mx_out (Or.inl (by omega)), show 29 * (24 - 1 - (i + 1)) + j = 0 + (29 * (24 - 1 - (i + 1)) + j) by omega, nm_mx_in (by omega), show 29 * (24 - 1 - (i + 1)) + j + 29 = 29 * (24 - 1 - i) + j by omega]
        exact this
theorem l_mwav2 {x t : Nat} {Post : Option Int32 → List nw_Sh → nw_Me → Prop} (kk : ∀ K : nw_Me, K 226 = nm_mx 0 29 (I 233) (I 226) → (∀ q, q ≠ 226 → K q = I q) → nw_S l g 5 mX10_waves 88 [some (.ref (nw_a g 219)), some (.int (nI x)), some (.int (nI t)), some (.int (nI 29))] [] K Post) : ∀ (k p : Nat) (J : nw_Me), p + k = 29 → J 226 = nm_mx 0 p (I 233) (I 226) → (∀ q, q ≠ 226 → J q = I q) → nw_S l g 5 mX10_waves 64 [some (.ref (nw_a g 219)), some (.int (nI x)), some (.int (nI t)), some (.int (nI p))] [] J Post := by
  have e29 : (29 : Int32) = nI 29 := by decide
  intro k
  induction k with
  | zero =>
    intro p J hp hW hJ
    obtain rfl : p = 29 := by omega
    refine ev_iload_n (i := 3) dX10_waves_64 rfl rfl ?_
    refine ev_bipush (v := 29) dX10_waves_65 kb_29 ?_
    refine ev_icmp_ge (tgt := 88) dX10_waves_67 (by decide) (fun h67 => ?_) (fun h67 => ?_)
    · exact kk J hW hJ
    · exact absurd (by decide) h67
  | succ k ih =>
    intro p J hp hW hJ
    refine ev_iload_n (i := 3) dX10_waves_64 rfl rfl ?_
    refine ev_bipush (v := 29) dX10_waves_65 kb_29 ?_
    refine ev_icmp_ge (tgt := 88) dX10_waves_67 (by decide) (fun h67 => ?_) (fun h67 => ?_)
    · exact absurd h67 (by rw [e29]; exact nI_ge (by omega) (by omega))
    · refine ev_aload_n (i := 0) dX10_waves_70 rfl rfl ?_
      refine ev_getR fX10_28 dX10_waves_71 rfl rfl (by decide) ?_
      refine ev_iload_n (i := 3) dX10_waves_74 rfl rfl ?_
      refine ev_aload_n (i := 0) dX10_waves_75 rfl rfl ?_
      refine ev_getR fX10_50 dX10_waves_76 rfl rfl (by decide) ?_
      refine ev_iload_n (i := 3) dX10_waves_79 rfl rfl ?_
      refine ev_ialdN (j := p) dX10_waves_80 rfl (by omega) (by decide) ?_
      rw [hJ 233 (by decide)]
      refine ev_iastN (j := p) dX10_waves_81 rfl (by omega) (by decide) ?_
      refine ev_iincN (a := p) dX10_waves_82 rfl (Nat.le_of_ble_eq_true rfl) rfl ?_
      refine ev_goto (tgt := 64) dX10_waves_85 (by decide) ?_
      refine ih (p + 1) _ (by omega) ?_ (fun q q1 => by rw [nw_up_ne q1]; exact hJ q q1)
      rw [nw_up_self, hW]
      have e := nm_mx_s 0 p (I 233) (I 226)
      rw [Nat.zero_add] at e
      exact e
theorem nm_mx_29 {f h : Nat → Int32} (i : Nat) (hi : i < 29) : nm_mx 0 29 f h i = f i := by
  have e := nm_mx_in (o := 0) (f := f) (h := h) hi
  rw [Nat.zero_add] at e
  exact e
theorem l_mwaves {x : Nat} {f : Nat → Int32} (hC : nl_C N T S C f) (h0 : 0 < N) (hk : nv_kok N C) (hx : x ≤ 24) : ∀ (m t v : Nat) (F : Nat → Int32) (L : List (Nat → Int32)) (J : nw_Me) (z : Option Value), t + m = x → J 225 = f → nv_fok F S → ¬ F 1 ≤ 0 → F 0 = nI v → v + m ≤ 999 → nl_F T S F (J 226) → nm_acts J T S L → nw_S l g 5 mX10_waves 44 [some (.ref (nw_a g 219)), some (.int (nI x)), some (.int (nI t)), z] [] J (nw_qI (fun r K => r = nI (v + m) ∧ nl_F T S (p_pass C T S m F) (K 226) ∧ nm_acts K T S (p_wk C T S m F L) ∧ nm_mf J K)) := by
  intro m
  induction m with
  | zero =>
    intro t v F L J z ht hJ hfk hl hv hvm hF hA
    refine ev_iload_n (i := 2) dX10_waves_44 rfl rfl ?_
    refine ev_iload_n (i := 1) dX10_waves_45 rfl rfl ?_
    refine ev_icmp_ge (tgt := 94) dX10_waves_46 (by decide) (fun h46 => ?_) (fun h46 => ?_)
    · refine ev_aload_n (i := 0) dX10_waves_94 rfl rfl ?_
      refine ev_getR fX10_28 dX10_waves_95 rfl rfl (by decide) ?_
      refine ev_iconst (v := 0) dX10_waves_98 kc_0 ?_
      refine ev_ialdN (j := 0) dX10_waves_99 rfl (by omega) (by decide) ?_
      exact s_retI dX10_waves_100 ⟨by rw [hF 0 (by unfold nl_f; omega)]; exact hv, hF, hA, fun _ _ => rfl, fun _ _ _ _ _ => rfl⟩
    · exact absurd (nI_le (by omega) (by omega)) h46
  | succ m ih =>
    intro t v F L J z ht hJ hfk hl hv hvm hF hA
    refine ev_iload_n (i := 2) dX10_waves_44 rfl rfl ?_
    refine ev_iload_n (i := 1) dX10_waves_45 rfl rfl ?_
    refine ev_icmp_ge (tgt := 94) dX10_waves_46 (by decide) (fun h46 => ?_) (fun h46 => ?_)
    · exact absurd h46 (nI_ge (by omega) (by omega))
    · refine ev_aload_n (i := 0) dX10_waves_49 rfl rfl ?_
      refine s_callVv (As := []) (m_remembers hA hF hC.hT hC.hS) (Nat.le_of_ble_eq_true rfl) lX10_202 kX10_remembers vX10_remembers dX10_waves_50 rfl rfl rfl (by decide) rfl (Nat.le_of_ble_eq_true rfl) (fun J1 h1 => ?_)
      refine ev_aload_n (i := 0) dX10_waves_53 rfl rfl ?_
      refine s_callVv (As := []) (m_asNow) (Nat.le_of_ble_eq_true rfl) lX10_205 kX10_asNow vX10_asNow dX10_waves_54 rfl rfl rfl (by decide) rfl (Nat.le_of_ble_eq_true rfl) (fun J2 h2 => ?_)
      have hC2 : nl_C N T S C (J2 225) := by rw [h2.2 225 (by decide), h1.2.2 225 (by decide) (by decide), hJ]; exact hC
      have hF2 : nl_F T S F (J2 233) := hF.ge (fun i hi => by rw [h2.1, nm_mx_29 i hi, h1.2.2 226 (by decide) (by decide)]) hC.hT hC.hS
      refine ev_aload_n (i := 0) dX10_waves_57 rfl rfl ?_
      refine ev_iconst (v := 1) dX10_waves_58 kc_1 ?_
      refine s_callVv (As := [_]) (m_waves0 (x := 1) (v := v) hC2 h0 hk (by omega) hfk hl hv (by omega) hF2) (Nat.le_of_ble_eq_true rfl) lX10_208 kX10_waves0 vX10_waves0 dX10_waves_59 rfl rfl rfl (by decide) rfl (Nat.le_of_ble_eq_true rfl) (fun J3 h3 => ?_)
      refine ev_iconst (v := 0) dX10_waves_62 kc_0 ?_
      refine ev_istore_n (i := 3) dX10_waves_63 rfl (Nat.le_of_ble_eq_true rfl) rfl ?_
      refine l_mwav2 (I := J3) (fun K hK1 hK2 => ?_) 29 0 J3 (by omega) (nm_mx_0 _ _ _).symm (fun _ _ => rfl)
      have hF3 : nl_F T S (p_by C T S F) (K 226) := nl_F.ge (f := J3 233) h3.1 (fun i hi => by rw [hK1, nm_mx_29 i hi]) hC.hT hC.hS
      have hK : ∀ q, q ≠ 226 → q ≠ 233 → K q = J1 q := fun q q1 q2 => by rw [hK2 q q1, h3.2 q q2, h2.2 q q2]
      refine ev_iincN (a := t) dX10_waves_88 rfl (Nat.le_of_ble_eq_true rfl) rfl ?_
      refine ev_goto (tgt := 44) dX10_waves_91 (by decide) ?_
      refine s_postI (ih (t + 1) (v + 1) (p_by C T S F) ((F :: L).take 24) K _ (by omega) ?_ (p_by_fok hC.hT hC.hS hfk) ?_ ?_ (by omega) hF3 (h1.1.ext (by rw [hK 219 (by decide) (by decide)]) (hK 230 (by decide) (by decide)))) (fun r K2 q => ⟨by rw [q.1]; congr 1; omega, q.2.1, q.2.2.1, ?_⟩)
      · rw [hK 225 (by decide) (by decide), h1.2.2 225 (by decide) (by decide)]
        exact hJ
      · unfold p_by
        rw [p_come_1]
        exact hl
      · rw [p_by_0 _ hC.hT, hv, nI_1]
      · refine nm_mf.trans ⟨fun j hj => by rw [hK 219 (by decide) (by decide)]; exact h1.2.1 j hj, fun q a c d e => by rw [hK q c e]; exact h1.2.2 q a d⟩ q.2.2.2
theorem m_waves (hW : nm_W I b N T S C F) (hA : nm_acts I T S L) (n : Int32) : nw_cI l g 5 mX10_waves [.ref (nw_a g 219), .int n] I (fun r J => (b = false ∧ r = -1000002 ∧ J = I) ∨ (b = true ∧ nv_in n 1 24 = false ∧ r = -1000001 ∧ J = I) ∨ ∃ v m, b = true ∧ n = nI m ∧ 1 ≤ m ∧ m ≤ 24 ∧ v ≤ 999 ∧ F 0 = nI v ∧ ((999 < v + m ∧ r = -1000003 ∧ J = I) ∨ (v + m ≤ 999 ∧ r = nI (v + m) ∧ nl_F T S (p_pass C T S m F) (J 226) ∧ nm_acts J T S (p_wk C T S m F L) ∧ nm_mf I J))) := by
  refine ⟨(Nat.le_of_ble_eq_true rfl), ?_⟩
  obtain ⟨hb, hC, hF, hor⟩ := id hW
  have hbd := hW.bd
  have hN := hC.n
  have hT := hC.t
  have hS := hC.s
  have hN2 := hC.hN
  have hT3 := hC.hT
  have hS6 := hC.hS
  refine ev_aload_n (i := 0) dX10_waves_0 rfl rfl ?_
  refine s_dVz (As := []) (m_isSea) (Nat.le_of_ble_eq_true rfl) lX10_196 kX10_isSea vX10_isSea dX10_waves_1 rfl rfl rfl (by decide) rfl (Nat.le_of_ble_eq_true rfl) ?_
  rw [hbd]
  refine s_ifZ_ne (tgt := 10) dX10_waves_4 (by decide) (fun h4 => ?_) (fun h4 => ?_)
  · refine ev_iload_n (i := 1) dX10_waves_10 rfl rfl ?_
    refine ev_i2l dX10_waves_11 ?_
    refine ev_lconst (v := 1) dX10_waves_12 rfl ?_
    refine ev_ldc2 qX10_200 dX10_waves_13 ?_
    refine s_dSz (As := [_, _, _]) (m_in _ 1 24 (by decide) (by decide)) (Nat.le_of_ble_eq_true rfl) lX10_64 kX10_in sX10_in dX10_waves_16 rfl rfl (Nat.le_of_ble_eq_true rfl) ?_
    refine s_ifZ_ne (tgt := 25) dX10_waves_19 (by decide) (fun h19 => ?_) (fun h19 => ?_)
    · have eb : b = true := h4
      subst eb
      obtain ⟨-, h0, h0T, hk, hsok⟩ := hW.sea (Or.inr (Or.inr (Or.inr rfl)))
      obtain ⟨v, hv2, hv⟩ := hsok.2.2.1
      have hl := hsok.law
      have hfk := hsok.1
      obtain ⟨m, hm1, hm2, rfl⟩ := nv_in_n (a := 1) (c := 24) h19 (by decide) (by decide)
      have e999 : (999 : Int32) = nI 999 := by decide
      refine ev_aload_n (i := 0) dX10_waves_25 rfl rfl ?_
      refine ev_getR fX10_28 dX10_waves_26 rfl rfl (by decide) ?_
      refine ev_iconst (v := 0) dX10_waves_29 kc_0 ?_
      refine ev_ialdN (j := 0) dX10_waves_30 rfl (by omega) (by decide) ?_
      rw [show I 226 0 = nI v by rw [hF 0 (by unfold nl_f; omega)]; exact hv]
      refine ev_iload_n (i := 1) dX10_waves_31 rfl rfl ?_
      refine ev_iaddN (a := v) (b := m) dX10_waves_32 ?_
      refine ev_sipush (v := 999) dX10_waves_33 ks_999 ?_
      refine ev_icmp_le (tgt := 42) dX10_waves_36 (by decide) (fun h36 => ?_) (fun h36 => ?_)
      · refine ev_iconst (v := 0) dX10_waves_42 kc_0 ?_
        refine ev_istore_n (i := 2) dX10_waves_43 rfl (Nat.le_of_ble_eq_true rfl) rfl ?_
        have hvm : v + m ≤ 999 := by rw [e999, nI_leI (by omega) (by decide)] at h36; exact h36
        refine s_postI (l_mwaves (f := I 225) hC h0 hk hm2 m 0 v F L I _ (by omega) rfl hfk hl hv hvm hF hA) (fun r J q => Or.inr (Or.inr ⟨v, m, rfl, rfl, hm1, hm2, hv2, hv, Or.inr ⟨hvm, q.1, q.2.1, q.2.2.1, q.2.2.2⟩⟩))
      · refine ev_ldc qX10_92 dX10_waves_39 ?_
        exact s_retI dX10_waves_41 (Or.inr (Or.inr ⟨v, m, rfl, rfl, hm1, hm2, hv2, hv, Or.inl ⟨Nat.not_le.mp (fun q => h36 (by rw [e999]; exact nI_le q (by omega))), rfl, rfl⟩⟩))
    · refine ev_ldc qX10_79 dX10_waves_22 ?_
      exact s_retI dX10_waves_24 (Or.inr (Or.inl ⟨h4, h19, rfl, rfl⟩))
  · refine ev_ldc qX10_199 dX10_waves_7 ?_
    exact s_retI dX10_waves_9 (Or.inl ⟨h4, rfl, rfl⟩)
theorem m_slip (hW : nm_W I b N T S C F) (hA : nm_acts I T S L) (x y : Int32) : nw_cI l g 2 mX10_slip [.ref (nw_a g 219), .int x, .int y] I (fun r J => ((nv_in x 0 (nI T - 1) && nv_in y (-9) 9) = false ∧ r = -1000001 ∧ J = I) ∨ ∃ t, t < T ∧ x = nI t ∧ nv_in y (-9) 9 = true ∧ r = nv_max 0 (F (2 + t) + y) ∧ nl_F T S (upd F (2 + t) (nv_max 0 (F (2 + t) + y))) (J 226) ∧ nm_acts J T S ((F :: L).take 24) ∧ nm_mf I J) := by
  refine ⟨(Nat.le_of_ble_eq_true rfl), ?_⟩
  obtain ⟨hb, hC, hF, hor⟩ := id hW
  have hbd := hW.bd
  have hN := hC.n
  have hT := hC.t
  have hS := hC.s
  have hN2 := hC.hN
  have hT3 := hC.hT
  have hS6 := hC.hS
  refine ev_aload_n (i := 0) dX10_slip_0 rfl rfl ?_
  refine ev_iload_n (i := 1) dX10_slip_1 rfl rfl ?_
  refine s_dVz (As := [_]) (m_isTower _) (Nat.le_of_ble_eq_true rfl) lX10_212 kX10_isTower vX10_isTower dX10_slip_2 rfl rfl rfl (by decide) rfl (Nat.le_of_ble_eq_true rfl) ?_
  rw [hT]
  refine s_ifZ_eq (tgt := 22) dX10_slip_5 (by decide) (fun h5 => ?_) (fun h5 => ?_)
  · refine ev_ldc qX10_79 dX10_slip_22 ?_
    exact s_retI dX10_slip_24 (Or.inl ⟨by first | (simp [h5]; done) | (simp [h19]; done), rfl, rfl⟩)
  · refine ev_iload_n (i := 2) dX10_slip_8 rfl rfl ?_
    refine ev_i2l dX10_slip_9 ?_
    refine ev_ldc2 qX10_215 dX10_slip_10 ?_
    refine ev_ldc2 qX10_217 dX10_slip_13 ?_
    refine s_dSz (As := [_, _, _]) (m_in _ (-9) 9 (by decide) (by decide)) (Nat.le_of_ble_eq_true rfl) lX10_64 kX10_in sX10_in dX10_slip_16 rfl rfl (Nat.le_of_ble_eq_true rfl) ?_
    refine s_ifZ_ne (tgt := 25) dX10_slip_19 (by decide) (fun h19 => ?_) (fun h19 => ?_)
    · obtain ⟨s, hs, rfl⟩ := nv_in_S (by omega) h5
      refine ev_aload_n (i := 0) dX10_slip_25 rfl rfl ?_
      refine s_callVv (As := []) (m_remembers hA hF hT3 hS6) (Nat.le_of_ble_eq_true rfl) lX10_202 kX10_remembers vX10_remembers dX10_slip_26 rfl rfl rfl (by decide) rfl (Nat.le_of_ble_eq_true rfl) (fun J1 h1 => ?_)
      have j225 := h1.2.2 225 (by decide) (by decide)
      have j226 := h1.2.2 226 (by decide) (by decide)
      refine ev_aload_n (i := 0) dX10_slip_29 rfl rfl ?_
      refine ev_getR fX10_28 dX10_slip_30 rfl rfl (by decide) ?_
      refine ev_iconst (v := 2) dX10_slip_33 kc_2 ?_
      refine ev_iload_n (i := 1) dX10_slip_34 rfl rfl ?_
      refine ev_iaddN (a := 2) (b := s) dX10_slip_35 ?_
      refine ev_iconst (v := 0) dX10_slip_36 kc_0 ?_
      refine ev_aload_n (i := 0) dX10_slip_37 rfl rfl ?_
      refine ev_getR fX10_28 dX10_slip_38 rfl rfl (by decide) ?_
      refine ev_iconst (v := 2) dX10_slip_41 kc_2 ?_
      refine ev_iload_n (i := 1) dX10_slip_42 rfl rfl ?_
      refine ev_iaddN (a := 2) (b := s) dX10_slip_43 ?_
      refine ev_ialdN (j := (2 + s)) dX10_slip_44 rfl (by omega) (by decide) ?_
      rw [j226, hF (2 + s) (by unfold nl_f; omega)]
      refine ev_iload_n (i := 2) dX10_slip_45 rfl rfl ?_
      refine ev_iadd dX10_slip_46 ?_
      refine s_dSi (As := [_, _]) (m_most _ _) (Nat.le_of_ble_eq_true rfl) lX10_169 kX10_most sX10_most dX10_slip_47 rfl rfl (Nat.le_of_ble_eq_true rfl) ?_
      refine ev_iastN (j := (2 + s)) dX10_slip_50 rfl (by omega) (by decide) ?_
      refine ev_aload_n (i := 0) dX10_slip_51 rfl rfl ?_
      refine ev_getR fX10_28 dX10_slip_52 rfl rfl (by decide) ?_
      refine ev_iconst (v := 2) dX10_slip_55 kc_2 ?_
      refine ev_iload_n (i := 1) dX10_slip_56 rfl rfl ?_
      refine ev_iaddN (a := 2) (b := s) dX10_slip_57 ?_
      refine ev_ialdN (j := (2 + s)) dX10_slip_58 rfl (by omega) (by decide) ?_
      rw [nw_up_self, pk_us]
      exact s_retI dX10_slip_59 (Or.inr ⟨s, hs, rfl, h19, rfl, by rw [nw_up_self, j226]; exact hF.upd _ _, h1.1.ext (by rw [nw_up_ne (by decide)]) (by rw [nw_up_ne (by decide)]), ⟨fun j hj => by rw [nw_up_ne (by decide)]; exact h1.2.1 j hj, fun q q1 q2 q3 q4 => by rw [nw_up_ne q2]; exact h1.2.2 q q1 q3⟩⟩)
    · refine ev_ldc qX10_79 dX10_slip_22 ?_
      exact s_retI dX10_slip_24 (Or.inl ⟨by first | (simp [h5]; done) | (simp [h19]; done), rfl, rfl⟩)
theorem m_law (hW : nm_W I b N T S C F) (hA : nm_acts I T S L) (x : Int32) : nw_cI l g 1 mX10_law [.ref (nw_a g 219), .int x] I (fun r J => (b = false ∧ r = -1000002 ∧ J = I) ∨ (b = true ∧ nv_in x 2 12 = false ∧ r = -1000001 ∧ J = I) ∨ (b = true ∧ nv_in x 2 12 = true ∧ r = F 1 ∧ nl_F T S (upd F 1 x) (J 226) ∧ nm_acts J T S ((F :: L).take 24) ∧ nm_mf I J)) := by
  refine ⟨(Nat.le_of_ble_eq_true rfl), ?_⟩
  obtain ⟨hb, hC, hF, hor⟩ := id hW
  have hbd := hW.bd
  have hN := hC.n
  have hT := hC.t
  have hS := hC.s
  have hN2 := hC.hN
  have hT3 := hC.hT
  have hS6 := hC.hS
  refine ev_aload_n (i := 0) dX10_law_0 rfl rfl ?_
  refine s_dVz (As := []) (m_isSea) (Nat.le_of_ble_eq_true rfl) lX10_196 kX10_isSea vX10_isSea dX10_law_1 rfl rfl rfl (by decide) rfl (Nat.le_of_ble_eq_true rfl) ?_
  rw [hbd]
  refine s_ifZ_ne (tgt := 10) dX10_law_4 (by decide) (fun h4 => ?_) (fun h4 => ?_)
  · refine ev_iload_n (i := 1) dX10_law_10 rfl rfl ?_
    refine ev_i2l dX10_law_11 ?_
    refine ev_ldc2 qX10_77 dX10_law_12 ?_
    refine ev_ldc2 qX10_219 dX10_law_15 ?_
    refine s_dSz (As := [_, _, _]) (m_in _ 2 12 (by decide) (by decide)) (Nat.le_of_ble_eq_true rfl) lX10_64 kX10_in sX10_in dX10_law_18 rfl rfl (Nat.le_of_ble_eq_true rfl) ?_
    refine s_ifZ_ne (tgt := 27) dX10_law_21 (by decide) (fun h21 => ?_) (fun h21 => ?_)
    · refine ev_aload_n (i := 0) dX10_law_27 rfl rfl ?_
      refine s_callVv (As := []) (m_remembers hA hF hT3 hS6) (Nat.le_of_ble_eq_true rfl) lX10_202 kX10_remembers vX10_remembers dX10_law_28 rfl rfl rfl (by decide) rfl (Nat.le_of_ble_eq_true rfl) (fun J1 h1 => ?_)
      have j225 := h1.2.2 225 (by decide) (by decide)
      have j226 := h1.2.2 226 (by decide) (by decide)
      refine ev_aload_n (i := 0) dX10_law_31 rfl rfl ?_
      refine ev_getR fX10_28 dX10_law_32 rfl rfl (by decide) ?_
      refine ev_iconst (v := 1) dX10_law_35 kc_1 ?_
      refine ev_ialdN (j := 1) dX10_law_36 rfl (by omega) (by decide) ?_
      rw [j226, hF 1 (by obtain ⟨-, h0, h0T, -⟩ := hW.sea (Or.inr (Or.inr (Or.inr h4))); unfold nl_f; omega)]
      refine ev_istore_n (i := 2) dX10_law_37 rfl (Nat.le_of_ble_eq_true rfl) rfl ?_
      refine ev_aload_n (i := 0) dX10_law_38 rfl rfl ?_
      refine ev_getR fX10_28 dX10_law_39 rfl rfl (by decide) ?_
      refine ev_iconst (v := 1) dX10_law_42 kc_1 ?_
      refine ev_iload_n (i := 1) dX10_law_43 rfl rfl ?_
      refine ev_iastN (j := 1) dX10_law_44 rfl (by omega) (by decide) ?_
      refine ev_iload_n (i := 2) dX10_law_45 rfl rfl ?_
      exact s_retI dX10_law_46 (Or.inr (Or.inr ⟨h4, h21, rfl, by rw [nw_up_self, j226]; exact hF.upd _ _, h1.1.ext (by rw [nw_up_ne (by decide)]) (by rw [nw_up_ne (by decide)]), ⟨fun j hj => by rw [nw_up_ne (by decide)]; exact h1.2.1 j hj, fun q q1 q2 q3 q4 => by rw [nw_up_ne q2]; exact h1.2.2 q q1 q3⟩⟩))
    · refine ev_ldc qX10_79 dX10_law_24 ?_
      exact s_retI dX10_law_26 (Or.inr (Or.inl ⟨h4, h21, rfl, rfl⟩))
  · refine ev_ldc qX10_199 dX10_law_7 ?_
    exact s_retI dX10_law_9 (Or.inl ⟨h4, rfl, rfl⟩)
theorem m_heeds (hW : nm_W I b N T S C F) (hA : nm_acts I T S L) (x y : Int32) : nw_cI l g 2 mX10_heeds [.ref (nw_a g 219), .int x, .int y] I (fun r J => ((nv_in x 0 (nI S - 1) && nv_in y 0 (nI T - 1)) = false ∧ r = -1000001 ∧ J = I) ∨ ∃ s t, s < S ∧ t < T ∧ x = nI s ∧ y = nI t ∧ ((¬ F (17 + s) = 0 ∧ r = -1000002 ∧ J = I) ∨ (F (17 + s) = 0 ∧ r = F (11 + s) ∧ nl_F T S (upd F (11 + s) (nI t)) (J 226) ∧ nm_acts J T S ((F :: L).take 24) ∧ nm_mf I J))) := by
  refine ⟨(Nat.le_of_ble_eq_true rfl), ?_⟩
  obtain ⟨hb, hC, hF, hor⟩ := id hW
  have hbd := hW.bd
  have hN := hC.n
  have hT := hC.t
  have hS := hC.s
  have hN2 := hC.hN
  have hT3 := hC.hT
  have hS6 := hC.hS
  refine ev_aload_n (i := 0) dX10_heeds_0 rfl rfl ?_
  refine ev_iload_n (i := 1) dX10_heeds_1 rfl rfl ?_
  refine s_dVz (As := [_]) (m_isShip _) (Nat.le_of_ble_eq_true rfl) lX10_221 kX10_isShip vX10_isShip dX10_heeds_2 rfl rfl rfl (by decide) rfl (Nat.le_of_ble_eq_true rfl) ?_
  rw [hS]
  refine s_ifZ_eq (tgt := 16) dX10_heeds_5 (by decide) (fun h5 => ?_) (fun h5 => ?_)
  · refine ev_ldc qX10_79 dX10_heeds_16 ?_
    exact s_retI dX10_heeds_18 (Or.inl ⟨by first | (simp [h5]; done) | (simp [h13]; done), rfl, rfl⟩)
  · refine ev_aload_n (i := 0) dX10_heeds_8 rfl rfl ?_
    refine ev_iload_n (i := 2) dX10_heeds_9 rfl rfl ?_
    refine s_dVz (As := [_]) (m_isTower _) (Nat.le_of_ble_eq_true rfl) lX10_212 kX10_isTower vX10_isTower dX10_heeds_10 rfl rfl rfl (by decide) rfl (Nat.le_of_ble_eq_true rfl) ?_
    rw [hT]
    refine s_ifZ_ne (tgt := 19) dX10_heeds_13 (by decide) (fun h13 => ?_) (fun h13 => ?_)
    · obtain ⟨s, hs, rfl⟩ := nv_in_S (by omega) h5
      obtain ⟨t, ht, rfl⟩ := nv_in_S (by omega) h13
      refine ev_aload_n (i := 0) dX10_heeds_19 rfl rfl ?_
      refine ev_getR fX10_28 dX10_heeds_20 rfl rfl (by decide) ?_
      refine ev_bipush (v := 17) dX10_heeds_23 kb_17 ?_
      refine ev_iload_n (i := 1) dX10_heeds_25 rfl rfl ?_
      refine ev_iaddN (a := 17) (b := s) dX10_heeds_26 ?_
      refine ev_ialdN (j := (17 + s)) dX10_heeds_27 rfl (by omega) (by decide) ?_
      rw [hF (17 + s) (by unfold nl_f; omega)]
      refine ev_if_eq (tgt := 34) dX10_heeds_28 (by decide) (fun h28 => ?_) (fun h28 => ?_)
      · refine ev_aload_n (i := 0) dX10_heeds_34 rfl rfl ?_
        refine s_callVv (As := []) (m_remembers hA hF hT3 hS6) (Nat.le_of_ble_eq_true rfl) lX10_202 kX10_remembers vX10_remembers dX10_heeds_35 rfl rfl rfl (by decide) rfl (Nat.le_of_ble_eq_true rfl) (fun J1 h1 => ?_)
        have j225 := h1.2.2 225 (by decide) (by decide)
        have j226 := h1.2.2 226 (by decide) (by decide)
        refine ev_aload_n (i := 0) dX10_heeds_38 rfl rfl ?_
        refine ev_getR fX10_28 dX10_heeds_39 rfl rfl (by decide) ?_
        refine ev_bipush (v := 11) dX10_heeds_42 kb_11 ?_
        refine ev_iload_n (i := 1) dX10_heeds_44 rfl rfl ?_
        refine ev_iaddN (a := 11) (b := s) dX10_heeds_45 ?_
        refine ev_ialdN (j := (11 + s)) dX10_heeds_46 rfl (by omega) (by decide) ?_
        rw [j226, hF (11 + s) (by unfold nl_f; omega)]
        refine ev_istore_n (i := 3) dX10_heeds_47 rfl (Nat.le_of_ble_eq_true rfl) rfl ?_
        refine ev_aload_n (i := 0) dX10_heeds_48 rfl rfl ?_
        refine ev_getR fX10_28 dX10_heeds_49 rfl rfl (by decide) ?_
        refine ev_bipush (v := 11) dX10_heeds_52 kb_11 ?_
        refine ev_iload_n (i := 1) dX10_heeds_54 rfl rfl ?_
        refine ev_iaddN (a := 11) (b := s) dX10_heeds_55 ?_
        refine ev_iload_n (i := 2) dX10_heeds_56 rfl rfl ?_
        refine ev_iastN (j := (11 + s)) dX10_heeds_57 rfl (by omega) (by decide) ?_
        refine ev_iload_n (i := 3) dX10_heeds_58 rfl rfl ?_
        exact s_retI dX10_heeds_59 (Or.inr ⟨s, t, hs, ht, rfl, rfl, Or.inr ⟨h28, rfl, by rw [nw_up_self, j226]; exact hF.upd _ _, h1.1.ext (by rw [nw_up_ne (by decide)]) (by rw [nw_up_ne (by decide)]), ⟨fun j hj => by rw [nw_up_ne (by decide)]; exact h1.2.1 j hj, fun q q1 q2 q3 q4 => by rw [nw_up_ne q2]; exact h1.2.2 q q1 q3⟩⟩⟩)
      · refine ev_ldc qX10_199 dX10_heeds_31 ?_
        exact s_retI dX10_heeds_33 (Or.inr ⟨s, t, hs, ht, rfl, rfl, Or.inl ⟨h28, rfl, rfl⟩⟩)
    · refine ev_ldc qX10_79 dX10_heeds_16 ?_
      exact s_retI dX10_heeds_18 (Or.inl ⟨by first | (simp [h5]; done) | (simp [h13]; done), rfl, rfl⟩)
theorem m_change (hW : nm_W I b N T S C F) (hA : nm_acts I T S L) (x y : Int32) : nw_cI l g 2 mX10_change [.ref (nw_a g 219), .int x, .int y] I (fun r J => ((nv_in x 0 (nI S - 1) && nv_in y 0 (nI S - 1) && !decide (x = y)) = false ∧ r = -1000001 ∧ J = I) ∨ (nv_in x 0 (nI S - 1) = true ∧ nv_in y 0 (nI S - 1) = true ∧ ¬ x = y ∧ r = nI (p_place F y 6 0) ∧ nl_F T S (upd (upd F (5 + p_place F x 6 0) y) (5 + p_place F y 6 0) x) (J 226) ∧ nm_acts J T S ((F :: L).take 24) ∧ nm_mf I J)) := by
  refine ⟨(Nat.le_of_ble_eq_true rfl), ?_⟩
  obtain ⟨hb, hC, hF, hor⟩ := id hW
  have hbd := hW.bd
  have hN := hC.n
  have hT := hC.t
  have hS := hC.s
  have hN2 := hC.hN
  have hT3 := hC.hT
  have hS6 := hC.hS
  refine ev_aload_n (i := 0) dX10_change_0 rfl rfl ?_
  refine ev_iload_n (i := 1) dX10_change_1 rfl rfl ?_
  refine s_dVz (As := [_]) (m_isShip _) (Nat.le_of_ble_eq_true rfl) lX10_221 kX10_isShip vX10_isShip dX10_change_2 rfl rfl rfl (by decide) rfl (Nat.le_of_ble_eq_true rfl) ?_
  rw [hS]
  refine s_ifZ_eq (tgt := 21) dX10_change_5 (by decide) (fun h5 => ?_) (fun h5 => ?_)
  · refine ev_ldc qX10_79 dX10_change_21 ?_
    exact s_retI dX10_change_23 (Or.inl ⟨by first | (simp [h5]; done) | (simp [h13]; done) | (rw [decide_eq_true h18, Bool.not_true, Bool.and_false]; done), rfl, rfl⟩)
  · refine ev_aload_n (i := 0) dX10_change_8 rfl rfl ?_
    refine ev_iload_n (i := 2) dX10_change_9 rfl rfl ?_
    refine s_dVz (As := [_]) (m_isShip _) (Nat.le_of_ble_eq_true rfl) lX10_221 kX10_isShip vX10_isShip dX10_change_10 rfl rfl rfl (by decide) rfl (Nat.le_of_ble_eq_true rfl) ?_
    rw [hS]
    refine s_ifZ_eq (tgt := 21) dX10_change_13 (by decide) (fun h13 => ?_) (fun h13 => ?_)
    · refine ev_ldc qX10_79 dX10_change_21 ?_
      exact s_retI dX10_change_23 (Or.inl ⟨by first | (simp [h5]; done) | (simp [h13]; done) | (rw [decide_eq_true h18, Bool.not_true, Bool.and_false]; done), rfl, rfl⟩)
    · refine ev_iload_n (i := 1) dX10_change_16 rfl rfl ?_
      refine ev_iload_n (i := 2) dX10_change_17 rfl rfl ?_
      refine ev_icmp_ne (tgt := 24) dX10_change_18 (by decide) (fun h18 => ?_) (fun h18 => ?_)
      · obtain ⟨s, hs, rfl⟩ := nv_in_S (by omega) h5
        obtain ⟨t, ht, rfl⟩ := nv_in_S (by omega) h13
        obtain ⟨-, h0, h0T, hk, hsok⟩ := hW.sea (Or.inl (by omega))
        have hp1 := (hsok.pl hS6 hs).1
        have hp2 := (hsok.pl hS6 ht).1
        refine ev_aload_n (i := 0) dX10_change_24 rfl rfl ?_
        refine s_callVv (As := []) (m_remembers hA hF hT3 hS6) (Nat.le_of_ble_eq_true rfl) lX10_202 kX10_remembers vX10_remembers dX10_change_25 rfl rfl rfl (by decide) rfl (Nat.le_of_ble_eq_true rfl) (fun J1 h1 => ?_)
        have j225 := h1.2.2 225 (by decide) (by decide)
        have j226 := h1.2.2 226 (by decide) (by decide)
        have hC1 : nl_C N T S C (J1 225) := by rw [j225]; exact hC
        have hF1 : nl_F T S F (J1 226) := by rw [j226]; exact hF
        refine ev_aload_n (i := 0) dX10_change_28 rfl rfl ?_
        refine ev_iload_n (i := 1) dX10_change_29 rfl rfl ?_
        refine s_dVi (As := [_]) (m_placeOf hC1 hF1 hsok hs) (Nat.le_of_ble_eq_true rfl) lX10_224 kX10_placeOf vX10_placeOf dX10_change_30 rfl rfl rfl (by decide) rfl (Nat.le_of_ble_eq_true rfl) ?_
        refine ev_istore_n (i := 3) dX10_change_33 rfl (Nat.le_of_ble_eq_true rfl) rfl ?_
        refine ev_aload_n (i := 0) dX10_change_34 rfl rfl ?_
        refine ev_iload_n (i := 2) dX10_change_35 rfl rfl ?_
        refine s_dVi (As := [_]) (m_placeOf hC1 hF1 hsok ht) (Nat.le_of_ble_eq_true rfl) lX10_224 kX10_placeOf vX10_placeOf dX10_change_36 rfl rfl rfl (by decide) rfl (Nat.le_of_ble_eq_true rfl) ?_
        refine ev_istore dX10_change_39 (Nat.le_of_ble_eq_true rfl) rfl ?_
        refine ev_aload_n (i := 0) dX10_change_41 rfl rfl ?_
        refine ev_getR fX10_28 dX10_change_42 rfl rfl (by decide) ?_
        refine ev_iconst (v := 5) dX10_change_45 kc_5 ?_
        refine ev_iload_n (i := 3) dX10_change_46 rfl rfl ?_
        refine ev_iaddN (a := 5) (b := (p_place F (nI s) 6 0)) dX10_change_47 ?_
        refine ev_iload_n (i := 2) dX10_change_48 rfl rfl ?_
        refine ev_iastN (j := (5 + (p_place F (nI s) 6 0))) dX10_change_49 rfl (by omega) (by decide) ?_
        refine ev_aload_n (i := 0) dX10_change_50 rfl rfl ?_
        refine ev_getR fX10_28 dX10_change_51 rfl rfl (by decide) ?_
        refine ev_iconst (v := 5) dX10_change_54 kc_5 ?_
        refine ev_iload dX10_change_55 rfl ?_
        refine ev_iaddN (a := 5) (b := (p_place F (nI t) 6 0)) dX10_change_57 ?_
        refine ev_iload_n (i := 1) dX10_change_58 rfl rfl ?_
        refine ev_iastN (j := (5 + (p_place F (nI t) 6 0))) dX10_change_59 rfl (by omega) (by decide) ?_
        refine ev_iload dX10_change_60 rfl ?_
        exact s_retI dX10_change_62 (Or.inr ⟨h5, h13, h18, rfl, by rw [nw_up_self, nw_up_self, j226]; exact (hF.upd _ _).upd _ _, h1.1.ext (by rw [nw_up_ne (by decide), nw_up_ne (by decide)]) (by rw [nw_up_ne (by decide), nw_up_ne (by decide)]), ⟨fun j hj => by rw [nw_up_ne (by decide), nw_up_ne (by decide)]; exact h1.2.1 j hj, fun q q1 q2 q3 q4 => by rw [nw_up_ne q2, nw_up_ne q2]; exact h1.2.2 q q1 q3⟩⟩)
      · refine ev_ldc qX10_79 dX10_change_21 ?_
        exact s_retI dX10_change_23 (Or.inl ⟨by first | (simp [h5]; done) | (simp [h13]; done) | (rw [decide_eq_true h18, Bool.not_true, Bool.and_false]; done), rfl, rfl⟩)
theorem l_mundo {a : Nat} (ha : a < 24) : ∀ (k p : Nat) (J : nw_Me), p + k = 29 → J 219 14 = nI a → J 226 = nm_mx 0 p (fun j => I 230 (29 * a + j)) (I 226) → J 230 = I 230 → (∀ q, q ≠ 219 → q ≠ 226 → J q = I q) → (∀ j, j ≠ 14 → J 219 j = I 219 j) → nw_S l g 0 mX10_undo 22 [some (.ref (nw_a g 219)), some (.int (nI p))] [] J (nw_qI (fun r K => r = nI a ∧ K 219 14 = nI a ∧ (∀ j, j ≠ 14 → K 219 j = I 219 j) ∧ K 226 = nm_mx 0 29 (fun j => I 230 (29 * a + j)) (I 226) ∧ ∀ q, q ≠ 219 → q ≠ 226 → K q = I q)) := by
  have e29 : (29 : Int32) = nI 29 := by decide
  intro k
  induction k with
  | zero =>
    intro p J hp hV hW h230 hJ hJ2
    obtain rfl : p = 29 := by omega
    refine ev_iload_n (i := 1) dX10_undo_22 rfl rfl ?_
    refine ev_bipush (v := 29) dX10_undo_23 kb_29 ?_
    refine ev_icmp_ge (tgt := 54) dX10_undo_25 (by decide) (fun h25 => ?_) (fun h25 => ?_)
    · refine ev_aload_n (i := 0) dX10_undo_54 rfl rfl ?_
      refine ev_getI fX10_166 dX10_undo_55 rfl rfl (by decide) ?_
      exact s_retI dX10_undo_58 ⟨hV, hV, hJ2, hW, hJ⟩
    · exact absurd (by decide) h25
  | succ k ih =>
    intro p J hp hV hW h230 hJ hJ2
    refine ev_iload_n (i := 1) dX10_undo_22 rfl rfl ?_
    refine ev_bipush (v := 29) dX10_undo_23 kb_29 ?_
    refine ev_icmp_ge (tgt := 54) dX10_undo_25 (by decide) (fun h25 => ?_) (fun h25 => ?_)
    · exact absurd h25 (by rw [e29]; exact nI_ge (by omega) (by omega))
    · refine ev_aload_n (i := 0) dX10_undo_28 rfl rfl ?_
      refine ev_getR fX10_28 dX10_undo_29 rfl rfl (by decide) ?_
      refine ev_iload_n (i := 1) dX10_undo_32 rfl rfl ?_
      refine ev_aload_n (i := 0) dX10_undo_33 rfl rfl ?_
      refine ev_getR fX10_41 dX10_undo_34 rfl rfl (by decide) ?_
      refine ev_bipush (v := 29) dX10_undo_37 kb_29 ?_
      refine ev_aload_n (i := 0) dX10_undo_39 rfl rfl ?_
      refine ev_getI fX10_166 dX10_undo_40 rfl rfl (by decide) ?_
      rw [hV]
      refine ev_imulN (a := 29) (b := a) dX10_undo_43 ?_
      refine ev_iload_n (i := 1) dX10_undo_44 rfl rfl ?_
      refine ev_iaddN (a := (29 * a)) (b := p) dX10_undo_45 ?_
      refine ev_ialdN (j := ((29 * a) + p)) dX10_undo_46 rfl (by omega) (by decide) ?_
      rw [h230]
      refine ev_iastN (j := p) dX10_undo_47 rfl (by omega) (by decide) ?_
      refine ev_iincN (a := p) dX10_undo_48 rfl (Nat.le_of_ble_eq_true rfl) rfl ?_
      refine ev_goto (tgt := 22) dX10_undo_51 (by decide) ?_
      refine ih (p + 1) _ (by omega) (by rw [nw_up_ne (by decide)]; exact hV) ?_ (by rw [nw_up_ne (by decide)]; exact h230) (fun q q1 q2 => by rw [nw_up_ne q2]; exact hJ q q1 q2) (fun j hj => by rw [nw_up_ne (by decide)]; exact hJ2 j hj)
      rw [nw_up_self, hW]
      have e := nm_mx_s 0 p (fun j => I 230 (29 * a + j)) (I 226)
      rw [Nat.zero_add] at e
      exact e
theorem m_undo (hA : nm_acts I T S L) (hT : T ≤ 3) (hS : S ≤ 6) : nw_cI l g 0 mX10_undo [.ref (nw_a g 219)] I (fun r J => (L = [] ∧ r = -1000002 ∧ J = I) ∨ ∃ G L2, L = G :: L2 ∧ r = nI L2.length ∧ nl_F T S G (J 226) ∧ nm_acts J T S L2 ∧ nm_mf I J) := by
  refine ⟨(Nat.le_of_ble_eq_true rfl), ?_⟩
  refine ev_aload_n (i := 0) dX10_undo_0 rfl rfl ?_
  refine ev_getI fX10_166 dX10_undo_1 rfl rfl (by decide) ?_
  rw [hA.1]
  refine ev_if_ne (tgt := 10) dX10_undo_4 (by decide) (fun h4 => ?_) (fun h4 => ?_)
  · obtain ⟨G, L2, rfl⟩ : ∃ G L2, L = G :: L2 := by
      cases L with
      | nil => exact absurd nI_0 h4
      | cons G L2 => exact ⟨G, L2, rfl⟩
    have hlen : L2.length < 24 := by have := hA.2.1; simp at this; omega
    have h14 : I 219 14 = nI (L2.length + 1) := hA.1
    refine ev_aload_n (i := 0) dX10_undo_10 rfl rfl ?_
    refine ev_dup dX10_undo_11 rfl ?_
    refine ev_getI fX10_166 dX10_undo_12 rfl rfl (by decide) ?_
    refine ev_iconst (v := 1) dX10_undo_15 kc_1 ?_
    refine ev_isub dX10_undo_16 ?_
    rw [h14, nI_pred]
    refine ev_putI fX10_166 dX10_undo_17 rfl rfl (by decide) rfl rfl rfl rfl ?_
    refine ev_iconst (v := 0) dX10_undo_20 kc_0 ?_
    refine ev_istore_n (i := 1) dX10_undo_21 rfl (Nat.le_of_ble_eq_true rfl) rfl ?_
    refine s_postI (l_mundo (I := I) hlen 29 0 _ (by omega) (by rw [nw_up_self, pk_us]) (by rw [nw_up_ne (by decide), nm_mx_0]) (nw_up_ne (by decide)) (fun q q1 q2 => nw_up_ne q1) (fun j hj => by rw [nw_up_self, pk_un hj])) (fun r K h => Or.inr ⟨G, L2, rfl, h.1, ?_, ⟨h.2.1, by omega, fun i G2 hG => ?_⟩, h.2.2.1, fun q a c d e => h.2.2.2.2 q a c⟩)
    · refine nl_F.ge (f := fun j => I 230 (29 * L2.length + j)) ?_ (fun i hi => by rw [h.2.2.2.1, nm_mx_29 i hi]) hT hS
      have := hA.2.2 0 G rfl
      exact this
    · have hi := (List.getElem?_eq_some_iff.mp hG).1
      have := hA.2.2 (i + 1) G2 (by simpa using hG)
      rw [show (G :: L2).length - 1 - (i + 1) = L2.length - 1 - i by simp; omega] at this
      rw [h.2.2.2.2 230 (by decide) (by decide)]
      exact this
  · refine ev_ldc qX10_199 dX10_undo_7 ?_
    exact s_retI dX10_undo_9 (Or.inl ⟨by cases L with | nil => rfl | cons G L2 => exact absurd h4 (nI_ne0 (by simp) (by have := hA.2.1; omega)), rfl, rfl⟩)
theorem l_mimg2 {k0 : Nat} (hk0 : k0 < 2) : ∀ (k p : Nat) (J : nw_Me), p + k = 29 → J 228 = nm_mx (84 * k0 + 55) p (I 226) (I 228) → (∀ q, q ≠ 228 → J q = I q) → nw_S l g 1 mX10_image 56 [some (.ref (nw_a g 219)), some (.int (nI k0)), some (.int (nI p))] [] J (nw_qI (fun r K => r = 1 ∧ K 228 = nm_mx (84 * k0 + 55) 29 (I 226) (I 228) ∧ K 229 = upd (I 229) k0 1 ∧ ∀ q, q ≠ 228 → q ≠ 229 → K q = I q)) := by
  have e29 : (29 : Int32) = nI 29 := by decide
  intro k
  induction k with
  | zero =>
    intro p J hp hW hJ
    obtain rfl : p = 29 := by omega
    refine ev_iload_n (i := 2) dX10_image_56 rfl rfl ?_
    refine ev_bipush (v := 29) dX10_image_57 kb_29 ?_
    refine ev_icmp_ge (tgt := 88) dX10_image_59 (by decide) (fun h59 => ?_) (fun h59 => ?_)
    · refine ev_aload_n (i := 0) dX10_image_88 rfl rfl ?_
      refine ev_getR fX10_37 dX10_image_89 rfl rfl (by decide) ?_
      refine ev_iload_n (i := 1) dX10_image_92 rfl rfl ?_
      refine ev_iconst (v := 1) dX10_image_93 kc_1 ?_
      refine ev_zastN (j := k0) dX10_image_94 rfl (by omega) (by decide) (by decide) ?_
      refine ev_iconst (v := 1) dX10_image_95 kc_1 ?_
      exact s_retI dX10_image_96 ⟨rfl, by rw [nw_up_ne (by decide)]; exact hW, by rw [nw_up_self, hJ 229 (by decide)], fun q q1 q2 => by rw [nw_up_ne q2]; exact hJ q q1⟩
    · exact absurd (by decide) h59
  | succ k ih =>
    intro p J hp hW hJ
    refine ev_iload_n (i := 2) dX10_image_56 rfl rfl ?_
    refine ev_bipush (v := 29) dX10_image_57 kb_29 ?_
    refine ev_icmp_ge (tgt := 88) dX10_image_59 (by decide) (fun h59 => ?_) (fun h59 => ?_)
    · exact absurd h59 (by rw [e29]; exact nI_ge (by omega) (by omega))
    · refine ev_aload_n (i := 0) dX10_image_62 rfl rfl ?_
      refine ev_getR fX10_34 dX10_image_63 rfl rfl (by decide) ?_
      refine ev_bipush (v := 84) dX10_image_66 kb_84 ?_
      refine ev_iload_n (i := 1) dX10_image_68 rfl rfl ?_
      refine ev_imulN (a := 84) (b := k0) dX10_image_69 ?_
      refine ev_bipush (v := 55) dX10_image_70 kb_55 ?_
      refine ev_iaddN (a := (84 * k0)) (b := 55) dX10_image_72 ?_
      refine ev_iload_n (i := 2) dX10_image_73 rfl rfl ?_
      refine ev_iaddN (a := ((84 * k0) + 55)) (b := p) dX10_image_74 ?_
      refine ev_aload_n (i := 0) dX10_image_75 rfl rfl ?_
      refine ev_getR fX10_28 dX10_image_76 rfl rfl (by decide) ?_
      refine ev_iload_n (i := 2) dX10_image_79 rfl rfl ?_
      refine ev_ialdN (j := p) dX10_image_80 rfl (by omega) (by decide) ?_
      rw [hJ 226 (by decide)]
      refine ev_iastN (j := (((84 * k0) + 55) + p)) dX10_image_81 rfl (by omega) (by decide) ?_
      refine ev_iincN (a := p) dX10_image_82 rfl (Nat.le_of_ble_eq_true rfl) rfl ?_
      refine ev_goto (tgt := 56) dX10_image_85 (by decide) ?_
      refine ih (p + 1) _ (by omega) ?_ (fun q q1 => by rw [nw_up_ne q1]; exact hJ q q1)
      rw [nw_up_self, hW]
      exact nm_mx_s (84 * k0 + 55) p (I 226) (I 228)
theorem l_mimg1 {k0 : Nat} (hk0 : k0 < 2) : ∀ (k p : Nat) (J : nw_Me), p + k = 55 → J 228 = nm_mx (84 * k0) p (I 225) (I 228) → (∀ q, q ≠ 228 → J q = I q) → nw_S l g 1 mX10_image 25 [some (.ref (nw_a g 219)), some (.int (nI k0)), some (.int (nI p))] [] J (nw_qI (fun r K => r = 1 ∧ K 228 = nm_mx (84 * k0 + 55) 29 (I 226) (nm_mx (84 * k0) 55 (I 225) (I 228)) ∧ K 229 = upd (I 229) k0 1 ∧ ∀ q, q ≠ 228 → q ≠ 229 → K q = I q)) := by
  have e29 : (55 : Int32) = nI 55 := by decide
  intro k
  induction k with
  | zero =>
    intro p J hp hW hJ
    obtain rfl : p = 55 := by omega
    refine ev_iload_n (i := 2) dX10_image_25 rfl rfl ?_
    refine ev_bipush (v := 55) dX10_image_26 kb_55 ?_
    refine ev_icmp_ge (tgt := 54) dX10_image_28 (by decide) (fun h28 => ?_) (fun h28 => ?_)
    · refine ev_iconst (v := 0) dX10_image_54 kc_0 ?_
      refine ev_istore_n (i := 2) dX10_image_55 rfl (Nat.le_of_ble_eq_true rfl) rfl ?_
      refine s_postI (l_mimg2 (I := J) hk0 29 0 J (by omega) (nm_mx_0 _ _ _).symm (fun _ _ => rfl)) (fun r K h => ⟨h.1, ?_, ?_, fun q q1 q2 => by rw [h.2.2.2 q q1 q2, hJ q q1]⟩)
      · rw [h.2.1, hW, hJ 226 (by decide)]
      · rw [h.2.2.1, hJ 229 (by decide)]
    · exact absurd (by decide) h28
  | succ k ih =>
    intro p J hp hW hJ
    refine ev_iload_n (i := 2) dX10_image_25 rfl rfl ?_
    refine ev_bipush (v := 55) dX10_image_26 kb_55 ?_
    refine ev_icmp_ge (tgt := 54) dX10_image_28 (by decide) (fun h28 => ?_) (fun h28 => ?_)
    · exact absurd h28 (by rw [e29]; exact nI_ge (by omega) (by omega))
    · refine ev_aload_n (i := 0) dX10_image_31 rfl rfl ?_
      refine ev_getR fX10_34 dX10_image_32 rfl rfl (by decide) ?_
      refine ev_bipush (v := 84) dX10_image_35 kb_84 ?_
      refine ev_iload_n (i := 1) dX10_image_37 rfl rfl ?_
      refine ev_imulN (a := 84) (b := k0) dX10_image_38 ?_
      refine ev_iload_n (i := 2) dX10_image_39 rfl rfl ?_
      refine ev_iaddN (a := (84 * k0)) (b := p) dX10_image_40 ?_
      refine ev_aload_n (i := 0) dX10_image_41 rfl rfl ?_
      refine ev_getR fX10_25 dX10_image_42 rfl rfl (by decide) ?_
      refine ev_iload_n (i := 2) dX10_image_45 rfl rfl ?_
      refine ev_ialdN (j := p) dX10_image_46 rfl (by omega) (by decide) ?_
      rw [hJ 225 (by decide)]
      refine ev_iastN (j := ((84 * k0) + p)) dX10_image_47 rfl (by omega) (by decide) ?_
      refine ev_iincN (a := p) dX10_image_48 rfl (Nat.le_of_ble_eq_true rfl) rfl ?_
      refine ev_goto (tgt := 25) dX10_image_51 (by decide) ?_
      refine ih (p + 1) _ (by omega) ?_ (fun q q1 => by rw [nw_up_ne q1]; exact hJ q q1)
      rw [nw_up_self, hW]
      exact nm_mx_s (84 * k0) p (I 225) (I 228)
theorem m_image (hW : nm_W I b N T S C F) (x : Int32) : nw_cI l g 1 mX10_image [.ref (nw_a g 219), .int x] I (fun r K => (nv_in x 0 1 = false ∧ r = -1000001 ∧ K = I) ∨ (nv_in x 0 1 = true ∧ b = false ∧ r = -1000002 ∧ K = I) ∨ ∃ k, k < 2 ∧ x = nI k ∧ b = true ∧ r = 1 ∧ K 228 = nm_mx (84 * k + 55) 29 (I 226) (nm_mx (84 * k) 55 (I 225) (I 228)) ∧ K 229 = upd (I 229) k 1 ∧ ∀ q, q ≠ 228 → q ≠ 229 → K q = I q) := by
  refine ⟨(Nat.le_of_ble_eq_true rfl), ?_⟩
  obtain ⟨hb, hC, hF, hor⟩ := id hW
  have hbd := hW.bd
  have hN := hC.n
  have hT := hC.t
  have hS := hC.s
  have hN2 := hC.hN
  have hT3 := hC.hT
  have hS6 := hC.hS
  refine ev_iload_n (i := 1) dX10_image_0 rfl rfl ?_
  refine ev_i2l dX10_image_1 ?_
  refine ev_lconst (v := 0) dX10_image_2 rfl ?_
  refine ev_lconst (v := 1) dX10_image_3 rfl ?_
  refine s_dSz (As := [_, _, _]) (m_in _ 0 1 (by decide) (by decide)) (Nat.le_of_ble_eq_true rfl) lX10_64 kX10_in sX10_in dX10_image_4 rfl rfl (Nat.le_of_ble_eq_true rfl) ?_
  refine s_ifZ_ne (tgt := 13) dX10_image_7 (by decide) (fun h7 => ?_) (fun h7 => ?_)
  · refine ev_aload_n (i := 0) dX10_image_13 rfl rfl ?_
    refine s_dVz (As := []) (m_isSea) (Nat.le_of_ble_eq_true rfl) lX10_196 kX10_isSea vX10_isSea dX10_image_14 rfl rfl rfl (by decide) rfl (Nat.le_of_ble_eq_true rfl) ?_
    rw [hbd]
    refine s_ifZ_ne (tgt := 23) dX10_image_17 (by decide) (fun h17 => ?_) (fun h17 => ?_)
    · obtain ⟨k, -, hk1, rfl⟩ := nv_in_n (a := 0) (c := 1) h7 (by decide) (by decide)
      refine ev_iconst (v := 0) dX10_image_23 kc_0 ?_
      refine ev_istore_n (i := 2) dX10_image_24 rfl (Nat.le_of_ble_eq_true rfl) rfl ?_
      refine s_postI (l_mimg1 (k0 := k) (by omega) 55 0 I (by omega) (nm_mx_0 _ _ _).symm (fun _ _ => rfl)) (fun r K h => Or.inr (Or.inr ⟨k, by omega, rfl, h17, h⟩))
    · refine ev_ldc qX10_199 dX10_image_20 ?_
      exact s_retI dX10_image_22 (Or.inr (Or.inl ⟨h7, h17, rfl, rfl⟩))
  · refine ev_ldc qX10_79 dX10_image_10 ?_
    exact s_retI dX10_image_12 (Or.inl ⟨h7, rfl, rfl⟩)
theorem l_mres2 {k0 : Nat} (hk0 : k0 < 2) : ∀ (k p : Nat) (J : nw_Me), p + k = 29 → J 226 = nm_mx 0 p (fun j => I 228 (84 * k0 + 55 + j)) (I 226) → (∀ q, q ≠ 226 → J q = I q) → nw_S l g 1 mX10_restore 58 [some (.ref (nw_a g 219)), some (.int (nI k0)), some (.int (nI p))] [] J (nw_qI (fun r K => r = 1 ∧ K 226 = nm_mx 0 29 (fun j => I 228 (84 * k0 + 55 + j)) (I 226) ∧ K 219 = upd (I 219) 14 0 ∧ ∀ q, q ≠ 219 → q ≠ 226 → K q = I q)) := by
  have e29 : (29 : Int32) = nI 29 := by decide
  intro k
  induction k with
  | zero =>
    intro p J hp hW hJ
    obtain rfl : p = 29 := by omega
    refine ev_iload_n (i := 2) dX10_restore_58 rfl rfl ?_
    refine ev_bipush (v := 29) dX10_restore_59 kb_29 ?_
    refine ev_icmp_ge (tgt := 90) dX10_restore_61 (by decide) (fun h61 => ?_) (fun h61 => ?_)
    · refine ev_aload_n (i := 0) dX10_restore_90 rfl rfl ?_
      refine ev_iconst (v := 0) dX10_restore_91 kc_0 ?_
      refine ev_putI fX10_166 dX10_restore_92 rfl rfl (by decide) rfl rfl rfl rfl ?_
      refine ev_iconst (v := 1) dX10_restore_95 kc_1 ?_
      exact s_retI dX10_restore_96 ⟨rfl, by rw [nw_up_ne (by decide)]; exact hW, by rw [nw_up_self, hJ 219 (by decide)], fun q q1 q2 => by rw [nw_up_ne q1]; exact hJ q q2⟩
    · exact absurd (by decide) h61
  | succ k ih =>
    intro p J hp hW hJ
    refine ev_iload_n (i := 2) dX10_restore_58 rfl rfl ?_
    refine ev_bipush (v := 29) dX10_restore_59 kb_29 ?_
    refine ev_icmp_ge (tgt := 90) dX10_restore_61 (by decide) (fun h61 => ?_) (fun h61 => ?_)
    · exact absurd h61 (by rw [e29]; exact nI_ge (by omega) (by omega))
    · refine ev_aload_n (i := 0) dX10_restore_64 rfl rfl ?_
      refine ev_getR fX10_28 dX10_restore_65 rfl rfl (by decide) ?_
      refine ev_iload_n (i := 2) dX10_restore_68 rfl rfl ?_
      refine ev_aload_n (i := 0) dX10_restore_69 rfl rfl ?_
      refine ev_getR fX10_34 dX10_restore_70 rfl rfl (by decide) ?_
      refine ev_bipush (v := 84) dX10_restore_73 kb_84 ?_
      refine ev_iload_n (i := 1) dX10_restore_75 rfl rfl ?_
      refine ev_imulN (a := 84) (b := k0) dX10_restore_76 ?_
      refine ev_bipush (v := 55) dX10_restore_77 kb_55 ?_
      refine ev_iaddN (a := (84 * k0)) (b := 55) dX10_restore_79 ?_
      refine ev_iload_n (i := 2) dX10_restore_80 rfl rfl ?_
      refine ev_iaddN (a := ((84 * k0) + 55)) (b := p) dX10_restore_81 ?_
      refine ev_ialdN (j := (((84 * k0) + 55) + p)) dX10_restore_82 rfl (by omega) (by decide) ?_
      rw [hJ 228 (by decide)]
      refine ev_iastN (j := p) dX10_restore_83 rfl (by omega) (by decide) ?_
      refine ev_iincN (a := p) dX10_restore_84 rfl (Nat.le_of_ble_eq_true rfl) rfl ?_
      refine ev_goto (tgt := 58) dX10_restore_87 (by decide) ?_
      refine ih (p + 1) _ (by omega) ?_ (fun q q1 => by rw [nw_up_ne q1]; exact hJ q q1)
      rw [nw_up_self, hW]
      have e := nm_mx_s 0 p (fun j => I 228 (84 * k0 + 55 + j)) (I 226)
      rw [Nat.zero_add] at e
      exact e
theorem l_mres1 {k0 : Nat} (hk0 : k0 < 2) : ∀ (k p : Nat) (J : nw_Me), p + k = 55 → J 225 = nm_mx 0 p (fun j => I 228 (84 * k0 + j)) (I 225) → (∀ q, q ≠ 225 → J q = I q) → nw_S l g 1 mX10_restore 27 [some (.ref (nw_a g 219)), some (.int (nI k0)), some (.int (nI p))] [] J (nw_qI (fun r K => r = 1 ∧ K 225 = nm_mx 0 55 (fun j => I 228 (84 * k0 + j)) (I 225) ∧ K 226 = nm_mx 0 29 (fun j => I 228 (84 * k0 + 55 + j)) (I 226) ∧ K 219 = upd (I 219) 14 0 ∧ ∀ q, q ≠ 219 → q ≠ 225 → q ≠ 226 → K q = I q)) := by
  have e29 : (55 : Int32) = nI 55 := by decide
  intro k
  induction k with
  | zero =>
    intro p J hp hW hJ
    obtain rfl : p = 55 := by omega
    refine ev_iload_n (i := 2) dX10_restore_27 rfl rfl ?_
    refine ev_bipush (v := 55) dX10_restore_28 kb_55 ?_
    refine ev_icmp_ge (tgt := 56) dX10_restore_30 (by decide) (fun h30 => ?_) (fun h30 => ?_)
    · refine ev_iconst (v := 0) dX10_restore_56 kc_0 ?_
      refine ev_istore_n (i := 2) dX10_restore_57 rfl (Nat.le_of_ble_eq_true rfl) rfl ?_
      refine s_postI (l_mres2 (I := J) hk0 29 0 J (by omega) (nm_mx_0 _ _ _).symm (fun _ _ => rfl)) (fun r K h => ⟨h.1, ?_, ?_, ?_, fun q q1 q2 q3 => by rw [h.2.2.2 q q1 q3, hJ q q2]⟩)
      · rw [h.2.2.2 225 (by decide) (by decide), hW]
      · rw [h.2.1, hJ 226 (by decide), hJ 228 (by decide)]
      · rw [h.2.2.1, hJ 219 (by decide)]
    · exact absurd (by decide) h30
  | succ k ih =>
    intro p J hp hW hJ
    refine ev_iload_n (i := 2) dX10_restore_27 rfl rfl ?_
    refine ev_bipush (v := 55) dX10_restore_28 kb_55 ?_
    refine ev_icmp_ge (tgt := 56) dX10_restore_30 (by decide) (fun h30 => ?_) (fun h30 => ?_)
    · exact absurd h30 (by rw [e29]; exact nI_ge (by omega) (by omega))
    · refine ev_aload_n (i := 0) dX10_restore_33 rfl rfl ?_
      refine ev_getR fX10_25 dX10_restore_34 rfl rfl (by decide) ?_
      refine ev_iload_n (i := 2) dX10_restore_37 rfl rfl ?_
      refine ev_aload_n (i := 0) dX10_restore_38 rfl rfl ?_
      refine ev_getR fX10_34 dX10_restore_39 rfl rfl (by decide) ?_
      refine ev_bipush (v := 84) dX10_restore_42 kb_84 ?_
      refine ev_iload_n (i := 1) dX10_restore_44 rfl rfl ?_
      refine ev_imulN (a := 84) (b := k0) dX10_restore_45 ?_
      refine ev_iload_n (i := 2) dX10_restore_46 rfl rfl ?_
      refine ev_iaddN (a := (84 * k0)) (b := p) dX10_restore_47 ?_
      refine ev_ialdN (j := ((84 * k0) + p)) dX10_restore_48 rfl (by omega) (by decide) ?_
      rw [hJ 228 (by decide)]
      refine ev_iastN (j := p) dX10_restore_49 rfl (by omega) (by decide) ?_
      refine ev_iincN (a := p) dX10_restore_50 rfl (Nat.le_of_ble_eq_true rfl) rfl ?_
      refine ev_goto (tgt := 27) dX10_restore_53 (by decide) ?_
      refine ih (p + 1) _ (by omega) ?_ (fun q q1 => by rw [nw_up_ne q1]; exact hJ q q1)
      rw [nw_up_self, hW]
      have e := nm_mx_s 0 p (fun j => I 228 (84 * k0 + j)) (I 225)
      rw [Nat.zero_add] at e
      exact e
theorem m_restore (x : Int32) : nw_cI l g 1 mX10_restore [.ref (nw_a g 219), .int x] I (fun r K => (nv_in x 0 1 = false ∧ r = -1000001 ∧ K = I) ∨ ∃ k, k < 2 ∧ x = nI k ∧ ((I 229 k = 0 ∧ r = -1000002 ∧ K = I) ∨ (¬ I 229 k = 0 ∧ r = 1 ∧ K 225 = nm_mx 0 55 (fun j => I 228 (84 * k + j)) (I 225) ∧ K 226 = nm_mx 0 29 (fun j => I 228 (84 * k + 55 + j)) (I 226) ∧ K 219 = upd (I 219) 14 0 ∧ ∀ q, q ≠ 219 → q ≠ 225 → q ≠ 226 → K q = I q))) := by
  refine ⟨(Nat.le_of_ble_eq_true rfl), ?_⟩
  refine ev_iload_n (i := 1) dX10_restore_0 rfl rfl ?_
  refine ev_i2l dX10_restore_1 ?_
  refine ev_lconst (v := 0) dX10_restore_2 rfl ?_
  refine ev_lconst (v := 1) dX10_restore_3 rfl ?_
  refine s_dSz (As := [_, _, _]) (m_in _ 0 1 (by decide) (by decide)) (Nat.le_of_ble_eq_true rfl) lX10_64 kX10_in sX10_in dX10_restore_4 rfl rfl (Nat.le_of_ble_eq_true rfl) ?_
  refine s_ifZ_ne (tgt := 13) dX10_restore_7 (by decide) (fun h7 => ?_) (fun h7 => ?_)
  · obtain ⟨k, -, hk1, rfl⟩ := nv_in_n (a := 0) (c := 1) h7 (by decide) (by decide)
    refine ev_aload_n (i := 0) dX10_restore_13 rfl rfl ?_
    refine ev_getR fX10_37 dX10_restore_14 rfl rfl (by decide) ?_
    refine ev_iload_n (i := 1) dX10_restore_17 rfl rfl ?_
    refine ev_zaldN (j := k) dX10_restore_18 rfl (by omega) (by decide) ?_
    refine ev_if_ne (tgt := 25) dX10_restore_19 (by decide) (fun h19 => ?_) (fun h19 => ?_)
    · refine ev_iconst (v := 0) dX10_restore_25 kc_0 ?_
      refine ev_istore_n (i := 2) dX10_restore_26 rfl (Nat.le_of_ble_eq_true rfl) rfl ?_
      refine s_postI (l_mres1 (k0 := k) (by omega) 55 0 I (by omega) (nm_mx_0 _ _ _).symm (fun _ _ => rfl)) (fun r K h => Or.inr ⟨k, by omega, rfl, Or.inr ⟨h19, h⟩⟩)
    · refine ev_ldc qX10_199 dX10_restore_22 ?_
      exact s_retI dX10_restore_24 (Or.inr ⟨k, by omega, rfl, Or.inl ⟨h19, rfl, rfl⟩⟩)
  · refine ev_ldc qX10_79 dX10_restore_10 ?_
    exact s_retI dX10_restore_12 (Or.inl ⟨h7, rfl, rfl⟩)
end
