section
variable {l : Launch} {g : nw_G} {I : nw_Me} {N T S : Nat} {C F G : Nat → Int32} {b : Bool} {L : List (Nat → Int32)}
theorem l_callers {v : Nat} (hC : nl_C N T S C (I 225)) (h0 : 0 < N) (hG : nl_F T S G (I 233)) (hl : ¬ G 1 ≤ 0) (hv : G 0 = nI v) (hv2 : v < 2 ^ 31) : ∀ (k t m : Nat), t + k = T → nw_S l g 1 mX10_callers 4 [some (.ref (nw_a g 219)), some (.int (nI m)), some (.int (nI t))] [] I (nw_qI (fun r J => r = nI (m + p_cnt (p_call C (p_kind C (G 0)) G) k t) ∧ J = I)) := by
  have hT := hC.t
  have hT3 := hC.hT
  have g0 : I 233 0 = nI v := by rw [hG 0 (by unfold nl_f; omega)]; exact hv
  intro k
  induction k with
  | zero =>
    intro t m ht
    refine ev_iload_n (i := 2) dX10_callers_4 rfl rfl ?_
    refine ev_aload_n (i := 0) dX10_callers_5 rfl rfl ?_
    refine ev_getR fX10_25 dX10_callers_6 rfl rfl (by decide) ?_
    refine ev_iconst (v := 4) dX10_callers_9 kc_4 ?_
    refine ev_ialdN (j := 4) dX10_callers_10 rfl (by omega) (by decide) ?_
    rw [hT]
    refine ev_icmp_ge (tgt := 70) dX10_callers_11 (by decide) (fun h11 => ?_) (fun h11 => ?_)
    · refine ev_iload_n (i := 1) dX10_callers_70 rfl rfl ?_
      exact s_retI dX10_callers_71 ⟨rfl, rfl⟩
    · exact absurd (nI_le (by omega) (by omega)) h11
  | succ k ih =>
    intro t m ht
    have g1 := hG 1 (by unfold nl_f; omega)
    have g2 := hG (2 + t) (by unfold nl_f; omega)
    have c1 := hC.2 (46 + t) (by unfold nl_c; omega)
    refine ev_iload_n (i := 2) dX10_callers_4 rfl rfl ?_
    refine ev_aload_n (i := 0) dX10_callers_5 rfl rfl ?_
    refine ev_getR fX10_25 dX10_callers_6 rfl rfl (by decide) ?_
    refine ev_iconst (v := 4) dX10_callers_9 kc_4 ?_
    refine ev_ialdN (j := 4) dX10_callers_10 rfl (by omega) (by decide) ?_
    rw [hT]
    refine ev_icmp_ge (tgt := 70) dX10_callers_11 (by decide) (fun h11 => ?_) (fun h11 => ?_)
    · exact absurd h11 (nI_ge (by omega) (by omega))
    · refine ev_iload_n (i := 1) dX10_callers_14 rfl rfl ?_
      refine ev_aload_n (i := 0) dX10_callers_15 rfl rfl ?_
      refine ev_getR fX10_50 dX10_callers_16 rfl rfl (by decide) ?_
      refine ev_iconst (v := 2) dX10_callers_19 kc_2 ?_
      refine ev_iload_n (i := 2) dX10_callers_20 rfl rfl ?_
      refine ev_iaddN (a := 2) (b := t) dX10_callers_21 ?_
      refine ev_ialdN (j := (2 + t)) dX10_callers_22 rfl (by omega) (by decide) ?_
      rw [g2]
      refine ev_aload_n (i := 0) dX10_callers_23 rfl rfl ?_
      refine ev_getR fX10_25 dX10_callers_24 rfl rfl (by decide) ?_
      refine ev_bipush (v := 46) dX10_callers_27 kb_46 ?_
      refine ev_iload_n (i := 2) dX10_callers_29 rfl rfl ?_
      refine ev_iaddN (a := 46) (b := t) dX10_callers_30 ?_
      refine ev_ialdN (j := (46 + t)) dX10_callers_31 rfl (by omega) (by decide) ?_
      rw [c1]
      refine ev_aload_n (i := 0) dX10_callers_32 rfl rfl ?_
      refine ev_aload_n (i := 0) dX10_callers_33 rfl rfl ?_
      refine ev_getR fX10_50 dX10_callers_34 rfl rfl (by decide) ?_
      refine ev_iconst (v := 0) dX10_callers_37 kc_0 ?_
      refine ev_ialdN (j := 0) dX10_callers_38 rfl (by omega) (by decide) ?_
      rw [g0]
      refine s_dVi (As := [_]) (m_sortIn hC h0 hv2) (Nat.le_of_ble_eq_true rfl) lX10_176 kX10_sortIn vX10_sortIn dX10_callers_39 rfl rfl rfl (by decide) rfl (Nat.le_of_ble_eq_true rfl) ?_
      refine s_dSi (As := [_, _]) (m_counted _ _) (Nat.le_of_ble_eq_true rfl) lX10_186 kX10_counted sX10_counted dX10_callers_42 rfl rfl (Nat.le_of_ble_eq_true rfl) ?_
      refine ev_aload_n (i := 0) dX10_callers_45 rfl rfl ?_
      refine ev_getR fX10_50 dX10_callers_46 rfl rfl (by decide) ?_
      refine ev_iconst (v := 1) dX10_callers_49 kc_1 ?_
      refine ev_ialdN (j := 1) dX10_callers_50 rfl (by omega) (by decide) ?_
      rw [g1]
      refine s_dSz (As := [_, _, _]) (m_isCalled _ _ hl) (Nat.le_of_ble_eq_true rfl) lX10_189 kX10_isCalled sX10_isCalled dX10_callers_51 rfl rfl (Nat.le_of_ble_eq_true rfl) ?_
      have ec : p_call C (p_kind C (G 0)) G t = nv_calls (G (2 + t)) (nv_step (C (46 + t)) (p_kind C (nI v))) (G 1) := by unfold p_call p_more; rw [hv]
      refine s_ifZ_eq (tgt := 61) dX10_callers_54 (by decide) (fun h54 => ?_) (fun h54 => ?_)
      · refine ev_iconst (v := 0) dX10_callers_61 kc_0 ?_
        refine ev_iadd dX10_callers_62 ?_
        refine ev_istore_n (i := 1) dX10_callers_63 rfl (Nat.le_of_ble_eq_true rfl) rfl ?_
        refine ev_iincN (a := t) dX10_callers_64 rfl (Nat.le_of_ble_eq_true rfl) rfl ?_
        refine ev_goto (tgt := 4) dX10_callers_67 (by decide) ?_
        first
          | (rw [p_cnt_t (by rw [ec]; exact h54) m, nI_1]; exact ih (t + 1) (m + 1) (by omega))
          | (rw [p_cnt_f (by rw [ec]; exact h54) m, Int32.add_zero]; exact ih (t + 1) m (by omega))
      · refine ev_iconst (v := 1) dX10_callers_57 kc_1 ?_
        refine ev_goto (tgt := 62) dX10_callers_58 (by decide) ?_
        refine ev_iadd dX10_callers_62 ?_
        refine ev_istore_n (i := 1) dX10_callers_63 rfl (Nat.le_of_ble_eq_true rfl) rfl ?_
        refine ev_iincN (a := t) dX10_callers_64 rfl (Nat.le_of_ble_eq_true rfl) rfl ?_
        refine ev_goto (tgt := 4) dX10_callers_67 (by decide) ?_
        first
          | (rw [p_cnt_t (by rw [ec]; exact h54) m, nI_1]; exact ih (t + 1) (m + 1) (by omega))
          | (rw [p_cnt_f (by rw [ec]; exact h54) m, Int32.add_zero]; exact ih (t + 1) m (by omega))
theorem m_callers {v : Nat} (hC : nl_C N T S C (I 225)) (h0 : 0 < N) (hG : nl_F T S G (I 233)) (hl : ¬ G 1 ≤ 0) (hv : G 0 = nI v) (hv2 : v < 2 ^ 31) : nw_dI l g 1 mX10_callers [.ref (nw_a g 219)] I (p_nc C T G) I := by
  refine ⟨(Nat.le_of_ble_eq_true rfl), ?_⟩
  refine ev_iconst (v := 0) dX10_callers_0 kc_0 ?_
  refine ev_istore_n (i := 1) dX10_callers_1 rfl (Nat.le_of_ble_eq_true rfl) rfl ?_
  refine ev_iconst (v := 0) dX10_callers_2 kc_0 ?_
  refine ev_istore_n (i := 2) dX10_callers_3 rfl (Nat.le_of_ble_eq_true rfl) rfl ?_
  have h := l_callers (l := l) (g := g) hC h0 hG hl hv hv2 T 0 0 (by omega)
  rw [Nat.zero_add] at h
  exact h
theorem i32_lt2 {x : Int32} : x < 2 ↔ x ≤ 1 := by
  rw [Int32.lt_iff_toInt_lt, Int32.le_iff_toInt_le]
  have e1 : (2 : Int32).toInt = 2 := by decide
  have e2 : (1 : Int32).toInt = 1 := by decide
  omega
theorem i32_lt1 {x : Int32} : x < 1 ↔ x ≤ 0 := by
  rw [Int32.lt_iff_toInt_lt, Int32.le_iff_toInt_le]
  have e1 : (1 : Int32).toInt = 1 := by decide
  have e2 : (0 : Int32).toInt = 0 := by decide
  omega
theorem i32_ss (a b : Int32) : a - (a - b) = b := by
  have h : (a - (a - b)) + (a - b) = b + (a - b) := by rw [Int32.sub_add_cancel, Int32.add_comm b, Int32.sub_add_cancel]
  have e := congrArg (· - (a - b)) h
  simp only [Int32.add_sub_cancel] at e
  exact e
theorem i32_sub_eq {a b c : Int32} : a - b = c ↔ b = a - c := ⟨fun h => by rw [← h, i32_ss], fun h => by rw [h, i32_ss]⟩
theorem nI_none {n : Nat} (h : n < 2 ^ 31) : ¬ nI n = -1000000 := fun q => by
  have e := congrArg Int32.toInt q
  rw [nI_toInt h] at e
  have e2 : (-1000000 : Int32).toInt = -1000000 := by decide
  omega
/-- how many, and the first -/
def nm_pr (r : Int32 × Int32) (c : Nat) : Prop := r.1 = nI c ∧ (c = 0 ↔ r.2 = -1000000)
theorem nm_pr.t {r : Int32 × Int32} {c w : Nat} (h : nm_pr r c) (hc : c < 2 ^ 30) (hw : w < 2 ^ 31) : nm_pr (r.1 + 1, if r.1 = 0 then nI w else r.2) (c + 1) := by
  refine ⟨by show r.1 + 1 = _; rw [h.1, nI_1], ⟨fun q => by omega, fun q => ?_⟩⟩
  exfalso
  have q : (if r.1 = 0 then nI w else r.2) = -1000000 := q
  split at q
  · exact nI_none hw q
  · rename_i h0
    have := h.2.mpr q
    subst this
    exact h0 (by rw [h.1]; exact nI_0)
theorem nm_pr.z {r : Int32 × Int32} {c : Nat} (h : nm_pr r c) (hc : c < 2 ^ 30) : r.1 = 0 ↔ r.2 = -1000000 := by
  rw [← h.2, h.1]
  constructor
  · intro q
    exact Decidable.byContradiction (fun g => nI_ne0 (by omega) (by omega) q)
  · rintro rfl
    exact nI_0
theorem l_magreed {n v : Nat} {w : Int32} (hW : nm_W I true N T S C F) (hn : n ≤ 100) (hv : F 0 = nI v) (hv2 : v ≤ 999) : ∀ (m k c : Nat) (r : Int32 × Int32) (G : Nat → Int32) (J : nw_Me) (z : Option Value), k + m = n → c ≤ k → nm_pr r c → (∀ q, q ≠ 233 → J q = I q) → nl_F T S G (J 233) → nv_fok G S → ¬ G 1 ≤ 0 → G 0 = nI (v + k) → nw_S l g 5 mX10_agreed 48 [some (.ref (nw_a g 219)), some (.int (nI n)), some (.int w), some (.int r.1), some (.int r.2), some (.int (nI k)), z] [] J (nw_qI (fun a K => a = (if w = 0 then (p_scan C T S (p_hitA C T) m (v + k) G r).1 else (p_scan C T S (p_hitA C T) m (v + k) G r).2) ∧ ∀ q, q ≠ 233 → K q = I q)) := by
  obtain ⟨-, h0, h0T, hk, hsok⟩ := hW.sea (Or.inr (Or.inr (Or.inr rfl)))
  have hT3 := hW.2.1.hT
  have hS6 := hW.2.1.hS
  intro m
  induction m with
  | zero =>
    intro k c r G J z hkm hck hr hJ hG hfk hl hG0
    refine ev_iload dX10_agreed_48 rfl ?_
    refine ev_iload_n (i := 1) dX10_agreed_50 rfl rfl ?_
    refine ev_icmp_ge (tgt := 118) dX10_agreed_51 (by decide) (fun h51 => ?_) (fun h51 => ?_)
    · refine ev_iload_n (i := 2) dX10_agreed_118 rfl rfl ?_
      refine ev_if_ne (tgt := 126) dX10_agreed_119 (by decide) (fun h119 => ?_) (fun h119 => ?_)
      · refine ev_iload dX10_agreed_126 rfl ?_
        exact s_retI dX10_agreed_128 ⟨by first | (rw [if_pos h119]; rfl) | (rw [if_neg h119]; rfl), hJ⟩
      · refine ev_iload_n (i := 3) dX10_agreed_122 rfl rfl ?_
        refine ev_goto (tgt := 128) dX10_agreed_123 (by decide) ?_
        exact s_retI dX10_agreed_128 ⟨by first | (rw [if_pos h119]; rfl) | (rw [if_neg h119]; rfl), hJ⟩
    · exact absurd (nI_le (by omega) (by omega)) h51
  | succ m ih =>
    intro k c r G J z hkm hck hr hJ hG hfk hl hG0
    have hC : nl_C N T S C (J 225) := by rw [hJ 225 (by decide)]; exact hW.2.1
    have hvk : v + k < 2 ^ 30 := by omega
    have g0 : J 233 0 = nI (v + k) := by rw [hG 0 (by unfold nl_f; omega)]; exact hG0
    refine ev_iload dX10_agreed_48 rfl ?_
    refine ev_iload_n (i := 1) dX10_agreed_50 rfl rfl ?_
    refine ev_icmp_ge (tgt := 118) dX10_agreed_51 (by decide) (fun h51 => ?_) (fun h51 => ?_)
    · exact absurd h51 (nI_ge (by omega) (by omega))
    · refine ev_aload_n (i := 0) dX10_agreed_54 rfl rfl ?_
      refine s_dVi (As := []) (m_callers hC h0 hG hl hG0 (by omega)) (Nat.le_of_ble_eq_true rfl) lX10_250 kX10_callers vX10_callers dX10_agreed_55 rfl rfl rfl (by decide) rfl (Nat.le_of_ble_eq_true rfl) ?_
      refine ev_iconst (v := 1) dX10_agreed_58 kc_1 ?_
      refine ev_icmp_le (tgt := 66) dX10_agreed_59 (by decide) (fun h59 => ?_) (fun h59 => ?_)
      · refine ev_iconst (v := 0) dX10_agreed_66 kc_0 ?_
        refine ev_istore dX10_agreed_67 (Nat.le_of_ble_eq_true rfl) rfl ?_
        refine ev_iload_n (i := 3) dX10_agreed_69 rfl rfl ?_
        refine ev_iload dX10_agreed_70 rfl ?_
        refine ev_if_eq (tgt := 79) dX10_agreed_72 (by decide) (fun _ => ?_) (fun h => absurd (by decide) h)
        refine ev_iconst (v := 0) dX10_agreed_79 kc_0 ?_
        refine ev_iadd dX10_agreed_80 ?_
        refine ev_istore_n (i := 3) dX10_agreed_81 rfl (Nat.le_of_ble_eq_true rfl) rfl ?_
        refine ev_iload dX10_agreed_82 rfl ?_
        refine ev_if_eq (tgt := 103) dX10_agreed_84 (by decide) (fun _ => ?_) (fun h => absurd (by decide) h)
        refine ev_iload dX10_agreed_103 rfl ?_
        refine ev_istore dX10_agreed_105 (Nat.le_of_ble_eq_true rfl) rfl ?_
        refine ev_aload_n (i := 0) dX10_agreed_107 rfl rfl ?_
        refine ev_iconst (v := 1) dX10_agreed_108 kc_1 ?_
        refine s_callVv (As := [_]) (m_waves0 (x := 1) (v := v + k) hC h0 hk (by omega) hfk hl hG0 hvk hG) (Nat.le_of_ble_eq_true rfl) lX10_208 kX10_waves0 vX10_waves0 dX10_agreed_109 rfl rfl rfl (by decide) rfl (Nat.le_of_ble_eq_true rfl) (fun J1 h1 => ?_)
        refine ev_iincN (a := k) dX10_agreed_112 rfl (Nat.le_of_ble_eq_true rfl) rfl ?_
        refine ev_goto (tgt := 48) dX10_agreed_115 (by decide) ?_
        first
          | (have hh : p_hitA C T (v + k) G = true := (by unfold p_hitA; exact decide_eq_true (fun q => h59 (i32_lt2.mp q)))
             have er : (if r.1 = 0 then nI (v + k) else r.2) = nI (v + k) := if_pos ((hr.z (by omega)).mpr h91)
             have hp := hr.t (w := v + k) (by omega) (by omega)
             rw [er] at hp
             refine s_postI (ih (k + 1) (c + 1) (r.1 + 1, nI (v + k)) (p_by C T S G) J1 _ (by omega) (by omega) hp (fun q hq => (h1.2 q hq).trans (hJ q hq)) h1.1 (p_by_fok hT3 hS6 hfk) (by unfold p_by; rw [p_come_1]; exact hl) (by rw [p_by_0 _ hT3, hG0, nI_1]; rfl)) (fun a K q => ⟨by rw [p_scan_t hh, er]; exact q.1, q.2⟩))
          | (have hh : p_hitA C T (v + k) G = true := (by unfold p_hitA; exact decide_eq_true (fun q => h59 (i32_lt2.mp q)))
             have er : (if r.1 = 0 then nI (v + k) else r.2) = r.2 := if_neg (fun q => h91 ((hr.z (by omega)).mp q))
             have hp := hr.t (w := v + k) (by omega) (by omega)
             rw [er] at hp
             refine s_postI (ih (k + 1) (c + 1) (r.1 + 1, r.2) (p_by C T S G) J1 _ (by omega) (by omega) hp (fun q hq => (h1.2 q hq).trans (hJ q hq)) h1.1 (p_by_fok hT3 hS6 hfk) (by unfold p_by; rw [p_come_1]; exact hl) (by rw [p_by_0 _ hT3, hG0, nI_1]; rfl)) (fun a K q => ⟨by rw [p_scan_t hh, er]; exact q.1, q.2⟩))
          | (have hh : p_hitA C T (v + k) G = false := (by unfold p_hitA; exact decide_eq_false (fun q => q (i32_lt2.mpr h59)))
             rw [Int32.add_zero]
             refine s_postI (ih (k + 1) c r (p_by C T S G) J1 _ (by omega) (by omega) hr (fun q hq => (h1.2 q hq).trans (hJ q hq)) h1.1 (p_by_fok hT3 hS6 hfk) (by unfold p_by; rw [p_come_1]; exact hl) (by rw [p_by_0 _ hT3, hG0, nI_1]; rfl)) (fun a K q => ⟨by rw [p_scan_f hh]; exact q.1, q.2⟩))
      · refine ev_iconst (v := 1) dX10_agreed_62 kc_1 ?_
        refine ev_goto (tgt := 67) dX10_agreed_63 (by decide) ?_
        refine ev_istore dX10_agreed_67 (Nat.le_of_ble_eq_true rfl) rfl ?_
        refine ev_iload_n (i := 3) dX10_agreed_69 rfl rfl ?_
        refine ev_iload dX10_agreed_70 rfl ?_
        refine ev_if_eq (tgt := 79) dX10_agreed_72 (by decide) (fun h => absurd h (by decide)) (fun _ => ?_)
        refine ev_iconst (v := 1) dX10_agreed_75 kc_1 ?_
        refine ev_goto (tgt := 80) dX10_agreed_76 (by decide) ?_
        refine ev_iadd dX10_agreed_80 ?_
        refine ev_istore_n (i := 3) dX10_agreed_81 rfl (Nat.le_of_ble_eq_true rfl) rfl ?_
        refine ev_iload dX10_agreed_82 rfl ?_
        refine ev_if_eq (tgt := 103) dX10_agreed_84 (by decide) (fun h => absurd h (by decide)) (fun _ => ?_)
        refine ev_iload dX10_agreed_87 rfl ?_
        refine ev_ldc qX10_165 dX10_agreed_89 ?_
        refine ev_icmp_ne (tgt := 103) dX10_agreed_91 (by decide) (fun h91 => ?_) (fun h91 => ?_)
        · refine ev_iload dX10_agreed_103 rfl ?_
          refine ev_istore dX10_agreed_105 (Nat.le_of_ble_eq_true rfl) rfl ?_
          refine ev_aload_n (i := 0) dX10_agreed_107 rfl rfl ?_
          refine ev_iconst (v := 1) dX10_agreed_108 kc_1 ?_
          refine s_callVv (As := [_]) (m_waves0 (x := 1) (v := v + k) hC h0 hk (by omega) hfk hl hG0 hvk hG) (Nat.le_of_ble_eq_true rfl) lX10_208 kX10_waves0 vX10_waves0 dX10_agreed_109 rfl rfl rfl (by decide) rfl (Nat.le_of_ble_eq_true rfl) (fun J1 h1 => ?_)
          refine ev_iincN (a := k) dX10_agreed_112 rfl (Nat.le_of_ble_eq_true rfl) rfl ?_
          refine ev_goto (tgt := 48) dX10_agreed_115 (by decide) ?_
          first
            | (have hh : p_hitA C T (v + k) G = true := (by unfold p_hitA; exact decide_eq_true (fun q => h59 (i32_lt2.mp q)))
               have er : (if r.1 = 0 then nI (v + k) else r.2) = nI (v + k) := if_pos ((hr.z (by omega)).mpr h91)
               have hp := hr.t (w := v + k) (by omega) (by omega)
               rw [er] at hp
               refine s_postI (ih (k + 1) (c + 1) (r.1 + 1, nI (v + k)) (p_by C T S G) J1 _ (by omega) (by omega) hp (fun q hq => (h1.2 q hq).trans (hJ q hq)) h1.1 (p_by_fok hT3 hS6 hfk) (by unfold p_by; rw [p_come_1]; exact hl) (by rw [p_by_0 _ hT3, hG0, nI_1]; rfl)) (fun a K q => ⟨by rw [p_scan_t hh, er]; exact q.1, q.2⟩))
            | (have hh : p_hitA C T (v + k) G = true := (by unfold p_hitA; exact decide_eq_true (fun q => h59 (i32_lt2.mp q)))
               have er : (if r.1 = 0 then nI (v + k) else r.2) = r.2 := if_neg (fun q => h91 ((hr.z (by omega)).mp q))
               have hp := hr.t (w := v + k) (by omega) (by omega)
               rw [er] at hp
               refine s_postI (ih (k + 1) (c + 1) (r.1 + 1, r.2) (p_by C T S G) J1 _ (by omega) (by omega) hp (fun q hq => (h1.2 q hq).trans (hJ q hq)) h1.1 (p_by_fok hT3 hS6 hfk) (by unfold p_by; rw [p_come_1]; exact hl) (by rw [p_by_0 _ hT3, hG0, nI_1]; rfl)) (fun a K q => ⟨by rw [p_scan_t hh, er]; exact q.1, q.2⟩))
            | (have hh : p_hitA C T (v + k) G = false := (by unfold p_hitA; exact decide_eq_false (fun q => q (i32_lt2.mpr h59)))
               rw [Int32.add_zero]
               refine s_postI (ih (k + 1) c r (p_by C T S G) J1 _ (by omega) (by omega) hr (fun q hq => (h1.2 q hq).trans (hJ q hq)) h1.1 (p_by_fok hT3 hS6 hfk) (by unfold p_by; rw [p_come_1]; exact hl) (by rw [p_by_0 _ hT3, hG0, nI_1]; rfl)) (fun a K q => ⟨by rw [p_scan_f hh]; exact q.1, q.2⟩))
        · refine ev_aload_n (i := 0) dX10_agreed_94 rfl rfl ?_
          refine ev_getR fX10_50 dX10_agreed_95 rfl rfl (by decide) ?_
          refine ev_iconst (v := 0) dX10_agreed_98 kc_0 ?_
          refine ev_ialdN (j := 0) dX10_agreed_99 rfl (by omega) (by decide) ?_
          rw [g0]
          refine ev_goto (tgt := 105) dX10_agreed_100 (by decide) ?_
          refine ev_istore dX10_agreed_105 (Nat.le_of_ble_eq_true rfl) rfl ?_
          refine ev_aload_n (i := 0) dX10_agreed_107 rfl rfl ?_
          refine ev_iconst (v := 1) dX10_agreed_108 kc_1 ?_
          refine s_callVv (As := [_]) (m_waves0 (x := 1) (v := v + k) hC h0 hk (by omega) hfk hl hG0 hvk hG) (Nat.le_of_ble_eq_true rfl) lX10_208 kX10_waves0 vX10_waves0 dX10_agreed_109 rfl rfl rfl (by decide) rfl (Nat.le_of_ble_eq_true rfl) (fun J1 h1 => ?_)
          refine ev_iincN (a := k) dX10_agreed_112 rfl (Nat.le_of_ble_eq_true rfl) rfl ?_
          refine ev_goto (tgt := 48) dX10_agreed_115 (by decide) ?_
          first
            | (have hh : p_hitA C T (v + k) G = true := (by unfold p_hitA; exact decide_eq_true (fun q => h59 (i32_lt2.mp q)))
               have er : (if r.1 = 0 then nI (v + k) else r.2) = nI (v + k) := if_pos ((hr.z (by omega)).mpr h91)
               have hp := hr.t (w := v + k) (by omega) (by omega)
               rw [er] at hp
               refine s_postI (ih (k + 1) (c + 1) (r.1 + 1, nI (v + k)) (p_by C T S G) J1 _ (by omega) (by omega) hp (fun q hq => (h1.2 q hq).trans (hJ q hq)) h1.1 (p_by_fok hT3 hS6 hfk) (by unfold p_by; rw [p_come_1]; exact hl) (by rw [p_by_0 _ hT3, hG0, nI_1]; rfl)) (fun a K q => ⟨by rw [p_scan_t hh, er]; exact q.1, q.2⟩))
            | (have hh : p_hitA C T (v + k) G = true := (by unfold p_hitA; exact decide_eq_true (fun q => h59 (i32_lt2.mp q)))
               have er : (if r.1 = 0 then nI (v + k) else r.2) = r.2 := if_neg (fun q => h91 ((hr.z (by omega)).mp q))
               have hp := hr.t (w := v + k) (by omega) (by omega)
               rw [er] at hp
               refine s_postI (ih (k + 1) (c + 1) (r.1 + 1, r.2) (p_by C T S G) J1 _ (by omega) (by omega) hp (fun q hq => (h1.2 q hq).trans (hJ q hq)) h1.1 (p_by_fok hT3 hS6 hfk) (by unfold p_by; rw [p_come_1]; exact hl) (by rw [p_by_0 _ hT3, hG0, nI_1]; rfl)) (fun a K q => ⟨by rw [p_scan_t hh, er]; exact q.1, q.2⟩))
            | (have hh : p_hitA C T (v + k) G = false := (by unfold p_hitA; exact decide_eq_false (fun q => q (i32_lt2.mpr h59)))
               rw [Int32.add_zero]
               refine s_postI (ih (k + 1) c r (p_by C T S G) J1 _ (by omega) (by omega) hr (fun q hq => (h1.2 q hq).trans (hJ q hq)) h1.1 (p_by_fok hT3 hS6 hfk) (by unfold p_by; rw [p_come_1]; exact hl) (by rw [p_by_0 _ hT3, hG0, nI_1]; rfl)) (fun a K q => ⟨by rw [p_scan_f hh]; exact q.1, q.2⟩))
theorem l_mwreck {n v : Nat} {w : Int32} {x y : Int32} (hW : nm_W I true N T S C F) (hn : n ≤ 100) (hv : F 0 = nI v) (hv2 : v ≤ 999) : ∀ (m k c : Nat) (r : Int32 × Int32) (G : Nat → Int32) (J : nw_Me) (z : Option Value), k + m = n → c ≤ k → nm_pr r c → (∀ q, q ≠ 233 → J q = I q) → nl_F T S G (J 233) → nv_fok G S → ¬ G 1 ≤ 0 → G 0 = nI (v + k) → nw_S l g 5 mX10_wreck 74 [some (.ref (nw_a g 219)), some (.int x), some (.int y), some (.int (nI n)), some (.int w), some (.int r.1), some (.int r.2), some (.int (nI k)), z] [] J (nw_qI (fun a K => a = (if w = 0 then (p_scan C T S (p_hitW C T (x - y)) m (v + k) G r).1 else (p_scan C T S (p_hitW C T (x - y)) m (v + k) G r).2) ∧ ∀ q, q ≠ 233 → K q = I q)) := by
  obtain ⟨-, h0, h0T, hk, hsok⟩ := hW.sea (Or.inr (Or.inr (Or.inr rfl)))
  have hT3 := hW.2.1.hT
  have hS6 := hW.2.1.hS
  intro m
  induction m with
  | zero =>
    intro k c r G J z hkm hck hr hJ hG hfk hl hG0
    refine ev_iload dX10_wreck_74 rfl ?_
    refine ev_iload_n (i := 3) dX10_wreck_76 rfl rfl ?_
    refine ev_icmp_ge (tgt := 161) dX10_wreck_77 (by decide) (fun h77 => ?_) (fun h77 => ?_)
    · refine ev_iload dX10_wreck_161 rfl ?_
      refine ev_if_ne (tgt := 171) dX10_wreck_163 (by decide) (fun h163 => ?_) (fun h163 => ?_)
      · refine ev_iload dX10_wreck_171 rfl ?_
        exact s_retI dX10_wreck_173 ⟨by first | (rw [if_pos h163]; rfl) | (rw [if_neg h163]; rfl), hJ⟩
      · refine ev_iload dX10_wreck_166 rfl ?_
        refine ev_goto (tgt := 173) dX10_wreck_168 (by decide) ?_
        exact s_retI dX10_wreck_173 ⟨by first | (rw [if_pos h163]; rfl) | (rw [if_neg h163]; rfl), hJ⟩
    · exact absurd (nI_le (by omega) (by omega)) h77
  | succ m ih =>
    intro k c r G J z hkm hck hr hJ hG hfk hl hG0
    have hC : nl_C N T S C (J 225) := by rw [hJ 225 (by decide)]; exact hW.2.1
    have hvk : v + k < 2 ^ 30 := by omega
    have g0 : J 233 0 = nI (v + k) := by rw [hG 0 (by unfold nl_f; omega)]; exact hG0
    refine ev_iload dX10_wreck_74 rfl ?_
    refine ev_iload_n (i := 3) dX10_wreck_76 rfl rfl ?_
    refine ev_icmp_ge (tgt := 161) dX10_wreck_77 (by decide) (fun h77 => ?_) (fun h77 => ?_)
    · exact absurd h77 (nI_ge (by omega) (by omega))
    · refine ev_aload_n (i := 0) dX10_wreck_80 rfl rfl ?_
      refine s_dVi (As := []) (m_callers hC h0 hG hl hG0 (by omega)) (Nat.le_of_ble_eq_true rfl) lX10_250 kX10_callers vX10_callers dX10_wreck_81 rfl rfl rfl (by decide) rfl (Nat.le_of_ble_eq_true rfl) ?_
      refine ev_if_le (tgt := 107) dX10_wreck_84 (by decide) (fun h84 => ?_) (fun h84 => ?_)
      · refine ev_iconst (v := 0) dX10_wreck_107 kc_0 ?_
        refine ev_istore dX10_wreck_108 (Nat.le_of_ble_eq_true rfl) rfl ?_
        refine ev_iload dX10_wreck_110 rfl ?_
        refine ev_iload dX10_wreck_112 rfl ?_
        refine ev_if_eq (tgt := 121) dX10_wreck_114 (by decide) (fun _ => ?_) (fun h => absurd (by decide) h)
        refine ev_iconst (v := 0) dX10_wreck_121 kc_0 ?_
        refine ev_iadd dX10_wreck_122 ?_
        refine ev_istore dX10_wreck_123 (Nat.le_of_ble_eq_true rfl) rfl ?_
        refine ev_iload dX10_wreck_125 rfl ?_
        refine ev_if_eq (tgt := 146) dX10_wreck_127 (by decide) (fun _ => ?_) (fun h => absurd (by decide) h)
        refine ev_iload dX10_wreck_146 rfl ?_
        refine ev_istore dX10_wreck_148 (Nat.le_of_ble_eq_true rfl) rfl ?_
        refine ev_aload_n (i := 0) dX10_wreck_150 rfl rfl ?_
        refine ev_iconst (v := 1) dX10_wreck_151 kc_1 ?_
        refine s_callVv (As := [_]) (m_waves0 (x := 1) (v := v + k) hC h0 hk (by omega) hfk hl hG0 hvk hG) (Nat.le_of_ble_eq_true rfl) lX10_208 kX10_waves0 vX10_waves0 dX10_wreck_152 rfl rfl rfl (by decide) rfl (Nat.le_of_ble_eq_true rfl) (fun J1 h1 => ?_)
        refine ev_iincN (a := k) dX10_wreck_155 rfl (Nat.le_of_ble_eq_true rfl) rfl ?_
        refine ev_goto (tgt := 74) dX10_wreck_158 (by decide) ?_
        first
          | (have hh : p_hitW C T (x - y) (v + k) G = true := (by unfold p_hitW; rw [decide_eq_true (p := ¬ p_nc C T G < 1) (fun q => h84 (i32_lt1.mp q)), decide_eq_true (i32_sub_eq.mp h100)]; rfl)
             have er : (if r.1 = 0 then nI (v + k) else r.2) = nI (v + k) := if_pos ((hr.z (by omega)).mpr h134)
             have hp := hr.t (w := v + k) (by omega) (by omega)
             rw [er] at hp
             refine s_postI (ih (k + 1) (c + 1) (r.1 + 1, nI (v + k)) (p_by C T S G) J1 _ (by omega) (by omega) hp (fun q hq => (h1.2 q hq).trans (hJ q hq)) h1.1 (p_by_fok hT3 hS6 hfk) (by unfold p_by; rw [p_come_1]; exact hl) (by rw [p_by_0 _ hT3, hG0, nI_1]; rfl)) (fun a K q => ⟨by rw [p_scan_t hh, er]; exact q.1, q.2⟩))
          | (have hh : p_hitW C T (x - y) (v + k) G = true := (by unfold p_hitW; rw [decide_eq_true (p := ¬ p_nc C T G < 1) (fun q => h84 (i32_lt1.mp q)), decide_eq_true (i32_sub_eq.mp h100)]; rfl)
             have er : (if r.1 = 0 then nI (v + k) else r.2) = r.2 := if_neg (fun q => h134 ((hr.z (by omega)).mp q))
             have hp := hr.t (w := v + k) (by omega) (by omega)
             rw [er] at hp
             refine s_postI (ih (k + 1) (c + 1) (r.1 + 1, r.2) (p_by C T S G) J1 _ (by omega) (by omega) hp (fun q hq => (h1.2 q hq).trans (hJ q hq)) h1.1 (p_by_fok hT3 hS6 hfk) (by unfold p_by; rw [p_come_1]; exact hl) (by rw [p_by_0 _ hT3, hG0, nI_1]; rfl)) (fun a K q => ⟨by rw [p_scan_t hh, er]; exact q.1, q.2⟩))
          | (have hh : p_hitW C T (x - y) (v + k) G = false := (by unfold p_hitW; first | (rw [decide_eq_false (fun q => h100 (i32_sub_eq.mpr q)), Bool.and_false]) | (rw [decide_eq_false (p := ¬ p_nc C T G < 1) (fun q => q (i32_lt1.mpr h84))]; rfl))
             rw [Int32.add_zero]
             refine s_postI (ih (k + 1) c r (p_by C T S G) J1 _ (by omega) (by omega) hr (fun q hq => (h1.2 q hq).trans (hJ q hq)) h1.1 (p_by_fok hT3 hS6 hfk) (by unfold p_by; rw [p_come_1]; exact hl) (by rw [p_by_0 _ hT3, hG0, nI_1]; rfl)) (fun a K q => ⟨by rw [p_scan_f hh]; exact q.1, q.2⟩))
      · refine ev_iload_n (i := 1) dX10_wreck_87 rfl rfl ?_
        refine ev_aload_n (i := 0) dX10_wreck_88 rfl rfl ?_
        refine ev_aload_n (i := 0) dX10_wreck_89 rfl rfl ?_
        refine ev_getR fX10_50 dX10_wreck_90 rfl rfl (by decide) ?_
        refine ev_iconst (v := 0) dX10_wreck_93 kc_0 ?_
        refine ev_ialdN (j := 0) dX10_wreck_94 rfl (by omega) (by decide) ?_
        rw [g0]
        refine s_dVi (As := [_]) (m_waterIn hC h0 hk (show v + k < 2 ^ 31 by omega)) (Nat.le_of_ble_eq_true rfl) lX10_233 kX10_waterIn vX10_waterIn dX10_wreck_95 rfl rfl rfl (by decide) rfl (Nat.le_of_ble_eq_true rfl) ?_
        refine ev_isub dX10_wreck_98 ?_
        refine ev_iload_n (i := 2) dX10_wreck_99 rfl rfl ?_
        refine ev_icmp_ne (tgt := 107) dX10_wreck_100 (by decide) (fun h100 => ?_) (fun h100 => ?_)
        · refine ev_iconst (v := 0) dX10_wreck_107 kc_0 ?_
          refine ev_istore dX10_wreck_108 (Nat.le_of_ble_eq_true rfl) rfl ?_
          refine ev_iload dX10_wreck_110 rfl ?_
          refine ev_iload dX10_wreck_112 rfl ?_
          refine ev_if_eq (tgt := 121) dX10_wreck_114 (by decide) (fun _ => ?_) (fun h => absurd (by decide) h)
          refine ev_iconst (v := 0) dX10_wreck_121 kc_0 ?_
          refine ev_iadd dX10_wreck_122 ?_
          refine ev_istore dX10_wreck_123 (Nat.le_of_ble_eq_true rfl) rfl ?_
          refine ev_iload dX10_wreck_125 rfl ?_
          refine ev_if_eq (tgt := 146) dX10_wreck_127 (by decide) (fun _ => ?_) (fun h => absurd (by decide) h)
          refine ev_iload dX10_wreck_146 rfl ?_
          refine ev_istore dX10_wreck_148 (Nat.le_of_ble_eq_true rfl) rfl ?_
          refine ev_aload_n (i := 0) dX10_wreck_150 rfl rfl ?_
          refine ev_iconst (v := 1) dX10_wreck_151 kc_1 ?_
          refine s_callVv (As := [_]) (m_waves0 (x := 1) (v := v + k) hC h0 hk (by omega) hfk hl hG0 hvk hG) (Nat.le_of_ble_eq_true rfl) lX10_208 kX10_waves0 vX10_waves0 dX10_wreck_152 rfl rfl rfl (by decide) rfl (Nat.le_of_ble_eq_true rfl) (fun J1 h1 => ?_)
          refine ev_iincN (a := k) dX10_wreck_155 rfl (Nat.le_of_ble_eq_true rfl) rfl ?_
          refine ev_goto (tgt := 74) dX10_wreck_158 (by decide) ?_
          first
            | (have hh : p_hitW C T (x - y) (v + k) G = true := (by unfold p_hitW; rw [decide_eq_true (p := ¬ p_nc C T G < 1) (fun q => h84 (i32_lt1.mp q)), decide_eq_true (i32_sub_eq.mp h100)]; rfl)
               have er : (if r.1 = 0 then nI (v + k) else r.2) = nI (v + k) := if_pos ((hr.z (by omega)).mpr h134)
               have hp := hr.t (w := v + k) (by omega) (by omega)
               rw [er] at hp
               refine s_postI (ih (k + 1) (c + 1) (r.1 + 1, nI (v + k)) (p_by C T S G) J1 _ (by omega) (by omega) hp (fun q hq => (h1.2 q hq).trans (hJ q hq)) h1.1 (p_by_fok hT3 hS6 hfk) (by unfold p_by; rw [p_come_1]; exact hl) (by rw [p_by_0 _ hT3, hG0, nI_1]; rfl)) (fun a K q => ⟨by rw [p_scan_t hh, er]; exact q.1, q.2⟩))
            | (have hh : p_hitW C T (x - y) (v + k) G = true := (by unfold p_hitW; rw [decide_eq_true (p := ¬ p_nc C T G < 1) (fun q => h84 (i32_lt1.mp q)), decide_eq_true (i32_sub_eq.mp h100)]; rfl)
               have er : (if r.1 = 0 then nI (v + k) else r.2) = r.2 := if_neg (fun q => h134 ((hr.z (by omega)).mp q))
               have hp := hr.t (w := v + k) (by omega) (by omega)
               rw [er] at hp
               refine s_postI (ih (k + 1) (c + 1) (r.1 + 1, r.2) (p_by C T S G) J1 _ (by omega) (by omega) hp (fun q hq => (h1.2 q hq).trans (hJ q hq)) h1.1 (p_by_fok hT3 hS6 hfk) (by unfold p_by; rw [p_come_1]; exact hl) (by rw [p_by_0 _ hT3, hG0, nI_1]; rfl)) (fun a K q => ⟨by rw [p_scan_t hh, er]; exact q.1, q.2⟩))
            | (have hh : p_hitW C T (x - y) (v + k) G = false := (by unfold p_hitW; first | (rw [decide_eq_false (fun q => h100 (i32_sub_eq.mpr q)), Bool.and_false]) | (rw [decide_eq_false (p := ¬ p_nc C T G < 1) (fun q => q (i32_lt1.mpr h84))]; rfl))
               rw [Int32.add_zero]
               refine s_postI (ih (k + 1) c r (p_by C T S G) J1 _ (by omega) (by omega) hr (fun q hq => (h1.2 q hq).trans (hJ q hq)) h1.1 (p_by_fok hT3 hS6 hfk) (by unfold p_by; rw [p_come_1]; exact hl) (by rw [p_by_0 _ hT3, hG0, nI_1]; rfl)) (fun a K q => ⟨by rw [p_scan_f hh]; exact q.1, q.2⟩))
        · refine ev_iconst (v := 1) dX10_wreck_103 kc_1 ?_
          refine ev_goto (tgt := 108) dX10_wreck_104 (by decide) ?_
          refine ev_istore dX10_wreck_108 (Nat.le_of_ble_eq_true rfl) rfl ?_
          refine ev_iload dX10_wreck_110 rfl ?_
          refine ev_iload dX10_wreck_112 rfl ?_
          refine ev_if_eq (tgt := 121) dX10_wreck_114 (by decide) (fun h => absurd h (by decide)) (fun _ => ?_)
          refine ev_iconst (v := 1) dX10_wreck_117 kc_1 ?_
          refine ev_goto (tgt := 122) dX10_wreck_118 (by decide) ?_
          refine ev_iadd dX10_wreck_122 ?_
          refine ev_istore dX10_wreck_123 (Nat.le_of_ble_eq_true rfl) rfl ?_
          refine ev_iload dX10_wreck_125 rfl ?_
          refine ev_if_eq (tgt := 146) dX10_wreck_127 (by decide) (fun h => absurd h (by decide)) (fun _ => ?_)
          refine ev_iload dX10_wreck_130 rfl ?_
          refine ev_ldc qX10_165 dX10_wreck_132 ?_
          refine ev_icmp_ne (tgt := 146) dX10_wreck_134 (by decide) (fun h134 => ?_) (fun h134 => ?_)
          · refine ev_iload dX10_wreck_146 rfl ?_
            refine ev_istore dX10_wreck_148 (Nat.le_of_ble_eq_true rfl) rfl ?_
            refine ev_aload_n (i := 0) dX10_wreck_150 rfl rfl ?_
            refine ev_iconst (v := 1) dX10_wreck_151 kc_1 ?_
            refine s_callVv (As := [_]) (m_waves0 (x := 1) (v := v + k) hC h0 hk (by omega) hfk hl hG0 hvk hG) (Nat.le_of_ble_eq_true rfl) lX10_208 kX10_waves0 vX10_waves0 dX10_wreck_152 rfl rfl rfl (by decide) rfl (Nat.le_of_ble_eq_true rfl) (fun J1 h1 => ?_)
            refine ev_iincN (a := k) dX10_wreck_155 rfl (Nat.le_of_ble_eq_true rfl) rfl ?_
            refine ev_goto (tgt := 74) dX10_wreck_158 (by decide) ?_
            first
              | (have hh : p_hitW C T (x - y) (v + k) G = true := (by unfold p_hitW; rw [decide_eq_true (p := ¬ p_nc C T G < 1) (fun q => h84 (i32_lt1.mp q)), decide_eq_true (i32_sub_eq.mp h100)]; rfl)
                 have er : (if r.1 = 0 then nI (v + k) else r.2) = nI (v + k) := if_pos ((hr.z (by omega)).mpr h134)
                 have hp := hr.t (w := v + k) (by omega) (by omega)
                 rw [er] at hp
                 refine s_postI (ih (k + 1) (c + 1) (r.1 + 1, nI (v + k)) (p_by C T S G) J1 _ (by omega) (by omega) hp (fun q hq => (h1.2 q hq).trans (hJ q hq)) h1.1 (p_by_fok hT3 hS6 hfk) (by unfold p_by; rw [p_come_1]; exact hl) (by rw [p_by_0 _ hT3, hG0, nI_1]; rfl)) (fun a K q => ⟨by rw [p_scan_t hh, er]; exact q.1, q.2⟩))
              | (have hh : p_hitW C T (x - y) (v + k) G = true := (by unfold p_hitW; rw [decide_eq_true (p := ¬ p_nc C T G < 1) (fun q => h84 (i32_lt1.mp q)), decide_eq_true (i32_sub_eq.mp h100)]; rfl)
                 have er : (if r.1 = 0 then nI (v + k) else r.2) = r.2 := if_neg (fun q => h134 ((hr.z (by omega)).mp q))
                 have hp := hr.t (w := v + k) (by omega) (by omega)
                 rw [er] at hp
                 refine s_postI (ih (k + 1) (c + 1) (r.1 + 1, r.2) (p_by C T S G) J1 _ (by omega) (by omega) hp (fun q hq => (h1.2 q hq).trans (hJ q hq)) h1.1 (p_by_fok hT3 hS6 hfk) (by unfold p_by; rw [p_come_1]; exact hl) (by rw [p_by_0 _ hT3, hG0, nI_1]; rfl)) (fun a K q => ⟨by rw [p_scan_t hh, er]; exact q.1, q.2⟩))
              | (have hh : p_hitW C T (x - y) (v + k) G = false := (by unfold p_hitW; first | (rw [decide_eq_false (fun q => h100 (i32_sub_eq.mpr q)), Bool.and_false]) | (rw [decide_eq_false (p := ¬ p_nc C T G < 1) (fun q => q (i32_lt1.mpr h84))]; rfl))
                 rw [Int32.add_zero]
                 refine s_postI (ih (k + 1) c r (p_by C T S G) J1 _ (by omega) (by omega) hr (fun q hq => (h1.2 q hq).trans (hJ q hq)) h1.1 (p_by_fok hT3 hS6 hfk) (by unfold p_by; rw [p_come_1]; exact hl) (by rw [p_by_0 _ hT3, hG0, nI_1]; rfl)) (fun a K q => ⟨by rw [p_scan_f hh]; exact q.1, q.2⟩))
          · refine ev_aload_n (i := 0) dX10_wreck_137 rfl rfl ?_
            refine ev_getR fX10_50 dX10_wreck_138 rfl rfl (by decide) ?_
            refine ev_iconst (v := 0) dX10_wreck_141 kc_0 ?_
            refine ev_ialdN (j := 0) dX10_wreck_142 rfl (by omega) (by decide) ?_
            rw [g0]
            refine ev_goto (tgt := 148) dX10_wreck_143 (by decide) ?_
            refine ev_istore dX10_wreck_148 (Nat.le_of_ble_eq_true rfl) rfl ?_
            refine ev_aload_n (i := 0) dX10_wreck_150 rfl rfl ?_
            refine ev_iconst (v := 1) dX10_wreck_151 kc_1 ?_
            refine s_callVv (As := [_]) (m_waves0 (x := 1) (v := v + k) hC h0 hk (by omega) hfk hl hG0 hvk hG) (Nat.le_of_ble_eq_true rfl) lX10_208 kX10_waves0 vX10_waves0 dX10_wreck_152 rfl rfl rfl (by decide) rfl (Nat.le_of_ble_eq_true rfl) (fun J1 h1 => ?_)
            refine ev_iincN (a := k) dX10_wreck_155 rfl (Nat.le_of_ble_eq_true rfl) rfl ?_
            refine ev_goto (tgt := 74) dX10_wreck_158 (by decide) ?_
            first
              | (have hh : p_hitW C T (x - y) (v + k) G = true := (by unfold p_hitW; rw [decide_eq_true (p := ¬ p_nc C T G < 1) (fun q => h84 (i32_lt1.mp q)), decide_eq_true (i32_sub_eq.mp h100)]; rfl)
                 have er : (if r.1 = 0 then nI (v + k) else r.2) = nI (v + k) := if_pos ((hr.z (by omega)).mpr h134)
                 have hp := hr.t (w := v + k) (by omega) (by omega)
                 rw [er] at hp
                 refine s_postI (ih (k + 1) (c + 1) (r.1 + 1, nI (v + k)) (p_by C T S G) J1 _ (by omega) (by omega) hp (fun q hq => (h1.2 q hq).trans (hJ q hq)) h1.1 (p_by_fok hT3 hS6 hfk) (by unfold p_by; rw [p_come_1]; exact hl) (by rw [p_by_0 _ hT3, hG0, nI_1]; rfl)) (fun a K q => ⟨by rw [p_scan_t hh, er]; exact q.1, q.2⟩))
              | (have hh : p_hitW C T (x - y) (v + k) G = true := (by unfold p_hitW; rw [decide_eq_true (p := ¬ p_nc C T G < 1) (fun q => h84 (i32_lt1.mp q)), decide_eq_true (i32_sub_eq.mp h100)]; rfl)
                 have er : (if r.1 = 0 then nI (v + k) else r.2) = r.2 := if_neg (fun q => h134 ((hr.z (by omega)).mp q))
                 have hp := hr.t (w := v + k) (by omega) (by omega)
                 rw [er] at hp
                 refine s_postI (ih (k + 1) (c + 1) (r.1 + 1, r.2) (p_by C T S G) J1 _ (by omega) (by omega) hp (fun q hq => (h1.2 q hq).trans (hJ q hq)) h1.1 (p_by_fok hT3 hS6 hfk) (by unfold p_by; rw [p_come_1]; exact hl) (by rw [p_by_0 _ hT3, hG0, nI_1]; rfl)) (fun a K q => ⟨by rw [p_scan_t hh, er]; exact q.1, q.2⟩))
              | (have hh : p_hitW C T (x - y) (v + k) G = false := (by unfold p_hitW; first | (rw [decide_eq_false (fun q => h100 (i32_sub_eq.mpr q)), Bool.and_false]) | (rw [decide_eq_false (p := ¬ p_nc C T G < 1) (fun q => q (i32_lt1.mpr h84))]; rfl))
                 rw [Int32.add_zero]
                 refine s_postI (ih (k + 1) c r (p_by C T S G) J1 _ (by omega) (by omega) hr (fun q hq => (h1.2 q hq).trans (hJ q hq)) h1.1 (p_by_fok hT3 hS6 hfk) (by unfold p_by; rw [p_come_1]; exact hl) (by rw [p_by_0 _ hT3, hG0, nI_1]; rfl)) (fun a K q => ⟨by rw [p_scan_f hh]; exact q.1, q.2⟩))
theorem m_agreed (hW : nm_W I b N T S C F) (n w : Int32) : nw_cI l g 5 mX10_agreed [.ref (nw_a g 219), .int n, .int w] I (fun r J => r = (if b then (if nv_in n 1 100 && nv_in w 0 1 then (if w = 0 then (p_scan C T S (p_hitA C T) n.toNatClampNeg (F 0).toNatClampNeg F (0, -1000000)).1 else (p_scan C T S (p_hitA C T) n.toNatClampNeg (F 0).toNatClampNeg F (0, -1000000)).2) else -1000001) else -1000002) ∧ ∀ q, q ≠ 233 → J q = I q) := by
  refine ⟨(Nat.le_of_ble_eq_true rfl), ?_⟩
  obtain ⟨hb, hC, hF, hor⟩ := id hW
  have hbd := hW.bd
  have hN := hC.n
  have hT := hC.t
  have hS := hC.s
  have hN2 := hC.hN
  have hT3 := hC.hT
  have hS6 := hC.hS
  refine ev_aload_n (i := 0) dX10_agreed_0 rfl rfl ?_
  refine s_dVz (As := []) (m_isSea) (Nat.le_of_ble_eq_true rfl) lX10_196 kX10_isSea vX10_isSea dX10_agreed_1 rfl rfl rfl (by decide) rfl (Nat.le_of_ble_eq_true rfl) ?_
  rw [hbd]
  refine s_ifZ_ne (tgt := 10) dX10_agreed_4 (by decide) (fun h4 => ?_) (fun h4 => ?_)
  · refine ev_iload_n (i := 1) dX10_agreed_10 rfl rfl ?_
    refine ev_i2l dX10_agreed_11 ?_
    refine ev_lconst (v := 1) dX10_agreed_12 rfl ?_
    refine ev_ldc2 qX10_241 dX10_agreed_13 ?_
    refine s_dSz (As := [_, _, _]) (m_in _ 1 100 (by decide) (by decide)) (Nat.le_of_ble_eq_true rfl) lX10_64 kX10_in sX10_in dX10_agreed_16 rfl rfl (Nat.le_of_ble_eq_true rfl) ?_
    refine s_ifZ_eq (tgt := 32) dX10_agreed_19 (by decide) (fun h19 => ?_) (fun h19 => ?_)
    · refine ev_ldc qX10_79 dX10_agreed_32 ?_
      exact s_retI dX10_agreed_34 ⟨by rw [if_pos h4, if_neg (by first | (simp [h19]; done) | (simp [h29]; done))], fun _ _ => rfl⟩
    · refine ev_iload_n (i := 2) dX10_agreed_22 rfl rfl ?_
      refine ev_i2l dX10_agreed_23 ?_
      refine ev_lconst (v := 0) dX10_agreed_24 rfl ?_
      refine ev_lconst (v := 1) dX10_agreed_25 rfl ?_
      refine s_dSz (As := [_, _, _]) (m_in _ 0 1 (by decide) (by decide)) (Nat.le_of_ble_eq_true rfl) lX10_64 kX10_in sX10_in dX10_agreed_26 rfl rfl (Nat.le_of_ble_eq_true rfl) ?_
      refine s_ifZ_ne (tgt := 35) dX10_agreed_29 (by decide) (fun h29 => ?_) (fun h29 => ?_)
      · have eb : b = true := h4
        subst eb
        obtain ⟨-, h0, h0T, hk, hsok⟩ := hW.sea (Or.inr (Or.inr (Or.inr rfl)))
        obtain ⟨v, hv2, hv⟩ := hsok.2.2.1
        have hl := hsok.law
        have hfk := hsok.1
        obtain ⟨n, hn1, hn, rfl⟩ := nv_in_n (a := 1) (c := 100) h19 (by decide) (by decide)
        refine ev_aload_n (i := 0) dX10_agreed_35 rfl rfl ?_
        refine s_callVv (As := []) (m_asNow) (Nat.le_of_ble_eq_true rfl) lX10_205 kX10_asNow vX10_asNow dX10_agreed_36 rfl rfl rfl (by decide) rfl (Nat.le_of_ble_eq_true rfl) (fun J1 h1 => ?_)
        refine ev_iconst (v := 0) dX10_agreed_39 kc_0 ?_
        refine ev_istore_n (i := 3) dX10_agreed_40 rfl (Nat.le_of_ble_eq_true rfl) rfl ?_
        refine ev_ldc qX10_165 dX10_agreed_41 ?_
        refine ev_istore dX10_agreed_43 (Nat.le_of_ble_eq_true rfl) rfl ?_
        refine ev_iconst (v := 0) dX10_agreed_45 kc_0 ?_
        refine ev_istore dX10_agreed_46 (Nat.le_of_ble_eq_true rfl) rfl ?_
        refine s_postI (l_magreed (w := w) hW hn hv hv2 n 0 0 (0, -1000000) F J1 _ (by omega) (by omega) ⟨nI_0.symm, by simp⟩ h1.2 (hW.so h1.1) hfk hl (by rw [Nat.add_zero]; exact hv)) (fun r J q => ⟨?_, q.2⟩)
        rw [if_pos rfl, if_pos (by rw [h19, h29]; rfl), nI_clamp (by omega), hv, nI_clamp (by omega), q.1, Nat.add_zero]
      · refine ev_ldc qX10_79 dX10_agreed_32 ?_
        exact s_retI dX10_agreed_34 ⟨by rw [if_pos h4, if_neg (by first | (simp [h19]; done) | (simp [h29]; done))], fun _ _ => rfl⟩
  · refine ev_ldc qX10_199 dX10_agreed_7 ?_
    exact s_retI dX10_agreed_9 ⟨by rw [h4]; rfl, fun _ _ => rfl⟩
theorem m_wreck (hW : nm_W I b N T S C F) (x y n w : Int32) : nw_cI l g 5 mX10_wreck [.ref (nw_a g 219), .int x, .int y, .int n, .int w] I (fun r J => r = (if b then (if nv_in x 0 99 && (nv_in y 1 99 && (nv_in n 1 100 && nv_in w 0 1)) then (if w = 0 then (p_scan C T S (p_hitW C T (x - y)) n.toNatClampNeg (F 0).toNatClampNeg F (0, -1000000)).1 else (p_scan C T S (p_hitW C T (x - y)) n.toNatClampNeg (F 0).toNatClampNeg F (0, -1000000)).2) else -1000001) else -1000002) ∧ ∀ q, q ≠ 233 → J q = I q) := by
  refine ⟨(Nat.le_of_ble_eq_true rfl), ?_⟩
  obtain ⟨hb, hC, hF, hor⟩ := id hW
  have hbd := hW.bd
  have hN := hC.n
  have hT := hC.t
  have hS := hC.s
  have hN2 := hC.hN
  have hT3 := hC.hT
  have hS6 := hC.hS
  refine ev_aload_n (i := 0) dX10_wreck_0 rfl rfl ?_
  refine s_dVz (As := []) (m_isSea) (Nat.le_of_ble_eq_true rfl) lX10_196 kX10_isSea vX10_isSea dX10_wreck_1 rfl rfl rfl (by decide) rfl (Nat.le_of_ble_eq_true rfl) ?_
  rw [hbd]
  refine s_ifZ_ne (tgt := 10) dX10_wreck_4 (by decide) (fun h4 => ?_) (fun h4 => ?_)
  · refine ev_iload_n (i := 1) dX10_wreck_10 rfl rfl ?_
    refine ev_i2l dX10_wreck_11 ?_
    refine ev_lconst (v := 0) dX10_wreck_12 rfl ?_
    refine ev_ldc2 qX10_262 dX10_wreck_13 ?_
    refine s_dSz (As := [_, _, _]) (m_in _ 0 99 (by decide) (by decide)) (Nat.le_of_ble_eq_true rfl) lX10_64 kX10_in sX10_in dX10_wreck_16 rfl rfl (Nat.le_of_ble_eq_true rfl) ?_
    refine s_ifZ_eq (tgt := 57) dX10_wreck_19 (by decide) (fun h19 => ?_) (fun h19 => ?_)
    · refine ev_ldc qX10_79 dX10_wreck_57 ?_
      exact s_retI dX10_wreck_59 ⟨by rw [if_pos h4, if_neg (by first | (simp [h19]; done) | (simp [h31]; done) | (simp [h43]; done) | (simp [h54]; done))], fun _ _ => rfl⟩
    · refine ev_iload_n (i := 2) dX10_wreck_22 rfl rfl ?_
      refine ev_i2l dX10_wreck_23 ?_
      refine ev_lconst (v := 1) dX10_wreck_24 rfl ?_
      refine ev_ldc2 qX10_262 dX10_wreck_25 ?_
      refine s_dSz (As := [_, _, _]) (m_in _ 1 99 (by decide) (by decide)) (Nat.le_of_ble_eq_true rfl) lX10_64 kX10_in sX10_in dX10_wreck_28 rfl rfl (Nat.le_of_ble_eq_true rfl) ?_
      refine s_ifZ_eq (tgt := 57) dX10_wreck_31 (by decide) (fun h31 => ?_) (fun h31 => ?_)
      · refine ev_ldc qX10_79 dX10_wreck_57 ?_
        exact s_retI dX10_wreck_59 ⟨by rw [if_pos h4, if_neg (by first | (simp [h19]; done) | (simp [h31]; done) | (simp [h43]; done) | (simp [h54]; done))], fun _ _ => rfl⟩
      · refine ev_iload_n (i := 3) dX10_wreck_34 rfl rfl ?_
        refine ev_i2l dX10_wreck_35 ?_
        refine ev_lconst (v := 1) dX10_wreck_36 rfl ?_
        refine ev_ldc2 qX10_241 dX10_wreck_37 ?_
        refine s_dSz (As := [_, _, _]) (m_in _ 1 100 (by decide) (by decide)) (Nat.le_of_ble_eq_true rfl) lX10_64 kX10_in sX10_in dX10_wreck_40 rfl rfl (Nat.le_of_ble_eq_true rfl) ?_
        refine s_ifZ_eq (tgt := 57) dX10_wreck_43 (by decide) (fun h43 => ?_) (fun h43 => ?_)
        · refine ev_ldc qX10_79 dX10_wreck_57 ?_
          exact s_retI dX10_wreck_59 ⟨by rw [if_pos h4, if_neg (by first | (simp [h19]; done) | (simp [h31]; done) | (simp [h43]; done) | (simp [h54]; done))], fun _ _ => rfl⟩
        · refine ev_iload dX10_wreck_46 rfl ?_
          refine ev_i2l dX10_wreck_48 ?_
          refine ev_lconst (v := 0) dX10_wreck_49 rfl ?_
          refine ev_lconst (v := 1) dX10_wreck_50 rfl ?_
          refine s_dSz (As := [_, _, _]) (m_in _ 0 1 (by decide) (by decide)) (Nat.le_of_ble_eq_true rfl) lX10_64 kX10_in sX10_in dX10_wreck_51 rfl rfl (Nat.le_of_ble_eq_true rfl) ?_
          refine s_ifZ_ne (tgt := 60) dX10_wreck_54 (by decide) (fun h54 => ?_) (fun h54 => ?_)
          · have eb : b = true := h4
            subst eb
            obtain ⟨-, h0, h0T, hk, hsok⟩ := hW.sea (Or.inr (Or.inr (Or.inr rfl)))
            obtain ⟨v, hv2, hv⟩ := hsok.2.2.1
            have hl := hsok.law
            have hfk := hsok.1
            obtain ⟨n, hn1, hn, rfl⟩ := nv_in_n (a := 1) (c := 100) h43 (by decide) (by decide)
            refine ev_aload_n (i := 0) dX10_wreck_60 rfl rfl ?_
            refine s_callVv (As := []) (m_asNow) (Nat.le_of_ble_eq_true rfl) lX10_205 kX10_asNow vX10_asNow dX10_wreck_61 rfl rfl rfl (by decide) rfl (Nat.le_of_ble_eq_true rfl) (fun J1 h1 => ?_)
            refine ev_iconst (v := 0) dX10_wreck_64 kc_0 ?_
            refine ev_istore dX10_wreck_65 (Nat.le_of_ble_eq_true rfl) rfl ?_
            refine ev_ldc qX10_165 dX10_wreck_67 ?_
            refine ev_istore dX10_wreck_69 (Nat.le_of_ble_eq_true rfl) rfl ?_
            refine ev_iconst (v := 0) dX10_wreck_71 kc_0 ?_
            refine ev_istore dX10_wreck_72 (Nat.le_of_ble_eq_true rfl) rfl ?_
            refine s_postI (l_mwreck (w := w) (x := x) (y := y) hW hn hv hv2 n 0 0 (0, -1000000) F J1 _ (by omega) (by omega) ⟨nI_0.symm, by simp⟩ h1.2 (hW.so h1.1) hfk hl (by rw [Nat.add_zero]; exact hv)) (fun r J q => ⟨?_, q.2⟩)
            rw [if_pos rfl, if_pos (by rw [h19, h31, h43, h54]; rfl), nI_clamp (by omega), hv, nI_clamp (by omega), q.1, Nat.add_zero]
          · refine ev_ldc qX10_79 dX10_wreck_57 ?_
            exact s_retI dX10_wreck_59 ⟨by rw [if_pos h4, if_neg (by first | (simp [h19]; done) | (simp [h31]; done) | (simp [h43]; done) | (simp [h54]; done))], fun _ _ => rfl⟩
  · refine ev_ldc qX10_199 dX10_wreck_7 ?_
    exact s_retI dX10_wreck_9 ⟨by rw [h4]; rfl, fun _ _ => rfl⟩
theorem lN_draw {a : Nat} (ha : a < 2147483647) : lN a * 16807 - lN a * 16807 / 2147483647 * 2147483647 = lN (a * 16807 % 2147483647) := by
  have e : lN a * 16807 = lN (a * 16807) := lN_mul a 16807
  rw [e]
  exact pk_lRem (by omega) (by decide) (by decide)
theorem lN_dk {a : Nat} (ha : a < 2147483647) : (lN a - lN a / 5 * 5).toInt32 + 1 = nI (a % 5 + 1) := by
  have e : lN a - lN a / 5 * 5 = lN (a % 5) := pk_lRem (a := a) (b := 5) (by omega) (by decide) (by decide)
  rw [e, lN_i, nI_1]
theorem nI_kd {t : Nat} (h1 : 1 ≤ t) (h5 : t ≤ 5) : nv_kd (nI t) := by
  unfold nv_kd
  rcases (show t = 1 ∨ t = 2 ∨ t = 3 ∨ t = 4 ∨ t = 5 by omega) with rfl | rfl | rfl | rfl | rfl <;> decide

theorem l_mseason {n : Nat} {w y : Int32} (hW : nm_W I true N T S C F) (hn : n ≤ 100) : ∀ (m k a : Nat) (G : Nat → Int32) (J : nw_Me), k + m = n → a < 2147483647 → (∀ q, q ≠ 233 → J q = I q) → nl_F T S G (J 233) → nv_fok G S → ¬ G 1 ≤ 0 → nw_S l g 4 mX10_season 58 [some (.ref (nw_a g 219)), some (.int (nI n)), some (.int y), some (.int w), some (.long (lN a)), none, some (.int (nI k))] [] J (nw_qI (fun r K => r = nI (p_cnt (p_isf (p_seas C T S m (lN a) G) (w + 1)) S 0) ∧ ∀ q, q ≠ 233 → K q = I q)) := by
  obtain ⟨-, h0, h0T, hk, hsok⟩ := hW.sea (Or.inr (Or.inr (Or.inr rfl)))
  intro m
  induction m with
  | zero =>
    intro k a G J hkm ha hJ hG hfk hl
    have hC : nl_C N T S C (J 225) := by rw [hJ 225 (by decide)]; exact hW.2.1
    refine ev_iload dX10_season_58 rfl ?_
    refine ev_iload_n (i := 1) dX10_season_60 rfl rfl ?_
    refine ev_icmp_ge (tgt := 106) dX10_season_61 (by decide) (fun h61 => ?_) (fun h61 => ?_)
    · refine ev_aload_n (i := 0) dX10_season_106 rfl rfl ?_
      refine ev_iload_n (i := 3) dX10_season_107 rfl rfl ?_
      refine ev_iconst (v := 1) dX10_season_108 kc_1 ?_
      refine ev_iadd dX10_season_109 ?_
      refine s_dVi (As := [_]) (m_many hC hG _) (Nat.le_of_ble_eq_true rfl) lX10_238 kX10_many vX10_many dX10_season_110 rfl rfl rfl (by decide) rfl (Nat.le_of_ble_eq_true rfl) ?_
      exact s_retI dX10_season_113 ⟨rfl, hJ⟩
    · exact absurd (nI_le (by omega) (by omega)) h61
  | succ m ih =>
    intro k a G J hkm ha hJ hG hfk hl
    have hC : nl_C N T S C (J 225) := by rw [hJ 225 (by decide)]; exact hW.2.1
    have ha2 : a * 16807 % 2147483647 < 2147483647 := Nat.mod_lt _ (by decide)
    refine ev_iload dX10_season_58 rfl ?_
    refine ev_iload_n (i := 1) dX10_season_60 rfl rfl ?_
    refine ev_icmp_ge (tgt := 106) dX10_season_61 (by decide) (fun h61 => ?_) (fun h61 => ?_)
    · exact absurd h61 (nI_ge (by omega) (by omega))
    · refine ev_lload dX10_season_64 rfl ?_
      refine ev_ldc2 qX10_266 dX10_season_66 ?_
      refine ev_lmul dX10_season_69 ?_
      refine ev_ldc2 qX10_268 dX10_season_70 ?_
      refine ev_lrem dX10_season_73 (by decide) ?_
      rw [lN_draw ha]
      refine ev_lstore dX10_season_74 (Nat.le_of_ble_eq_true rfl) rfl ?_
      refine ev_aload_n (i := 0) dX10_season_76 rfl rfl ?_
      refine ev_lload dX10_season_77 rfl ?_
      refine ev_ldc2 qX10_270 dX10_season_79 ?_
      refine ev_lrem dX10_season_82 (by decide) ?_
      refine ev_l2i dX10_season_83 ?_
      refine ev_iconst (v := 1) dX10_season_84 kc_1 ?_
      refine ev_iadd dX10_season_85 ?_
      rw [lN_dk ha2]
      refine ev_lload dX10_season_86 rfl ?_
      refine ev_ldc2 qX10_270 dX10_season_88 ?_
      refine ev_ldiv dX10_season_91 (by decide) ?_
      refine ev_ldc2 qX10_272 dX10_season_92 ?_
      refine ev_lrem dX10_season_95 (by decide) ?_
      refine ev_l2i dX10_season_96 ?_
      refine s_callVv (As := [_, _]) (m_comes hC hfk hl hG (nI_kd (by omega) (by omega)) _) (Nat.le_of_ble_eq_true rfl) lX10_192 kX10_comes vX10_comes dX10_season_97 rfl rfl rfl (by decide) rfl (Nat.le_of_ble_eq_true rfl) (fun J1 h1 => ?_)
      refine ev_iincN (a := k) dX10_season_100 rfl (Nat.le_of_ble_eq_true rfl) rfl ?_
      refine ev_goto (tgt := 58) dX10_season_103 (by decide) ?_
      have ek : p_dk (p_draw (lN a)) = nI (a * 16807 % 2147483647 % 5 + 1) := by unfold p_dk p_draw; rw [lN_draw ha, Int32.add_comm, lN_dk ha2]
      have ed : p_draw (lN a) = lN (a * 16807 % 2147483647) := lN_draw ha
      have eh : p_dh (lN (a * 16807 % 2147483647)) = (lN (a * 16807 % 2147483647) / 5 - lN (a * 16807 % 2147483647) / 5 / 31 * 31).toInt32 := rfl
      rw [← ek, ← eh] at h1
      refine s_postI (ih (k + 1) _ _ J1 (by omega) ha2 (fun q hq => (h1.2 q hq).trans (hJ q hq)) h1.1 (p_come_fok hC.hT hC.hS hfk) (by rw [p_come_1]; exact hl)) (fun r K q => ⟨?_, q.2⟩)
      rw [q.1, ← ed]
      rfl
theorem m_season (hW : nm_W I b N T S C F) (n y w : Int32) : nw_cI l g 4 mX10_season [.ref (nw_a g 219), .int n, .int y, .int w] I (fun r J => r = (if b then (if nv_in n 0 100 && (nv_in y 1 999999 && nv_in w 0 1) then nI (p_cnt (p_isf (p_seas C T S n.toNatClampNeg y.toInt64 F) (if w = 0 then 1 else 2)) S 0) else -1000001) else -1000002) ∧ ∀ q, q ≠ 233 → J q = I q) := by
  refine ⟨(Nat.le_of_ble_eq_true rfl), ?_⟩
  obtain ⟨hb, hC, hF, hor⟩ := id hW
  have hbd := hW.bd
  have hN := hC.n
  have hT := hC.t
  have hS := hC.s
  have hN2 := hC.hN
  have hT3 := hC.hT
  have hS6 := hC.hS
  refine ev_aload_n (i := 0) dX10_season_0 rfl rfl ?_
  refine s_dVz (As := []) (m_isSea) (Nat.le_of_ble_eq_true rfl) lX10_196 kX10_isSea vX10_isSea dX10_season_1 rfl rfl rfl (by decide) rfl (Nat.le_of_ble_eq_true rfl) ?_
  rw [hbd]
  refine s_ifZ_ne (tgt := 10) dX10_season_4 (by decide) (fun h4 => ?_) (fun h4 => ?_)
  · refine ev_iload_n (i := 1) dX10_season_10 rfl rfl ?_
    refine ev_i2l dX10_season_11 ?_
    refine ev_lconst (v := 0) dX10_season_12 rfl ?_
    refine ev_ldc2 qX10_241 dX10_season_13 ?_
    refine s_dSz (As := [_, _, _]) (m_in _ 0 100 (by decide) (by decide)) (Nat.le_of_ble_eq_true rfl) lX10_64 kX10_in sX10_in dX10_season_16 rfl rfl (Nat.le_of_ble_eq_true rfl) ?_
    refine s_ifZ_eq (tgt := 44) dX10_season_19 (by decide) (fun h19 => ?_) (fun h19 => ?_)
    · refine ev_ldc qX10_79 dX10_season_44 ?_
      exact s_retI dX10_season_46 ⟨by rw [if_pos h4, if_neg (by first | (simp [h19]; done) | (simp [h31]; done) | (simp [h41]; done))], fun _ _ => rfl⟩
    · refine ev_iload_n (i := 2) dX10_season_22 rfl rfl ?_
      refine ev_i2l dX10_season_23 ?_
      refine ev_lconst (v := 1) dX10_season_24 rfl ?_
      refine ev_ldc2 qX10_264 dX10_season_25 ?_
      refine s_dSz (As := [_, _, _]) (m_in _ 1 999999 (by decide) (by decide)) (Nat.le_of_ble_eq_true rfl) lX10_64 kX10_in sX10_in dX10_season_28 rfl rfl (Nat.le_of_ble_eq_true rfl) ?_
      refine s_ifZ_eq (tgt := 44) dX10_season_31 (by decide) (fun h31 => ?_) (fun h31 => ?_)
      · refine ev_ldc qX10_79 dX10_season_44 ?_
        exact s_retI dX10_season_46 ⟨by rw [if_pos h4, if_neg (by first | (simp [h19]; done) | (simp [h31]; done) | (simp [h41]; done))], fun _ _ => rfl⟩
      · refine ev_iload_n (i := 3) dX10_season_34 rfl rfl ?_
        refine ev_i2l dX10_season_35 ?_
        refine ev_lconst (v := 0) dX10_season_36 rfl ?_
        refine ev_lconst (v := 1) dX10_season_37 rfl ?_
        refine s_dSz (As := [_, _, _]) (m_in _ 0 1 (by decide) (by decide)) (Nat.le_of_ble_eq_true rfl) lX10_64 kX10_in sX10_in dX10_season_38 rfl rfl (Nat.le_of_ble_eq_true rfl) ?_
        refine s_ifZ_ne (tgt := 47) dX10_season_41 (by decide) (fun h41 => ?_) (fun h41 => ?_)
        · have eb : b = true := h4
          subst eb
          obtain ⟨-, h0, h0T, hk, hsok⟩ := hW.sea (Or.inr (Or.inr (Or.inr rfl)))
          obtain ⟨v, hv2, hv⟩ := hsok.2.2.1
          have hl := hsok.law
          have hfk := hsok.1
          obtain ⟨n, hn1, hn, rfl⟩ := nv_in_n (a := 0) (c := 100) h19 (by decide) (by decide)
          obtain ⟨a, ha1, ha, rfl⟩ := nv_in_n (a := 1) (c := 999999) h31 (by decide) (by decide)
          refine ev_aload_n (i := 0) dX10_season_47 rfl rfl ?_
          refine s_callVv (As := []) (m_asNow) (Nat.le_of_ble_eq_true rfl) lX10_205 kX10_asNow vX10_asNow dX10_season_48 rfl rfl rfl (by decide) rfl (Nat.le_of_ble_eq_true rfl) (fun J1 h1 => ?_)
          refine ev_iload_n (i := 2) dX10_season_51 rfl rfl ?_
          refine ev_i2l dX10_season_52 ?_
          rw [nI_l (by omega)]
          refine ev_lstore dX10_season_53 (Nat.le_of_ble_eq_true rfl) rfl ?_
          refine ev_iconst (v := 0) dX10_season_55 kc_0 ?_
          refine ev_istore dX10_season_56 (Nat.le_of_ble_eq_true rfl) rfl ?_
          refine s_postI (l_mseason (w := w) hW hn n 0 a F J1 (by omega) (by omega) h1.2 (hW.so h1.1) hfk hl) (fun r J q => ⟨?_, q.2⟩)
          rw [if_pos rfl, if_pos (by rw [h19, h31, h41]; rfl), nI_clamp (by omega), q.1]
          rcases w01 h41 with rfl | rfl <;> rfl
        · refine ev_ldc qX10_79 dX10_season_44 ?_
          exact s_retI dX10_season_46 ⟨by rw [if_pos h4, if_neg (by first | (simp [h19]; done) | (simp [h31]; done) | (simp [h41]; done))], fun _ _ => rfl⟩
  · refine ev_ldc qX10_199 dX10_season_7 ?_
    exact s_retI dX10_season_9 ⟨by rw [h4]; rfl, fun _ _ => rfl⟩
end
