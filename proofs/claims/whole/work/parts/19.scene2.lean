section
variable {l : Launch} {g : nw_G} {I : nw_Me}
theorem p_cross_at (C : Nat → Int32) (w : Int32) (F : Nat → Int32) (o : Option Nat) {i : Nat} (h : i < 17) : p_cross C w F o i = F i := by
  cases o with
  | none => rfl
  | some s => simp only [p_cross, upd]; rw [if_neg (by omega), if_neg (by omega)]
theorem p_find_lt {F : Nat → Int32} {S : Nat} (hF : nv_fok F S) (h6 : S ≤ 6) (t : Int32) : ∀ (n p : Nat), p + n ≤ S → ∀ s, p_find F t n p = some s → s < S
  | 0, _, _, s, h => by cases h
  | n + 1, p, hp, s, h => by
    unfold p_find at h
    split at h
    · obtain ⟨s', h1, h2⟩ := hF p (by omega)
      rw [h2, nI_clamp (by omega)] at h
      cases h
      exact h1
    · exact p_find_lt hF h6 t n (p + 1) (by omega) s h
/-- one tower's turn leaves the order, the law, the other counts -/
def p_turn (C : Nat → Int32) (S : Nat) (k w : Int32) (t : Nat) (F : Nat → Int32) : Nat → Int32 := upd (if p_call C k F t then p_cross C w F (p_find F (nI t) S 0) else F) (2 + t) (F (2 + t) + p_more C k t)
theorem p_turn_at (C : Nat → Int32) (S : Nat) (k w : Int32) (t : Nat) (F : Nat → Int32) {i : Nat} (h : i < 17) (hi : i ≠ 2 + t) : p_turn C S k w t F i = F i := by
  unfold p_turn
  rw [pk_un hi]
  split
  · exact p_cross_at _ _ _ _ h
  · rfl
theorem p_turn_fok {C : Nat → Int32} {S : Nat} {k w : Int32} {t : Nat} {F : Nat → Int32} (h : nv_fok F S) (h6 : S ≤ 6) (ht : t < 3) : nv_fok (p_turn C S k w t F) S := fun p hp => by
  obtain ⟨s, h1, h2⟩ := h p hp
  exact ⟨s, h1, by rw [p_turn_at _ _ _ _ _ _ (by omega) (by omega)]; exact h2⟩
theorem p_turn_cnt (C : Nat → Int32) (S : Nat) (k w : Int32) (t : Nat) (F : Nat → Int32) (n : Nat) (h : t + 1 + n ≤ 3) : p_cnt (p_call C k (p_turn C S k w t F)) n (t + 1) = p_cnt (p_call C k F) n (t + 1) := p_cnt_ext n (t + 1) (fun j h1 h2 => by
  unfold p_call
  rw [p_turn_at _ _ _ _ _ _ (by omega) (by omega), p_turn_at _ _ _ _ _ _ (by omega) (by omega)])
theorem l_comeIn {a c T S : Nat} {C : Nat → Int32} (hs : nw_iSc a) (hc : nw_iCh c) (hd : c + 5 ≤ a ∨ a + 6 ≤ c) (hT : C 4 = nI T) (hT3 : T ≤ 3) (hS : C 5 = nI S) (hS6 : S ≤ 6) (k w : Int32) : ∀ (n t m : Nat) (J : nw_Me) (z : Option Value), t + n = T → nv_cf J c = C → nv_fok (nv_fl J a) S → nw_S l g 2 mX8_comeIn 6 [some (.ref (nw_a g a)), some (.ref (nw_a g c)), some (.int k), some (.int w), some (.int (nI m)), some (.int (nI t)), z] [] J (nw_qI (fun r I' => r = nI (m + p_cnt (p_call C k (nv_fl J a)) n t) ∧ nv_fl I' a = upd (p_tow C S k w n t (nv_fl J a)) 0 (p_tow C S k w n t (nv_fl J a) 0 + 1) ∧ nv_fr J I' a 6)) := by
  intro n
  induction n with
  | zero =>
    intro t m J z ht hC hF
    have hS' : J c 3 = nI T := (cf4 J c).symm.trans (by rw [hC]; exact hT)
    refine ev_iload dX8_comeIn_6 rfl ?_
    refine ev_aload_n (i := 1) dX8_comeIn_8 rfl rfl ?_
    refine ev_getI fX8_58 dX8_comeIn_9 hc.1 rfl (by decide) ?_
    refine ev_icmp_ge (tgt := 72) dX8_comeIn_12 (by decide) (fun h12 => ?_) (fun h12 => ?_)
    · refine ev_aload_n (i := 0) dX8_comeIn_72 rfl rfl ?_
      refine ev_dup dX8_comeIn_73 rfl ?_
      refine ev_getI fX8_33 dX8_comeIn_74 hs.1 rfl (by decide) ?_
      refine ev_iconst (v := 1) dX8_comeIn_77 kc_1 ?_
      refine ev_iadd dX8_comeIn_78 ?_
      refine ev_putI fX8_33 dX8_comeIn_79 hs.1 rfl (by decide) rfl rfl rfl rfl ?_
      refine ev_iload dX8_comeIn_82 rfl ?_
      exact s_retI dX8_comeIn_84 ⟨rfl, by rw [fl_w_up _ _ (by omega), ← fl0 J a]; rfl, (nv_fr.refl J a 6).up (by omega) (by omega)⟩
    · exact absurd (by rw [hS']; exact nI_le (by omega) (by omega)) h12
  | succ n ih =>
    intro t m J z ht hC hF
    have hS' : J c 3 = nI T := (cf4 J c).symm.trans (by rw [hC]; exact hT)
    refine ev_iload dX8_comeIn_6 rfl ?_
    refine ev_aload_n (i := 1) dX8_comeIn_8 rfl rfl ?_
    refine ev_getI fX8_58 dX8_comeIn_9 hc.1 rfl (by decide) ?_
    refine ev_icmp_ge (tgt := 72) dX8_comeIn_12 (by decide) (fun h12 => ?_) (fun h12 => ?_)
    · exact absurd h12 (by rw [hS']; exact nI_ge (by omega) (by omega))
    · refine ev_aload_n (i := 1) dX8_comeIn_15 rfl rfl ?_
      refine ev_iload dX8_comeIn_16 rfl ?_
      refine ev_iload_n (i := 2) dX8_comeIn_18 rfl rfl ?_
      refine s_dVi (As := [_, _]) (c_stepOf hc (show t < 3 by omega) k) (Nat.le_of_ble_eq_true rfl) lX8_61 kX2_stepOf vX2_stepOf dX8_comeIn_19 rfl rfl hc.1 (by decide) rfl (Nat.le_of_ble_eq_true rfl) ?_
      refine ev_istore dX8_comeIn_22 (Nat.le_of_ble_eq_true rfl) rfl ?_
      refine ev_aload_n (i := 0) dX8_comeIn_24 rfl rfl ?_
      refine ev_getR fX8_17 dX8_comeIn_25 hs.1 rfl (by decide) ?_
      refine ev_iload dX8_comeIn_28 rfl ?_
      refine ev_ialdN dX8_comeIn_30 hs.2.1 (show t < 3 by omega) (by decide) ?_
      refine ev_iload dX8_comeIn_31 rfl ?_
      refine ev_aload_n (i := 0) dX8_comeIn_33 rfl rfl ?_
      refine ev_getI fX8_9 dX8_comeIn_34 hs.1 rfl (by decide) ?_
      refine s_dNz (As := [_, _, _]) (c_calls _ _ _) (Nat.le_of_ble_eq_true rfl) lX8_65 kX9_calls sX9_calls dX8_comeIn_37 rfl rfl (Nat.le_of_ble_eq_true rfl) ?_
      refine s_ifZ_eq (tgt := 54) dX8_comeIn_40 (by decide) (fun h40 => ?_) (fun h40 => ?_)
      · refine ev_aload_n (i := 0) dX8_comeIn_54 rfl rfl ?_
        refine ev_getR fX8_17 dX8_comeIn_55 hs.1 rfl (by decide) ?_
        refine ev_iload dX8_comeIn_58 rfl ?_
        refine ev_dup2 dX8_comeIn_60 rfl rfl ?_
        refine ev_ialdN dX8_comeIn_61 hs.2.1 (show t < 3 by omega) (by decide) ?_
        refine ev_iload dX8_comeIn_62 rfl ?_
        refine ev_iadd dX8_comeIn_64 ?_
        refine ev_iastN dX8_comeIn_65 hs.2.1 (show t < 3 by omega) (by decide) ?_
        refine ev_iincm (m := 1) dX8_comeIn_66 kc_1 rfl (Nat.le_of_ble_eq_true rfl) rfl ?_
        refine ev_goto (tgt := 6) dX8_comeIn_69 (by decide) ?_
        first
          | (rw [p_cnt_t (by unfold p_call; rw [fl_cnt _ _ (by omega), fl1, ← hC]; exact h40) m, nI_1, nI_1]
             have ef : nv_fl (nw_up J1 (a + 1) t (J1 (a + 1) t + p_more (nv_cf J c) k t)) a = p_turn C S k w t (nv_fl J a) := by
               rw [fl_cnt_up _ _ (by omega), hq.1, hC]
               unfold p_turn
               have ec : p_call C k (nv_fl J a) t = true := by unfold p_call; rw [fl_cnt _ _ (by omega), fl1, ← hC]; exact h40
               rw [ec, if_pos rfl]
               congr 1
               have e1 := fl_cnt J1 a (show t < 3 by omega)
               rw [hq.1, p_cross_at _ _ _ _ (by omega)] at e1
               rw [← e1]
             refine s_postI (ih (t + 1) (m + 1) _ _ (by omega) ?_ ?_) (fun r I1 q => ?_)
             · rw [nv_cf_ext (I := J) (fun q h1 h2 => by rw [nw_up_ne (by omega)]; exact hq.2 q (by omega))]
               exact hC
             · rw [ef]
               exact p_turn_fok hF hS6 (by omega)
             · rw [ef, p_turn_cnt _ _ _ _ _ _ _ (by omega)] at q
               exact ⟨q.1, q.2.1, (hq.2.up (by omega) (by omega)).trans q.2.2⟩)
          | (rw [p_cnt_f (by unfold p_call; rw [fl_cnt _ _ (by omega), fl1, ← hC]; exact h40) m, nI_1]
             have ef : nv_fl (nw_up J (a + 1) t (J (a + 1) t + p_more (nv_cf J c) k t)) a = p_turn C S k w t (nv_fl J a) := by
               rw [fl_cnt_up _ _ (by omega), hC]
               unfold p_turn
               have ec : p_call C k (nv_fl J a) t = false := by unfold p_call; rw [fl_cnt _ _ (by omega), fl1, ← hC]; exact h40
               rw [ec, if_neg (by decide), fl_cnt _ _ (by omega)]
             refine s_postI (ih (t + 1) m _ _ (by omega) ?_ ?_) (fun r I1 q => ?_)
             · rw [nv_cf_ext (I := J) (fun q h1 h2 => by rw [nw_up_ne (by omega)])]
               exact hC
             · rw [ef]
               exact p_turn_fok hF hS6 (by omega)
             · rw [ef, p_turn_cnt _ _ _ _ _ _ _ (by omega)] at q
               exact ⟨q.1, q.2.1, ((nv_fr.refl J a 6).up (by omega) (by omega)).trans q.2.2⟩)
      · refine ev_iincm (m := 1) dX8_comeIn_43 kc_1 rfl (Nat.le_of_ble_eq_true rfl) rfl ?_
        refine ev_aload_n (i := 0) dX8_comeIn_46 rfl rfl ?_
        refine ev_aload_n (i := 1) dX8_comeIn_47 rfl rfl ?_
        refine ev_iload dX8_comeIn_48 rfl ?_
        refine ev_iload_n (i := 3) dX8_comeIn_50 rfl rfl ?_
        refine s_callVv (As := [_, _, _]) (c_cross (S := S) hs hc (by rw [hC]; exact hS) hS6 hF _ _) (Nat.le_of_ble_eq_true rfl) lX8_69 kX8_cross vX8_cross dX8_comeIn_51 rfl rfl hs.1 (by decide) rfl (Nat.le_of_ble_eq_true rfl) (fun J1 hq => ?_)
        rw [hC] at hq
        refine ev_aload_n (i := 0) dX8_comeIn_54 rfl rfl ?_
        refine ev_getR fX8_17 dX8_comeIn_55 hs.1 rfl (by decide) ?_
        refine ev_iload dX8_comeIn_58 rfl ?_
        refine ev_dup2 dX8_comeIn_60 rfl rfl ?_
        refine ev_ialdN dX8_comeIn_61 hs.2.1 (show t < 3 by omega) (by decide) ?_
        refine ev_iload dX8_comeIn_62 rfl ?_
        refine ev_iadd dX8_comeIn_64 ?_
        refine ev_iastN dX8_comeIn_65 hs.2.1 (show t < 3 by omega) (by decide) ?_
        refine ev_iincm (m := 1) dX8_comeIn_66 kc_1 rfl (Nat.le_of_ble_eq_true rfl) rfl ?_
        refine ev_goto (tgt := 6) dX8_comeIn_69 (by decide) ?_
        first
          | (rw [p_cnt_t (by unfold p_call; rw [fl_cnt _ _ (by omega), fl1, ← hC]; exact h40) m, nI_1, nI_1]
             have ef : nv_fl (nw_up J1 (a + 1) t (J1 (a + 1) t + p_more (nv_cf J c) k t)) a = p_turn C S k w t (nv_fl J a) := by
               rw [fl_cnt_up _ _ (by omega), hq.1, hC]
               unfold p_turn
               have ec : p_call C k (nv_fl J a) t = true := by unfold p_call; rw [fl_cnt _ _ (by omega), fl1, ← hC]; exact h40
               rw [ec, if_pos rfl]
               congr 1
               have e1 := fl_cnt J1 a (show t < 3 by omega)
               rw [hq.1, p_cross_at _ _ _ _ (by omega)] at e1
               rw [← e1]
             refine s_postI (ih (t + 1) (m + 1) _ _ (by omega) ?_ ?_) (fun r I1 q => ?_)
             · rw [nv_cf_ext (I := J) (fun q h1 h2 => by rw [nw_up_ne (by omega)]; exact hq.2 q (by omega))]
               exact hC
             · rw [ef]
               exact p_turn_fok hF hS6 (by omega)
             · rw [ef, p_turn_cnt _ _ _ _ _ _ _ (by omega)] at q
               exact ⟨q.1, q.2.1, (hq.2.up (by omega) (by omega)).trans q.2.2⟩)
          | (rw [p_cnt_f (by unfold p_call; rw [fl_cnt _ _ (by omega), fl1, ← hC]; exact h40) m, nI_1]
             have ef : nv_fl (nw_up J (a + 1) t (J (a + 1) t + p_more (nv_cf J c) k t)) a = p_turn C S k w t (nv_fl J a) := by
               rw [fl_cnt_up _ _ (by omega), hC]
               unfold p_turn
               have ec : p_call C k (nv_fl J a) t = false := by unfold p_call; rw [fl_cnt _ _ (by omega), fl1, ← hC]; exact h40
               rw [ec, if_neg (by decide), fl_cnt _ _ (by omega)]
             refine s_postI (ih (t + 1) m _ _ (by omega) ?_ ?_) (fun r I1 q => ?_)
             · rw [nv_cf_ext (I := J) (fun q h1 h2 => by rw [nw_up_ne (by omega)])]
               exact hC
             · rw [ef]
               exact p_turn_fok hF hS6 (by omega)
             · rw [ef, p_turn_cnt _ _ _ _ _ _ _ (by omega)] at q
               exact ⟨q.1, q.2.1, ((nv_fr.refl J a 6).up (by omega) (by omega)).trans q.2.2⟩)
theorem c_comeIn {a c T S : Nat} (hs : nw_iSc a) (hc : nw_iCh c) (hd : c + 5 ≤ a ∨ a + 6 ≤ c) (hT : nv_cf I c 4 = nI T) (hT3 : T ≤ 3) (hS : nv_cf I c 5 = nI S) (hS6 : S ≤ 6) (hF : nv_fok (nv_fl I a) S) (k w : Int32) : nw_cI l g 2 mX8_comeIn [.ref (nw_a g a), .ref (nw_a g c), .int k, .int w] I (fun r I' => r = nI (p_cnt (p_call (nv_cf I c) k (nv_fl I a)) T 0) ∧ nv_fl I' a = p_come (nv_cf I c) T S k w (nv_fl I a) ∧ nv_fr I I' a 6) := by
  refine ⟨(Nat.le_of_ble_eq_true rfl), ?_⟩
  refine ev_iconst (v := 0) dX8_comeIn_0 kc_0 ?_
  refine ev_istore dX8_comeIn_1 (Nat.le_of_ble_eq_true rfl) rfl ?_
  refine ev_iconst (v := 0) dX8_comeIn_3 kc_0 ?_
  refine ev_istore dX8_comeIn_4 (Nat.le_of_ble_eq_true rfl) rfl ?_
  have := l_comeIn (l := l) (g := g) hs hc hd hT hT3 hS hS6 k w T 0 0 I none (by omega) rfl hF
  rw [Nat.zero_add] at this
  exact this
theorem c_comeInBy {a c N T S v : Nat} (hs : nw_iSc a) (hc : nw_iCh c) (hd : c + 5 ≤ a ∨ a + 6 ≤ c) (hC : nv_cok (nv_cf I c) N T S) (h0 : 0 < N) (hF : nv_fok (nv_fl I a) S) (hv : nv_fl I a 0 = nI v) (hv2 : v < 2 ^ 31) : nw_cI l g 3 mX8_comeInBy [.ref (nw_a g a), .ref (nw_a g c)] I (fun r I' => r = nI (p_cnt (p_call (nv_cf I c) (p_kind (nv_cf I c) (nI v)) (nv_fl I a)) T 0) ∧ nv_fl I' a = p_by (nv_cf I c) T S (nv_fl I a) ∧ nv_fr I I' a 6) := by
  obtain ⟨hN, hT, hS, hN2, hT3, hS6⟩ := hC
  refine ⟨(Nat.le_of_ble_eq_true rfl), ?_⟩
  have hv' : I a 0 = nI v := (fl0 I a).symm.trans hv
  unfold p_by
  rw [hv]
  refine ev_aload_n (i := 0) dX8_comeInBy_0 rfl rfl ?_
  refine ev_aload_n (i := 1) dX8_comeInBy_1 rfl rfl ?_
  refine ev_aload_n (i := 1) dX8_comeInBy_2 rfl rfl ?_
  refine ev_aload_n (i := 0) dX8_comeInBy_3 rfl rfl ?_
  refine ev_getI fX8_33 dX8_comeInBy_4 hs.1 rfl (by decide) ?_
  rw [hv']
  refine s_dVi (As := [_]) (c_kindIn hc hN h0 hN2 hv2) (Nat.le_of_ble_eq_true rfl) lX8_47 kX2_kindIn vX2_kindIn dX8_comeInBy_7 rfl rfl hc.1 (by decide) rfl (Nat.le_of_ble_eq_true rfl) ?_
  refine ev_aload_n (i := 1) dX8_comeInBy_10 rfl rfl ?_
  refine ev_aload_n (i := 0) dX8_comeInBy_11 rfl rfl ?_
  refine ev_getI fX8_33 dX8_comeInBy_12 hs.1 rfl (by decide) ?_
  rw [hv']
  refine s_dVi (As := [_]) (c_waterIn hc hN h0 hN2 hv2) (Nat.le_of_ble_eq_true rfl) lX8_51 kX2_waterIn vX2_waterIn dX8_comeInBy_15 rfl rfl hc.1 (by decide) rfl (Nat.le_of_ble_eq_true rfl) ?_
  refine s_callVi (As := [_, _, _]) (c_comeIn hs hc hd hT hT3 hS hS6 hF _ _) (Nat.le_of_ble_eq_true rfl) lX8_54 kX8_comeIn vX8_comeIn dX8_comeInBy_18 rfl rfl hs.1 (by decide) rfl (Nat.le_of_ble_eq_true rfl) (fun r J1 hq => ?_)
  exact s_retI dX8_comeInBy_21 hq
theorem p_by_0 (C : Nat → Int32) {T S : Nat} (hT : T ≤ 3) {F : Nat → Int32} : p_by C T S F 0 = F 0 + 1 := by
  have h : ∀ (n t : Nat) (G : Nat → Int32) (k w : Int32), p_tow C S k w n t G 0 = G 0 := by
    intro n
    induction n with
    | zero => intro t G k w; rfl
    | succ n ih =>
      intro t G k w
      show p_tow C S k w n (t + 1) (p_turn C S k w t G) 0 = _
      rw [ih, p_turn_at _ _ _ _ _ _ (by omega) (by omega)]
  unfold p_by p_come
  rw [pk_us, h]
theorem p_tow_fok {C : Nat → Int32} {S : Nat} {k w : Int32} (h6 : S ≤ 6) : ∀ (n t : Nat) (F : Nat → Int32), t + n ≤ 3 → nv_fok F S → nv_fok (p_tow C S k w n t F) S
  | 0, _, _, _, h => h
  | n + 1, t, F, ht, h => p_tow_fok h6 n (t + 1) _ (by omega) (p_turn_fok h h6 (by omega))
theorem p_by_fok {C : Nat → Int32} {T S : Nat} (hT : T ≤ 3) (h6 : S ≤ 6) {F : Nat → Int32} (h : nv_fok F S) : nv_fok (p_by C T S F) S := fun p hp => by
  obtain ⟨s, h1, h2⟩ := p_tow_fok (C := C) (k := p_kind C (F 0)) (w := p_wat C (F 0)) h6 T 0 F (by omega) h p hp
  refine ⟨s, h1, ?_⟩
  unfold p_by p_come
  rw [pk_un (by omega)]
  exact h2
theorem l_pass {a c N T S : Nat} {C : Nat → Int32} (hs : nw_iSc a) (hc : nw_iCh c) (hd : c + 5 ≤ a ∨ a + 6 ≤ c) (hC : nv_cok C N T S) (h0 : 0 < N) (x : Nat) (hx : x < 2 ^ 30) : ∀ (n t v : Nat) (J : nw_Me), t + n = x → nv_cf J c = C → nv_fok (nv_fl J a) S → nv_fl J a 0 = nI v → v + n < 2 ^ 31 → nw_S l g 4 mX8_pass 2 [some (.ref (nw_a g a)), some (.ref (nw_a g c)), some (.int (nI x)), some (.int (nI t))] [] J (nw_qV (fun I' => nv_fl I' a = p_pass C T S n (nv_fl J a) ∧ nv_fr J I' a 6)) := by
  intro n
  induction n with
  | zero =>
    intro t v J ht hJ hF hv hv2
    refine ev_iload_n (i := 3) dX8_pass_2 rfl rfl ?_
    refine ev_iload_n (i := 2) dX8_pass_3 rfl rfl ?_
    refine ev_icmp_ge (tgt := 19) dX8_pass_4 (by decide) (fun h4 => ?_) (fun h4 => ?_)
    · exact s_retV dX8_pass_19 ⟨rfl, nv_fr.refl _ _ _⟩
    · exact absurd (nI_le (by omega) (by omega)) h4
  | succ n ih =>
    intro t v J ht hJ hF hv hv2
    refine ev_iload_n (i := 3) dX8_pass_2 rfl rfl ?_
    refine ev_iload_n (i := 2) dX8_pass_3 rfl rfl ?_
    refine ev_icmp_ge (tgt := 19) dX8_pass_4 (by decide) (fun h4 => ?_) (fun h4 => ?_)
    · exact absurd h4 (nI_ge (by omega) (by omega))
    · refine ev_aload_n (i := 0) dX8_pass_7 rfl rfl ?_
      refine ev_aload_n (i := 1) dX8_pass_8 rfl rfl ?_
      refine s_callVi (As := [_]) (c_comeInBy hs hc hd (by rw [hJ]; exact hC) h0 hF hv (by omega)) (Nat.le_of_ble_eq_true rfl) lX8_43 kX8_comeInBy vX8_comeInBy dX8_pass_9 rfl rfl hs.1 (by decide) rfl (Nat.le_of_ble_eq_true rfl) (fun r J1 hq => ?_)
      rw [hJ] at hq
      refine ev_pop dX8_pass_12 rfl ?_
      refine ev_iincm (m := 1) dX8_pass_13 kc_1 rfl (Nat.le_of_ble_eq_true rfl) rfl ?_
      refine ev_goto (tgt := 2) dX8_pass_16 (by decide) ?_
      rw [nI_1]
      refine s_postV (ih (t + 1) (v + 1) J1 (by omega) ?_ ?_ ?_ (by omega)) (fun I1 q => ?_)
      · rw [hq.2.2.cf (by omega)]
        exact hJ
      · rw [hq.2.1]
        exact p_by_fok hC.2.2.2.2.1 hC.2.2.2.2.2 hF
      · rw [hq.2.1, p_by_0 C hC.2.2.2.2.1, hv, nI_1]
      · rw [hq.2.1] at q
        exact ⟨q.1, hq.2.2.trans q.2⟩
theorem c_pass {a c N T S v x : Nat} (hs : nw_iSc a) (hc : nw_iCh c) (hd : c + 5 ≤ a ∨ a + 6 ≤ c) (hC : nv_cok (nv_cf I c) N T S) (h0 : 0 < N) (hF : nv_fok (nv_fl I a) S) (hv : nv_fl I a 0 = nI v) (hx : x < 2 ^ 30) (hv2 : v < 2 ^ 30) : nw_cV l g 4 mX8_pass [.ref (nw_a g a), .ref (nw_a g c), .int (nI x)] I (fun I' => nv_fl I' a = p_pass (nv_cf I c) T S x (nv_fl I a) ∧ nv_fr I I' a 6) := by
  refine ⟨(Nat.le_of_ble_eq_true rfl), ?_⟩
  refine ev_iconst (v := 0) dX8_pass_0 kc_0 ?_
  refine ev_istore_n (i := 3) dX8_pass_1 rfl (Nat.le_of_ble_eq_true rfl) rfl ?_
  exact l_pass hs hc hd hC h0 x hx x 0 v I (by omega) rfl hF hv (by omega)
end
