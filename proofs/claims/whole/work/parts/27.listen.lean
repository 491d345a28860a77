section
variable {l : Launch} {g : nw_G} {I : nw_Me}
/-- the waters of the first waves that tower t calls -/
def p_hear (C : Nat → Int32) (law : Int32) (t : Nat) : Nat → Nat → Int32 → Nat → (Nat → Int32) → Nat × (Nat → Int32)
  | 0, _, _, h, W => (h, W)
  | n + 1, w, c, h, W => if h < 6 ∧ nv_calls c (p_more C (p_kind C (nI w)) t) law = true then p_hear C law t n (w + 1) (c + p_more C (p_kind C (nI w)) t) (h + 1) (upd W h (p_wat C (nI w))) else p_hear C law t n (w + 1) (c + p_more C (p_kind C (nI w)) t) h W
theorem p_hear_le {C : Nat → Int32} {law : Int32} {t : Nat} : ∀ (n w : Nat) (c : Int32) (h : Nat) (W : Nat → Int32), h ≤ 6 → (p_hear C law t n w c h W).1 ≤ 6
  | 0, _, _, _, _, hh => hh
  | n + 1, w, c, h, W, hh => by
    unfold p_hear
    split
    · rename_i q
      exact p_hear_le n _ _ _ _ (by omega)
    · exact p_hear_le n _ _ _ _ hh
theorem l_hear {N T S v n t : Nat} {C F : Nat → Int32} (hCk : nv_cok C N T S) (h0 : 0 < N) (hv : F 0 = nI v) (hvn : v + n < 2 ^ 30) (ht : t < T) {Post : Option Int32 → List nw_Sh → nw_Me → Prop} : ∀ (m w : Nat) (c : Int32) (h : Nat) (J : nw_Me) (z : Option Value), w + m = v + n → h ≤ 6 → J 188 t = nI h → nv_cf J 15 = C → nv_fl J 25 = F → (∀ (J1 : nw_Me) (c1 : Int32) (z1 : Option Value), J1 188 t = nI (p_hear C (F 1) t m w c h (J (185 + t))).1 → J1 (185 + t) = (p_hear C (F 1) t m w c h (J (185 + t))).2 → (∀ j, j ≠ t → J1 188 j = J 188 j) → (∀ q, q ≠ 188 → q ≠ 185 + t → J1 q = J q) → nw_S l g 3 mX5_listen 131 [some (.ref (nw_a g 183)), some (.ref (nw_a g 15)), some (.ref (nw_a g 25)), some (.int (nI n)), some (.int (nI t)), some (.int c1), some (.int (nI (v + n))), z1] [] J1 Post) → nw_S l g 3 mX5_listen 35 [some (.ref (nw_a g 183)), some (.ref (nw_a g 15)), some (.ref (nw_a g 25)), some (.int (nI n)), some (.int (nI t)), some (.int c), some (.int (nI w)), z] [] J Post := by
  obtain ⟨hN, hT, hS, hN2, hT3, hS6⟩ := hCk
  have e6 : (6 : Int32) = nI 6 := by decide
  intro m
  induction m with
  | zero =>
    intro w c h J z hw hh hJh hC hF k
    have hv' : J 25 0 = nI v := (fl0 J 25).symm.trans (by rw [hF]; exact hv)
    have e : w = v + n := by omega
    subst e
    refine ev_iload dX5_listen_35 rfl ?_
    refine ev_aload_n (i := 2) dX5_listen_37 rfl rfl ?_
    refine ev_getI fX5_38 dX5_listen_38 rfl rfl (by decide) ?_
    rw [hv']
    refine ev_iload_n (i := 3) dX5_listen_41 rfl rfl ?_
    refine ev_iadd dX5_listen_42 ?_
    rw [nI_add]
    refine ev_icmp_ge (tgt := 131) dX5_listen_43 (by decide) (fun h43 => ?_) (fun h43 => ?_)
    · exact k J c z hJh rfl (fun _ _ => rfl) (fun _ _ _ => rfl)
    · exact absurd (nI_le (by omega) (by omega)) h43
  | succ m ih =>
    intro w c h J z hw hh hJh hC hF k
    have hv' : J 25 0 = nI v := (fl0 J 25).symm.trans (by rw [hF]; exact hv)
    have hl' : J 25 1 = F 1 := (fl1 J 25).symm.trans (by rw [hF])
    have hN' : nv_cf J 15 3 = nI N := by rw [hC]; exact hN
    refine ev_iload dX5_listen_35 rfl ?_
    refine ev_aload_n (i := 2) dX5_listen_37 rfl rfl ?_
    refine ev_getI fX5_38 dX5_listen_38 rfl rfl (by decide) ?_
    rw [hv']
    refine ev_iload_n (i := 3) dX5_listen_41 rfl rfl ?_
    refine ev_iadd dX5_listen_42 ?_
    rw [nI_add]
    refine ev_icmp_ge (tgt := 131) dX5_listen_43 (by decide) (fun h43 => ?_) (fun h43 => ?_)
    · exact absurd h43 (nI_ge (by omega) (by omega))
    · refine ev_aload_n (i := 1) dX5_listen_46 rfl rfl ?_
      refine ev_iload dX5_listen_47 rfl ?_
      refine ev_aload_n (i := 1) dX5_listen_49 rfl rfl ?_
      refine ev_iload dX5_listen_50 rfl ?_
      refine s_dVi (As := [_]) (c_kindIn nw_ch15 hN' h0 hN2 (by omega)) (Nat.le_of_ble_eq_true rfl) lX5_41 kX2_kindIn vX2_kindIn dX5_listen_52 rfl rfl rfl (by decide) rfl (Nat.le_of_ble_eq_true rfl) ?_
      rw [hC]
      refine s_dVi (As := [_, _]) (c_stepOf nw_ch15 (show t < 3 by omega) _) (Nat.le_of_ble_eq_true rfl) lX5_45 kX2_stepOf vX2_stepOf dX5_listen_55 rfl rfl rfl (by decide) rfl (Nat.le_of_ble_eq_true rfl) ?_
      rw [hC]
      refine ev_istore dX5_listen_58 (Nat.le_of_ble_eq_true rfl) rfl ?_
      refine ev_aload_n (i := 0) dX5_listen_60 rfl rfl ?_
      refine ev_getR fX5_16 dX5_listen_61 rfl rfl (by decide) ?_
      refine ev_iload dX5_listen_64 rfl ?_
      refine ev_ialdN dX5_listen_66 rfl (show t < 3 by omega) (by decide) ?_
      rw [hJh]
      refine ev_bipush (v := 6) dX5_listen_67 kb_6 ?_
      refine ev_icmp_ge (tgt := 118) dX5_listen_69 (by decide) (fun h69 => ?_) (fun h69 => ?_)
      · refine ev_iload dX5_listen_118 rfl ?_
        refine ev_iload dX5_listen_120 rfl ?_
        refine ev_iadd dX5_listen_122 ?_
        refine ev_istore dX5_listen_123 (Nat.le_of_ble_eq_true rfl) rfl ?_
        refine ev_iincm (m := 1) dX5_listen_125 kc_1 rfl (Nat.le_of_ble_eq_true rfl) rfl ?_
        refine ev_goto (tgt := 35) dX5_listen_128 (by decide) ?_
        first
          | (have e : p_hear C (F 1) t (m + 1) w c h (J (185 + t)) = p_hear C (F 1) t m (w + 1) (c + p_more C (p_kind C (nI w)) t) h (J (185 + t)) := by
               conv => lhs; unfold p_hear
               rw [if_neg (fun q => absurd h69 (by rw [e6]; exact nI_ge q.1 (by decide)))]
             rw [nI_1]
             exact ih (w + 1) _ h J _ (by omega) hh hJh hC hF (fun J1 c1 z1 g1 g2 g3 g4 => k J1 c1 z1 (by rw [e]; exact g1) (by rw [e]; exact g2) g3 g4))
          | (have e : p_hear C (F 1) t (m + 1) w c h (J (185 + t)) = p_hear C (F 1) t m (w + 1) (c + p_more C (p_kind C (nI w)) t) h (J (185 + t)) := by
               conv => lhs; unfold p_hear
               rw [if_neg (fun q => absurd q.2 (by rw [h83]; decide))]
             rw [nI_1]
             exact ih (w + 1) _ h J _ (by omega) hh hJh hC hF (fun J1 c1 z1 g1 g2 g3 g4 => k J1 c1 z1 (by rw [e]; exact g1) (by rw [e]; exact g2) g3 g4))
          | (have e : p_hear C (F 1) t (m + 1) w c h (J (185 + t)) = p_hear C (F 1) t m (w + 1) (c + p_more C (p_kind C (nI w)) t) (h + 1) (upd (J (185 + t)) h (p_wat C (nI w))) := by
               conv => lhs; unfold p_hear
               rw [if_pos ⟨hlt, h83⟩]
             rw [nI_1]
             have e2 : nw_up (nw_up J (185 + t) h (p_wat C (nI w))) 188 t (nI (h + 1)) (185 + t) = upd (J (185 + t)) h (p_wat C (nI w)) := by rw [nw_up_ne (by omega), nw_up_self]
             refine ih (w + 1) _ (h + 1) (nw_up (nw_up J (185 + t) h (p_wat C (nI w))) 188 t (nI (h + 1))) _ (by omega) (by omega) (by rw [nw_up_self, pk_us]) ?_ ?_ (fun J1 c1 z1 g1 g2 g3 g4 => k J1 c1 z1 (by rw [e, ← e2]; exact g1) (by rw [e, ← e2]; exact g2) (fun j hj => ?_) (fun q q1 q2 => ?_))
             · rw [nv_cf_ext (I := J) (fun x x1 x2 => by rw [nw_up_ne (by omega), nw_up_ne (by omega)])]
               exact hC
             · rw [nv_fl_ext (I := J) (fun x x1 x2 => by rw [nw_up_ne (by omega), nw_up_ne (by omega)])]
               exact hF
             · rw [g3 j hj, nw_up_self, pk_un hj, nw_up_ne (by omega)]
             · rw [g4 q q1 q2, nw_up_ne q1, nw_up_ne q2])
      · refine ev_iload dX5_listen_72 rfl ?_
        refine ev_iload dX5_listen_74 rfl ?_
        refine ev_aload_n (i := 2) dX5_listen_76 rfl rfl ?_
        refine ev_getI fX5_49 dX5_listen_77 rfl rfl (by decide) ?_
        rw [hl']
        refine s_dNz (As := [_, _, _]) (c_calls _ _ _) (Nat.le_of_ble_eq_true rfl) lX5_52 kX9_calls sX9_calls dX5_listen_80 rfl rfl (Nat.le_of_ble_eq_true rfl) ?_
        refine s_ifZ_eq (tgt := 118) dX5_listen_83 (by decide) (fun h83 => ?_) (fun h83 => ?_)
        · refine ev_iload dX5_listen_118 rfl ?_
          refine ev_iload dX5_listen_120 rfl ?_
          refine ev_iadd dX5_listen_122 ?_
          refine ev_istore dX5_listen_123 (Nat.le_of_ble_eq_true rfl) rfl ?_
          refine ev_iincm (m := 1) dX5_listen_125 kc_1 rfl (Nat.le_of_ble_eq_true rfl) rfl ?_
          refine ev_goto (tgt := 35) dX5_listen_128 (by decide) ?_
          first
            | (have e : p_hear C (F 1) t (m + 1) w c h (J (185 + t)) = p_hear C (F 1) t m (w + 1) (c + p_more C (p_kind C (nI w)) t) h (J (185 + t)) := by
                 conv => lhs; unfold p_hear
                 rw [if_neg (fun q => absurd h69 (by rw [e6]; exact nI_ge q.1 (by decide)))]
               rw [nI_1]
               exact ih (w + 1) _ h J _ (by omega) hh hJh hC hF (fun J1 c1 z1 g1 g2 g3 g4 => k J1 c1 z1 (by rw [e]; exact g1) (by rw [e]; exact g2) g3 g4))
            | (have e : p_hear C (F 1) t (m + 1) w c h (J (185 + t)) = p_hear C (F 1) t m (w + 1) (c + p_more C (p_kind C (nI w)) t) h (J (185 + t)) := by
                 conv => lhs; unfold p_hear
                 rw [if_neg (fun q => absurd q.2 (by rw [h83]; decide))]
               rw [nI_1]
               exact ih (w + 1) _ h J _ (by omega) hh hJh hC hF (fun J1 c1 z1 g1 g2 g3 g4 => k J1 c1 z1 (by rw [e]; exact g1) (by rw [e]; exact g2) g3 g4))
            | (have e : p_hear C (F 1) t (m + 1) w c h (J (185 + t)) = p_hear C (F 1) t m (w + 1) (c + p_more C (p_kind C (nI w)) t) (h + 1) (upd (J (185 + t)) h (p_wat C (nI w))) := by
                 conv => lhs; unfold p_hear
                 rw [if_pos ⟨hlt, h83⟩]
               rw [nI_1]
               have e2 : nw_up (nw_up J (185 + t) h (p_wat C (nI w))) 188 t (nI (h + 1)) (185 + t) = upd (J (185 + t)) h (p_wat C (nI w)) := by rw [nw_up_ne (by omega), nw_up_self]
               refine ih (w + 1) _ (h + 1) (nw_up (nw_up J (185 + t) h (p_wat C (nI w))) 188 t (nI (h + 1))) _ (by omega) (by omega) (by rw [nw_up_self, pk_us]) ?_ ?_ (fun J1 c1 z1 g1 g2 g3 g4 => k J1 c1 z1 (by rw [e, ← e2]; exact g1) (by rw [e, ← e2]; exact g2) (fun j hj => ?_) (fun q q1 q2 => ?_))
               · rw [nv_cf_ext (I := J) (fun x x1 x2 => by rw [nw_up_ne (by omega), nw_up_ne (by omega)])]
                 exact hC
               · rw [nv_fl_ext (I := J) (fun x x1 x2 => by rw [nw_up_ne (by omega), nw_up_ne (by omega)])]
                 exact hF
               · rw [g3 j hj, nw_up_self, pk_un hj, nw_up_ne (by omega)]
               · rw [g4 q q1 q2, nw_up_ne q1, nw_up_ne q2])
        · have hlt : h < 6 := Nat.not_le.mp (fun q => h69 (by rw [e6]; exact nI_le q (by omega)))
          refine ev_aload_n (i := 0) dX5_listen_86 rfl rfl ?_
          refine ev_getR fX5_11 dX5_listen_87 rfl rfl (by decide) ?_
          refine ev_iload dX5_listen_90 rfl ?_
          refine ev_aaldN (t := 4) (q := 185 + t) rfl rfl dX5_listen_92 rfl (show t < 3 by omega) (by decide) (nw_wa_get t (by omega)) ?_
          refine ev_aload_n (i := 0) dX5_listen_93 rfl rfl ?_
          refine ev_getR fX5_16 dX5_listen_94 rfl rfl (by decide) ?_
          refine ev_iload dX5_listen_97 rfl ?_
          refine ev_ialdN dX5_listen_99 rfl (show t < 3 by omega) (by decide) ?_
          rw [hJh]
          refine ev_aload_n (i := 1) dX5_listen_100 rfl rfl ?_
          refine ev_iload dX5_listen_101 rfl ?_
          refine s_dVi (As := [_]) (c_waterIn nw_ch15 hN' h0 hN2 (by omega)) (Nat.le_of_ble_eq_true rfl) lX5_58 kX2_waterIn vX2_waterIn dX5_listen_103 rfl rfl rfl (by decide) rfl (Nat.le_of_ble_eq_true rfl) ?_
          rw [hC]
          refine ev_iastN dX5_listen_106 (nw_wa_sh t (by omega)) (show h < 6 by omega) (by decide) ?_
          refine ev_aload_n (i := 0) dX5_listen_107 rfl rfl ?_
          refine ev_getR fX5_16 dX5_listen_108 rfl rfl (by decide) ?_
          refine ev_iload dX5_listen_111 rfl ?_
          refine ev_dup2 dX5_listen_113 rfl rfl ?_
          refine ev_ialdN dX5_listen_114 rfl (show t < 3 by omega) (by decide) ?_
          rw [nw_up_ne (by omega), hJh]
          refine ev_iconst (v := 1) dX5_listen_115 kc_1 ?_
          refine ev_iadd dX5_listen_116 ?_
          rw [nI_1]
          refine ev_iastN dX5_listen_117 rfl (show t < 3 by omega) (by decide) ?_
          refine ev_iload dX5_listen_118 rfl ?_
          refine ev_iload dX5_listen_120 rfl ?_
          refine ev_iadd dX5_listen_122 ?_
          refine ev_istore dX5_listen_123 (Nat.le_of_ble_eq_true rfl) rfl ?_
          refine ev_iincm (m := 1) dX5_listen_125 kc_1 rfl (Nat.le_of_ble_eq_true rfl) rfl ?_
          refine ev_goto (tgt := 35) dX5_listen_128 (by decide) ?_
          first
            | (have e : p_hear C (F 1) t (m + 1) w c h (J (185 + t)) = p_hear C (F 1) t m (w + 1) (c + p_more C (p_kind C (nI w)) t) h (J (185 + t)) := by
                 conv => lhs; unfold p_hear
                 rw [if_neg (fun q => absurd h69 (by rw [e6]; exact nI_ge q.1 (by decide)))]
               rw [nI_1]
               exact ih (w + 1) _ h J _ (by omega) hh hJh hC hF (fun J1 c1 z1 g1 g2 g3 g4 => k J1 c1 z1 (by rw [e]; exact g1) (by rw [e]; exact g2) g3 g4))
            | (have e : p_hear C (F 1) t (m + 1) w c h (J (185 + t)) = p_hear C (F 1) t m (w + 1) (c + p_more C (p_kind C (nI w)) t) h (J (185 + t)) := by
                 conv => lhs; unfold p_hear
                 rw [if_neg (fun q => absurd q.2 (by rw [h83]; decide))]
               rw [nI_1]
               exact ih (w + 1) _ h J _ (by omega) hh hJh hC hF (fun J1 c1 z1 g1 g2 g3 g4 => k J1 c1 z1 (by rw [e]; exact g1) (by rw [e]; exact g2) g3 g4))
            | (have e : p_hear C (F 1) t (m + 1) w c h (J (185 + t)) = p_hear C (F 1) t m (w + 1) (c + p_more C (p_kind C (nI w)) t) (h + 1) (upd (J (185 + t)) h (p_wat C (nI w))) := by
                 conv => lhs; unfold p_hear
                 rw [if_pos ⟨hlt, h83⟩]
               rw [nI_1]
               have e2 : nw_up (nw_up J (185 + t) h (p_wat C (nI w))) 188 t (nI (h + 1)) (185 + t) = upd (J (185 + t)) h (p_wat C (nI w)) := by rw [nw_up_ne (by omega), nw_up_self]
               refine ih (w + 1) _ (h + 1) (nw_up (nw_up J (185 + t) h (p_wat C (nI w))) 188 t (nI (h + 1))) _ (by omega) (by omega) (by rw [nw_up_self, pk_us]) ?_ ?_ (fun J1 c1 z1 g1 g2 g3 g4 => k J1 c1 z1 (by rw [e, ← e2]; exact g1) (by rw [e, ← e2]; exact g2) (fun j hj => ?_) (fun q q1 q2 => ?_))
               · rw [nv_cf_ext (I := J) (fun x x1 x2 => by rw [nw_up_ne (by omega), nw_up_ne (by omega)])]
                 exact hC
               · rw [nv_fl_ext (I := J) (fun x x1 x2 => by rw [nw_up_ne (by omega), nw_up_ne (by omega)])]
                 exact hF
               · rw [g3 j hj, nw_up_self, pk_un hj, nw_up_ne (by omega)]
               · rw [g4 q q1 q2, nw_up_ne q1, nw_up_ne q2])
theorem l_listen {N T S v n : Nat} {C F : Nat → Int32} (hCk : nv_cok C N T S) (h0 : 0 < N) (hv : F 0 = nI v) (hvn : v + n < 2 ^ 30) : ∀ (m t : Nat) (J : nw_Me) (z5 z6 z7 : Option Value), t + m = T → nv_cf J 15 = C → nv_fl J 25 = F → (∀ j, t ≤ j → j < T → J (185 + j) = I (185 + j)) → (∀ q, ¬ (185 ≤ q ∧ q ≤ 188) → J q = I q) → nw_S l g 3 mX5_listen 3 [some (.ref (nw_a g 183)), some (.ref (nw_a g 15)), some (.ref (nw_a g 25)), some (.int (nI n)), some (.int (nI t)), z5, z6, z7] [] J (nw_qV (fun I' => (∀ j, j < t → I' 188 j = J 188 j ∧ I' (185 + j) = J (185 + j)) ∧ (∀ t, t ≤ t → t < T → True) ∧ (∀ j, t ≤ j → j < T → I' 188 j = nI (p_hear C (F 1) j n v (F (2 + j)) 0 (I (185 + j))).1 ∧ I' (185 + j) = (p_hear C (F 1) j n v (F (2 + j)) 0 (I (185 + j))).2) ∧ ∀ q, ¬ (185 ≤ q ∧ q ≤ 188) → I' q = I q)) := by
  have hCk' := hCk
  obtain ⟨hN, hT, hS, hN2, hT3, hS6⟩ := hCk'
  intro m
  induction m with
  | zero =>
    intro t J z5 z6 z7 ht hC hF hW hQ
    have hT' : J 15 3 = nI T := (cf4 J 15).symm.trans (by rw [hC]; exact hT)
    refine ev_iload dX5_listen_3 rfl ?_
    refine ev_aload_n (i := 1) dX5_listen_5 rfl rfl ?_
    refine ev_getI fX5_29 dX5_listen_6 rfl rfl (by decide) ?_
    refine ev_icmp_ge (tgt := 137) dX5_listen_9 (by decide) (fun h9 => ?_) (fun h9 => ?_)
    · exact s_retV dX5_listen_137 ⟨fun _ _ => ⟨rfl, rfl⟩, fun _ _ _ => trivial, fun j h1 h2 => by omega, hQ⟩
    · exact absurd (by rw [hT']; exact nI_le (by omega) (by omega)) h9
  | succ m ih =>
    intro t J z5 z6 z7 ht hC hF hW hQ
    have hT' : J 15 3 = nI T := (cf4 J 15).symm.trans (by rw [hC]; exact hT)
    have hv' : J 25 0 = nI v := (fl0 J 25).symm.trans (by rw [hF]; exact hv)
    refine ev_iload dX5_listen_3 rfl ?_
    refine ev_aload_n (i := 1) dX5_listen_5 rfl rfl ?_
    refine ev_getI fX5_29 dX5_listen_6 rfl rfl (by decide) ?_
    refine ev_icmp_ge (tgt := 137) dX5_listen_9 (by decide) (fun h9 => ?_) (fun h9 => ?_)
    · exact absurd h9 (by rw [hT']; exact nI_ge (by omega) (by omega))
    · refine ev_aload_n (i := 0) dX5_listen_12 rfl rfl ?_
      refine ev_getR fX5_16 dX5_listen_13 rfl rfl (by decide) ?_
      refine ev_iload dX5_listen_16 rfl ?_
      refine ev_iconst (v := 0) dX5_listen_18 kc_0 ?_
      refine ev_iastN dX5_listen_19 rfl (show t < 3 by omega) (by decide) ?_
      refine ev_aload_n (i := 2) dX5_listen_20 rfl rfl ?_
      refine ev_getR fX5_33 dX5_listen_21 rfl rfl (by decide) ?_
      refine ev_iload dX5_listen_24 rfl ?_
      refine ev_ialdN dX5_listen_26 rfl (show t < 3 by omega) (by decide) ?_
      rw [nw_up_ne (by decide), show J 26 t = F (2 + t) from (fl_cnt J 25 (show t < 3 by omega)).symm.trans (by rw [hF])]
      refine ev_istore dX5_listen_27 (Nat.le_of_ble_eq_true rfl) rfl ?_
      refine ev_aload_n (i := 2) dX5_listen_29 rfl rfl ?_
      refine ev_getI fX5_38 dX5_listen_30 rfl rfl (by decide) ?_
      rw [nw_up_ne (by decide), hv']
      refine ev_istore dX5_listen_33 (Nat.le_of_ble_eq_true rfl) rfl ?_
      have eC : nv_cf (nw_up J 188 t 0) 15 = C := by rw [nv_cf_ext (I := J) (fun x x1 x2 => nw_up_ne (by omega))]; exact hC
      have eF : nv_fl (nw_up J 188 t 0) 25 = F := by rw [nv_fl_ext (I := J) (fun x x1 x2 => nw_up_ne (by omega))]; exact hF
      refine l_hear hCk h0 hv hvn (show t < T by omega) n v _ 0 (nw_up J 188 t 0) _ rfl (by omega) (by rw [nw_up_self, pk_us, nI_0]) eC eF (fun J1 c1 z1 g1 g2 g3 g4 => ?_)
      refine ev_iincm (m := 1) dX5_listen_131 kc_1 rfl (Nat.le_of_ble_eq_true rfl) rfl ?_
      refine ev_goto (tgt := 3) dX5_listen_134 (by decide) ?_
      rw [nI_1]
      rw [nw_up_ne (by omega), hW t (Nat.le_refl _) (by omega)] at g1 g2
      refine s_postV (ih (t + 1) J1 _ _ _ (by omega) ?_ ?_ (fun j h1 h2 => ?_) (fun q hq => ?_)) (fun I1 q => ⟨fun j hj => ?_, fun _ _ _ => trivial, fun j h1 h2 => ?_, q.2.2.2⟩)
      · rw [nv_cf_ext (I := nw_up J 188 t 0) (fun x x1 x2 => g4 x (by omega) (by omega))]
        exact eC
      · rw [nv_fl_ext (I := nw_up J 188 t 0) (fun x x1 x2 => g4 x (by omega) (by omega))]
        exact eF
      · rw [g4 _ (by omega) (by omega), nw_up_ne (by omega)]
        exact hW j (by omega) h2
      · rw [g4 q (by omega) (by omega), nw_up_ne (by omega)]
        exact hQ q hq
      · rw [(q.1 j (by omega)).1, (q.1 j (by omega)).2, g3 j (by omega), nw_up_self, pk_un (by omega), g4 _ (by omega) (by omega), nw_up_ne (by omega)]
        exact ⟨rfl, rfl⟩
      · by_cases e : j = t
        · subst e
          rw [(q.1 j (by omega)).1, (q.1 j (by omega)).2]
          exact ⟨g1, g2⟩
        · exact q.2.2.1 j (by omega) h2
theorem c_listen {N T S v n : Nat} (hC : nv_cok (nv_cf I 15) N T S) (h0 : 0 < N) (hv : nv_fl I 25 0 = nI v) (hvn : v + n < 2 ^ 30) : nw_cV l g 3 mX5_listen [.ref (nw_a g 183), .ref (nw_a g 15), .ref (nw_a g 25), .int (nI n)] I (fun I' => (∀ j, j < T → I' 188 j = nI (p_hear (nv_cf I 15) (nv_fl I 25 1) j n v (nv_fl I 25 (2 + j)) 0 (I (185 + j))).1 ∧ I' (185 + j) = (p_hear (nv_cf I 15) (nv_fl I 25 1) j n v (nv_fl I 25 (2 + j)) 0 (I (185 + j))).2) ∧ ∀ q, ¬ (185 ≤ q ∧ q ≤ 188) → I' q = I q) := by
  refine ⟨(Nat.le_of_ble_eq_true rfl), ?_⟩
  refine ev_iconst (v := 0) dX5_listen_0 kc_0 ?_
  refine ev_istore dX5_listen_1 (Nat.le_of_ble_eq_true rfl) rfl ?_
  refine s_postV (l_listen hC h0 hv hvn T 0 I _ _ _ (by omega) rfl rfl (fun _ _ _ => rfl) (fun _ _ => rfl)) (fun I1 q => ⟨fun j hj => q.2.2.1 j (Nat.zero_le _) hj, q.2.2.2⟩)
end
