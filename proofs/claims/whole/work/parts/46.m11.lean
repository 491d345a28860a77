section
variable {l : Launch} {g : nw_G} {I : nw_Me} {N T S : Nat} {a C F G : Nat → Int32} {b : Bool} {L : List (Nat → Int32)} {n p : Nat}
def q_sw (a : Nat → Int32) (p k : Nat) : q_E ⊕ (Int32 × Nat) := if k = 20 then .inl (3, p) else match q_num a (p + 1) 30 with
  | .inl e => .inl e
  | .inr (h, p1) => match q_sgn a p1 59 with
    | .inl e => .inl e
    | .inr p2 => .inr (h, p2)
def q_tw (a : Nat → Int32) (p k : Nat) : q_E ⊕ (Int32 × Int32 × Nat) := if k = 3 then .inl (3, p) else q_pair a (p + 1) 7 8
def q_vs (a : Nat → Int32) (T : Int32) (p k : Nat) : q_E ⊕ (Int32 × Int32 × Nat) := if k = 6 then .inl (3, p) else q_pair a (p + 1) 99 (T - 1)
def nm_f3 (I K : nw_Me) : Prop := (∀ j, j < 15 ∨ 21 < j → K 219 j = I 219 j) ∧ ∀ q, q ≠ 219 → q ≠ 227 → q ≠ 231 → q ≠ 232 → K q = I q
theorem nm_f3.refl (I : nw_Me) : nm_f3 I I := ⟨fun _ _ => rfl, fun _ _ _ _ _ => rfl⟩
theorem nm_f3.trans {J K : nw_Me} (h1 : nm_f3 I J) (h2 : nm_f3 J K) : nm_f3 I K := ⟨fun j hj => (h2.1 j hj).trans (h1.1 j hj), fun q a b c d => (h2.2 q a b c d).trans (h1.2 q a b c d)⟩
theorem nm_f2.f3 {J : nw_Me} (h : nm_f2 I J) : nm_f3 I J := ⟨h.1, fun q a b _ _ => h.2 q a b⟩
theorem nm_f3.x (I : nw_Me) {k : Nat} (hk : k = 227 ∨ k = 231 ∨ k = 232) (i : Nat) (v : Int32) : nm_f3 I (nw_up I k i v) := ⟨fun j hj => by rw [nw_up_ne (by omega)], fun q a b c d => nw_up_ne (by omega)⟩
theorem m_swell (h : nm_tk I n a p) (ha : a = q_at n (I 224)) (ht : ¬ nv_told (a p) = -1) {k : Nat} (hk : I 227 3 = nI k) (hk20 : k ≤ 20) : nw_cZ l g 4 mX10_swell [.ref (nw_a g 219)] I (fun bb K => ((∃ e q, q_sw a p k = .inl (e, q) ∧ bb = false ∧ K 219 19 = e ∧ K 219 16 = nI q) ∨ ∃ h p2, q_sw a p k = .inr (h, p2) ∧ bb = true ∧ K 227 = upd (upd (upd (I 227) (6 + k) (nv_told (a p))) (26 + k) h) 3 (nI (k + 1)) ∧ nm_tk K n a p2) ∧ nm_f2 I K) := by
  refine ⟨(Nat.le_of_ble_eq_true rfl), ?_⟩
  have e20 : (20 : Int32) = nI 20 := by decide
  have hts := (t_sort_eq (a p)).resolve_left (fun q => ht q.1)
  have hl := (h.let ha).1 ((h.let ha).2 (a p) hts.2.2.2 rfl)
  refine ev_aload_n (i := 0) dX10_swell_0 rfl rfl ?_
  refine ev_getR fX10_31 dX10_swell_1 rfl rfl (by decide) ?_
  refine ev_iconst (v := 3) dX10_swell_4 kc_3 ?_
  refine ev_ialdN (j := 3) dX10_swell_5 rfl (by omega) (by decide) ?_
  rw [hk]
  refine ev_bipush (v := 20) dX10_swell_6 kb_20 ?_
  refine ev_icmp_ne (tgt := 17) dX10_swell_8 (by decide) (fun h8 => ?_) (fun h8 => ?_)
  · have hk2 : k < 20 := by
      have : k ≠ 20 := fun q => h8 (by rw [e20, q])
      omega
    refine ev_aload_n (i := 0) dX10_swell_17 rfl rfl ?_
    refine ev_getR fX10_31 dX10_swell_18 rfl rfl (by decide) ?_
    refine ev_bipush (v := 6) dX10_swell_21 kb_6 ?_
    refine ev_aload_n (i := 0) dX10_swell_23 rfl rfl ?_
    refine ev_getR fX10_31 dX10_swell_24 rfl rfl (by decide) ?_
    refine ev_iconst (v := 3) dX10_swell_27 kc_3 ?_
    refine ev_ialdN (j := 3) dX10_swell_28 rfl (by omega) (by decide) ?_
    rw [hk]
    refine ev_iaddN (a := 6) (b := k) dX10_swell_29 ?_
    refine ev_aload_n (i := 0) dX10_swell_30 rfl rfl ?_
    refine ev_getI fX10_106 dX10_swell_31 rfl rfl (by decide) ?_
    rw [hl.1]
    refine s_dSi (As := [_]) (m_sortOf _) (Nat.le_of_ble_eq_true rfl) lX10_139 kX10_sortOf sX10_sortOf dX10_swell_34 rfl rfl (Nat.le_of_ble_eq_true rfl) ?_
    rw [hts.2.1]
    refine ev_iastN (j := (6 + k)) dX10_swell_37 rfl (by omega) (by decide) ?_
    refine ev_aload_n (i := 0) dX10_swell_38 rfl rfl ?_
    refine s_callVv (As := []) (m_scans (n := n) (p := p + 1) (a := a) h.2.2.2.1 (by rw [nw_up_ne (by decide)]; exact ha) (by rw [nw_up_ne (by decide)]; exact h.1) (by rw [nw_up_ne (by decide)]; exact hl.2.1) hl.2.2) (Nat.le_of_ble_eq_true rfl) lX10_126 kX10_scans vX10_scans dX10_swell_39 rfl rfl rfl (by decide) rfl (Nat.le_of_ble_eq_true rfl) (fun J1 h1 => ?_)
    refine ev_aload_n (i := 0) dX10_swell_42 rfl rfl ?_
    refine ev_iconst (v := 0) dX10_swell_43 kc_0 ?_
    refine ev_bipush (v := 30) dX10_swell_44 kb_30 ?_
    refine s_callVz (As := [_, _]) (m_takes h1.1 (by rw [h1.2.2 224 (by decide), nw_up_ne (by decide)]; exact ha) 30) (Nat.le_of_ble_eq_true rfl) lX10_129 kX10_takes vX10_takes dX10_swell_46 rfl rfl rfl (by decide) rfl (Nat.le_of_ble_eq_true rfl) (fun b2 J2 h2 => ?_)
    refine s_ifZ_ne (tgt := 54) dX10_swell_49 (by decide) (fun h49 => ?_) (fun h49 => ?_)
    · obtain ⟨x, q, e1, -, g1, tk2⟩ := h2.1.resolve_left (by rintro ⟨e, -, hb, -⟩; rw [hb] at h49; cases h49)
      have j2 : J2 227 = upd (I 227) (6 + k) (nv_told (a p)) := by rw [h2.2.2 227 (by decide), h1.2.2 227 (by decide), nw_up_self]
      have j3 : J2 227 3 = nI k := by rw [j2, pk_un (by omega)]; exact hk
      refine ev_aload_n (i := 0) dX10_swell_54 rfl rfl ?_
      refine ev_getR fX10_31 dX10_swell_55 rfl rfl (by decide) ?_
      refine ev_bipush (v := 26) dX10_swell_58 kb_26 ?_
      refine ev_aload_n (i := 0) dX10_swell_60 rfl rfl ?_
      refine ev_getR fX10_31 dX10_swell_61 rfl rfl (by decide) ?_
      refine ev_iconst (v := 3) dX10_swell_64 kc_3 ?_
      refine ev_ialdN (j := 3) dX10_swell_65 rfl (by omega) (by decide) ?_
      rw [j3]
      refine ev_iaddN (a := 26) (b := k) dX10_swell_66 ?_
      refine ev_aload_n (i := 0) dX10_swell_67 rfl rfl ?_
      refine ev_getI fX10_123 dX10_swell_68 rfl rfl (by decide) ?_
      rw [g1]
      refine ev_iastN (j := (26 + k)) dX10_swell_71 rfl (by omega) (by decide) ?_
      refine ev_aload_n (i := 0) dX10_swell_72 rfl rfl ?_
      refine ev_getR fX10_31 dX10_swell_73 rfl rfl (by decide) ?_
      refine ev_iconst (v := 3) dX10_swell_76 kc_3 ?_
      refine ev_dup2 dX10_swell_77 rfl rfl ?_
      refine ev_ialdN (j := 3) dX10_swell_78 rfl (by omega) (by decide) ?_
      rw [nw_up_self, pk_un (by omega), j3]
      refine ev_iconst (v := 1) dX10_swell_79 kc_1 ?_
      refine ev_iaddN (a := k) (b := 1) dX10_swell_80 ?_
      refine ev_iastN (j := 3) dX10_swell_81 rfl (by omega) (by decide) ?_
      have tk3 : nm_tk (nw_up (nw_up J2 227 (26 + k) x) 227 3 (nI (k + 1))) n a q := tk2.ext (by rw [nw_up_ne (by decide), nw_up_ne (by decide)])
      refine ev_aload_n (i := 0) dX10_swell_82 rfl rfl ?_
      refine ev_iconst (v := 5) dX10_swell_83 kc_5 ?_
      refine s_callVz (As := [_]) (m_signs (c := 59) tk3 (by rw [nw_up_ne (by decide), nw_up_ne (by decide), h2.2.2 224 (by decide), h1.2.2 224 (by decide), nw_up_ne (by decide)]; exact ha) (Or.inr ⟨rfl, rfl⟩)) (Nat.le_of_ble_eq_true rfl) lX10_133 kX10_signs vX10_signs dX10_swell_84 rfl rfl rfl (by decide) rfl (Nat.le_of_ble_eq_true rfl) (fun b3 J3 h3 => ?_)
      exact s_retZ dX10_swell_87 (by
        have f := (((((nm_f2.r I (6 + k) (nv_told (a p))).trans h1.2.f1.f2).trans h2.2.f2).trans (nm_f2.r J2 (26 + k) x)).trans (nm_f2.r _ 3 (nI (k + 1)))).trans h3.2.f2
        rcases h3.1 with ⟨e3, hb, g3, g4⟩ | ⟨e3, hb, tk4⟩
        · exact ⟨Or.inl ⟨1, q, by unfold q_sw; rw [if_neg (by omega)]; simp only [e1, e3], hb, g3, g4⟩, f⟩
        · refine ⟨Or.inr ⟨x, q + 1, by unfold q_sw; rw [if_neg (by omega)]; simp only [e1, e3], hb, ?_, tk4⟩, f⟩
          rw [h3.2.2 227 (by decide), nw_up_self, nw_up_self, j2])
    · refine ev_iconst (v := 0) dX10_swell_52 kc_0 ?_
      exact s_ret0 dX10_swell_53 (by
        obtain ⟨e, e1, -, g1, g2⟩ := h2.1.resolve_right (by rintro ⟨x, q, -, hb, -⟩; rw [hb] at h49; cases h49)
        exact ⟨Or.inl ⟨e, p + 1, by unfold q_sw; rw [if_neg (by omega)]; simp only [e1], rfl, g1, g2⟩, ((nm_f2.r I _ _).trans h1.2.f1.f2).trans h2.2.f2⟩)
  · refine ev_aload_n (i := 0) dX10_swell_11 rfl rfl ?_
    refine ev_iconst (v := 3) dX10_swell_12 kc_3 ?_
    refine s_dVz (As := [_]) (m_faults _) (Nat.le_of_ble_eq_true rfl) lX10_120 kX10_faults vX10_faults dX10_swell_13 rfl rfl rfl (by decide) rfl (Nat.le_of_ble_eq_true rfl) ?_
    exact s_retZ dX10_swell_16 (by
      have e : k = 20 := by rw [e20] at h8; exact (nI_eq (by omega) (by decide)).mp h8
      exact ⟨Or.inl ⟨3, p, by unfold q_sw; rw [if_pos e], rfl, by rw [nw_up_self, pk_us], by rw [nw_up_self, pk_un (by decide)]; exact h.2.1⟩, ((nm_f1.refl I).up (by decide) (by decide) _).f2⟩)
theorem m_turret (h : nm_tk I n a p) (ha : a = q_at n (I 224)) (hp : a p = 116) {k : Nat} (hk : I 227 4 = nI k) (hkm : k ≤ 3) : nw_cZ l g 5 mX10_turret [.ref (nw_a g 219)] I (fun bb K => ((∃ e q, q_tw a p k = .inl (e, q) ∧ bb = false ∧ K 219 19 = e ∧ K 219 16 = nI q) ∨ ∃ x y q, q_tw a p k = .inr (x, y, q) ∧ bb = true ∧ K 227 = upd (upd (I 227) (46 + k) x) 4 (nI (k + 1)) ∧ K 231 = upd (I 231) k y ∧ nm_tk K n a q) ∧ nm_f3 I K ∧ K 232 = I 232) := by
  refine ⟨(Nat.le_of_ble_eq_true rfl), ?_⟩
  have e20 : (3 : Int32) = nI 3 := by decide
  have hl := (h.let ha).1 ((h.let ha).2 116 (by decide) hp)
  refine ev_aload_n (i := 0) dX10_turret_0 rfl rfl ?_
  refine ev_getR fX10_31 dX10_turret_1 rfl rfl (by decide) ?_
  refine ev_iconst (v := 4) dX10_turret_4 kc_4 ?_
  refine ev_ialdN (j := 4) dX10_turret_5 rfl (by omega) (by decide) ?_
  rw [hk]
  refine ev_iconst (v := 3) dX10_turret_6 kc_3 ?_
  refine ev_icmp_ne (tgt := 16) dX10_turret_7 (by decide) (fun h7 => ?_) (fun h7 => ?_)
  · have hk2 : k < 3 := by
      have : k ≠ 3 := fun q => h7 (by rw [e20, q])
      omega
    refine ev_aload_n (i := 0) dX10_turret_16 rfl rfl ?_
    refine s_callVv (As := []) (m_scans (n := n) (p := p + 1) (a := a) h.2.2.2.1 ha h.1 hl.2.1 hl.2.2) (Nat.le_of_ble_eq_true rfl) lX10_126 kX10_scans vX10_scans dX10_turret_17 rfl rfl rfl (by decide) rfl (Nat.le_of_ble_eq_true rfl) (fun J1 h1 => ?_)
    refine ev_aload_n (i := 0) dX10_turret_20 rfl rfl ?_
    refine ev_bipush (v := 7) dX10_turret_21 kb_7 ?_
    refine ev_bipush (v := 46) dX10_turret_23 kb_46 ?_
    refine ev_aload_n (i := 0) dX10_turret_25 rfl rfl ?_
    refine ev_getR fX10_31 dX10_turret_26 rfl rfl (by decide) ?_
    refine ev_iconst (v := 4) dX10_turret_29 kc_4 ?_
    refine ev_ialdN (j := 4) dX10_turret_30 rfl (by omega) (by decide) ?_
    rw [h1.2.2 227 (by decide), hk]
    refine ev_iaddN (a := 46) (b := k) dX10_turret_31 ?_
    refine ev_bipush (v := 8) dX10_turret_32 kb_8 ?_
    refine s_callVz (As := [_, _, _]) (m_two h1.1 (by rw [h1.2.2 224 (by decide)]; exact ha) (t0 := 46 + k) (by omega) 7 8) (Nat.le_of_ble_eq_true rfl) lX10_142 kX10_two vX10_two dX10_turret_34 rfl rfl rfl (by decide) rfl (Nat.le_of_ble_eq_true rfl) (fun b2 J2 h2 => ?_)
    refine s_ifZ_ne (tgt := 42) dX10_turret_37 (by decide) (fun h37 => ?_) (fun h37 => ?_)
    · obtain ⟨x, y, q, e1, -, g1, g2, tk2⟩ := h2.1.resolve_left (by rintro ⟨e, q, -, hb, -⟩; rw [hb] at h37; cases h37)
      have j3 : J2 227 4 = nI k := by rw [g1, pk_un (by omega), h1.2.2 227 (by decide)]; exact hk
      refine ev_aload_n (i := 0) dX10_turret_42 rfl rfl ?_
      refine ev_getR fX10_44 dX10_turret_43 rfl rfl (by decide) ?_
      refine ev_aload_n (i := 0) dX10_turret_46 rfl rfl ?_
      refine ev_getR fX10_31 dX10_turret_47 rfl rfl (by decide) ?_
      refine ev_iconst (v := 4) dX10_turret_50 kc_4 ?_
      refine ev_ialdN (j := 4) dX10_turret_51 rfl (by omega) (by decide) ?_
      rw [j3]
      refine ev_aload_n (i := 0) dX10_turret_52 rfl rfl ?_
      refine ev_getI fX10_136 dX10_turret_53 rfl rfl (by decide) ?_
      rw [g2]
      refine ev_iastN (j := k) dX10_turret_56 rfl (by omega) (by decide) ?_
      refine ev_aload_n (i := 0) dX10_turret_57 rfl rfl ?_
      refine ev_getR fX10_31 dX10_turret_58 rfl rfl (by decide) ?_
      refine ev_iconst (v := 4) dX10_turret_61 kc_4 ?_
      refine ev_dup2 dX10_turret_62 rfl rfl ?_
      refine ev_ialdN (j := 4) dX10_turret_63 rfl (by omega) (by decide) ?_
      rw [nw_up_ne (by decide), j3]
      refine ev_iconst (v := 1) dX10_turret_64 kc_1 ?_
      refine ev_iaddN (a := k) (b := 1) dX10_turret_65 ?_
      refine ev_iastN (j := 4) dX10_turret_66 rfl (by omega) (by decide) ?_
      refine ev_iconst (v := 1) dX10_turret_67 kc_1 ?_
      exact s_ret1 dX10_turret_68 (by
        refine ⟨Or.inr ⟨x, y, q, by unfold q_tw; rw [if_neg (by omega)]; exact e1, rfl, ?_, ?_, ?_⟩, ?_, ?_⟩
        · rw [nw_up_self, nw_up_ne (by decide), g1, h1.2.2 227 (by decide)]
        · rw [nw_up_ne (by decide), nw_up_self, h2.2.2 231 (by decide) (by decide), h1.2.2 231 (by decide)]
        · exact tk2.ext (by rw [nw_up_ne (by decide), nw_up_ne (by decide)])
        · exact ((h1.2.f1.f2.trans h2.2).f3.trans (nm_f3.x J2 (by decide) k y)).trans (nm_f3.x _ (by decide) _ _)
        · rw [nw_up_ne (by decide), nw_up_ne (by decide), h2.2.2 232 (by decide) (by decide), h1.2.2 232 (by decide)])
    · refine ev_iconst (v := 0) dX10_turret_40 kc_0 ?_
      exact s_ret0 dX10_turret_41 (by
        obtain ⟨e, q, e1, -, g1, g2⟩ := h2.1.resolve_right (by rintro ⟨x, y, q, -, hb, -⟩; rw [hb] at h37; cases h37)
        exact ⟨Or.inl ⟨e, q, by unfold q_tw; rw [if_neg (by omega)]; exact e1, rfl, g1, g2⟩, (h1.2.f1.f2.trans h2.2).f3, by rw [h2.2.2 232 (by decide) (by decide), h1.2.2 232 (by decide)]⟩)
  · refine ev_aload_n (i := 0) dX10_turret_10 rfl rfl ?_
    refine ev_iconst (v := 3) dX10_turret_11 kc_3 ?_
    refine s_dVz (As := [_]) (m_faults _) (Nat.le_of_ble_eq_true rfl) lX10_120 kX10_faults vX10_faults dX10_turret_12 rfl rfl rfl (by decide) rfl (Nat.le_of_ble_eq_true rfl) ?_
    exact s_retZ dX10_turret_15 (by
      have e : k = 3 := by rw [e20] at h7; exact (nI_eq (by omega) (by decide)).mp h7
      exact ⟨Or.inl ⟨3, p, by unfold q_tw; rw [if_pos e], rfl, by rw [nw_up_self, pk_us], by rw [nw_up_self, pk_un (by decide)]; exact h.2.1⟩, ((nm_f1.refl I).up (by decide) (by decide) _).f2.f3, nw_up_ne (by decide)⟩)
theorem m_vessel (h : nm_tk I n a p) (ha : a = q_at n (I 224)) (hp : a p = 104) {k : Nat} (hk : I 227 5 = nI k) (hkm : k ≤ 6) (hT : I 227 4 = nI T) : nw_cZ l g 5 mX10_vessel [.ref (nw_a g 219)] I (fun bb K => ((∃ e q, q_vs a (nI T) p k = .inl (e, q) ∧ bb = false ∧ K 219 19 = e ∧ K 219 16 = nI q) ∨ ∃ x y q, q_vs a (nI T) p k = .inr (x, y, q) ∧ bb = true ∧ K 227 = upd (upd (I 227) (49 + k) x) 5 (nI (k + 1)) ∧ K 232 = upd (I 232) k y ∧ nm_tk K n a q) ∧ nm_f3 I K ∧ K 231 = I 231) := by
  refine ⟨(Nat.le_of_ble_eq_true rfl), ?_⟩
  have e20 : (6 : Int32) = nI 6 := by decide
  have hl := (h.let ha).1 ((h.let ha).2 104 (by decide) hp)
  refine ev_aload_n (i := 0) dX10_vessel_0 rfl rfl ?_
  refine ev_getR fX10_31 dX10_vessel_1 rfl rfl (by decide) ?_
  refine ev_iconst (v := 5) dX10_vessel_4 kc_5 ?_
  refine ev_ialdN (j := 5) dX10_vessel_5 rfl (by omega) (by decide) ?_
  rw [hk]
  refine ev_bipush (v := 6) dX10_vessel_6 kb_6 ?_
  refine ev_icmp_ne (tgt := 17) dX10_vessel_8 (by decide) (fun h8 => ?_) (fun h8 => ?_)
  · have hk2 : k < 6 := by
      have : k ≠ 6 := fun q => h8 (by rw [e20, q])
      omega
    refine ev_aload_n (i := 0) dX10_vessel_17 rfl rfl ?_
    refine s_callVv (As := []) (m_scans (n := n) (p := p + 1) (a := a) h.2.2.2.1 ha h.1 hl.2.1 hl.2.2) (Nat.le_of_ble_eq_true rfl) lX10_126 kX10_scans vX10_scans dX10_vessel_18 rfl rfl rfl (by decide) rfl (Nat.le_of_ble_eq_true rfl) (fun J1 h1 => ?_)
    refine ev_aload_n (i := 0) dX10_vessel_21 rfl rfl ?_
    refine ev_bipush (v := 99) dX10_vessel_22 kb_99 ?_
    refine ev_bipush (v := 49) dX10_vessel_24 kb_49 ?_
    refine ev_aload_n (i := 0) dX10_vessel_26 rfl rfl ?_
    refine ev_getR fX10_31 dX10_vessel_27 rfl rfl (by decide) ?_
    refine ev_iconst (v := 5) dX10_vessel_30 kc_5 ?_
    refine ev_ialdN (j := 5) dX10_vessel_31 rfl (by omega) (by decide) ?_
    rw [h1.2.2 227 (by decide), hk]
    refine ev_iaddN (a := 49) (b := k) dX10_vessel_32 ?_
    refine ev_aload_n (i := 0) dX10_vessel_33 rfl rfl ?_
    refine ev_getR fX10_31 dX10_vessel_34 rfl rfl (by decide) ?_
    refine ev_iconst (v := 4) dX10_vessel_37 kc_4 ?_
    refine ev_ialdN (j := 4) dX10_vessel_38 rfl (by omega) (by decide) ?_
    rw [h1.2.2 227 (by decide), hT]
    refine ev_iconst (v := 1) dX10_vessel_39 kc_1 ?_
    refine ev_isub dX10_vessel_40 ?_
    refine s_callVz (As := [_, _, _]) (m_two h1.1 (by rw [h1.2.2 224 (by decide)]; exact ha) (t0 := 49 + k) (by omega) 99 (nI T - 1)) (Nat.le_of_ble_eq_true rfl) lX10_142 kX10_two vX10_two dX10_vessel_41 rfl rfl rfl (by decide) rfl (Nat.le_of_ble_eq_true rfl) (fun b2 J2 h2 => ?_)
    refine s_ifZ_ne (tgt := 49) dX10_vessel_44 (by decide) (fun h44 => ?_) (fun h44 => ?_)
    · obtain ⟨x, y, q, e1, -, g1, g2, tk2⟩ := h2.1.resolve_left (by rintro ⟨e, q, -, hb, -⟩; rw [hb] at h44; cases h44)
      have j3 : J2 227 5 = nI k := by rw [g1, pk_un (by omega), h1.2.2 227 (by decide)]; exact hk
      refine ev_aload_n (i := 0) dX10_vessel_49 rfl rfl ?_
      refine ev_getR fX10_47 dX10_vessel_50 rfl rfl (by decide) ?_
      refine ev_aload_n (i := 0) dX10_vessel_53 rfl rfl ?_
      refine ev_getR fX10_31 dX10_vessel_54 rfl rfl (by decide) ?_
      refine ev_iconst (v := 5) dX10_vessel_57 kc_5 ?_
      refine ev_ialdN (j := 5) dX10_vessel_58 rfl (by omega) (by decide) ?_
      rw [j3]
      refine ev_aload_n (i := 0) dX10_vessel_59 rfl rfl ?_
      refine ev_getI fX10_136 dX10_vessel_60 rfl rfl (by decide) ?_
      rw [g2]
      refine ev_iastN (j := k) dX10_vessel_63 rfl (by omega) (by decide) ?_
      refine ev_aload_n (i := 0) dX10_vessel_64 rfl rfl ?_
      refine ev_getR fX10_31 dX10_vessel_65 rfl rfl (by decide) ?_
      refine ev_iconst (v := 5) dX10_vessel_68 kc_5 ?_
      refine ev_dup2 dX10_vessel_69 rfl rfl ?_
      refine ev_ialdN (j := 5) dX10_vessel_70 rfl (by omega) (by decide) ?_
      rw [nw_up_ne (by decide), j3]
      refine ev_iconst (v := 1) dX10_vessel_71 kc_1 ?_
      refine ev_iaddN (a := k) (b := 1) dX10_vessel_72 ?_
      refine ev_iastN (j := 5) dX10_vessel_73 rfl (by omega) (by decide) ?_
      refine ev_iconst (v := 1) dX10_vessel_74 kc_1 ?_
      exact s_ret1 dX10_vessel_75 (by
        refine ⟨Or.inr ⟨x, y, q, by unfold q_vs; rw [if_neg (by omega)]; exact e1, rfl, ?_, ?_, ?_⟩, ?_, ?_⟩
        · rw [nw_up_self, nw_up_ne (by decide), g1, h1.2.2 227 (by decide)]
        · rw [nw_up_ne (by decide), nw_up_self, h2.2.2 232 (by decide) (by decide), h1.2.2 232 (by decide)]
        · exact tk2.ext (by rw [nw_up_ne (by decide), nw_up_ne (by decide)])
        · exact ((h1.2.f1.f2.trans h2.2).f3.trans (nm_f3.x J2 (by decide) k y)).trans (nm_f3.x _ (by decide) _ _)
        · rw [nw_up_ne (by decide), nw_up_ne (by decide), h2.2.2 231 (by decide) (by decide), h1.2.2 231 (by decide)])
    · refine ev_iconst (v := 0) dX10_vessel_47 kc_0 ?_
      exact s_ret0 dX10_vessel_48 (by
        obtain ⟨e, q, e1, -, g1, g2⟩ := h2.1.resolve_right (by rintro ⟨x, y, q, -, hb, -⟩; rw [hb] at h44; cases h44)
        exact ⟨Or.inl ⟨e, q, by unfold q_vs; rw [if_neg (by omega)]; exact e1, rfl, g1, g2⟩, (h1.2.f1.f2.trans h2.2).f3, by rw [h2.2.2 231 (by decide) (by decide), h1.2.2 231 (by decide)]⟩)
  · refine ev_aload_n (i := 0) dX10_vessel_11 rfl rfl ?_
    refine ev_iconst (v := 3) dX10_vessel_12 kc_3 ?_
    refine s_dVz (As := [_]) (m_faults _) (Nat.le_of_ble_eq_true rfl) lX10_120 kX10_faults vX10_faults dX10_vessel_13 rfl rfl rfl (by decide) rfl (Nat.le_of_ble_eq_true rfl) ?_
    exact s_retZ dX10_vessel_16 (by
      have e : k = 6 := by rw [e20] at h8; exact (nI_eq (by omega) (by decide)).mp h8
      exact ⟨Or.inl ⟨3, p, by unfold q_vs; rw [if_pos e], rfl, by rw [nw_up_self, pk_us], by rw [nw_up_self, pk_un (by decide)]; exact h.2.1⟩, ((nm_f1.refl I).up (by decide) (by decide) _).f2.f3, nw_up_ne (by decide)⟩)
end
