section
variable {l : Launch} {g : nw_G} {I : nw_Me} {N T S : Nat} {a C F G : Nat → Int32} {b : Bool} {L : List (Nat → Int32)} {n p : Nat}
theorem p_beg_v (F : Nat → Int32) : p_beg 6 0 (upd (upd F 0 0) 1 9) 0 = 0 ∧ p_beg 6 0 (upd (upd F 0 0) 1 9) 1 = 9 ∧ ∀ s, s < 6 → p_beg 6 0 (upd (upd F 0 0) 1 9) (5 + s) = nI s ∧ p_beg 6 0 (upd (upd F 0 0) 1 9) (17 + s) = 0 ∧ p_beg 6 0 (upd (upd F 0 0) 1 9) (23 + s) = -1000000 := by
  refine ⟨rfl, rfl, fun s hs => ?_⟩
  rcases (show s = 0 ∨ s = 1 ∨ s = 2 ∨ s = 3 ∨ s = 4 ∨ s = 5 by omega) with rfl | rfl | rfl | rfl | rfl | rfl <;> exact ⟨rfl, rfl, rfl⟩
theorem q_all_ok {f C0 F0 : Nat → Int32} (h : q_all (q_at n f) C0 F0 = .inr (N, T, S, C, F)) : nv_cok C N T S ∧ 0 < N ∧ 0 < T ∧ nv_kok N C ∧ F 0 = 0 ∧ F 1 = 9 ∧ (∀ s, s < 6 → F (5 + s) = nI s ∧ F (17 + s) = 0 ∧ F (23 + s) = -1000000) ∧ ∀ s, s < S → ∃ t, t < T ∧ F (11 + s) = nI t := by
  rw [q_all_eq] at h
  split at h
  · cases h
  rename_i x y p1 hb
  unfold q_r1 at h
  split at h
  · cases h
  rename_i N1 p2 C2 hsw
  unfold q_r2 at h
  split at h
  · cases h
  rename_i T1 p3 C3 F3 htw
  unfold q_r3 at h
  split at h
  · cases h
  rename_i S1 p4 C4 F4 hsh
  split at h
  · cases h
    obtain ⟨hsw, hN⟩ := q_sw1_inr hsw
    obtain ⟨htw, hT⟩ := q_sw1_inr htw
    obtain ⟨-, g2, g3, g4, -, g6⟩ := q_swl_ok 21 0 p1 _ _ _ _ hsw (by rw [pk_un (by decide), pk_un (by decide), pk_un (by decide), pk_un (by decide), pk_us]; exact nI_0.symm) (by omega)
    have c4 : C2 4 = nI 0 := by rw [g4 4 (by omega), pk_un (by decide), pk_un (by decide), pk_un (by decide), pk_us]; exact nI_0.symm
    have c5 : C2 5 = nI 0 := by rw [g4 5 (by omega), pk_un (by decide), pk_un (by decide), pk_us]; exact nI_0.symm
    obtain ⟨-, t2, t3, t4, t5⟩ := q_tow_ok 4 0 p2 _ _ _ _ _ _ htw c4 (by omega)
    obtain ⟨-, s2, s3, s4, s5, -, s7⟩ := q_shp_ok hT t2 7 0 p3 _ _ _ _ _ _ hsh (by rw [t4 5 (by decide) (by omega)]; exact c5) (by omega)
    obtain ⟨b0, b1, b2⟩ := p_beg_v F0
    refine ⟨⟨?_, ?_, s3, g2, t2, s2⟩, hN, hT, fun j hj => ?_, ?_, ?_, fun s hs => ⟨?_, ?_, ?_⟩, fun s hs => s7 s (by omega) hs⟩
    · rw [s4 3 (by decide) (by omega), t4 3 (by decide) (by omega)]; exact g3
    · rw [s4 4 (by decide) (by omega)]; exact t3
    · obtain ⟨t, q1, q2, q3⟩ := g6 j (by omega) hj
      exact ⟨t, q1, q2, by rw [s4 (6 + j) (by omega) (by omega), t4 (6 + j) (by omega) (by omega)]; exact q3⟩
    · rw [s5 0 (by omega), t5 0 (by omega)]; exact b0
    · rw [s5 1 (by omega), t5 1 (by omega)]; exact b1
    · rw [s5 (5 + s) (by omega), t5 (5 + s) (by omega)]; exact (b2 s hs).1
    · rw [s5 (17 + s) (by omega), t5 (17 + s) (by omega)]; exact (b2 s hs).2.1
    · rw [s5 (23 + s) (by omega), t5 (23 + s) (by omega)]; exact (b2 s hs).2.2
  · cases h
theorem q_all_sok {f C0 F0 : Nat → Int32} (h : q_all (q_at n f) C0 F0 = .inr (N, T, S, C, F)) : nv_sok T S F := by
  obtain ⟨hc, -, -, -, f0, f1, f2, f3⟩ := q_all_ok h
  have hS := hc.2.2.2.2.2
  refine ⟨fun p hp => ⟨p, hp, (f2 p (by omega)).1⟩, fun p q hp hq e => ?_, ⟨0, by omega, by rw [f0]; exact nI_0.symm⟩, ⟨9, by omega, by omega, by rw [f1]; decide⟩, f3⟩
  rw [(f2 p (by omega)).1, (f2 q (by omega)).1] at e
  exact (nI_eq (by omega) (by omega)).mp e
theorem l_sea1 {z : Int32} {Post : Option Int32 → List nw_Sh → nw_Me → Prop} (kk : ∀ K : nw_Me, K 225 = nm_mx 0 55 (I 227) (I 225) → (∀ q, q ≠ 225 → K q = I q) → nw_S l g 7 mX10_sea 56 [some (.ref (nw_a g 219)), some (.int z), some (.int (nI 55))] [] K Post) : ∀ (k p : Nat) (J : nw_Me), p + k = 55 → J 225 = nm_mx 0 p (I 227) (I 225) → (∀ q, q ≠ 225 → J q = I q) → nw_S l g 7 mX10_sea 32 [some (.ref (nw_a g 219)), some (.int z), some (.int (nI p))] [] J Post := by
  have e55 : (55 : Int32) = nI 55 := by decide
  intro k
  induction k with
  | zero =>
    intro p J hp hW hJ
    obtain rfl : p = 55 := by omega
    refine ev_iload_n (i := 2) dX10_sea_32 rfl rfl ?_
    refine ev_bipush (v := 55) dX10_sea_33 kb_55 ?_
    refine ev_icmp_ge (tgt := 56) dX10_sea_35 (by decide) (fun h35 => ?_) (fun h35 => ?_)
    · exact kk J hW hJ
    · exact absurd (by decide) h35
  | succ k ih =>
    intro p J hp hW hJ
    refine ev_iload_n (i := 2) dX10_sea_32 rfl rfl ?_
    refine ev_bipush (v := 55) dX10_sea_33 kb_55 ?_
    refine ev_icmp_ge (tgt := 56) dX10_sea_35 (by decide) (fun h35 => ?_) (fun h35 => ?_)
    · exact absurd h35 (by rw [e55]; exact nI_ge (by omega) (by omega))
    · refine ev_aload_n (i := 0) dX10_sea_38 rfl rfl ?_
      refine ev_getR fX10_25 dX10_sea_39 rfl rfl (by decide) ?_
      refine ev_iload_n (i := 2) dX10_sea_42 rfl rfl ?_
      refine ev_aload_n (i := 0) dX10_sea_43 rfl rfl ?_
      refine ev_getR fX10_31 dX10_sea_44 rfl rfl (by decide) ?_
      refine ev_iload_n (i := 2) dX10_sea_47 rfl rfl ?_
      refine ev_ialdN (j := p) dX10_sea_48 rfl (by omega) (by decide) ?_
      rw [hJ 227 (by decide)]
      refine ev_iastN (j := p) dX10_sea_49 rfl (by omega) (by decide) ?_
      refine ev_iincN (a := p) dX10_sea_50 rfl (Nat.le_of_ble_eq_true rfl) rfl ?_
      refine ev_goto (tgt := 32) dX10_sea_53 (by decide) ?_
      refine ih (p + 1) _ (by omega) ?_ (fun q q1 => by rw [nw_up_ne q1]; exact hJ q q1)
      rw [nw_up_self, hW]
      have e := nm_mx_s 0 p (I 227) (I 225)
      rw [Nat.zero_add] at e
      exact e
theorem l_sea2 {z : Int32} {Post : Option Int32 → List nw_Sh → nw_Me → Prop} (kk : ∀ K : nw_Me, K 226 = nm_mx 0 29 (fun _ => 0) (I 226) → (∀ q, q ≠ 226 → K q = I q) → nw_S l g 7 mX10_sea 77 [some (.ref (nw_a g 219)), some (.int z), some (.int (nI 29))] [] K Post) : ∀ (k p : Nat) (J : nw_Me), p + k = 29 → J 226 = nm_mx 0 p (fun _ => 0) (I 226) → (∀ q, q ≠ 226 → J q = I q) → nw_S l g 7 mX10_sea 58 [some (.ref (nw_a g 219)), some (.int z), some (.int (nI p))] [] J Post := by
  have e55 : (29 : Int32) = nI 29 := by decide
  intro k
  induction k with
  | zero =>
    intro p J hp hW hJ
    obtain rfl : p = 29 := by omega
    refine ev_iload_n (i := 2) dX10_sea_58 rfl rfl ?_
    refine ev_bipush (v := 29) dX10_sea_59 kb_29 ?_
    refine ev_icmp_ge (tgt := 77) dX10_sea_61 (by decide) (fun h61 => ?_) (fun h61 => ?_)
    · exact kk J hW hJ
    · exact absurd (by decide) h61
  | succ k ih =>
    intro p J hp hW hJ
    refine ev_iload_n (i := 2) dX10_sea_58 rfl rfl ?_
    refine ev_bipush (v := 29) dX10_sea_59 kb_29 ?_
    refine ev_icmp_ge (tgt := 77) dX10_sea_61 (by decide) (fun h61 => ?_) (fun h61 => ?_)
    · exact absurd h61 (by rw [e55]; exact nI_ge (by omega) (by omega))
    · refine ev_aload_n (i := 0) dX10_sea_64 rfl rfl ?_
      refine ev_getR fX10_28 dX10_sea_65 rfl rfl (by decide) ?_
      refine ev_iload_n (i := 2) dX10_sea_68 rfl rfl ?_
      refine ev_iconst (v := 0) dX10_sea_69 kc_0 ?_
      refine ev_iastN (j := p) dX10_sea_70 rfl (by omega) (by decide) ?_
      refine ev_iincN (a := p) dX10_sea_71 rfl (Nat.le_of_ble_eq_true rfl) rfl ?_
      refine ev_goto (tgt := 58) dX10_sea_74 (by decide) ?_
      refine ih (p + 1) _ (by omega) ?_ (fun q q1 => by rw [nw_up_ne q1]; exact hJ q q1)
      rw [nw_up_self, hW]
      have e := nm_mx_s 0 p (fun _ => 0) (I 226)
      rw [Nat.zero_add] at e
      exact e
theorem l_sea3 {z : Int32} {f : Nat → Int32} (hT : f 4 = nI T) (hT3 : T ≤ 3) (h225 : I 225 = f) {Post : Option Int32 → List nw_Sh → nw_Me → Prop} (kk : ∀ K : nw_Me, (∀ j, j < T → K 226 (2 + j) = I 231 j) → (∀ i, i < 2 ∨ 5 ≤ i → K 226 i = I 226 i) → (∀ q, q ≠ 226 → K q = I q) → nw_S l g 7 mX10_sea 126 [some (.ref (nw_a g 219)), some (.int z), some (.int (nI 3))] [] K Post) : ∀ (k p : Nat) (J : nw_Me), p + k = 3 → (∀ j, j < p → j < T → J 226 (2 + j) = I 231 j) → (∀ i, i < 2 ∨ 5 ≤ i → J 226 i = I 226 i) → (∀ q, q ≠ 226 → J q = I q) → nw_S l g 7 mX10_sea 87 [some (.ref (nw_a g 219)), some (.int z), some (.int (nI p))] [] J Post := by
  have e55 : (3 : Int32) = nI 3 := by decide
  intro k
  induction k with
  | zero =>
    intro p J hp h1 h2 hJ
    obtain rfl : p = 3 := by omega
    refine ev_iload_n (i := 2) dX10_sea_87 rfl rfl ?_
    refine ev_iconst (v := 3) dX10_sea_88 kc_3 ?_
    refine ev_icmp_ge (tgt := 126) dX10_sea_89 (by decide) (fun h89 => ?_) (fun h89 => ?_)
    · exact kk J (fun j hj => h1 j (by omega) hj) h2 hJ
    · exact absurd (by decide) h89
  | succ k ih =>
    intro p J hp h1 h2 hJ
    refine ev_iload_n (i := 2) dX10_sea_87 rfl rfl ?_
    refine ev_iconst (v := 3) dX10_sea_88 kc_3 ?_
    refine ev_icmp_ge (tgt := 126) dX10_sea_89 (by decide) (fun h89 => ?_) (fun h89 => ?_)
    · exact absurd h89 (by rw [e55]; exact nI_ge (by omega) (by omega))
    · refine ev_aload_n (i := 0) dX10_sea_92 rfl rfl ?_
      refine ev_getR fX10_28 dX10_sea_93 rfl rfl (by decide) ?_
      refine ev_iconst (v := 2) dX10_sea_96 kc_2 ?_
      refine ev_iload_n (i := 2) dX10_sea_97 rfl rfl ?_
      refine ev_iaddN (a := 2) (b := p) dX10_sea_98 ?_
      refine ev_iload_n (i := 2) dX10_sea_99 rfl rfl ?_
      refine ev_aload_n (i := 0) dX10_sea_100 rfl rfl ?_
      refine ev_getR fX10_25 dX10_sea_101 rfl rfl (by decide) ?_
      refine ev_iconst (v := 4) dX10_sea_104 kc_4 ?_
      refine ev_ialdN (j := 4) dX10_sea_105 rfl (by omega) (by decide) ?_
      rw [hJ 225 (by decide), h225, hT]
      refine ev_icmp_ge (tgt := 118) dX10_sea_106 (by decide) (fun h106 => ?_) (fun h106 => ?_)
      · refine ev_iconst (v := 0) dX10_sea_118 kc_0 ?_
        refine ev_iastN (j := (2 + p)) dX10_sea_119 rfl (by omega) (by decide) ?_
        refine ev_iincN (a := p) dX10_sea_120 rfl (Nat.le_of_ble_eq_true rfl) rfl ?_
        refine ev_goto (tgt := 87) dX10_sea_123 (by decide) ?_
        refine ih (p + 1) _ (by omega) (fun j hj hjT => ?_) (fun i hi => by rw [nw_up_self, pk_un (by omega)]; exact h2 i hi) (fun q q1 => by rw [nw_up_ne q1]; exact hJ q q1)
        rw [nw_up_self]
        by_cases e : j = p
        · subst e
          first
            | exact absurd h106 (nI_ge hjT (by omega))
            | rw [pk_us]
        · rw [pk_un (by omega)]
          exact h1 j (by omega) hjT
      · refine ev_aload_n (i := 0) dX10_sea_109 rfl rfl ?_
        refine ev_getR fX10_44 dX10_sea_110 rfl rfl (by decide) ?_
        refine ev_iload_n (i := 2) dX10_sea_113 rfl rfl ?_
        refine ev_ialdN (j := p) dX10_sea_114 rfl (by omega) (by decide) ?_
        rw [hJ 231 (by decide)]
        refine ev_goto (tgt := 119) dX10_sea_115 (by decide) ?_
        refine ev_iastN (j := (2 + p)) dX10_sea_119 rfl (by omega) (by decide) ?_
        refine ev_iincN (a := p) dX10_sea_120 rfl (Nat.le_of_ble_eq_true rfl) rfl ?_
        refine ev_goto (tgt := 87) dX10_sea_123 (by decide) ?_
        refine ih (p + 1) _ (by omega) (fun j hj hjT => ?_) (fun i hi => by rw [nw_up_self, pk_un (by omega)]; exact h2 i hi) (fun q q1 => by rw [nw_up_ne q1]; exact hJ q q1)
        rw [nw_up_self]
        by_cases e : j = p
        · subst e
          first
            | exact absurd h106 (nI_ge hjT (by omega))
            | rw [pk_us]
        · rw [pk_un (by omega)]
          exact h1 j (by omega) hjT
theorem l_sea4 {z : Int32} {f : Nat → Int32} (hS : f 5 = nI S) (hS6 : S ≤ 6) (h225 : I 225 = f) {Post : Option Int32 → List nw_Sh → nw_Me → Prop} (kk : ∀ K : nw_Me, (∀ j, j < S → K 226 (5 + j) = nI j ∧ K 226 (11 + j) = I 232 j ∧ K 226 (23 + j) = -1000000) → (∀ i, i < 5 ∨ (17 ≤ i ∧ i < 23) → K 226 i = I 226 i) → (∀ q, q ≠ 226 → K q = I q) → nw_S l g 7 mX10_sea 179 [some (.ref (nw_a g 219)), some (.int z), some (.int (nI S))] [] K Post) : ∀ (k p : Nat) (J : nw_Me), p + k = S → (∀ j, j < p → J 226 (5 + j) = nI j ∧ J 226 (11 + j) = I 232 j ∧ J 226 (23 + j) = -1000000) → (∀ i, i < 5 ∨ (17 ≤ i ∧ i < 23) → J 226 i = I 226 i) → (∀ q, q ≠ 226 → J q = I q) → nw_S l g 7 mX10_sea 128 [some (.ref (nw_a g 219)), some (.int z), some (.int (nI p))] [] J Post := by
  intro k
  induction k with
  | zero =>
    intro p J hp h1 h2 hJ
    obtain rfl : p = S := by omega
    refine ev_iload_n (i := 2) dX10_sea_128 rfl rfl ?_
    refine ev_aload_n (i := 0) dX10_sea_129 rfl rfl ?_
    refine ev_getR fX10_25 dX10_sea_130 rfl rfl (by decide) ?_
    refine ev_iconst (v := 5) dX10_sea_133 kc_5 ?_
    refine ev_ialdN (j := 5) dX10_sea_134 rfl (by omega) (by decide) ?_
    rw [hJ 225 (by decide), h225, hS]
    refine ev_icmp_ge (tgt := 179) dX10_sea_135 (by decide) (fun h135 => ?_) (fun h135 => ?_)
    · exact kk J h1 h2 hJ
    · exact absurd (nI_le (by omega) (by omega)) h135
  | succ k ih =>
    intro p J hp h1 h2 hJ
    refine ev_iload_n (i := 2) dX10_sea_128 rfl rfl ?_
    refine ev_aload_n (i := 0) dX10_sea_129 rfl rfl ?_
    refine ev_getR fX10_25 dX10_sea_130 rfl rfl (by decide) ?_
    refine ev_iconst (v := 5) dX10_sea_133 kc_5 ?_
    refine ev_ialdN (j := 5) dX10_sea_134 rfl (by omega) (by decide) ?_
    rw [hJ 225 (by decide), h225, hS]
    refine ev_icmp_ge (tgt := 179) dX10_sea_135 (by decide) (fun h135 => ?_) (fun h135 => ?_)
    · exact absurd h135 (nI_ge (by omega) (by omega))
    · refine ev_aload_n (i := 0) dX10_sea_138 rfl rfl ?_
      refine ev_getR fX10_28 dX10_sea_139 rfl rfl (by decide) ?_
      refine ev_iconst (v := 5) dX10_sea_142 kc_5 ?_
      refine ev_iload_n (i := 2) dX10_sea_143 rfl rfl ?_
      refine ev_iaddN (a := 5) (b := p) dX10_sea_144 ?_
      refine ev_iload_n (i := 2) dX10_sea_145 rfl rfl ?_
      refine ev_iastN (j := (5 + p)) dX10_sea_146 rfl (by omega) (by decide) ?_
      refine ev_aload_n (i := 0) dX10_sea_147 rfl rfl ?_
      refine ev_getR fX10_28 dX10_sea_148 rfl rfl (by decide) ?_
      refine ev_bipush (v := 11) dX10_sea_151 kb_11 ?_
      refine ev_iload_n (i := 2) dX10_sea_153 rfl rfl ?_
      refine ev_iaddN (a := 11) (b := p) dX10_sea_154 ?_
      refine ev_aload_n (i := 0) dX10_sea_155 rfl rfl ?_
      refine ev_getR fX10_47 dX10_sea_156 rfl rfl (by decide) ?_
      refine ev_iload_n (i := 2) dX10_sea_159 rfl rfl ?_
      refine ev_ialdN (j := p) dX10_sea_160 rfl (by omega) (by decide) ?_
      rw [nw_up_ne (by decide), hJ 232 (by decide)]
      refine ev_iastN (j := (11 + p)) dX10_sea_161 rfl (by omega) (by decide) ?_
      refine ev_aload_n (i := 0) dX10_sea_162 rfl rfl ?_
      refine ev_getR fX10_28 dX10_sea_163 rfl rfl (by decide) ?_
      refine ev_bipush (v := 23) dX10_sea_166 kb_23 ?_
      refine ev_iload_n (i := 2) dX10_sea_168 rfl rfl ?_
      refine ev_iaddN (a := 23) (b := p) dX10_sea_169 ?_
      refine ev_ldc qX10_165 dX10_sea_170 ?_
      refine ev_iastN (j := (23 + p)) dX10_sea_172 rfl (by omega) (by decide) ?_
      refine ev_iincN (a := p) dX10_sea_173 rfl (Nat.le_of_ble_eq_true rfl) rfl ?_
      refine ev_goto (tgt := 128) dX10_sea_176 (by decide) ?_
      refine ih (p + 1) _ (by omega) (fun j hj => ?_) (fun i hi => by rw [nw_up_self, pk_un (by omega), nw_up_self, pk_un (by omega), nw_up_self, pk_un (by omega)]; exact h2 i hi) (fun q q1 => by rw [nw_up_ne q1, nw_up_ne q1, nw_up_ne q1]; exact hJ q q1)
      rw [nw_up_self, nw_up_self, nw_up_self]
      by_cases e : j = p
      · subst e
        refine ⟨?_, ?_, pk_us⟩
        · rw [pk_un (by omega), pk_un (by omega), pk_us]
        · rw [pk_un (by omega), pk_us]
      · refine ⟨?_, ?_, ?_⟩
        · rw [pk_un (by omega), pk_un (by omega), pk_un (by omega)]; exact (h1 j (by omega)).1
        · rw [pk_un (by omega), pk_un (by omega), pk_un (by omega)]; exact (h1 j (by omega)).2.1
        · rw [pk_un (by omega), pk_un (by omega), pk_un (by omega)]; exact (h1 j (by omega)).2.2
theorem m_sea (h160 : n ≤ 160) (ha : a = q_at n (I 224)) (hpos : ∀ i, i < n → ¬ I 224 i = -1) (hn : I 219 6 = nI n) (C0 F0 : Nat → Int32) : nw_cI l g 7 mX10_sea [.ref (nw_a g 219)] I (fun r K => (∃ e q, q_all a C0 F0 = .inl (e, q) ∧ r = -1000100 - nI q ∧ K 219 7 = e ∧ K 219 6 = 0 ∧ (∀ j, j < 6 ∨ (7 < j ∧ j < 15) ∨ 21 < j → K 219 j = I 219 j) ∧ ∀ x, x ≠ 219 → x ≠ 227 → x ≠ 231 → x ≠ 232 → K x = I x) ∨ ∃ N T S C F, q_all a C0 F0 = .inr (N, T, S, C, F) ∧ r = nI N ∧ K 225 0 = 1 ∧ nl_C N T S C (K 225) ∧ nl_F T S F (K 226) ∧ K 219 14 = 0 ∧ K 219 6 = 0 ∧ (∀ j, j < 6 ∨ (6 < j ∧ j < 14) ∨ 21 < j → K 219 j = I 219 j) ∧ ∀ x, x ≠ 219 → x ≠ 225 → x ≠ 226 → x ≠ 227 → x ≠ 231 → x ≠ 232 → K x = I x) := by
  refine ⟨(Nat.le_of_ble_eq_true rfl), ?_⟩
  refine ev_aload_n (i := 0) dX10_sea_0 rfl rfl ?_
  refine s_callVz (As := []) (m_reads h160 ha hpos hn C0 F0) (Nat.le_of_ble_eq_true rfl) lX10_158 kX10_reads vX10_reads dX10_sea_1 rfl rfl rfl (by decide) rfl (Nat.le_of_ble_eq_true rfl) (fun b0 K0 hK => ?_)
  refine ev_istore_n (i := 1) dX10_sea_4 rfl (Nat.le_of_ble_eq_true rfl) rfl ?_
  refine ev_aload_n (i := 0) dX10_sea_5 rfl rfl ?_
  refine ev_iconst (v := 0) dX10_sea_6 kc_0 ?_
  refine ev_putI fX10_89 dX10_sea_7 rfl rfl (by decide) rfl rfl rfl rfl ?_
  refine ev_iload_n (i := 1) dX10_sea_10 rfl rfl ?_
  refine s_ifZ_ne (tgt := 30) dX10_sea_11 (by decide) (fun h11 => ?_) (fun h11 => ?_)
  · obtain ⟨N, T, S, C, F, e1, -, g0, gd⟩ := hK.1.resolve_left (by rintro ⟨e, q, -, hb, -⟩; rw [hb] at h11; cases h11)
    have hok := q_all_ok (f := I 224) (n := n) (by rw [← ha]; exact e1)
    obtain ⟨hc, h0, h0T, hkk, f0, f1, f2, f3⟩ := hok
    refine ev_iconst (v := 0) dX10_sea_30 kc_0 ?_
    refine ev_istore_n (i := 2) dX10_sea_31 rfl (Nat.le_of_ble_eq_true rfl) rfl ?_
    refine l_sea1 (I := nw_up K0 219 6 0) (fun K1 a1 a2 => ?_) 55 0 _ (by omega) (nm_mx_0 _ _ _).symm (fun _ _ => rfl)
    refine ev_iconst (v := 0) dX10_sea_56 kc_0 ?_
    refine ev_istore_n (i := 2) dX10_sea_57 rfl (Nat.le_of_ble_eq_true rfl) rfl ?_
    refine l_sea2 (I := K1) (fun K2 b1 b2 => ?_) 29 0 _ (by omega) (nm_mx_0 _ _ _).symm (fun _ _ => rfl)
    have k225 : ∀ i, i < 55 → K2 225 i = K0 227 i := fun i hi => by
      rw [b2 225 (by decide), a1]
      have e := nm_mx_in (o := 0) (f := nw_up K0 219 6 0 227) (h := nw_up K0 219 6 0 225) hi
      rw [Nat.zero_add, nw_up_ne (by decide)] at e
      exact e
    have k226 : ∀ i, i < 29 → K2 226 i = 0 := fun i hi => by rw [b1, nm_mx_29 i hi]
    have kx : ∀ x, x ≠ 225 → x ≠ 226 → K2 x = nw_up K0 219 6 0 x := fun x q1 q2 => by rw [b2 x q2, a2 x q1]
    refine ev_aload_n (i := 0) dX10_sea_77 rfl rfl ?_
    refine ev_getR fX10_28 dX10_sea_78 rfl rfl (by decide) ?_
    refine ev_iconst (v := 1) dX10_sea_81 kc_1 ?_
    refine ev_bipush (v := 9) dX10_sea_82 kb_9 ?_
    refine ev_iastN (j := 1) dX10_sea_84 rfl (by omega) (by decide) ?_
    refine ev_iconst (v := 0) dX10_sea_85 kc_0 ?_
    refine ev_istore_n (i := 2) dX10_sea_86 rfl (Nat.le_of_ble_eq_true rfl) rfl ?_
    refine l_sea3 (I := nw_up K2 226 1 9) (f := K2 225) (T := T) (by rw [k225 4 (by omega), gd.1 4 (by unfold nl_c; omega)]; exact hc.2.1) hc.2.2.2.2.1 (nw_up_ne (by decide)) (fun K3 c1 c2 c3 => ?_) 3 0 _ (by omega) (fun j hj => by omega) (fun _ _ => rfl) (fun _ _ => rfl)
    refine ev_iconst (v := 0) dX10_sea_126 kc_0 ?_
    refine ev_istore_n (i := 2) dX10_sea_127 rfl (Nat.le_of_ble_eq_true rfl) rfl ?_
    refine l_sea4 (I := K3) (f := K2 225) (S := S) (by rw [k225 5 (by omega), gd.1 5 (by unfold nl_c; omega)]; exact hc.2.2.1) hc.2.2.2.2.2 (by rw [c3 225 (by decide), nw_up_ne (by decide)]) (fun K4 d1 d2 d3 => ?_) S 0 _ (by omega) (fun j hj => by omega) (fun _ _ => rfl) (fun _ _ => rfl)
    have l225 : K4 225 = K2 225 := by rw [d3 225 (by decide), c3 225 (by decide), nw_up_ne (by decide)]
    have lx : ∀ x, x ≠ 219 → x ≠ 225 → x ≠ 226 → K4 x = K0 x := fun x q0 q1 q2 => by rw [d3 x q2, c3 x q2, nw_up_ne q2, kx x q1 q2, nw_up_ne q0]
    have l219 : K4 219 = upd (K0 219) 6 0 := by rw [d3 219 (by decide), c3 219 (by decide), nw_up_ne (by decide), kx 219 (by decide) (by decide), nw_up_self]
    refine ev_aload_n (i := 0) dX10_sea_179 rfl rfl ?_
    refine ev_iconst (v := 0) dX10_sea_180 kc_0 ?_
    refine ev_putI fX10_166 dX10_sea_181 rfl rfl (by decide) rfl rfl rfl rfl ?_
    refine ev_aload_n (i := 0) dX10_sea_184 rfl rfl ?_
    refine ev_getR fX10_25 dX10_sea_185 rfl rfl (by decide) ?_
    refine ev_iconst (v := 3) dX10_sea_188 kc_3 ?_
    refine ev_ialdN (j := 3) dX10_sea_189 rfl (by omega) (by decide) ?_
    rw [nw_up_ne (by decide), l225, k225 3 (by omega), gd.1 3 (by unfold nl_c; omega), hc.1]
    exact s_retI dX10_sea_190 (by
      refine Or.inr ⟨N, T, S, C, F, e1, rfl, ?_, ⟨hc, fun i hi => ?_⟩, fun i hi => ?_, by rw [nw_up_self, pk_us], by rw [nw_up_self, pk_un (by decide), l219, pk_us], fun j hj => ?_, fun x q1 q2 q3 q4 q5 q6 => ?_⟩
      · rw [nw_up_ne (by decide), l225, k225 0 (by omega)]; exact g0
      · rw [nw_up_ne (by decide), l225, k225 i (by have := hc.2.2.2.1; have := hc.2.2.2.2.1; have := hc.2.2.2.2.2; unfold nl_c at hi; omega)]
        exact gd.1 i hi
      · rw [nw_up_ne (by decide)]
        have hT3 := hc.2.2.2.2.1
        have hS6 := hc.2.2.2.2.2
        have w0 : ∀ j, (j < 2 ∨ 5 ≤ j) → K3 226 j = upd (K2 226) 1 9 j := fun j hj => by rw [c2 j hj, nw_up_self]
        have hg : ∀ j, j < T → K0 231 j = F (2 + j) := gd.2.1
        have hh : ∀ j, j < S → K0 232 j = F (11 + j) := gd.2.2
        have k3 : ∀ x, x ≠ 219 → x ≠ 225 → x ≠ 226 → K3 x = K0 x := fun x q0 q1 q2 => by rw [c3 x q2, nw_up_ne q2, kx x q1 q2, nw_up_ne q0]
        have hi2 : i = 0 ∨ i = 1 ∨ (2 ≤ i ∧ i < 2 + T) ∨ (5 ≤ i ∧ i < 5 + S) ∨ (11 ≤ i ∧ i < 11 + S) ∨ (17 ≤ i ∧ i < 17 + S) ∨ (23 ≤ i ∧ i < 23 + S) := by unfold nl_f at hi; omega
        rcases hi2 with rfl | rfl | q | q | q | q | q
        · rw [d2 0 (by omega), w0 0 (by omega), pk_un (by decide), k226 0 (by omega), f0]
        · rw [d2 1 (by omega), w0 1 (by omega), pk_us, f1]
        · obtain ⟨j, rfl⟩ : ∃ j, i = 2 + j := ⟨i - 2, by omega⟩
          rw [d2 (2 + j) (by omega), c1 j (by omega), nw_up_ne (by decide), kx 231 (by decide) (by decide), nw_up_ne (by decide)]
          exact hg j (by omega)
        · obtain ⟨j, rfl⟩ : ∃ j, i = 5 + j := ⟨i - 5, by omega⟩
          rw [(d1 j (by omega)).1, (f2 j (by omega)).1]
        · obtain ⟨j, rfl⟩ : ∃ j, i = 11 + j := ⟨i - 11, by omega⟩
          rw [(d1 j (by omega)).2.1, k3 232 (by decide) (by decide) (by decide)]
          exact hh j (by omega)
        · obtain ⟨j, rfl⟩ : ∃ j, i = 17 + j := ⟨i - 17, by omega⟩
          rw [d2 (17 + j) (by omega), w0 (17 + j) (by omega), pk_un (by omega), k226 (17 + j) (by omega), (f2 j (by omega)).2.1]
        · obtain ⟨j, rfl⟩ : ∃ j, i = 23 + j := ⟨i - 23, by omega⟩
          rw [(d1 j (by omega)).2.2, (f2 j (by omega)).2.2]
      · rw [nw_up_self, pk_un (by omega), l219, pk_un (by omega)]
        exact hK.2.1 j (by omega)
      · rw [nw_up_ne q1, lx x q1 q2 q3]
        exact hK.2.2 x q1 q4 q5 q6)
  · obtain ⟨e, q, e1, -, g1, g2⟩ := hK.1.resolve_right (by rintro ⟨N, T, S, C, F, -, hb, -⟩; rw [hb] at h11; cases h11)
    refine ev_aload_n (i := 0) dX10_sea_14 rfl rfl ?_
    refine ev_aload_n (i := 0) dX10_sea_15 rfl rfl ?_
    refine ev_getI fX10_117 dX10_sea_16 rfl rfl (by decide) ?_
    rw [nw_up_self, pk_un (by decide), g1]
    refine ev_putI fX10_161 dX10_sea_19 rfl rfl (by decide) rfl rfl rfl rfl ?_
    refine ev_ldc qX10_164 dX10_sea_22 ?_
    refine ev_aload_n (i := 0) dX10_sea_24 rfl rfl ?_
    refine ev_getI fX10_100 dX10_sea_25 rfl rfl (by decide) ?_
    rw [nw_up_self, pk_un (by decide), nw_up_self, pk_un (by decide), g2]
    refine ev_isub dX10_sea_28 ?_
    exact s_retI dX10_sea_29 (by
      refine Or.inl ⟨e, q, e1, rfl, by rw [nw_up_self, pk_us], by rw [nw_up_self, pk_un (by decide), nw_up_self, pk_us], fun j hj => ?_, fun x q1 q2 q3 q4 => ?_⟩
      · rw [nw_up_self, pk_un (by omega), nw_up_self, pk_un (by omega)]
        exact hK.2.1 j (by omega)
      · rw [nw_up_ne q1, nw_up_ne q1]
        exact hK.2.2 x q1 q2 q3 q4)
end
