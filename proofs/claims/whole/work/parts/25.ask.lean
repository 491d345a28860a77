section
variable {l : Launch} {g : nw_G} {I : nw_Me} {kd h lf sn : Int32} {t q : Nat}
def nv_lv (I : nw_Me) (b : Int32) : nw_Me := nw_up (nw_up I 193 (I 192 1).toNatClampNeg b) 192 1 (I 192 1 + 1)
def nv_lvs (bs : List Int32) (I : nw_Me) : nw_Me := bs.foldl nv_lv I
def nv_as (I : nw_Me) (t : Nat) (kd h lf sn : Int32) : Prop := I 192 1 = nI t ∧ I 192 2 = kd ∧ I 192 3 = h ∧ I 192 4 = lf ∧ I 192 5 = sn
theorem nv_as.lv (ha : nv_as I t kd h lf sn) (b : Int32) : nv_as (nv_lv I b) (t + 1) kd h lf sn := by
  obtain ⟨h1, h2, h3, h4, h5⟩ := ha
  unfold nv_lv
  exact ⟨by rw [nw_up_self, pk_us, h1, nI_1], by simp [nw_up, h2], by simp [nw_up, h3], by simp [nw_up, h4], by simp [nw_up, h5]⟩
theorem nv_as.lvs (ha : nv_as I t kd h lf sn) (bs : List Int32) : nv_as (nv_lvs bs I) (t + bs.length) kd h lf sn := by
  induction bs generalizing I t with
  | nil => exact ha
  | cons b r ih =>
    have := ih (ha.lv b)
    rw [List.length_cons, show t + (r.length + 1) = t + 1 + r.length by omega]
    exact this
theorem nv_lvs_app (a b : List Int32) (I : nw_Me) : nv_lvs b (nv_lvs a I) = nv_lvs (a ++ b) I := by simp [nv_lvs, List.foldl_append]
theorem nv_lvs_ne (bs : List Int32) (I : nw_Me) {k : Nat} (h1 : k ≠ 192) (h2 : k ≠ 193) : nv_lvs bs I k = I k := by
  induction bs generalizing I with
  | nil => rfl
  | cons b r ih =>
    show nv_lvs r (nv_lv I b) k = I k
    rw [ih]
    unfold nv_lv
    rw [nw_up_ne h1, nw_up_ne h2]
theorem c_leave (ht : I 192 1 = nI t) (h16 : t < 16) (b : Int32) : nw_dV l g 0 mX1_leave [.ref (nw_a g 192), .int b] I (nv_lv I b) := by
  refine ⟨(Nat.le_of_ble_eq_true rfl), ?_⟩
  have e16 : (16 : Int32) = nI 16 := by decide
  refine ev_aload_n (i := 0) dX1_leave_0 rfl rfl ?_
  refine ev_getI fX1_13 dX1_leave_1 rfl rfl (by decide) ?_
  
  refine ev_bipush (v := 16) dX1_leave_4 kb_16 ?_
  rw [ht]
  refine ev_icmp_ge (tgt := 29) dX1_leave_6 (by decide) (fun h6 => ?_) (fun h6 => ?_)
  · exact absurd h6 (by rw [e16]; exact nI_ge h16 (by decide))
  · refine ev_aload_n (i := 0) dX1_leave_9 rfl rfl ?_
    refine ev_getR fX1_9 dX1_leave_10 rfl rfl (by decide) ?_
    refine ev_aload_n (i := 0) dX1_leave_13 rfl rfl ?_
    refine ev_getI fX1_13 dX1_leave_14 rfl rfl (by decide) ?_
    rw [ht]
    refine ev_iload_n (i := 1) dX1_leave_17 rfl rfl ?_
    refine ev_iastN dX1_leave_18 rfl h16 (by decide) ?_
    refine ev_aload_n (i := 0) dX1_leave_19 rfl rfl ?_
    refine ev_dup dX1_leave_20 rfl ?_
    refine ev_getI fX1_13 dX1_leave_21 rfl rfl (by decide) ?_
    refine ev_iconst (v := 1) dX1_leave_24 kc_1 ?_
    refine ev_iadd dX1_leave_25 ?_
    refine ev_putI fX1_13 dX1_leave_26 rfl rfl (by decide) rfl rfl rfl rfl ?_
    exact s_retV dX1_leave_29 (by unfold nv_lv; rw [ht, nI_clamp (by omega), nw_up_ne (by decide), ht])
theorem g10 (ha : nv_as I t kd h lf sn) (ht : t + 1 ≤ 16) (hq : q + 2 * 1 ≤ 30) : nw_dI l g 1 mX1_given [.ref (nw_a g 192), .int 10, .int (nI q)] I (h) (nv_lvs [10] I) := by
  refine ⟨(Nat.le_of_ble_eq_true rfl), ?_⟩
  have e30 : (30 : Int32) = nI 30 := by decide
  have a1 := ha.lv 10
  refine ev_iload_n (i := 2) dX1_given_0 rfl rfl ?_
  refine ev_bipush (v := 30) dX1_given_1 kb_30 ?_
  refine ev_icmp_le (tgt := 8) dX1_given_3 (by decide) (fun h3 => ?_) (fun h3 => ?_)
  · refine ev_aload_n (i := 0) dX1_given_8 rfl rfl ?_
    refine ev_iload_n (i := 1) dX1_given_9 rfl rfl ?_
    refine s_dVv (As := [_]) (c_leave ha.1 (by omega) _) (Nat.le_of_ble_eq_true rfl) lX1_56 kX1_leave vX1_leave dX1_given_10 rfl rfl rfl (by decide) rfl (Nat.le_of_ble_eq_true rfl) ?_
    refine ev_iload_n (i := 2) dX1_given_13 rfl rfl ?_
    refine ev_iconst (v := 1) dX1_given_14 kc_1 ?_
    refine ev_iadd dX1_given_15 ?_
    rw [nI_1]
    refine ev_istore_n (i := 3) dX1_given_16 rfl (Nat.le_of_ble_eq_true rfl) rfl ?_
    refine ev_iload_n (i := 1) dX1_given_17 rfl rfl ?_
    refine ev_tableIn (off := 74) (tgt := 92) dX1_given_18 (by decide) (by decide) (by decide) (by decide) ?_
    refine ev_aload_n (i := 0) dX1_given_92 rfl rfl ?_
    refine ev_getI fX1_28 dX1_given_93 rfl rfl (by decide) ?_
    exact s_retI dX1_given_96 ⟨a1.2.2.1, by simp only [nv_lvs, List.foldl_cons, List.foldl_nil]⟩
  · exact absurd (by rw [e30]; exact nI_le (by omega) (by omega)) h3
theorem g20 (ha : nv_as I t kd h lf sn) (ht : t + 1 ≤ 16) (hq : q + 2 * 1 ≤ 30) : nw_dI l g 1 mX1_given [.ref (nw_a g 192), .int 20, .int (nI q)] I (sn) (nv_lvs [20] I) := by
  refine ⟨(Nat.le_of_ble_eq_true rfl), ?_⟩
  have e30 : (30 : Int32) = nI 30 := by decide
  have a1 := ha.lv 20
  refine ev_iload_n (i := 2) dX1_given_0 rfl rfl ?_
  refine ev_bipush (v := 30) dX1_given_1 kb_30 ?_
  refine ev_icmp_le (tgt := 8) dX1_given_3 (by decide) (fun h3 => ?_) (fun h3 => ?_)
  · refine ev_aload_n (i := 0) dX1_given_8 rfl rfl ?_
    refine ev_iload_n (i := 1) dX1_given_9 rfl rfl ?_
    refine s_dVv (As := [_]) (c_leave ha.1 (by omega) _) (Nat.le_of_ble_eq_true rfl) lX1_56 kX1_leave vX1_leave dX1_given_10 rfl rfl rfl (by decide) rfl (Nat.le_of_ble_eq_true rfl) ?_
    refine ev_iload_n (i := 2) dX1_given_13 rfl rfl ?_
    refine ev_iconst (v := 1) dX1_given_14 kc_1 ?_
    refine ev_iadd dX1_given_15 ?_
    rw [nI_1]
    refine ev_istore_n (i := 3) dX1_given_16 rfl (Nat.le_of_ble_eq_true rfl) rfl ?_
    refine ev_iload_n (i := 1) dX1_given_17 rfl rfl ?_
    refine ev_tableIn (off := 125) (tgt := 143) dX1_given_18 (by decide) (by decide) (by decide) (by decide) ?_
    refine ev_aload_n (i := 0) dX1_given_143 rfl rfl ?_
    refine ev_getI fX1_38 dX1_given_144 rfl rfl (by decide) ?_
    exact s_retI dX1_given_147 ⟨a1.2.2.2.2, by simp only [nv_lvs, List.foldl_cons, List.foldl_nil]⟩
  · exact absurd (by rw [e30]; exact nI_le (by omega) (by omega)) h3
theorem g21 (ha : nv_as I t kd h lf sn) (ht : t + 2 ≤ 16) (hq : q + 2 * 2 ≤ 30) : nw_dI l g 2 mX1_given [.ref (nw_a g 192), .int 21, .int (nI q)] I (sn + lf) (nv_lvs [21, 20] I) := by
  refine ⟨(Nat.le_of_ble_eq_true rfl), ?_⟩
  have e30 : (30 : Int32) = nI 30 := by decide
  have a1 := ha.lv 21
  refine ev_iload_n (i := 2) dX1_given_0 rfl rfl ?_
  refine ev_bipush (v := 30) dX1_given_1 kb_30 ?_
  refine ev_icmp_le (tgt := 8) dX1_given_3 (by decide) (fun h3 => ?_) (fun h3 => ?_)
  · refine ev_aload_n (i := 0) dX1_given_8 rfl rfl ?_
    refine ev_iload_n (i := 1) dX1_given_9 rfl rfl ?_
    refine s_dVv (As := [_]) (c_leave ha.1 (by omega) _) (Nat.le_of_ble_eq_true rfl) lX1_56 kX1_leave vX1_leave dX1_given_10 rfl rfl rfl (by decide) rfl (Nat.le_of_ble_eq_true rfl) ?_
    refine ev_iload_n (i := 2) dX1_given_13 rfl rfl ?_
    refine ev_iconst (v := 1) dX1_given_14 kc_1 ?_
    refine ev_iadd dX1_given_15 ?_
    rw [nI_1]
    refine ev_istore_n (i := 3) dX1_given_16 rfl (Nat.le_of_ble_eq_true rfl) rfl ?_
    refine ev_iload_n (i := 1) dX1_given_17 rfl rfl ?_
    refine ev_tableIn (off := 130) (tgt := 148) dX1_given_18 (by decide) (by decide) (by decide) (by decide) ?_
    refine ev_aload_n (i := 0) dX1_given_148 rfl rfl ?_
    refine ev_bipush (v := 20) dX1_given_149 kb_20 ?_
    refine ev_iload_n (i := 3) dX1_given_151 rfl rfl ?_
    refine s_dVi (As := [_, _]) (g20 a1 (by omega) (by omega)) (Nat.le_of_ble_eq_true rfl) lX1_50 kX1_given vX1_given dX1_given_152 rfl rfl rfl (by decide) rfl (Nat.le_of_ble_eq_true rfl) ?_
    refine ev_aload_n (i := 0) dX1_given_155 rfl rfl ?_
    refine ev_getI fX1_35 dX1_given_156 rfl rfl (by decide) ?_
    refine ev_iadd dX1_given_159 ?_
    exact s_retI dX1_given_160 ⟨by rw [(a1.lvs [20]).2.2.2.1], by simp only [nv_lvs, List.foldl_cons, List.foldl_nil]⟩
  · exact absurd (by rw [e30]; exact nI_le (by omega) (by omega)) h3
theorem g22 (ha : nv_as I t kd h lf sn) (ht : t + 3 ≤ 16) (hq : q + 2 * 3 ≤ 30) : nw_dI l g 3 mX1_given [.ref (nw_a g 192), .int 22, .int (nI q)] I (sn + lf - 1000) (nv_lvs [22, 21, 20] I) := by
  refine ⟨(Nat.le_of_ble_eq_true rfl), ?_⟩
  have e30 : (30 : Int32) = nI 30 := by decide
  have a1 := ha.lv 22
  refine ev_iload_n (i := 2) dX1_given_0 rfl rfl ?_
  refine ev_bipush (v := 30) dX1_given_1 kb_30 ?_
  refine ev_icmp_le (tgt := 8) dX1_given_3 (by decide) (fun h3 => ?_) (fun h3 => ?_)
  · refine ev_aload_n (i := 0) dX1_given_8 rfl rfl ?_
    refine ev_iload_n (i := 1) dX1_given_9 rfl rfl ?_
    refine s_dVv (As := [_]) (c_leave ha.1 (by omega) _) (Nat.le_of_ble_eq_true rfl) lX1_56 kX1_leave vX1_leave dX1_given_10 rfl rfl rfl (by decide) rfl (Nat.le_of_ble_eq_true rfl) ?_
    refine ev_iload_n (i := 2) dX1_given_13 rfl rfl ?_
    refine ev_iconst (v := 1) dX1_given_14 kc_1 ?_
    refine ev_iadd dX1_given_15 ?_
    rw [nI_1]
    refine ev_istore_n (i := 3) dX1_given_16 rfl (Nat.le_of_ble_eq_true rfl) rfl ?_
    refine ev_iload_n (i := 1) dX1_given_17 rfl rfl ?_
    refine ev_tableIn (off := 143) (tgt := 161) dX1_given_18 (by decide) (by decide) (by decide) (by decide) ?_
    refine ev_aload_n (i := 0) dX1_given_161 rfl rfl ?_
    refine ev_bipush (v := 21) dX1_given_162 kb_21 ?_
    refine ev_iload_n (i := 3) dX1_given_164 rfl rfl ?_
    refine s_dVi (As := [_, _]) (g21 a1 (by omega) (by omega)) (Nat.le_of_ble_eq_true rfl) lX1_50 kX1_given vX1_given dX1_given_165 rfl rfl rfl (by decide) rfl (Nat.le_of_ble_eq_true rfl) ?_
    refine ev_sipush (v := 1000) dX1_given_168 ks_1000 ?_
    refine ev_isub dX1_given_171 ?_
    exact s_retI dX1_given_172 ⟨rfl, by simp only [nv_lvs, List.foldl_cons, List.foldl_nil]⟩
  · exact absurd (by rw [e30]; exact nI_le (by omega) (by omega)) h3
theorem g24 (ha : nv_as I t kd h lf sn) (ht : t + 3 ≤ 16) (hq : q + 2 * 3 ≤ 30) : nw_dI l g 3 mX1_given [.ref (nw_a g 192), .int 24, .int (nI q)] I ((sn + lf) * 2) (nv_lvs [24, 21, 20] I) := by
  refine ⟨(Nat.le_of_ble_eq_true rfl), ?_⟩
  have e30 : (30 : Int32) = nI 30 := by decide
  have a1 := ha.lv 24
  refine ev_iload_n (i := 2) dX1_given_0 rfl rfl ?_
  refine ev_bipush (v := 30) dX1_given_1 kb_30 ?_
  refine ev_icmp_le (tgt := 8) dX1_given_3 (by decide) (fun h3 => ?_) (fun h3 => ?_)
  · refine ev_aload_n (i := 0) dX1_given_8 rfl rfl ?_
    refine ev_iload_n (i := 1) dX1_given_9 rfl rfl ?_
    refine s_dVv (As := [_]) (c_leave ha.1 (by omega) _) (Nat.le_of_ble_eq_true rfl) lX1_56 kX1_leave vX1_leave dX1_given_10 rfl rfl rfl (by decide) rfl (Nat.le_of_ble_eq_true rfl) ?_
    refine ev_iload_n (i := 2) dX1_given_13 rfl rfl ?_
    refine ev_iconst (v := 1) dX1_given_14 kc_1 ?_
    refine ev_iadd dX1_given_15 ?_
    rw [nI_1]
    refine ev_istore_n (i := 3) dX1_given_16 rfl (Nat.le_of_ble_eq_true rfl) rfl ?_
    refine ev_iload_n (i := 1) dX1_given_17 rfl rfl ?_
    refine ev_tableIn (off := 170) (tgt := 188) dX1_given_18 (by decide) (by decide) (by decide) (by decide) ?_
    refine ev_aload_n (i := 0) dX1_given_188 rfl rfl ?_
    refine ev_bipush (v := 21) dX1_given_189 kb_21 ?_
    refine ev_iload_n (i := 3) dX1_given_191 rfl rfl ?_
    refine s_dVi (As := [_, _]) (g21 a1 (by omega) (by omega)) (Nat.le_of_ble_eq_true rfl) lX1_50 kX1_given vX1_given dX1_given_192 rfl rfl rfl (by decide) rfl (Nat.le_of_ble_eq_true rfl) ?_
    refine ev_iconst (v := 2) dX1_given_195 kc_2 ?_
    refine ev_imul dX1_given_196 ?_
    exact s_retI dX1_given_197 ⟨rfl, by simp only [nv_lvs, List.foldl_cons, List.foldl_nil]⟩
  · exact absurd (by rw [e30]; exact nI_le (by omega) (by omega)) h3
theorem g13 (ha : nv_as I t kd h lf sn) (ht : t + 2 ≤ 16) (hq : q + 2 * 2 ≤ 30) : nw_dI l g 2 mX1_given [.ref (nw_a g 192), .int 13, .int (nI q)] I (h - 100) (nv_lvs [13, 10] I) := by
  refine ⟨(Nat.le_of_ble_eq_true rfl), ?_⟩
  have e30 : (30 : Int32) = nI 30 := by decide
  have a1 := ha.lv 13
  refine ev_iload_n (i := 2) dX1_given_0 rfl rfl ?_
  refine ev_bipush (v := 30) dX1_given_1 kb_30 ?_
  refine ev_icmp_le (tgt := 8) dX1_given_3 (by decide) (fun h3 => ?_) (fun h3 => ?_)
  · refine ev_aload_n (i := 0) dX1_given_8 rfl rfl ?_
    refine ev_iload_n (i := 1) dX1_given_9 rfl rfl ?_
    refine s_dVv (As := [_]) (c_leave ha.1 (by omega) _) (Nat.le_of_ble_eq_true rfl) lX1_56 kX1_leave vX1_leave dX1_given_10 rfl rfl rfl (by decide) rfl (Nat.le_of_ble_eq_true rfl) ?_
    refine ev_iload_n (i := 2) dX1_given_13 rfl rfl ?_
    refine ev_iconst (v := 1) dX1_given_14 kc_1 ?_
    refine ev_iadd dX1_given_15 ?_
    rw [nI_1]
    refine ev_istore_n (i := 3) dX1_given_16 rfl (Nat.le_of_ble_eq_true rfl) rfl ?_
    refine ev_iload_n (i := 1) dX1_given_17 rfl rfl ?_
    refine ev_tableIn (off := 104) (tgt := 122) dX1_given_18 (by decide) (by decide) (by decide) (by decide) ?_
    refine ev_aload_n (i := 0) dX1_given_122 rfl rfl ?_
    refine ev_bipush (v := 10) dX1_given_123 kb_10 ?_
    refine ev_iload_n (i := 3) dX1_given_125 rfl rfl ?_
    refine s_dVi (As := [_, _]) (g10 a1 (by omega) (by omega)) (Nat.le_of_ble_eq_true rfl) lX1_50 kX1_given vX1_given dX1_given_126 rfl rfl rfl (by decide) rfl (Nat.le_of_ble_eq_true rfl) ?_
    refine ev_bipush (v := 100) dX1_given_129 kb_100 ?_
    refine ev_isub dX1_given_131 ?_
    exact s_retI dX1_given_132 ⟨rfl, by simp only [nv_lvs, List.foldl_cons, List.foldl_nil]⟩
  · exact absurd (by rw [e30]; exact nI_le (by omega) (by omega)) h3
theorem g14 (ha : nv_as I t kd h lf sn) (ht : t + 3 ≤ 16) (hq : q + 2 * 3 ≤ 30) : nw_dI l g 3 mX1_given [.ref (nw_a g 192), .int 14, .int (nI q)] I ((h - 100) * 2) (nv_lvs [14, 13, 10] I) := by
  refine ⟨(Nat.le_of_ble_eq_true rfl), ?_⟩
  have e30 : (30 : Int32) = nI 30 := by decide
  have a1 := ha.lv 14
  refine ev_iload_n (i := 2) dX1_given_0 rfl rfl ?_
  refine ev_bipush (v := 30) dX1_given_1 kb_30 ?_
  refine ev_icmp_le (tgt := 8) dX1_given_3 (by decide) (fun h3 => ?_) (fun h3 => ?_)
  · refine ev_aload_n (i := 0) dX1_given_8 rfl rfl ?_
    refine ev_iload_n (i := 1) dX1_given_9 rfl rfl ?_
    refine s_dVv (As := [_]) (c_leave ha.1 (by omega) _) (Nat.le_of_ble_eq_true rfl) lX1_56 kX1_leave vX1_leave dX1_given_10 rfl rfl rfl (by decide) rfl (Nat.le_of_ble_eq_true rfl) ?_
    refine ev_iload_n (i := 2) dX1_given_13 rfl rfl ?_
    refine ev_iconst (v := 1) dX1_given_14 kc_1 ?_
    refine ev_iadd dX1_given_15 ?_
    rw [nI_1]
    refine ev_istore_n (i := 3) dX1_given_16 rfl (Nat.le_of_ble_eq_true rfl) rfl ?_
    refine ev_iload_n (i := 1) dX1_given_17 rfl rfl ?_
    refine ev_tableIn (off := 115) (tgt := 133) dX1_given_18 (by decide) (by decide) (by decide) (by decide) ?_
    refine ev_aload_n (i := 0) dX1_given_133 rfl rfl ?_
    refine ev_bipush (v := 13) dX1_given_134 kb_13 ?_
    refine ev_iload_n (i := 3) dX1_given_136 rfl rfl ?_
    refine s_dVi (As := [_, _]) (g13 a1 (by omega) (by omega)) (Nat.le_of_ble_eq_true rfl) lX1_50 kX1_given vX1_given dX1_given_137 rfl rfl rfl (by decide) rfl (Nat.le_of_ble_eq_true rfl) ?_
    refine ev_iconst (v := 2) dX1_given_140 kc_2 ?_
    refine ev_imul dX1_given_141 ?_
    exact s_retI dX1_given_142 ⟨rfl, by simp only [nv_lvs, List.foldl_cons, List.foldl_nil]⟩
  · exact absurd (by rw [e30]; exact nI_le (by omega) (by omega)) h3
theorem at_1M (ha : nv_as I t kd h lf sn) (ht : t + 2 ≤ 16) (hq : q + 2 * 3 ≤ 30) (lv : Nat) (hlv : lv ≤ 5) (z : Option Value) : nw_S l g 3 mX1_asked 8 [some (.ref (nw_a g 192)), some (.int 1), some (.int (nI q)), some (.int 1), some (.int (nI lv)), z] [] I (nw_qI (fun r I' => r = sn + lf ∧ I' = nv_lvs [21, 20] I)) := by
  have e6 : (6 : Int32) = nI 6 := by decide
  refine ev_iload dX1_asked_8 rfl ?_
  refine ev_bipush (v := 6) dX1_asked_10 kb_6 ?_
  refine ev_icmp_ge (tgt := 58) dX1_asked_12 (by decide) (fun h12 => ?_) (fun h12 => ?_)
  · exact absurd h12 (by rw [e6]; exact nI_ge (by omega) (by decide))
  · refine ev_iload_n (i := 3) dX1_asked_15 rfl rfl ?_
    refine ev_iconst (v := (-1)) dX1_asked_16 kc_m1 ?_
    refine ev_icmp_eq (tgt := 58) dX1_asked_17 (by decide) (fun h17 => ?_) (fun h17 => ?_)
    · exact absurd h17 (by decide)
    · refine ev_gets_told fX1_47 dX1_asked_20 ?_
      refine ev_bipush (v := 6) dX1_asked_23 kb_6 ?_
      refine ev_iload_n (i := 1) dX1_asked_25 rfl rfl ?_
      refine ev_imul dX1_asked_26 ?_
      refine ev_iload_n (i := 3) dX1_asked_27 rfl rfl ?_
      refine ev_iadd dX1_asked_28 ?_
      refine ev_tld dX1_asked_29 (nw_in_lit (by decide)) ?_
      rw [show nw_TOLD (6 * 1 + 1 : Int32).toNatClampNeg = 21 from by decide]
      refine ev_istore dX1_asked_30 (Nat.le_of_ble_eq_true rfl) rfl ?_
      refine ev_iload dX1_asked_32 rfl ?_
      refine ev_if_eq (tgt := 47) dX1_asked_34 (by decide) (fun h34 => ?_) (fun h34 => ?_)
      · exact absurd h34 (by decide)
      · refine ev_aload_n (i := 0) dX1_asked_37 rfl rfl ?_
        refine ev_iload dX1_asked_38 rfl ?_
        refine ev_iload_n (i := 2) dX1_asked_40 rfl rfl ?_
        refine ev_iconst (v := 1) dX1_asked_41 kc_1 ?_
        refine ev_iadd dX1_asked_42 ?_
        rw [nI_1]
        refine s_dVi (As := [_, _]) (g21 ha (by omega) (by omega)) (Nat.le_of_ble_eq_true rfl) lX1_50 kX1_given vX1_given dX1_asked_43 rfl rfl rfl (by decide) rfl (Nat.le_of_ble_eq_true rfl) ?_
        exact s_retI dX1_asked_46 ⟨rfl, rfl⟩
theorem as_1M (ha : nv_as I t 1 h lf sn) (ht : t + 2 ≤ 16) (hq : q + 2 * 3 ≤ 30) : nw_dI l g 3 mX1_asked [.ref (nw_a g 192), .int 1, .int (nI q)] I (sn + lf) (nv_lvs [21, 20] I) := by
  refine ⟨(Nat.le_of_ble_eq_true rfl), ?_⟩
  refine ev_aload_n (i := 0) dX1_asked_0 rfl rfl ?_
  refine ev_getI fX1_22 dX1_asked_1 rfl rfl (by decide) ?_
  rw [ha.2.1]
  refine ev_istore_n (i := 3) dX1_asked_4 rfl (Nat.le_of_ble_eq_true rfl) rfl ?_
  refine ev_iconst (v := 0) dX1_asked_5 kc_0 ?_
  refine ev_istore dX1_asked_6 (Nat.le_of_ble_eq_true rfl) rfl ?_
  exact at_1M ha ht hq 0 (by omega) _
theorem at_2M (ha : nv_as I t kd h lf sn) (ht : t + 3 ≤ 16) (hq : q + 2 * 4 ≤ 30) (lv : Nat) (hlv : lv ≤ 5) (z : Option Value) : nw_S l g 4 mX1_asked 8 [some (.ref (nw_a g 192)), some (.int 1), some (.int (nI q)), some (.int 2), some (.int (nI lv)), z] [] I (nw_qI (fun r I' => r = (sn + lf) * 2 ∧ I' = nv_lvs [24, 21, 20] I)) := by
  have e6 : (6 : Int32) = nI 6 := by decide
  refine ev_iload dX1_asked_8 rfl ?_
  refine ev_bipush (v := 6) dX1_asked_10 kb_6 ?_
  refine ev_icmp_ge (tgt := 58) dX1_asked_12 (by decide) (fun h12 => ?_) (fun h12 => ?_)
  · exact absurd h12 (by rw [e6]; exact nI_ge (by omega) (by decide))
  · refine ev_iload_n (i := 3) dX1_asked_15 rfl rfl ?_
    refine ev_iconst (v := (-1)) dX1_asked_16 kc_m1 ?_
    refine ev_icmp_eq (tgt := 58) dX1_asked_17 (by decide) (fun h17 => ?_) (fun h17 => ?_)
    · exact absurd h17 (by decide)
    · refine ev_gets_told fX1_47 dX1_asked_20 ?_
      refine ev_bipush (v := 6) dX1_asked_23 kb_6 ?_
      refine ev_iload_n (i := 1) dX1_asked_25 rfl rfl ?_
      refine ev_imul dX1_asked_26 ?_
      refine ev_iload_n (i := 3) dX1_asked_27 rfl rfl ?_
      refine ev_iadd dX1_asked_28 ?_
      refine ev_tld dX1_asked_29 (nw_in_lit (by decide)) ?_
      rw [show nw_TOLD (6 * 1 + 2 : Int32).toNatClampNeg = 24 from by decide]
      refine ev_istore dX1_asked_30 (Nat.le_of_ble_eq_true rfl) rfl ?_
      refine ev_iload dX1_asked_32 rfl ?_
      refine ev_if_eq (tgt := 47) dX1_asked_34 (by decide) (fun h34 => ?_) (fun h34 => ?_)
      · exact absurd h34 (by decide)
      · refine ev_aload_n (i := 0) dX1_asked_37 rfl rfl ?_
        refine ev_iload dX1_asked_38 rfl ?_
        refine ev_iload_n (i := 2) dX1_asked_40 rfl rfl ?_
        refine ev_iconst (v := 1) dX1_asked_41 kc_1 ?_
        refine ev_iadd dX1_asked_42 ?_
        rw [nI_1]
        refine s_dVi (As := [_, _]) (g24 ha (by omega) (by omega)) (Nat.le_of_ble_eq_true rfl) lX1_50 kX1_given vX1_given dX1_asked_43 rfl rfl rfl (by decide) rfl (Nat.le_of_ble_eq_true rfl) ?_
        exact s_retI dX1_asked_46 ⟨rfl, rfl⟩
theorem as_2M (ha : nv_as I t 2 h lf sn) (ht : t + 3 ≤ 16) (hq : q + 2 * 4 ≤ 30) : nw_dI l g 4 mX1_asked [.ref (nw_a g 192), .int 1, .int (nI q)] I ((sn + lf) * 2) (nv_lvs [24, 21, 20] I) := by
  refine ⟨(Nat.le_of_ble_eq_true rfl), ?_⟩
  refine ev_aload_n (i := 0) dX1_asked_0 rfl rfl ?_
  refine ev_getI fX1_22 dX1_asked_1 rfl rfl (by decide) ?_
  rw [ha.2.1]
  refine ev_istore_n (i := 3) dX1_asked_4 rfl (Nat.le_of_ble_eq_true rfl) rfl ?_
  refine ev_iconst (v := 0) dX1_asked_5 kc_0 ?_
  refine ev_istore dX1_asked_6 (Nat.le_of_ble_eq_true rfl) rfl ?_
  exact at_2M ha ht hq 0 (by omega) _
theorem at_3M (ha : nv_as I t kd h lf sn) (ht : t + 3 ≤ 16) (hq : q + 2 * 4 ≤ 30) (lv : Nat) (hlv : lv ≤ 5) (z : Option Value) : nw_S l g 4 mX1_asked 8 [some (.ref (nw_a g 192)), some (.int 1), some (.int (nI q)), some (.int 3), some (.int (nI lv)), z] [] I (nw_qI (fun r I' => r = sn + lf - 1000 ∧ I' = nv_lvs [22, 21, 20] I)) := by
  have e6 : (6 : Int32) = nI 6 := by decide
  refine ev_iload dX1_asked_8 rfl ?_
  refine ev_bipush (v := 6) dX1_asked_10 kb_6 ?_
  refine ev_icmp_ge (tgt := 58) dX1_asked_12 (by decide) (fun h12 => ?_) (fun h12 => ?_)
  · exact absurd h12 (by rw [e6]; exact nI_ge (by omega) (by decide))
  · refine ev_iload_n (i := 3) dX1_asked_15 rfl rfl ?_
    refine ev_iconst (v := (-1)) dX1_asked_16 kc_m1 ?_
    refine ev_icmp_eq (tgt := 58) dX1_asked_17 (by decide) (fun h17 => ?_) (fun h17 => ?_)
    · exact absurd h17 (by decide)
    · refine ev_gets_told fX1_47 dX1_asked_20 ?_
      refine ev_bipush (v := 6) dX1_asked_23 kb_6 ?_
      refine ev_iload_n (i := 1) dX1_asked_25 rfl rfl ?_
      refine ev_imul dX1_asked_26 ?_
      refine ev_iload_n (i := 3) dX1_asked_27 rfl rfl ?_
      refine ev_iadd dX1_asked_28 ?_
      refine ev_tld dX1_asked_29 (nw_in_lit (by decide)) ?_
      rw [show nw_TOLD (6 * 1 + 3 : Int32).toNatClampNeg = 22 from by decide]
      refine ev_istore dX1_asked_30 (Nat.le_of_ble_eq_true rfl) rfl ?_
      refine ev_iload dX1_asked_32 rfl ?_
      refine ev_if_eq (tgt := 47) dX1_asked_34 (by decide) (fun h34 => ?_) (fun h34 => ?_)
      · exact absurd h34 (by decide)
      · refine ev_aload_n (i := 0) dX1_asked_37 rfl rfl ?_
        refine ev_iload dX1_asked_38 rfl ?_
        refine ev_iload_n (i := 2) dX1_asked_40 rfl rfl ?_
        refine ev_iconst (v := 1) dX1_asked_41 kc_1 ?_
        refine ev_iadd dX1_asked_42 ?_
        rw [nI_1]
        refine s_dVi (As := [_, _]) (g22 ha (by omega) (by omega)) (Nat.le_of_ble_eq_true rfl) lX1_50 kX1_given vX1_given dX1_asked_43 rfl rfl rfl (by decide) rfl (Nat.le_of_ble_eq_true rfl) ?_
        exact s_retI dX1_asked_46 ⟨rfl, rfl⟩
theorem as_3M (ha : nv_as I t 3 h lf sn) (ht : t + 3 ≤ 16) (hq : q + 2 * 4 ≤ 30) : nw_dI l g 4 mX1_asked [.ref (nw_a g 192), .int 1, .int (nI q)] I (sn + lf - 1000) (nv_lvs [22, 21, 20] I) := by
  refine ⟨(Nat.le_of_ble_eq_true rfl), ?_⟩
  refine ev_aload_n (i := 0) dX1_asked_0 rfl rfl ?_
  refine ev_getI fX1_22 dX1_asked_1 rfl rfl (by decide) ?_
  rw [ha.2.1]
  refine ev_istore_n (i := 3) dX1_asked_4 rfl (Nat.le_of_ble_eq_true rfl) rfl ?_
  refine ev_iconst (v := 0) dX1_asked_5 kc_0 ?_
  refine ev_istore dX1_asked_6 (Nat.le_of_ble_eq_true rfl) rfl ?_
  exact at_3M ha ht hq 0 (by omega) _
theorem g11_1 (ha : nv_as I t 1 h lf sn) (ht : t + 4 ≤ 16) (hq : q + 2 * 5 ≤ 30) : nw_dI l g 5 mX1_given [.ref (nw_a g 192), .int 11, .int (nI q)] I (h + (sn + lf)) (nv_lvs [11, 10, 21, 20] I) := by
  refine ⟨(Nat.le_of_ble_eq_true rfl), ?_⟩
  have e30 : (30 : Int32) = nI 30 := by decide
  have a1 := ha.lv 11
  refine ev_iload_n (i := 2) dX1_given_0 rfl rfl ?_
  refine ev_bipush (v := 30) dX1_given_1 kb_30 ?_
  refine ev_icmp_le (tgt := 8) dX1_given_3 (by decide) (fun h3 => ?_) (fun h3 => ?_)
  · refine ev_aload_n (i := 0) dX1_given_8 rfl rfl ?_
    refine ev_iload_n (i := 1) dX1_given_9 rfl rfl ?_
    refine s_dVv (As := [_]) (c_leave ha.1 (by omega) _) (Nat.le_of_ble_eq_true rfl) lX1_56 kX1_leave vX1_leave dX1_given_10 rfl rfl rfl (by decide) rfl (Nat.le_of_ble_eq_true rfl) ?_
    refine ev_iload_n (i := 2) dX1_given_13 rfl rfl ?_
    refine ev_iconst (v := 1) dX1_given_14 kc_1 ?_
    refine ev_iadd dX1_given_15 ?_
    rw [nI_1]
    refine ev_istore_n (i := 3) dX1_given_16 rfl (Nat.le_of_ble_eq_true rfl) rfl ?_
    refine ev_iload_n (i := 1) dX1_given_17 rfl rfl ?_
    refine ev_tableIn (off := 79) (tgt := 97) dX1_given_18 (by decide) (by decide) (by decide) (by decide) ?_
    refine ev_aload_n (i := 0) dX1_given_97 rfl rfl ?_
    refine ev_bipush (v := 10) dX1_given_98 kb_10 ?_
    refine ev_iload_n (i := 3) dX1_given_100 rfl rfl ?_
    refine s_dVi (As := [_, _]) (g10 a1 (by omega) (by omega)) (Nat.le_of_ble_eq_true rfl) lX1_50 kX1_given vX1_given dX1_given_101 rfl rfl rfl (by decide) rfl (Nat.le_of_ble_eq_true rfl) ?_
    refine ev_aload_n (i := 0) dX1_given_104 rfl rfl ?_
    refine ev_iconst (v := 1) dX1_given_105 kc_1 ?_
    refine ev_iload_n (i := 3) dX1_given_106 rfl rfl ?_
    refine s_dVi (As := [_, _]) (as_1M (a1.lvs [10]) (by simp only [List.length_cons, List.length_nil]; omega) (by omega)) (Nat.le_of_ble_eq_true rfl) lX1_41 kX1_asked vX1_asked dX1_given_107 rfl rfl rfl (by decide) rfl (Nat.le_of_ble_eq_true rfl) ?_
    refine ev_iadd dX1_given_110 ?_
    exact s_retI dX1_given_111 ⟨rfl, by simp only [nv_lvs, List.foldl_cons, List.foldl_nil]⟩
  · exact absurd (by rw [e30]; exact nI_le (by omega) (by omega)) h3
theorem g11_2 (ha : nv_as I t 2 h lf sn) (ht : t + 5 ≤ 16) (hq : q + 2 * 5 ≤ 30) : nw_dI l g 5 mX1_given [.ref (nw_a g 192), .int 11, .int (nI q)] I (h + ((sn + lf) * 2)) (nv_lvs [11, 10, 24, 21, 20] I) := by
  refine ⟨(Nat.le_of_ble_eq_true rfl), ?_⟩
  have e30 : (30 : Int32) = nI 30 := by decide
  have a1 := ha.lv 11
  refine ev_iload_n (i := 2) dX1_given_0 rfl rfl ?_
  refine ev_bipush (v := 30) dX1_given_1 kb_30 ?_
  refine ev_icmp_le (tgt := 8) dX1_given_3 (by decide) (fun h3 => ?_) (fun h3 => ?_)
  · refine ev_aload_n (i := 0) dX1_given_8 rfl rfl ?_
    refine ev_iload_n (i := 1) dX1_given_9 rfl rfl ?_
    refine s_dVv (As := [_]) (c_leave ha.1 (by omega) _) (Nat.le_of_ble_eq_true rfl) lX1_56 kX1_leave vX1_leave dX1_given_10 rfl rfl rfl (by decide) rfl (Nat.le_of_ble_eq_true rfl) ?_
    refine ev_iload_n (i := 2) dX1_given_13 rfl rfl ?_
    refine ev_iconst (v := 1) dX1_given_14 kc_1 ?_
    refine ev_iadd dX1_given_15 ?_
    rw [nI_1]
    refine ev_istore_n (i := 3) dX1_given_16 rfl (Nat.le_of_ble_eq_true rfl) rfl ?_
    refine ev_iload_n (i := 1) dX1_given_17 rfl rfl ?_
    refine ev_tableIn (off := 79) (tgt := 97) dX1_given_18 (by decide) (by decide) (by decide) (by decide) ?_
    refine ev_aload_n (i := 0) dX1_given_97 rfl rfl ?_
    refine ev_bipush (v := 10) dX1_given_98 kb_10 ?_
    refine ev_iload_n (i := 3) dX1_given_100 rfl rfl ?_
    refine s_dVi (As := [_, _]) (g10 a1 (by omega) (by omega)) (Nat.le_of_ble_eq_true rfl) lX1_50 kX1_given vX1_given dX1_given_101 rfl rfl rfl (by decide) rfl (Nat.le_of_ble_eq_true rfl) ?_
    refine ev_aload_n (i := 0) dX1_given_104 rfl rfl ?_
    refine ev_iconst (v := 1) dX1_given_105 kc_1 ?_
    refine ev_iload_n (i := 3) dX1_given_106 rfl rfl ?_
    refine s_dVi (As := [_, _]) (as_2M (a1.lvs [10]) (by simp only [List.length_cons, List.length_nil]; omega) (by omega)) (Nat.le_of_ble_eq_true rfl) lX1_41 kX1_asked vX1_asked dX1_given_107 rfl rfl rfl (by decide) rfl (Nat.le_of_ble_eq_true rfl) ?_
    refine ev_iadd dX1_given_110 ?_
    exact s_retI dX1_given_111 ⟨rfl, by simp only [nv_lvs, List.foldl_cons, List.foldl_nil]⟩
  · exact absurd (by rw [e30]; exact nI_le (by omega) (by omega)) h3
theorem g11_3 (ha : nv_as I t 3 h lf sn) (ht : t + 5 ≤ 16) (hq : q + 2 * 5 ≤ 30) : nw_dI l g 5 mX1_given [.ref (nw_a g 192), .int 11, .int (nI q)] I (h + (sn + lf - 1000)) (nv_lvs [11, 10, 22, 21, 20] I) := by
  refine ⟨(Nat.le_of_ble_eq_true rfl), ?_⟩
  have e30 : (30 : Int32) = nI 30 := by decide
  have a1 := ha.lv 11
  refine ev_iload_n (i := 2) dX1_given_0 rfl rfl ?_
  refine ev_bipush (v := 30) dX1_given_1 kb_30 ?_
  refine ev_icmp_le (tgt := 8) dX1_given_3 (by decide) (fun h3 => ?_) (fun h3 => ?_)
  · refine ev_aload_n (i := 0) dX1_given_8 rfl rfl ?_
    refine ev_iload_n (i := 1) dX1_given_9 rfl rfl ?_
    refine s_dVv (As := [_]) (c_leave ha.1 (by omega) _) (Nat.le_of_ble_eq_true rfl) lX1_56 kX1_leave vX1_leave dX1_given_10 rfl rfl rfl (by decide) rfl (Nat.le_of_ble_eq_true rfl) ?_
    refine ev_iload_n (i := 2) dX1_given_13 rfl rfl ?_
    refine ev_iconst (v := 1) dX1_given_14 kc_1 ?_
    refine ev_iadd dX1_given_15 ?_
    rw [nI_1]
    refine ev_istore_n (i := 3) dX1_given_16 rfl (Nat.le_of_ble_eq_true rfl) rfl ?_
    refine ev_iload_n (i := 1) dX1_given_17 rfl rfl ?_
    refine ev_tableIn (off := 79) (tgt := 97) dX1_given_18 (by decide) (by decide) (by decide) (by decide) ?_
    refine ev_aload_n (i := 0) dX1_given_97 rfl rfl ?_
    refine ev_bipush (v := 10) dX1_given_98 kb_10 ?_
    refine ev_iload_n (i := 3) dX1_given_100 rfl rfl ?_
    refine s_dVi (As := [_, _]) (g10 a1 (by omega) (by omega)) (Nat.le_of_ble_eq_true rfl) lX1_50 kX1_given vX1_given dX1_given_101 rfl rfl rfl (by decide) rfl (Nat.le_of_ble_eq_true rfl) ?_
    refine ev_aload_n (i := 0) dX1_given_104 rfl rfl ?_
    refine ev_iconst (v := 1) dX1_given_105 kc_1 ?_
    refine ev_iload_n (i := 3) dX1_given_106 rfl rfl ?_
    refine s_dVi (As := [_, _]) (as_3M (a1.lvs [10]) (by simp only [List.length_cons, List.length_nil]; omega) (by omega)) (Nat.le_of_ble_eq_true rfl) lX1_41 kX1_asked vX1_asked dX1_given_107 rfl rfl rfl (by decide) rfl (Nat.le_of_ble_eq_true rfl) ?_
    refine ev_iadd dX1_given_110 ?_
    exact s_retI dX1_given_111 ⟨rfl, by simp only [nv_lvs, List.foldl_cons, List.foldl_nil]⟩
  · exact absurd (by rw [e30]; exact nI_le (by omega) (by omega)) h3
theorem g12 (ha : nv_as I t 2 h lf sn) (ht : t + 6 ≤ 16) (hq : q + 2 * 6 ≤ 30) : nw_dI l g 6 mX1_given [.ref (nw_a g 192), .int 12, .int (nI q)] I (0 - (h + ((sn + lf) * 2))) (nv_lvs [12, 11, 10, 24, 21, 20] I) := by
  refine ⟨(Nat.le_of_ble_eq_true rfl), ?_⟩
  have e30 : (30 : Int32) = nI 30 := by decide
  have a1 := ha.lv 12
  refine ev_iload_n (i := 2) dX1_given_0 rfl rfl ?_
  refine ev_bipush (v := 30) dX1_given_1 kb_30 ?_
  refine ev_icmp_le (tgt := 8) dX1_given_3 (by decide) (fun h3 => ?_) (fun h3 => ?_)
  · refine ev_aload_n (i := 0) dX1_given_8 rfl rfl ?_
    refine ev_iload_n (i := 1) dX1_given_9 rfl rfl ?_
    refine s_dVv (As := [_]) (c_leave ha.1 (by omega) _) (Nat.le_of_ble_eq_true rfl) lX1_56 kX1_leave vX1_leave dX1_given_10 rfl rfl rfl (by decide) rfl (Nat.le_of_ble_eq_true rfl) ?_
    refine ev_iload_n (i := 2) dX1_given_13 rfl rfl ?_
    refine ev_iconst (v := 1) dX1_given_14 kc_1 ?_
    refine ev_iadd dX1_given_15 ?_
    rw [nI_1]
    refine ev_istore_n (i := 3) dX1_given_16 rfl (Nat.le_of_ble_eq_true rfl) rfl ?_
    refine ev_iload_n (i := 1) dX1_given_17 rfl rfl ?_
    refine ev_tableIn (off := 94) (tgt := 112) dX1_given_18 (by decide) (by decide) (by decide) (by decide) ?_
    refine ev_iconst (v := 0) dX1_given_112 kc_0 ?_
    refine ev_aload_n (i := 0) dX1_given_113 rfl rfl ?_
    refine ev_bipush (v := 11) dX1_given_114 kb_11 ?_
    refine ev_iload_n (i := 3) dX1_given_116 rfl rfl ?_
    refine s_dVi (As := [_, _]) (g11_2 a1 (by omega) (by omega)) (Nat.le_of_ble_eq_true rfl) lX1_50 kX1_given vX1_given dX1_given_117 rfl rfl rfl (by decide) rfl (Nat.le_of_ble_eq_true rfl) ?_
    refine ev_isub dX1_given_120 ?_
    exact s_retI dX1_given_121 ⟨rfl, by simp only [nv_lvs, List.foldl_cons, List.foldl_nil]⟩
  · exact absurd (by rw [e30]; exact nI_le (by omega) (by omega)) h3
theorem at_1S (ha : nv_as I t 1 h lf sn) (ht : t + 4 ≤ 16) (hq : q + 2 * 6 ≤ 30) (lv : Nat) (hlv : lv ≤ 5) (z : Option Value) : nw_S l g 6 mX1_asked 8 [some (.ref (nw_a g 192)), some (.int 0), some (.int (nI q)), some (.int 1), some (.int (nI lv)), z] [] I (nw_qI (fun r I' => r = h + (sn + lf) ∧ I' = nv_lvs [11, 10, 21, 20] I)) := by
  have e6 : (6 : Int32) = nI 6 := by decide
  refine ev_iload dX1_asked_8 rfl ?_
  refine ev_bipush (v := 6) dX1_asked_10 kb_6 ?_
  refine ev_icmp_ge (tgt := 58) dX1_asked_12 (by decide) (fun h12 => ?_) (fun h12 => ?_)
  · exact absurd h12 (by rw [e6]; exact nI_ge (by omega) (by decide))
  · refine ev_iload_n (i := 3) dX1_asked_15 rfl rfl ?_
    refine ev_iconst (v := (-1)) dX1_asked_16 kc_m1 ?_
    refine ev_icmp_eq (tgt := 58) dX1_asked_17 (by decide) (fun h17 => ?_) (fun h17 => ?_)
    · exact absurd h17 (by decide)
    · refine ev_gets_told fX1_47 dX1_asked_20 ?_
      refine ev_bipush (v := 6) dX1_asked_23 kb_6 ?_
      refine ev_iload_n (i := 1) dX1_asked_25 rfl rfl ?_
      refine ev_imul dX1_asked_26 ?_
      refine ev_iload_n (i := 3) dX1_asked_27 rfl rfl ?_
      refine ev_iadd dX1_asked_28 ?_
      refine ev_tld dX1_asked_29 (nw_in_lit (by decide)) ?_
      rw [show nw_TOLD (6 * 0 + 1 : Int32).toNatClampNeg = 11 from by decide]
      refine ev_istore dX1_asked_30 (Nat.le_of_ble_eq_true rfl) rfl ?_
      refine ev_iload dX1_asked_32 rfl ?_
      refine ev_if_eq (tgt := 47) dX1_asked_34 (by decide) (fun h34 => ?_) (fun h34 => ?_)
      · exact absurd h34 (by decide)
      · refine ev_aload_n (i := 0) dX1_asked_37 rfl rfl ?_
        refine ev_iload dX1_asked_38 rfl ?_
        refine ev_iload_n (i := 2) dX1_asked_40 rfl rfl ?_
        refine ev_iconst (v := 1) dX1_asked_41 kc_1 ?_
        refine ev_iadd dX1_asked_42 ?_
        rw [nI_1]
        refine s_dVi (As := [_, _]) (g11_1 ha (by omega) (by omega)) (Nat.le_of_ble_eq_true rfl) lX1_50 kX1_given vX1_given dX1_asked_43 rfl rfl rfl (by decide) rfl (Nat.le_of_ble_eq_true rfl) ?_
        exact s_retI dX1_asked_46 ⟨rfl, rfl⟩
theorem as_1S (ha : nv_as I t 1 h lf sn) (ht : t + 4 ≤ 16) (hq : q + 2 * 6 ≤ 30) : nw_dI l g 6 mX1_asked [.ref (nw_a g 192), .int 0, .int (nI q)] I (h + (sn + lf)) (nv_lvs [11, 10, 21, 20] I) := by
  refine ⟨(Nat.le_of_ble_eq_true rfl), ?_⟩
  refine ev_aload_n (i := 0) dX1_asked_0 rfl rfl ?_
  refine ev_getI fX1_22 dX1_asked_1 rfl rfl (by decide) ?_
  rw [ha.2.1]
  refine ev_istore_n (i := 3) dX1_asked_4 rfl (Nat.le_of_ble_eq_true rfl) rfl ?_
  refine ev_iconst (v := 0) dX1_asked_5 kc_0 ?_
  refine ev_istore dX1_asked_6 (Nat.le_of_ble_eq_true rfl) rfl ?_
  exact at_1S ha ht hq 0 (by omega) _
theorem at_2S (ha : nv_as I t 2 h lf sn) (ht : t + 6 ≤ 16) (hq : q + 2 * 7 ≤ 30) (lv : Nat) (hlv : lv ≤ 5) (z : Option Value) : nw_S l g 7 mX1_asked 8 [some (.ref (nw_a g 192)), some (.int 0), some (.int (nI q)), some (.int 2), some (.int (nI lv)), z] [] I (nw_qI (fun r I' => r = 0 - (h + ((sn + lf) * 2)) ∧ I' = nv_lvs [12, 11, 10, 24, 21, 20] I)) := by
  have e6 : (6 : Int32) = nI 6 := by decide
  refine ev_iload dX1_asked_8 rfl ?_
  refine ev_bipush (v := 6) dX1_asked_10 kb_6 ?_
  refine ev_icmp_ge (tgt := 58) dX1_asked_12 (by decide) (fun h12 => ?_) (fun h12 => ?_)
  · exact absurd h12 (by rw [e6]; exact nI_ge (by omega) (by decide))
  · refine ev_iload_n (i := 3) dX1_asked_15 rfl rfl ?_
    refine ev_iconst (v := (-1)) dX1_asked_16 kc_m1 ?_
    refine ev_icmp_eq (tgt := 58) dX1_asked_17 (by decide) (fun h17 => ?_) (fun h17 => ?_)
    · exact absurd h17 (by decide)
    · refine ev_gets_told fX1_47 dX1_asked_20 ?_
      refine ev_bipush (v := 6) dX1_asked_23 kb_6 ?_
      refine ev_iload_n (i := 1) dX1_asked_25 rfl rfl ?_
      refine ev_imul dX1_asked_26 ?_
      refine ev_iload_n (i := 3) dX1_asked_27 rfl rfl ?_
      refine ev_iadd dX1_asked_28 ?_
      refine ev_tld dX1_asked_29 (nw_in_lit (by decide)) ?_
      rw [show nw_TOLD (6 * 0 + 2 : Int32).toNatClampNeg = 12 from by decide]
      refine ev_istore dX1_asked_30 (Nat.le_of_ble_eq_true rfl) rfl ?_
      refine ev_iload dX1_asked_32 rfl ?_
      refine ev_if_eq (tgt := 47) dX1_asked_34 (by decide) (fun h34 => ?_) (fun h34 => ?_)
      · exact absurd h34 (by decide)
      · refine ev_aload_n (i := 0) dX1_asked_37 rfl rfl ?_
        refine ev_iload dX1_asked_38 rfl ?_
        refine ev_iload_n (i := 2) dX1_asked_40 rfl rfl ?_
        refine ev_iconst (v := 1) dX1_asked_41 kc_1 ?_
        refine ev_iadd dX1_asked_42 ?_
        rw [nI_1]
        refine s_dVi (As := [_, _]) (g12 ha (by omega) (by omega)) (Nat.le_of_ble_eq_true rfl) lX1_50 kX1_given vX1_given dX1_asked_43 rfl rfl rfl (by decide) rfl (Nat.le_of_ble_eq_true rfl) ?_
        exact s_retI dX1_asked_46 ⟨rfl, rfl⟩
theorem as_2S (ha : nv_as I t 2 h lf sn) (ht : t + 6 ≤ 16) (hq : q + 2 * 7 ≤ 30) : nw_dI l g 7 mX1_asked [.ref (nw_a g 192), .int 0, .int (nI q)] I (0 - (h + ((sn + lf) * 2))) (nv_lvs [12, 11, 10, 24, 21, 20] I) := by
  refine ⟨(Nat.le_of_ble_eq_true rfl), ?_⟩
  refine ev_aload_n (i := 0) dX1_asked_0 rfl rfl ?_
  refine ev_getI fX1_22 dX1_asked_1 rfl rfl (by decide) ?_
  rw [ha.2.1]
  refine ev_istore_n (i := 3) dX1_asked_4 rfl (Nat.le_of_ble_eq_true rfl) rfl ?_
  refine ev_iconst (v := 0) dX1_asked_5 kc_0 ?_
  refine ev_istore dX1_asked_6 (Nat.le_of_ble_eq_true rfl) rfl ?_
  exact at_2S ha ht hq 0 (by omega) _
theorem at_31S (ha : nv_as I t 3 h lf sn) (ht : t + 5 ≤ 16) (hq : q + 2 * 6 ≤ 30) (lv : Nat) (hlv : lv ≤ 5) (z : Option Value) : nw_S l g 6 mX1_asked 8 [some (.ref (nw_a g 192)), some (.int 0), some (.int (nI q)), some (.int 1), some (.int (nI lv)), z] [] I (nw_qI (fun r I' => r = h + (sn + lf - 1000) ∧ I' = nv_lvs [11, 10, 22, 21, 20] I)) := by
  have e6 : (6 : Int32) = nI 6 := by decide
  refine ev_iload dX1_asked_8 rfl ?_
  refine ev_bipush (v := 6) dX1_asked_10 kb_6 ?_
  refine ev_icmp_ge (tgt := 58) dX1_asked_12 (by decide) (fun h12 => ?_) (fun h12 => ?_)
  · exact absurd h12 (by rw [e6]; exact nI_ge (by omega) (by decide))
  · refine ev_iload_n (i := 3) dX1_asked_15 rfl rfl ?_
    refine ev_iconst (v := (-1)) dX1_asked_16 kc_m1 ?_
    refine ev_icmp_eq (tgt := 58) dX1_asked_17 (by decide) (fun h17 => ?_) (fun h17 => ?_)
    · exact absurd h17 (by decide)
    · refine ev_gets_told fX1_47 dX1_asked_20 ?_
      refine ev_bipush (v := 6) dX1_asked_23 kb_6 ?_
      refine ev_iload_n (i := 1) dX1_asked_25 rfl rfl ?_
      refine ev_imul dX1_asked_26 ?_
      refine ev_iload_n (i := 3) dX1_asked_27 rfl rfl ?_
      refine ev_iadd dX1_asked_28 ?_
      refine ev_tld dX1_asked_29 (nw_in_lit (by decide)) ?_
      rw [show nw_TOLD (6 * 0 + 1 : Int32).toNatClampNeg = 11 from by decide]
      refine ev_istore dX1_asked_30 (Nat.le_of_ble_eq_true rfl) rfl ?_
      refine ev_iload dX1_asked_32 rfl ?_
      refine ev_if_eq (tgt := 47) dX1_asked_34 (by decide) (fun h34 => ?_) (fun h34 => ?_)
      · exact absurd h34 (by decide)
      · refine ev_aload_n (i := 0) dX1_asked_37 rfl rfl ?_
        refine ev_iload dX1_asked_38 rfl ?_
        refine ev_iload_n (i := 2) dX1_asked_40 rfl rfl ?_
        refine ev_iconst (v := 1) dX1_asked_41 kc_1 ?_
        refine ev_iadd dX1_asked_42 ?_
        rw [nI_1]
        refine s_dVi (As := [_, _]) (g11_3 ha (by omega) (by omega)) (Nat.le_of_ble_eq_true rfl) lX1_50 kX1_given vX1_given dX1_asked_43 rfl rfl rfl (by decide) rfl (Nat.le_of_ble_eq_true rfl) ?_
        exact s_retI dX1_asked_46 ⟨rfl, rfl⟩
theorem at_3S (ha : nv_as I t 3 h lf sn) (ht : t + 5 ≤ 16) (hq : q + 2 * 6 ≤ 30) (lv : Nat) (hlv : lv ≤ 4) (z : Option Value) : nw_S l g 6 mX1_asked 8 [some (.ref (nw_a g 192)), some (.int 0), some (.int (nI q)), some (.int 3), some (.int (nI lv)), z] [] I (nw_qI (fun r I' => r = h + (sn + lf - 1000) ∧ I' = nv_lvs [11, 10, 22, 21, 20] I)) := by
  have e6 : (6 : Int32) = nI 6 := by decide
  refine ev_iload dX1_asked_8 rfl ?_
  refine ev_bipush (v := 6) dX1_asked_10 kb_6 ?_
  refine ev_icmp_ge (tgt := 58) dX1_asked_12 (by decide) (fun h12 => ?_) (fun h12 => ?_)
  · exact absurd h12 (by rw [e6]; exact nI_ge (by omega) (by decide))
  · refine ev_iload_n (i := 3) dX1_asked_15 rfl rfl ?_
    refine ev_iconst (v := (-1)) dX1_asked_16 kc_m1 ?_
    refine ev_icmp_eq (tgt := 58) dX1_asked_17 (by decide) (fun h17 => ?_) (fun h17 => ?_)
    · exact absurd h17 (by decide)
    · refine ev_gets_told fX1_47 dX1_asked_20 ?_
      refine ev_bipush (v := 6) dX1_asked_23 kb_6 ?_
      refine ev_iload_n (i := 1) dX1_asked_25 rfl rfl ?_
      refine ev_imul dX1_asked_26 ?_
      refine ev_iload_n (i := 3) dX1_asked_27 rfl rfl ?_
      refine ev_iadd dX1_asked_28 ?_
      refine ev_tld dX1_asked_29 (nw_in_lit (by decide)) ?_
      rw [show nw_TOLD (6 * 0 + 3 : Int32).toNatClampNeg = 0 from by decide]
      refine ev_istore dX1_asked_30 (Nat.le_of_ble_eq_true rfl) rfl ?_
      refine ev_iload dX1_asked_32 rfl ?_
      refine ev_if_eq (tgt := 47) dX1_asked_34 (by decide) (fun h34 => ?_) (fun h34 => ?_)
      · refine ev_iload_n (i := 3) dX1_asked_47 rfl rfl ?_
        refine s_dSi (As := [_]) (c_next _) (Nat.le_of_ble_eq_true rfl) lX1_53 kX4_next sX4_next dX1_asked_48 rfl rfl (Nat.le_of_ble_eq_true rfl) ?_
        refine ev_istore_n (i := 3) dX1_asked_51 rfl (Nat.le_of_ble_eq_true rfl) rfl ?_
        refine ev_iincm (m := 1) dX1_asked_52 kc_1 rfl (Nat.le_of_ble_eq_true rfl) rfl ?_
        refine ev_goto (tgt := 8) dX1_asked_55 (by decide) ?_
        rw [nI_1, show nv_next 3 = 1 from by decide]
        exact at_31S ha ht hq (lv + 1) (by omega) _
      · exact absurd (by decide) h34
theorem as_3S (ha : nv_as I t 3 h lf sn) (ht : t + 5 ≤ 16) (hq : q + 2 * 6 ≤ 30) : nw_dI l g 6 mX1_asked [.ref (nw_a g 192), .int 0, .int (nI q)] I (h + (sn + lf - 1000)) (nv_lvs [11, 10, 22, 21, 20] I) := by
  refine ⟨(Nat.le_of_ble_eq_true rfl), ?_⟩
  refine ev_aload_n (i := 0) dX1_asked_0 rfl rfl ?_
  refine ev_getI fX1_22 dX1_asked_1 rfl rfl (by decide) ?_
  rw [ha.2.1]
  refine ev_istore_n (i := 3) dX1_asked_4 rfl (Nat.le_of_ble_eq_true rfl) rfl ?_
  refine ev_iconst (v := 0) dX1_asked_5 kc_0 ?_
  refine ev_istore dX1_asked_6 (Nat.le_of_ble_eq_true rfl) rfl ?_
  exact at_3S ha ht hq 0 (by omega) _
theorem at_4S (ha : nv_as I t kd h lf sn) (ht : t + 2 ≤ 16) (hq : q + 2 * 3 ≤ 30) (lv : Nat) (hlv : lv ≤ 5) (z : Option Value) : nw_S l g 3 mX1_asked 8 [some (.ref (nw_a g 192)), some (.int 0), some (.int (nI q)), some (.int 4), some (.int (nI lv)), z] [] I (nw_qI (fun r I' => r = h - 100 ∧ I' = nv_lvs [13, 10] I)) := by
  have e6 : (6 : Int32) = nI 6 := by decide
  refine ev_iload dX1_asked_8 rfl ?_
  refine ev_bipush (v := 6) dX1_asked_10 kb_6 ?_
  refine ev_icmp_ge (tgt := 58) dX1_asked_12 (by decide) (fun h12 => ?_) (fun h12 => ?_)
  · exact absurd h12 (by rw [e6]; exact nI_ge (by omega) (by decide))
  · refine ev_iload_n (i := 3) dX1_asked_15 rfl rfl ?_
    refine ev_iconst (v := (-1)) dX1_asked_16 kc_m1 ?_
    refine ev_icmp_eq (tgt := 58) dX1_asked_17 (by decide) (fun h17 => ?_) (fun h17 => ?_)
    · exact absurd h17 (by decide)
    · refine ev_gets_told fX1_47 dX1_asked_20 ?_
      refine ev_bipush (v := 6) dX1_asked_23 kb_6 ?_
      refine ev_iload_n (i := 1) dX1_asked_25 rfl rfl ?_
      refine ev_imul dX1_asked_26 ?_
      refine ev_iload_n (i := 3) dX1_asked_27 rfl rfl ?_
      refine ev_iadd dX1_asked_28 ?_
      refine ev_tld dX1_asked_29 (nw_in_lit (by decide)) ?_
      rw [show nw_TOLD (6 * 0 + 4 : Int32).toNatClampNeg = 13 from by decide]
      refine ev_istore dX1_asked_30 (Nat.le_of_ble_eq_true rfl) rfl ?_
      refine ev_iload dX1_asked_32 rfl ?_
      refine ev_if_eq (tgt := 47) dX1_asked_34 (by decide) (fun h34 => ?_) (fun h34 => ?_)
      · exact absurd h34 (by decide)
      · refine ev_aload_n (i := 0) dX1_asked_37 rfl rfl ?_
        refine ev_iload dX1_asked_38 rfl ?_
        refine ev_iload_n (i := 2) dX1_asked_40 rfl rfl ?_
        refine ev_iconst (v := 1) dX1_asked_41 kc_1 ?_
        refine ev_iadd dX1_asked_42 ?_
        rw [nI_1]
        refine s_dVi (As := [_, _]) (g13 ha (by omega) (by omega)) (Nat.le_of_ble_eq_true rfl) lX1_50 kX1_given vX1_given dX1_asked_43 rfl rfl rfl (by decide) rfl (Nat.le_of_ble_eq_true rfl) ?_
        exact s_retI dX1_asked_46 ⟨rfl, rfl⟩
theorem as_4S (ha : nv_as I t 4 h lf sn) (ht : t + 2 ≤ 16) (hq : q + 2 * 3 ≤ 30) : nw_dI l g 3 mX1_asked [.ref (nw_a g 192), .int 0, .int (nI q)] I (h - 100) (nv_lvs [13, 10] I) := by
  refine ⟨(Nat.le_of_ble_eq_true rfl), ?_⟩
  refine ev_aload_n (i := 0) dX1_asked_0 rfl rfl ?_
  refine ev_getI fX1_22 dX1_asked_1 rfl rfl (by decide) ?_
  rw [ha.2.1]
  refine ev_istore_n (i := 3) dX1_asked_4 rfl (Nat.le_of_ble_eq_true rfl) rfl ?_
  refine ev_iconst (v := 0) dX1_asked_5 kc_0 ?_
  refine ev_istore dX1_asked_6 (Nat.le_of_ble_eq_true rfl) rfl ?_
  exact at_4S ha ht hq 0 (by omega) _
theorem at_5S (ha : nv_as I t kd h lf sn) (ht : t + 3 ≤ 16) (hq : q + 2 * 4 ≤ 30) (lv : Nat) (hlv : lv ≤ 5) (z : Option Value) : nw_S l g 4 mX1_asked 8 [some (.ref (nw_a g 192)), some (.int 0), some (.int (nI q)), some (.int 5), some (.int (nI lv)), z] [] I (nw_qI (fun r I' => r = (h - 100) * 2 ∧ I' = nv_lvs [14, 13, 10] I)) := by
  have e6 : (6 : Int32) = nI 6 := by decide
  refine ev_iload dX1_asked_8 rfl ?_
  refine ev_bipush (v := 6) dX1_asked_10 kb_6 ?_
  refine ev_icmp_ge (tgt := 58) dX1_asked_12 (by decide) (fun h12 => ?_) (fun h12 => ?_)
  · exact absurd h12 (by rw [e6]; exact nI_ge (by omega) (by decide))
  · refine ev_iload_n (i := 3) dX1_asked_15 rfl rfl ?_
    refine ev_iconst (v := (-1)) dX1_asked_16 kc_m1 ?_
    refine ev_icmp_eq (tgt := 58) dX1_asked_17 (by decide) (fun h17 => ?_) (fun h17 => ?_)
    · exact absurd h17 (by decide)
    · refine ev_gets_told fX1_47 dX1_asked_20 ?_
      refine ev_bipush (v := 6) dX1_asked_23 kb_6 ?_
      refine ev_iload_n (i := 1) dX1_asked_25 rfl rfl ?_
      refine ev_imul dX1_asked_26 ?_
      refine ev_iload_n (i := 3) dX1_asked_27 rfl rfl ?_
      refine ev_iadd dX1_asked_28 ?_
      refine ev_tld dX1_asked_29 (nw_in_lit (by decide)) ?_
      rw [show nw_TOLD (6 * 0 + 5 : Int32).toNatClampNeg = 14 from by decide]
      refine ev_istore dX1_asked_30 (Nat.le_of_ble_eq_true rfl) rfl ?_
      refine ev_iload dX1_asked_32 rfl ?_
      refine ev_if_eq (tgt := 47) dX1_asked_34 (by decide) (fun h34 => ?_) (fun h34 => ?_)
      · exact absurd h34 (by decide)
      · refine ev_aload_n (i := 0) dX1_asked_37 rfl rfl ?_
        refine ev_iload dX1_asked_38 rfl ?_
        refine ev_iload_n (i := 2) dX1_asked_40 rfl rfl ?_
        refine ev_iconst (v := 1) dX1_asked_41 kc_1 ?_
        refine ev_iadd dX1_asked_42 ?_
        rw [nI_1]
        refine s_dVi (As := [_, _]) (g14 ha (by omega) (by omega)) (Nat.le_of_ble_eq_true rfl) lX1_50 kX1_given vX1_given dX1_asked_43 rfl rfl rfl (by decide) rfl (Nat.le_of_ble_eq_true rfl) ?_
        exact s_retI dX1_asked_46 ⟨rfl, rfl⟩
theorem as_5S (ha : nv_as I t 5 h lf sn) (ht : t + 3 ≤ 16) (hq : q + 2 * 4 ≤ 30) : nw_dI l g 4 mX1_asked [.ref (nw_a g 192), .int 0, .int (nI q)] I ((h - 100) * 2) (nv_lvs [14, 13, 10] I) := by
  refine ⟨(Nat.le_of_ble_eq_true rfl), ?_⟩
  refine ev_aload_n (i := 0) dX1_asked_0 rfl rfl ?_
  refine ev_getI fX1_22 dX1_asked_1 rfl rfl (by decide) ?_
  rw [ha.2.1]
  refine ev_istore_n (i := 3) dX1_asked_4 rfl (Nat.le_of_ble_eq_true rfl) rfl ?_
  refine ev_iconst (v := 0) dX1_asked_5 kc_0 ?_
  refine ev_istore dX1_asked_6 (Nat.le_of_ble_eq_true rfl) rfl ?_
  exact at_5S ha ht hq 0 (by omega) _
theorem g23_4 (ha : nv_as I t 4 h lf sn) (ht : t + 4 ≤ 16) (hq : q + 2 * 5 ≤ 30) : nw_dI l g 5 mX1_given [.ref (nw_a g 192), .int 23, .int (nI q)] I (sn - (h - 100)) (nv_lvs [23, 20, 13, 10] I) := by
  refine ⟨(Nat.le_of_ble_eq_true rfl), ?_⟩
  have e30 : (30 : Int32) = nI 30 := by decide
  have a1 := ha.lv 23
  refine ev_iload_n (i := 2) dX1_given_0 rfl rfl ?_
  refine ev_bipush (v := 30) dX1_given_1 kb_30 ?_
  refine ev_icmp_le (tgt := 8) dX1_given_3 (by decide) (fun h3 => ?_) (fun h3 => ?_)
  · refine ev_aload_n (i := 0) dX1_given_8 rfl rfl ?_
    refine ev_iload_n (i := 1) dX1_given_9 rfl rfl ?_
    refine s_dVv (As := [_]) (c_leave ha.1 (by omega) _) (Nat.le_of_ble_eq_true rfl) lX1_56 kX1_leave vX1_leave dX1_given_10 rfl rfl rfl (by decide) rfl (Nat.le_of_ble_eq_true rfl) ?_
    refine ev_iload_n (i := 2) dX1_given_13 rfl rfl ?_
    refine ev_iconst (v := 1) dX1_given_14 kc_1 ?_
    refine ev_iadd dX1_given_15 ?_
    rw [nI_1]
    refine ev_istore_n (i := 3) dX1_given_16 rfl (Nat.le_of_ble_eq_true rfl) rfl ?_
    refine ev_iload_n (i := 1) dX1_given_17 rfl rfl ?_
    refine ev_tableIn (off := 155) (tgt := 173) dX1_given_18 (by decide) (by decide) (by decide) (by decide) ?_
    refine ev_aload_n (i := 0) dX1_given_173 rfl rfl ?_
    refine ev_bipush (v := 20) dX1_given_174 kb_20 ?_
    refine ev_iload_n (i := 3) dX1_given_176 rfl rfl ?_
    refine s_dVi (As := [_, _]) (g20 a1 (by omega) (by omega)) (Nat.le_of_ble_eq_true rfl) lX1_50 kX1_given vX1_given dX1_given_177 rfl rfl rfl (by decide) rfl (Nat.le_of_ble_eq_true rfl) ?_
    refine ev_aload_n (i := 0) dX1_given_180 rfl rfl ?_
    refine ev_iconst (v := 0) dX1_given_181 kc_0 ?_
    refine ev_iload_n (i := 3) dX1_given_182 rfl rfl ?_
    refine s_dVi (As := [_, _]) (as_4S (a1.lvs [20]) (by simp only [List.length_cons, List.length_nil]; omega) (by omega)) (Nat.le_of_ble_eq_true rfl) lX1_41 kX1_asked vX1_asked dX1_given_183 rfl rfl rfl (by decide) rfl (Nat.le_of_ble_eq_true rfl) ?_
    refine ev_isub dX1_given_186 ?_
    exact s_retI dX1_given_187 ⟨rfl, by simp only [nv_lvs, List.foldl_cons, List.foldl_nil]⟩
  · exact absurd (by rw [e30]; exact nI_le (by omega) (by omega)) h3
theorem g23_5 (ha : nv_as I t 5 h lf sn) (ht : t + 5 ≤ 16) (hq : q + 2 * 5 ≤ 30) : nw_dI l g 5 mX1_given [.ref (nw_a g 192), .int 23, .int (nI q)] I (sn - ((h - 100) * 2)) (nv_lvs [23, 20, 14, 13, 10] I) := by
  refine ⟨(Nat.le_of_ble_eq_true rfl), ?_⟩
  have e30 : (30 : Int32) = nI 30 := by decide
  have a1 := ha.lv 23
  refine ev_iload_n (i := 2) dX1_given_0 rfl rfl ?_
  refine ev_bipush (v := 30) dX1_given_1 kb_30 ?_
  refine ev_icmp_le (tgt := 8) dX1_given_3 (by decide) (fun h3 => ?_) (fun h3 => ?_)
  · refine ev_aload_n (i := 0) dX1_given_8 rfl rfl ?_
    refine ev_iload_n (i := 1) dX1_given_9 rfl rfl ?_
    refine s_dVv (As := [_]) (c_leave ha.1 (by omega) _) (Nat.le_of_ble_eq_true rfl) lX1_56 kX1_leave vX1_leave dX1_given_10 rfl rfl rfl (by decide) rfl (Nat.le_of_ble_eq_true rfl) ?_
    refine ev_iload_n (i := 2) dX1_given_13 rfl rfl ?_
    refine ev_iconst (v := 1) dX1_given_14 kc_1 ?_
    refine ev_iadd dX1_given_15 ?_
    rw [nI_1]
    refine ev_istore_n (i := 3) dX1_given_16 rfl (Nat.le_of_ble_eq_true rfl) rfl ?_
    refine ev_iload_n (i := 1) dX1_given_17 rfl rfl ?_
    refine ev_tableIn (off := 155) (tgt := 173) dX1_given_18 (by decide) (by decide) (by decide) (by decide) ?_
    refine ev_aload_n (i := 0) dX1_given_173 rfl rfl ?_
    refine ev_bipush (v := 20) dX1_given_174 kb_20 ?_
    refine ev_iload_n (i := 3) dX1_given_176 rfl rfl ?_
    refine s_dVi (As := [_, _]) (g20 a1 (by omega) (by omega)) (Nat.le_of_ble_eq_true rfl) lX1_50 kX1_given vX1_given dX1_given_177 rfl rfl rfl (by decide) rfl (Nat.le_of_ble_eq_true rfl) ?_
    refine ev_aload_n (i := 0) dX1_given_180 rfl rfl ?_
    refine ev_iconst (v := 0) dX1_given_181 kc_0 ?_
    refine ev_iload_n (i := 3) dX1_given_182 rfl rfl ?_
    refine s_dVi (As := [_, _]) (as_5S (a1.lvs [20]) (by simp only [List.length_cons, List.length_nil]; omega) (by omega)) (Nat.le_of_ble_eq_true rfl) lX1_41 kX1_asked vX1_asked dX1_given_183 rfl rfl rfl (by decide) rfl (Nat.le_of_ble_eq_true rfl) ?_
    refine ev_isub dX1_given_186 ?_
    exact s_retI dX1_given_187 ⟨rfl, by simp only [nv_lvs, List.foldl_cons, List.foldl_nil]⟩
  · exact absurd (by rw [e30]; exact nI_le (by omega) (by omega)) h3
theorem at_4M (ha : nv_as I t 4 h lf sn) (ht : t + 4 ≤ 16) (hq : q + 2 * 6 ≤ 30) (lv : Nat) (hlv : lv ≤ 5) (z : Option Value) : nw_S l g 6 mX1_asked 8 [some (.ref (nw_a g 192)), some (.int 1), some (.int (nI q)), some (.int 4), some (.int (nI lv)), z] [] I (nw_qI (fun r I' => r = sn - (h - 100) ∧ I' = nv_lvs [23, 20, 13, 10] I)) := by
  have e6 : (6 : Int32) = nI 6 := by decide
  refine ev_iload dX1_asked_8 rfl ?_
  refine ev_bipush (v := 6) dX1_asked_10 kb_6 ?_
  refine ev_icmp_ge (tgt := 58) dX1_asked_12 (by decide) (fun h12 => ?_) (fun h12 => ?_)
  · exact absurd h12 (by rw [e6]; exact nI_ge (by omega) (by decide))
  · refine ev_iload_n (i := 3) dX1_asked_15 rfl rfl ?_
    refine ev_iconst (v := (-1)) dX1_asked_16 kc_m1 ?_
    refine ev_icmp_eq (tgt := 58) dX1_asked_17 (by decide) (fun h17 => ?_) (fun h17 => ?_)
    · exact absurd h17 (by decide)
    · refine ev_gets_told fX1_47 dX1_asked_20 ?_
      refine ev_bipush (v := 6) dX1_asked_23 kb_6 ?_
      refine ev_iload_n (i := 1) dX1_asked_25 rfl rfl ?_
      refine ev_imul dX1_asked_26 ?_
      refine ev_iload_n (i := 3) dX1_asked_27 rfl rfl ?_
      refine ev_iadd dX1_asked_28 ?_
      refine ev_tld dX1_asked_29 (nw_in_lit (by decide)) ?_
      rw [show nw_TOLD (6 * 1 + 4 : Int32).toNatClampNeg = 23 from by decide]
      refine ev_istore dX1_asked_30 (Nat.le_of_ble_eq_true rfl) rfl ?_
      refine ev_iload dX1_asked_32 rfl ?_
      refine ev_if_eq (tgt := 47) dX1_asked_34 (by decide) (fun h34 => ?_) (fun h34 => ?_)
      · exact absurd h34 (by decide)
      · refine ev_aload_n (i := 0) dX1_asked_37 rfl rfl ?_
        refine ev_iload dX1_asked_38 rfl ?_
        refine ev_iload_n (i := 2) dX1_asked_40 rfl rfl ?_
        refine ev_iconst (v := 1) dX1_asked_41 kc_1 ?_
        refine ev_iadd dX1_asked_42 ?_
        rw [nI_1]
        refine s_dVi (As := [_, _]) (g23_4 ha (by omega) (by omega)) (Nat.le_of_ble_eq_true rfl) lX1_50 kX1_given vX1_given dX1_asked_43 rfl rfl rfl (by decide) rfl (Nat.le_of_ble_eq_true rfl) ?_
        exact s_retI dX1_asked_46 ⟨rfl, rfl⟩
theorem as_4M (ha : nv_as I t 4 h lf sn) (ht : t + 4 ≤ 16) (hq : q + 2 * 6 ≤ 30) : nw_dI l g 6 mX1_asked [.ref (nw_a g 192), .int 1, .int (nI q)] I (sn - (h - 100)) (nv_lvs [23, 20, 13, 10] I) := by
  refine ⟨(Nat.le_of_ble_eq_true rfl), ?_⟩
  refine ev_aload_n (i := 0) dX1_asked_0 rfl rfl ?_
  refine ev_getI fX1_22 dX1_asked_1 rfl rfl (by decide) ?_
  rw [ha.2.1]
  refine ev_istore_n (i := 3) dX1_asked_4 rfl (Nat.le_of_ble_eq_true rfl) rfl ?_
  refine ev_iconst (v := 0) dX1_asked_5 kc_0 ?_
  refine ev_istore dX1_asked_6 (Nat.le_of_ble_eq_true rfl) rfl ?_
  exact at_4M ha ht hq 0 (by omega) _
theorem at_54M (ha : nv_as I t 5 h lf sn) (ht : t + 5 ≤ 16) (hq : q + 2 * 6 ≤ 30) (lv : Nat) (hlv : lv ≤ 5) (z : Option Value) : nw_S l g 6 mX1_asked 8 [some (.ref (nw_a g 192)), some (.int 1), some (.int (nI q)), some (.int 4), some (.int (nI lv)), z] [] I (nw_qI (fun r I' => r = sn - ((h - 100) * 2) ∧ I' = nv_lvs [23, 20, 14, 13, 10] I)) := by
  have e6 : (6 : Int32) = nI 6 := by decide
  refine ev_iload dX1_asked_8 rfl ?_
  refine ev_bipush (v := 6) dX1_asked_10 kb_6 ?_
  refine ev_icmp_ge (tgt := 58) dX1_asked_12 (by decide) (fun h12 => ?_) (fun h12 => ?_)
  · exact absurd h12 (by rw [e6]; exact nI_ge (by omega) (by decide))
  · refine ev_iload_n (i := 3) dX1_asked_15 rfl rfl ?_
    refine ev_iconst (v := (-1)) dX1_asked_16 kc_m1 ?_
    refine ev_icmp_eq (tgt := 58) dX1_asked_17 (by decide) (fun h17 => ?_) (fun h17 => ?_)
    · exact absurd h17 (by decide)
    · refine ev_gets_told fX1_47 dX1_asked_20 ?_
      refine ev_bipush (v := 6) dX1_asked_23 kb_6 ?_
      refine ev_iload_n (i := 1) dX1_asked_25 rfl rfl ?_
      refine ev_imul dX1_asked_26 ?_
      refine ev_iload_n (i := 3) dX1_asked_27 rfl rfl ?_
      refine ev_iadd dX1_asked_28 ?_
      refine ev_tld dX1_asked_29 (nw_in_lit (by decide)) ?_
      rw [show nw_TOLD (6 * 1 + 4 : Int32).toNatClampNeg = 23 from by decide]
      refine ev_istore dX1_asked_30 (Nat.le_of_ble_eq_true rfl) rfl ?_
      refine ev_iload dX1_asked_32 rfl ?_
      refine ev_if_eq (tgt := 47) dX1_asked_34 (by decide) (fun h34 => ?_) (fun h34 => ?_)
      · exact absurd h34 (by decide)
      · refine ev_aload_n (i := 0) dX1_asked_37 rfl rfl ?_
        refine ev_iload dX1_asked_38 rfl ?_
        refine ev_iload_n (i := 2) dX1_asked_40 rfl rfl ?_
        refine ev_iconst (v := 1) dX1_asked_41 kc_1 ?_
        refine ev_iadd dX1_asked_42 ?_
        rw [nI_1]
        refine s_dVi (As := [_, _]) (g23_5 ha (by omega) (by omega)) (Nat.le_of_ble_eq_true rfl) lX1_50 kX1_given vX1_given dX1_asked_43 rfl rfl rfl (by decide) rfl (Nat.le_of_ble_eq_true rfl) ?_
        exact s_retI dX1_asked_46 ⟨rfl, rfl⟩
theorem at_5M (ha : nv_as I t 5 h lf sn) (ht : t + 5 ≤ 16) (hq : q + 2 * 6 ≤ 30) (lv : Nat) (hlv : lv ≤ 4) (z : Option Value) : nw_S l g 6 mX1_asked 8 [some (.ref (nw_a g 192)), some (.int 1), some (.int (nI q)), some (.int 5), some (.int (nI lv)), z] [] I (nw_qI (fun r I' => r = sn - ((h - 100) * 2) ∧ I' = nv_lvs [23, 20, 14, 13, 10] I)) := by
  have e6 : (6 : Int32) = nI 6 := by decide
  refine ev_iload dX1_asked_8 rfl ?_
  refine ev_bipush (v := 6) dX1_asked_10 kb_6 ?_
  refine ev_icmp_ge (tgt := 58) dX1_asked_12 (by decide) (fun h12 => ?_) (fun h12 => ?_)
  · exact absurd h12 (by rw [e6]; exact nI_ge (by omega) (by decide))
  · refine ev_iload_n (i := 3) dX1_asked_15 rfl rfl ?_
    refine ev_iconst (v := (-1)) dX1_asked_16 kc_m1 ?_
    refine ev_icmp_eq (tgt := 58) dX1_asked_17 (by decide) (fun h17 => ?_) (fun h17 => ?_)
    · exact absurd h17 (by decide)
    · refine ev_gets_told fX1_47 dX1_asked_20 ?_
      refine ev_bipush (v := 6) dX1_asked_23 kb_6 ?_
      refine ev_iload_n (i := 1) dX1_asked_25 rfl rfl ?_
      refine ev_imul dX1_asked_26 ?_
      refine ev_iload_n (i := 3) dX1_asked_27 rfl rfl ?_
      refine ev_iadd dX1_asked_28 ?_
      refine ev_tld dX1_asked_29 (nw_in_lit (by decide)) ?_
      rw [show nw_TOLD (6 * 1 + 5 : Int32).toNatClampNeg = 0 from by decide]
      refine ev_istore dX1_asked_30 (Nat.le_of_ble_eq_true rfl) rfl ?_
      refine ev_iload dX1_asked_32 rfl ?_
      refine ev_if_eq (tgt := 47) dX1_asked_34 (by decide) (fun h34 => ?_) (fun h34 => ?_)
      · refine ev_iload_n (i := 3) dX1_asked_47 rfl rfl ?_
        refine s_dSi (As := [_]) (c_next _) (Nat.le_of_ble_eq_true rfl) lX1_53 kX4_next sX4_next dX1_asked_48 rfl rfl (Nat.le_of_ble_eq_true rfl) ?_
        refine ev_istore_n (i := 3) dX1_asked_51 rfl (Nat.le_of_ble_eq_true rfl) rfl ?_
        refine ev_iincm (m := 1) dX1_asked_52 kc_1 rfl (Nat.le_of_ble_eq_true rfl) rfl ?_
        refine ev_goto (tgt := 8) dX1_asked_55 (by decide) ?_
        rw [nI_1, show nv_next 5 = 4 from by decide]
        exact at_54M ha ht hq (lv + 1) (by omega) _
      · exact absurd (by decide) h34
theorem as_5M (ha : nv_as I t 5 h lf sn) (ht : t + 5 ≤ 16) (hq : q + 2 * 6 ≤ 30) : nw_dI l g 6 mX1_asked [.ref (nw_a g 192), .int 1, .int (nI q)] I (sn - ((h - 100) * 2)) (nv_lvs [23, 20, 14, 13, 10] I) := by
  refine ⟨(Nat.le_of_ble_eq_true rfl), ?_⟩
  refine ev_aload_n (i := 0) dX1_asked_0 rfl rfl ?_
  refine ev_getI fX1_22 dX1_asked_1 rfl rfl (by decide) ?_
  rw [ha.2.1]
  refine ev_istore_n (i := 3) dX1_asked_4 rfl (Nat.le_of_ble_eq_true rfl) rfl ?_
  refine ev_iconst (v := 0) dX1_asked_5 kc_0 ?_
  refine ev_istore dX1_asked_6 (Nat.le_of_ble_eq_true rfl) rfl ?_
  exact at_5M ha ht hq 0 (by omega) _
/-- what is answered, and the bodies in their order: by kind, by what is asked -/
def nv_ask (kd w : Nat) (h lf sn : Int32) : Int32 × List Int32 := match kd, w with
  | 1, 0 => (h + (sn + lf), [11, 10, 21, 20])
  | 2, 0 => (0 - (h + ((sn + lf) * 2)), [12, 11, 10, 24, 21, 20])
  | 3, 0 => (h + (sn + lf - 1000), [11, 10, 22, 21, 20])
  | 4, 0 => (h - 100, [13, 10])
  | 5, 0 => ((h - 100) * 2, [14, 13, 10])
  | 1, _ => (sn + lf, [21, 20])
  | 2, _ => ((sn + lf) * 2, [24, 21, 20])
  | 3, _ => (sn + lf - 1000, [22, 21, 20])
  | 4, _ => (sn - (h - 100), [23, 20, 13, 10])
  | _, _ => (sn - ((h - 100) * 2), [23, 20, 14, 13, 10])
theorem c_asked {k w : Nat} (h1 : 1 ≤ k) (h5 : k ≤ 5) (hw : w ≤ 1) (ha : nv_as I 0 (nI k) h lf sn) : nw_dI l g 7 mX1_asked [.ref (nw_a g 192), .int (nI w), .int 0] I (nv_ask k w h lf sn).1 (nv_lvs (nv_ask k w h lf sn).2 I) := by
  rcases (show k = 1 ∨ k = 2 ∨ k = 3 ∨ k = 4 ∨ k = 5 by omega) with rfl | rfl | rfl | rfl | rfl <;> rcases (show w = 0 ∨ w = 1 by omega) with rfl | rfl
  · exact (as_1S (q := 0) ha (by decide) (by decide)).deep (by decide)
  · exact (as_1M (q := 0) ha (by decide) (by decide)).deep (by decide)
  · exact (as_2S (q := 0) ha (by decide) (by decide)).deep (by decide)
  · exact (as_2M (q := 0) ha (by decide) (by decide)).deep (by decide)
  · exact (as_3S (q := 0) ha (by decide) (by decide)).deep (by decide)
  · exact (as_3M (q := 0) ha (by decide) (by decide)).deep (by decide)
  · exact (as_4S (q := 0) ha (by decide) (by decide)).deep (by decide)
  · exact (as_4M (q := 0) ha (by decide) (by decide)).deep (by decide)
  · exact (as_5S (q := 0) ha (by decide) (by decide)).deep (by decide)
  · exact (as_5M (q := 0) ha (by decide) (by decide)).deep (by decide)
theorem c_answer {s k w : Nat} (hs : s < 20) (hk : nv_cf I 15 (6 + s) = nI k) (h1 : 1 ≤ k) (h5 : k ≤ 5) (hw : w ≤ 1) : nw_cI l g 8 mX1_answer [.ref (nw_a g 192), .ref (nw_a g 15), .int (nI s), .int (nI w)] I (fun r I' => r = (nv_ask k w (nv_cf I 15 (26 + s)) (nv_lift (nI k) (nv_cf I 15 (26 + s))) (nI s)).1 ∧ ∃ J, J 192 1 = 0 ∧ (∀ j, j ≠ 192 → J j = I j) ∧ I' = nv_lvs (nv_ask k w (nv_cf I 15 (26 + s)) (nv_lift (nI k) (nv_cf I 15 (26 + s))) (nI s)).2 J) := by
  refine ⟨(Nat.le_of_ble_eq_true rfl), ?_⟩
  have hk' : I 16 s = nI k := (cf_kin I 15 hs).symm.trans hk
  rw [cf_hei I 15 hs]
  refine ev_aload_n (i := 0) dX1_answer_0 rfl rfl ?_
  refine ev_iconst (v := 0) dX1_answer_1 kc_0 ?_
  refine ev_putI fX1_13 dX1_answer_2 rfl rfl (by decide) rfl rfl rfl rfl ?_
  refine ev_aload_n (i := 0) dX1_answer_5 rfl rfl ?_
  refine ev_aload_n (i := 1) dX1_answer_6 rfl rfl ?_
  refine ev_getR fX1_17 dX1_answer_7 rfl rfl (by decide) ?_
  refine ev_iload_n (i := 2) dX1_answer_10 rfl rfl ?_
  refine ev_ialdN dX1_answer_11 rfl hs (by decide) ?_
  rw [nw_up_ne (by decide), hk']
  refine ev_putI fX1_22 dX1_answer_12 rfl rfl (by decide) rfl rfl rfl rfl ?_
  refine ev_aload_n (i := 0) dX1_answer_15 rfl rfl ?_
  refine ev_aload_n (i := 1) dX1_answer_16 rfl rfl ?_
  refine ev_getR fX1_25 dX1_answer_17 rfl rfl (by decide) ?_
  refine ev_iload_n (i := 2) dX1_answer_20 rfl rfl ?_
  refine ev_ialdN dX1_answer_21 rfl hs (by decide) ?_
  rw [nw_up_ne (by decide), nw_up_ne (by decide)]
  refine ev_putI fX1_28 dX1_answer_22 rfl rfl (by decide) rfl rfl rfl rfl ?_
  refine ev_aload_n (i := 0) dX1_answer_25 rfl rfl ?_
  refine ev_aload_n (i := 1) dX1_answer_26 rfl rfl ?_
  refine ev_iload_n (i := 2) dX1_answer_27 rfl rfl ?_
  refine s_dVi (As := [_]) (c_liftOfSwell nw_ch15 hs) (Nat.le_of_ble_eq_true rfl) lX1_31 kX2_liftOfSwell vX2_liftOfSwell dX1_answer_28 rfl rfl rfl (by decide) rfl (Nat.le_of_ble_eq_true rfl) ?_
  rw [nv_cf_ext (I := I) (fun j g1 g2 => by rw [nw_up_ne (by omega), nw_up_ne (by omega), nw_up_ne (by omega)]), cf_kin I 15 hs, cf_hei I 15 hs, hk']
  refine ev_putI fX1_35 dX1_answer_31 rfl rfl (by decide) rfl rfl rfl rfl ?_
  refine ev_aload_n (i := 0) dX1_answer_34 rfl rfl ?_
  refine ev_iload_n (i := 2) dX1_answer_35 rfl rfl ?_
  refine ev_putI fX1_38 dX1_answer_36 rfl rfl (by decide) rfl rfl rfl rfl ?_
  have hnv : nv_as (nw_up (nw_up (nw_up (nw_up (nw_up I 192 1 0) 192 2 (nI k)) 192 3 (I 17 s)) 192 4 (nv_lift (nI k) (I 17 s))) 192 5 (nI s)) 0 (nI k) (I 17 s) (nv_lift (nI k) (I 17 s)) (nI s) := by
    refine ⟨?_, ?_, ?_, ?_, ?_⟩ <;> simp [nw_up, nI_0]
  refine ev_aload_n (i := 0) dX1_answer_39 rfl rfl ?_
  refine ev_iload_n (i := 3) dX1_answer_40 rfl rfl ?_
  refine ev_iconst (v := 0) dX1_answer_41 kc_0 ?_
  refine s_callVi (As := [_, _]) (c_asked h1 h5 hw (h := I 17 s) (lf := nv_lift (nI k) (I 17 s)) (sn := nI s) hnv) (Nat.le_of_ble_eq_true rfl) lX1_41 kX1_asked vX1_asked dX1_answer_42 rfl rfl rfl (by decide) rfl (Nat.le_of_ble_eq_true rfl) (fun r J1 hq => ?_)
  exact s_retI dX1_answer_45 ⟨hq.1, _, by simp [nw_up], fun j hj => by rw [nw_up_ne hj, nw_up_ne hj, nw_up_ne hj, nw_up_ne hj, nw_up_ne hj], hq.2⟩
end
