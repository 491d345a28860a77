section
variable {l : Launch} {g : nw_G} {I : nw_Me} {N T S : Nat} {C F G : Nat → Int32} {b : Bool} {L : List (Nat → Int32)}
/-- what holds of the model's cells, over the class's pictures -/
def nm_W (I : nw_Me) (b : Bool) (N T S : Nat) (C F : Nat → Int32) : Prop := I 225 0 = nw_bi b ∧ nl_C N T S C (I 225) ∧ nl_F T S F (I 226) ∧ ((b = true ∧ 0 < N ∧ 0 < T ∧ nv_kok N C ∧ nv_sok T S F) ∨ (b = false ∧ N = 0 ∧ T = 0 ∧ S = 0))
theorem nm_W.sea (hW : nm_W I b N T S C F) (h : 0 < S ∨ 0 < T ∨ 0 < N ∨ b = true) : b = true ∧ 0 < N ∧ 0 < T ∧ nv_kok N C ∧ nv_sok T S F := by
  obtain ⟨-, -, -, h1 | ⟨rfl, rfl, rfl, rfl⟩⟩ := hW
  · exact h1
  · rcases h with h | h | h | h
    · omega
    · omega
    · omega
    · cases h
theorem nm_W.bd (hW : nm_W I b N T S C F) : decide (I 225 0 = 1) = b := by rw [hW.1]; cases b <;> rfl
theorem nv_sok.law (h : nv_sok T S F) : ¬ F 1 ≤ 0 := by
  obtain ⟨k, h2, h12, e⟩ := h.2.2.2.1
  rw [e]
  exact nI_nle (by omega) (by omega)
theorem nm_W.so {J : nw_Me} (hW : nm_W I b N T S C F) (h : J 233 = nm_mx 0 29 (I 226) (I 233)) : nl_F T S F (J 233) := by
  refine hW.2.2.1.ge (fun i hi => ?_) hW.2.1.hT hW.2.1.hS
  rw [h]
  have e := nm_mx_in (o := 0) (f := I 226) (h := I 233) hi
  rw [Nat.zero_add] at e
  exact e
theorem nl_F.at {f : Nat → Int32} (h : nl_F T S G f) (i : Nat) (hi : nl_f T S i) : f i = G i := h i hi
theorem w01 {w : Int32} (h : nv_in w 0 1 = true) : w = 0 ∨ w = 1 := by
  obtain ⟨n, -, h1, rfl⟩ := nv_in_n (a := 0) (c := 1) h (by decide) (by decide)
  rcases (show n = 0 ∨ n = 1 by omega) with rfl | rfl <;> decide
theorem w02 {w : Int32} (h : nv_in w 0 2 = true) : w = 0 ∨ w = 1 ∨ w = 2 := by
  obtain ⟨n, -, h1, rfl⟩ := nv_in_n (a := 0) (c := 2) h (by decide) (by decide)
  rcases (show n = 0 ∨ n = 1 ∨ n = 2 by omega) with rfl | rfl | rfl <;> decide
theorem w03 {w : Int32} (h : nv_in w 0 3 = true) : w = 0 ∨ w = 1 ∨ w = 2 ∨ w = 3 := by
  obtain ⟨n, -, h1, rfl⟩ := nv_in_n (a := 0) (c := 3) h (by decide) (by decide)
  rcases (show n = 0 ∨ n = 1 ∨ n = 2 ∨ n = 3 by omega) with rfl | rfl | rfl | rfl <;> decide
theorem w04 {w : Int32} (h : nv_in w 0 4 = true) : w = 0 ∨ w = 1 ∨ w = 2 ∨ w = 3 ∨ w = 4 := by
  obtain ⟨n, -, h1, rfl⟩ := nv_in_n (a := 0) (c := 4) h (by decide) (by decide)
  rcases (show n = 0 ∨ n = 1 ∨ n = 2 ∨ n = 3 ∨ n = 4 by omega) with rfl | rfl | rfl | rfl | rfl <;> decide
theorem w05 {w : Int32} (h : nv_in w 0 5 = true) : w = 0 ∨ w = 1 ∨ w = 2 ∨ w = 3 ∨ w = 4 ∨ w = 5 := by
  obtain ⟨n, -, h1, rfl⟩ := nv_in_n (a := 0) (c := 5) h (by decide) (by decide)
  rcases (show n = 0 ∨ n = 1 ∨ n = 2 ∨ n = 3 ∨ n = 4 ∨ n = 5 by omega) with rfl | rfl | rfl | rfl | rfl | rfl <;> decide
theorem nv_isAr_eq {o k : Int32} (ho : nv_kd o) (hk : nv_in k 0 5 = true) : nv_isAr 6 o k = (decide (k = 0) || decide (k = o) || (decide (k = 1) && (decide (o = 2) || decide (o = 3))) || (decide (k = 4) && decide (o = 5))) := by
  rcases w05 hk with rfl | rfl | rfl | rfl | rfl | rfl <;> rcases ho with rfl | rfl | rfl | rfl | rfl <;> decide
theorem m_kind (hW : nm_W I b N T S C F) (x : Int32) : nw_dI l g 2 mX10_kind [.ref (nw_a g 219), .int x] I (if nv_in x 0 (nI N - 1) then C (6 + x.toNatClampNeg) else -1000001) I := by
  refine ⟨(Nat.le_of_ble_eq_true rfl), ?_⟩
  obtain ⟨hb, hC, hF, hor⟩ := id hW
  have hbd := hW.bd
  have hN := hC.n
  have hT := hC.t
  have hS := hC.s
  have hN2 := hC.hN
  have hT3 := hC.hT
  have hS6 := hC.hS
  refine ev_aload_n (i := 0) dX10_kind_0 rfl rfl ?_
  refine ev_iload_n (i := 1) dX10_kind_1 rfl rfl ?_
  refine s_dVz (As := [_]) (m_isSwell _) (Nat.le_of_ble_eq_true rfl) lX10_274 kX10_isSwell vX10_isSwell dX10_kind_2 rfl rfl rfl (by decide) rfl (Nat.le_of_ble_eq_true rfl) ?_
  rw [hN]
  refine s_ifZ_eq (tgt := 20) dX10_kind_5 (by decide) (fun h5 => ?_) (fun h5 => ?_)
  · refine ev_ldc qX10_79 dX10_kind_20 ?_
    exact s_retI dX10_kind_22 ⟨by first | rw [if_neg (by rw [h5]; decide)] | (rw [if_pos h5, nI_clamp (by omega)]; exact hC.2 _ (by unfold nl_c; omega)), rfl⟩
  · obtain ⟨s, hs, rfl⟩ := nv_in_S (by omega) h5
    refine ev_aload_n (i := 0) dX10_kind_8 rfl rfl ?_
    refine ev_getR fX10_25 dX10_kind_9 rfl rfl (by decide) ?_
    refine ev_bipush (v := 6) dX10_kind_12 kb_6 ?_
    refine ev_iload_n (i := 1) dX10_kind_14 rfl rfl ?_
    refine ev_iaddN (a := 6) (b := s) dX10_kind_15 ?_
    refine ev_ialdN (j := (6 + s)) dX10_kind_16 rfl (by omega) (by decide) ?_
    refine ev_goto (tgt := 22) dX10_kind_17 (by decide) ?_
    exact s_retI dX10_kind_22 ⟨by first | rw [if_neg (by rw [h5]; decide)] | (rw [if_pos h5, nI_clamp (by omega)]; exact hC.2 _ (by unfold nl_c; omega)), rfl⟩
theorem m_as (hW : nm_W I b N T S C F) (x k : Int32) : nw_dI l g 2 mX10_as [.ref (nw_a g 219), .int x, .int k] I (if nv_in x 0 (nI N - 1) && nv_in k 0 5 then (if nv_isAr 6 (C (6 + x.toNatClampNeg)) k then x else -1000010 - 3) else -1000001) (if nv_in x 0 (nI N - 1) && nv_in k 0 5 then (if nv_isAr 6 (C (6 + x.toNatClampNeg)) k then nw_up I 219 3 0 else nw_up I 219 3 3) else I) := by
  refine ⟨(Nat.le_of_ble_eq_true rfl), ?_⟩
  obtain ⟨hb, hC, hF, hor⟩ := id hW
  have hbd := hW.bd
  have hN := hC.n
  have hT := hC.t
  have hS := hC.s
  have hN2 := hC.hN
  have hT3 := hC.hT
  have hS6 := hC.hS
  refine ev_aload_n (i := 0) dX10_as_0 rfl rfl ?_
  refine ev_iload_n (i := 1) dX10_as_1 rfl rfl ?_
  refine s_dVz (As := [_]) (m_isSwell _) (Nat.le_of_ble_eq_true rfl) lX10_274 kX10_isSwell vX10_isSwell dX10_as_2 rfl rfl rfl (by decide) rfl (Nat.le_of_ble_eq_true rfl) ?_
  rw [hN]
  refine s_ifZ_eq (tgt := 20) dX10_as_5 (by decide) (fun h5 => ?_) (fun h5 => ?_)
  · refine ev_ldc qX10_79 dX10_as_20 ?_
    exact s_retI dX10_as_22 ⟨by rw [if_neg (by first | (simp [h5]; done) | (simp [h17]; done) | (simp [h27]; done))], by rw [if_neg (by first | (simp [h5]; done) | (simp [h17]; done) | (simp [h27]; done))]⟩
  · refine ev_iload_n (i := 2) dX10_as_8 rfl rfl ?_
    refine ev_i2l dX10_as_9 ?_
    refine ev_lconst (v := 0) dX10_as_10 rfl ?_
    refine ev_ldc2 qX10_270 dX10_as_11 ?_
    refine s_dSz (As := [_, _, _]) (m_in _ 0 5 (by decide) (by decide)) (Nat.le_of_ble_eq_true rfl) lX10_64 kX10_in sX10_in dX10_as_14 rfl rfl (Nat.le_of_ble_eq_true rfl) ?_
    refine s_ifZ_ne (tgt := 23) dX10_as_17 (by decide) (fun h17 => ?_) (fun h17 => ?_)
    · obtain ⟨s, hs, rfl⟩ := nv_in_S (by omega) h5
      obtain ⟨-, h0, h0T, hk, hsok⟩ := hW.sea (Or.inr (Or.inr (Or.inl (by omega))))
      have ec : (nI s).toNatClampNeg = s := nI_clamp (by omega)
      have hkd : nv_kd (C (6 + s)) := by
        obtain ⟨t, h1, h2, e⟩ := hk s hs
        rw [e]
        unfold nv_kd
        rcases (show t = 1 ∨ t = 2 ∨ t = 3 ∨ t = 4 ∨ t = 5 by omega) with rfl | rfl | rfl | rfl | rfl <;> decide
      have key := nv_isAr_eq hkd h17
      refine ev_aload_n (i := 0) dX10_as_23 rfl rfl ?_
      refine ev_getR fX10_25 dX10_as_24 rfl rfl (by decide) ?_
      refine ev_bipush (v := 6) dX10_as_27 kb_6 ?_
      refine ev_iload_n (i := 1) dX10_as_29 rfl rfl ?_
      refine ev_iaddN (a := 6) (b := s) dX10_as_30 ?_
      refine ev_ialdN (j := (6 + s)) dX10_as_31 rfl (by omega) (by decide) ?_
      rw [hC.2 (6 + s) (by unfold nl_c; omega)]
      refine ev_istore_n (i := 3) dX10_as_32 rfl (Nat.le_of_ble_eq_true rfl) rfl ?_
      refine ev_iload_n (i := 2) dX10_as_33 rfl rfl ?_
      refine ev_iconst (v := 1) dX10_as_34 kc_1 ?_
      refine ev_icmp_ne (tgt := 52) dX10_as_35 (by decide) (fun h35 => ?_) (fun h35 => ?_)
      · refine ev_iconst (v := 0) dX10_as_52 kc_0 ?_
        refine ev_istore dX10_as_53 (Nat.le_of_ble_eq_true rfl) rfl ?_
        refine ev_iload_n (i := 2) dX10_as_55 rfl rfl ?_
        refine ev_if_eq (tgt := 79) dX10_as_56 (by decide) (fun h56 => ?_) (fun h56 => ?_)
        · refine ev_iconst (v := 1) dX10_as_79 kc_1 ?_
          refine ev_goto (tgt := 84) dX10_as_80 (by decide) ?_
          refine ev_istore dX10_as_84 (Nat.le_of_ble_eq_true rfl) rfl ?_
          refine ev_iload dX10_as_86 rfl ?_
          refine ev_if_eq (tgt := 99) dX10_as_88 (by decide) (fun h88 => ?_) (fun h88 => ?_)
          · refine ev_aload_n (i := 0) dX10_as_99 rfl rfl ?_
            refine ev_iconst (v := 3) dX10_as_100 kc_3 ?_
            refine s_dVi (As := [_]) (m_finds _) (Nat.le_of_ble_eq_true rfl) lX10_80 kX10_finds vX10_finds dX10_as_101 rfl rfl rfl (by decide) rfl (Nat.le_of_ble_eq_true rfl) ?_
            exact s_retI dX10_as_104 (by
        simp only [h5, h17, Bool.and_self, if_true, ec, key]
        clear key hkd hW hC hF hor hk hsok hb hbd
        constructor <;> simp_all)
          · refine ev_aload_n (i := 0) dX10_as_91 rfl rfl ?_
            refine ev_iload_n (i := 1) dX10_as_92 rfl rfl ?_
            refine s_dVi (As := [_]) (m_well _) (Nat.le_of_ble_eq_true rfl) lX10_84 kX10_well vX10_well dX10_as_93 rfl rfl rfl (by decide) rfl (Nat.le_of_ble_eq_true rfl) ?_
            refine ev_goto (tgt := 104) dX10_as_96 (by decide) ?_
            exact s_retI dX10_as_104 (by
        simp only [h5, h17, Bool.and_self, if_true, ec, key]
        clear key hkd hW hC hF hor hk hsok hb hbd
        constructor <;> simp_all)
        · refine ev_iload_n (i := 2) dX10_as_59 rfl rfl ?_
          refine ev_iload_n (i := 3) dX10_as_60 rfl rfl ?_
          refine ev_icmp_eq (tgt := 79) dX10_as_61 (by decide) (fun h61 => ?_) (fun h61 => ?_)
          · refine ev_iconst (v := 1) dX10_as_79 kc_1 ?_
            refine ev_goto (tgt := 84) dX10_as_80 (by decide) ?_
            refine ev_istore dX10_as_84 (Nat.le_of_ble_eq_true rfl) rfl ?_
            refine ev_iload dX10_as_86 rfl ?_
            refine ev_if_eq (tgt := 99) dX10_as_88 (by decide) (fun h88 => ?_) (fun h88 => ?_)
            · refine ev_aload_n (i := 0) dX10_as_99 rfl rfl ?_
              refine ev_iconst (v := 3) dX10_as_100 kc_3 ?_
              refine s_dVi (As := [_]) (m_finds _) (Nat.le_of_ble_eq_true rfl) lX10_80 kX10_finds vX10_finds dX10_as_101 rfl rfl rfl (by decide) rfl (Nat.le_of_ble_eq_true rfl) ?_
              exact s_retI dX10_as_104 (by
        simp only [h5, h17, Bool.and_self, if_true, ec, key]
        clear key hkd hW hC hF hor hk hsok hb hbd
        constructor <;> simp_all)
            · refine ev_aload_n (i := 0) dX10_as_91 rfl rfl ?_
              refine ev_iload_n (i := 1) dX10_as_92 rfl rfl ?_
              refine s_dVi (As := [_]) (m_well _) (Nat.le_of_ble_eq_true rfl) lX10_84 kX10_well vX10_well dX10_as_93 rfl rfl rfl (by decide) rfl (Nat.le_of_ble_eq_true rfl) ?_
              refine ev_goto (tgt := 104) dX10_as_96 (by decide) ?_
              exact s_retI dX10_as_104 (by
        simp only [h5, h17, Bool.and_self, if_true, ec, key]
        clear key hkd hW hC hF hor hk hsok hb hbd
        constructor <;> simp_all)
          · refine ev_iload dX10_as_64 rfl ?_
            refine ev_if_ne (tgt := 79) dX10_as_66 (by decide) (fun h66 => ?_) (fun h66 => ?_)
            · refine ev_iconst (v := 1) dX10_as_79 kc_1 ?_
              refine ev_goto (tgt := 84) dX10_as_80 (by decide) ?_
              refine ev_istore dX10_as_84 (Nat.le_of_ble_eq_true rfl) rfl ?_
              refine ev_iload dX10_as_86 rfl ?_
              refine ev_if_eq (tgt := 99) dX10_as_88 (by decide) (fun h88 => ?_) (fun h88 => ?_)
              · refine ev_aload_n (i := 0) dX10_as_99 rfl rfl ?_
                refine ev_iconst (v := 3) dX10_as_100 kc_3 ?_
                refine s_dVi (As := [_]) (m_finds _) (Nat.le_of_ble_eq_true rfl) lX10_80 kX10_finds vX10_finds dX10_as_101 rfl rfl rfl (by decide) rfl (Nat.le_of_ble_eq_true rfl) ?_
                exact s_retI dX10_as_104 (by
        simp only [h5, h17, Bool.and_self, if_true, ec, key]
        clear key hkd hW hC hF hor hk hsok hb hbd
        constructor <;> simp_all)
              · refine ev_aload_n (i := 0) dX10_as_91 rfl rfl ?_
                refine ev_iload_n (i := 1) dX10_as_92 rfl rfl ?_
                refine s_dVi (As := [_]) (m_well _) (Nat.le_of_ble_eq_true rfl) lX10_84 kX10_well vX10_well dX10_as_93 rfl rfl rfl (by decide) rfl (Nat.le_of_ble_eq_true rfl) ?_
                refine ev_goto (tgt := 104) dX10_as_96 (by decide) ?_
                exact s_retI dX10_as_104 (by
        simp only [h5, h17, Bool.and_self, if_true, ec, key]
        clear key hkd hW hC hF hor hk hsok hb hbd
        constructor <;> simp_all)
            · refine ev_iload_n (i := 2) dX10_as_69 rfl rfl ?_
              refine ev_iconst (v := 4) dX10_as_70 kc_4 ?_
              refine ev_icmp_ne (tgt := 83) dX10_as_71 (by decide) (fun h71 => ?_) (fun h71 => ?_)
              · refine ev_iconst (v := 0) dX10_as_83 kc_0 ?_
                refine ev_istore dX10_as_84 (Nat.le_of_ble_eq_true rfl) rfl ?_
                refine ev_iload dX10_as_86 rfl ?_
                refine ev_if_eq (tgt := 99) dX10_as_88 (by decide) (fun h88 => ?_) (fun h88 => ?_)
                · refine ev_aload_n (i := 0) dX10_as_99 rfl rfl ?_
                  refine ev_iconst (v := 3) dX10_as_100 kc_3 ?_
                  refine s_dVi (As := [_]) (m_finds _) (Nat.le_of_ble_eq_true rfl) lX10_80 kX10_finds vX10_finds dX10_as_101 rfl rfl rfl (by decide) rfl (Nat.le_of_ble_eq_true rfl) ?_
                  exact s_retI dX10_as_104 (by
        simp only [h5, h17, Bool.and_self, if_true, ec, key]
        clear key hkd hW hC hF hor hk hsok hb hbd
        constructor <;> simp_all)
                · refine ev_aload_n (i := 0) dX10_as_91 rfl rfl ?_
                  refine ev_iload_n (i := 1) dX10_as_92 rfl rfl ?_
                  refine s_dVi (As := [_]) (m_well _) (Nat.le_of_ble_eq_true rfl) lX10_84 kX10_well vX10_well dX10_as_93 rfl rfl rfl (by decide) rfl (Nat.le_of_ble_eq_true rfl) ?_
                  refine ev_goto (tgt := 104) dX10_as_96 (by decide) ?_
                  exact s_retI dX10_as_104 (by
        simp only [h5, h17, Bool.and_self, if_true, ec, key]
        clear key hkd hW hC hF hor hk hsok hb hbd
        constructor <;> simp_all)
              · refine ev_iload_n (i := 3) dX10_as_74 rfl rfl ?_
                refine ev_iconst (v := 5) dX10_as_75 kc_5 ?_
                refine ev_icmp_ne (tgt := 83) dX10_as_76 (by decide) (fun h76 => ?_) (fun h76 => ?_)
                · refine ev_iconst (v := 0) dX10_as_83 kc_0 ?_
                  refine ev_istore dX10_as_84 (Nat.le_of_ble_eq_true rfl) rfl ?_
                  refine ev_iload dX10_as_86 rfl ?_
                  refine ev_if_eq (tgt := 99) dX10_as_88 (by decide) (fun h88 => ?_) (fun h88 => ?_)
                  · refine ev_aload_n (i := 0) dX10_as_99 rfl rfl ?_
                    refine ev_iconst (v := 3) dX10_as_100 kc_3 ?_
                    refine s_dVi (As := [_]) (m_finds _) (Nat.le_of_ble_eq_true rfl) lX10_80 kX10_finds vX10_finds dX10_as_101 rfl rfl rfl (by decide) rfl (Nat.le_of_ble_eq_true rfl) ?_
                    exact s_retI dX10_as_104 (by
        simp only [h5, h17, Bool.and_self, if_true, ec, key]
        clear key hkd hW hC hF hor hk hsok hb hbd
        constructor <;> simp_all)
                  · refine ev_aload_n (i := 0) dX10_as_91 rfl rfl ?_
                    refine ev_iload_n (i := 1) dX10_as_92 rfl rfl ?_
                    refine s_dVi (As := [_]) (m_well _) (Nat.le_of_ble_eq_true rfl) lX10_84 kX10_well vX10_well dX10_as_93 rfl rfl rfl (by decide) rfl (Nat.le_of_ble_eq_true rfl) ?_
                    refine ev_goto (tgt := 104) dX10_as_96 (by decide) ?_
                    exact s_retI dX10_as_104 (by
        simp only [h5, h17, Bool.and_self, if_true, ec, key]
        clear key hkd hW hC hF hor hk hsok hb hbd
        constructor <;> simp_all)
                · refine ev_iconst (v := 1) dX10_as_79 kc_1 ?_
                  refine ev_goto (tgt := 84) dX10_as_80 (by decide) ?_
                  refine ev_istore dX10_as_84 (Nat.le_of_ble_eq_true rfl) rfl ?_
                  refine ev_iload dX10_as_86 rfl ?_
                  refine ev_if_eq (tgt := 99) dX10_as_88 (by decide) (fun h88 => ?_) (fun h88 => ?_)
                  · refine ev_aload_n (i := 0) dX10_as_99 rfl rfl ?_
                    refine ev_iconst (v := 3) dX10_as_100 kc_3 ?_
                    refine s_dVi (As := [_]) (m_finds _) (Nat.le_of_ble_eq_true rfl) lX10_80 kX10_finds vX10_finds dX10_as_101 rfl rfl rfl (by decide) rfl (Nat.le_of_ble_eq_true rfl) ?_
                    exact s_retI dX10_as_104 (by
        simp only [h5, h17, Bool.and_self, if_true, ec, key]
        clear key hkd hW hC hF hor hk hsok hb hbd
        constructor <;> simp_all)
                  · refine ev_aload_n (i := 0) dX10_as_91 rfl rfl ?_
                    refine ev_iload_n (i := 1) dX10_as_92 rfl rfl ?_
                    refine s_dVi (As := [_]) (m_well _) (Nat.le_of_ble_eq_true rfl) lX10_84 kX10_well vX10_well dX10_as_93 rfl rfl rfl (by decide) rfl (Nat.le_of_ble_eq_true rfl) ?_
                    refine ev_goto (tgt := 104) dX10_as_96 (by decide) ?_
                    exact s_retI dX10_as_104 (by
        simp only [h5, h17, Bool.and_self, if_true, ec, key]
        clear key hkd hW hC hF hor hk hsok hb hbd
        constructor <;> simp_all)
      · refine ev_iload_n (i := 3) dX10_as_38 rfl rfl ?_
        refine ev_iconst (v := 2) dX10_as_39 kc_2 ?_
        refine ev_icmp_eq (tgt := 48) dX10_as_40 (by decide) (fun h40 => ?_) (fun h40 => ?_)
        · refine ev_iconst (v := 1) dX10_as_48 kc_1 ?_
          refine ev_goto (tgt := 53) dX10_as_49 (by decide) ?_
          refine ev_istore dX10_as_53 (Nat.le_of_ble_eq_true rfl) rfl ?_
          refine ev_iload_n (i := 2) dX10_as_55 rfl rfl ?_
          refine ev_if_eq (tgt := 79) dX10_as_56 (by decide) (fun h56 => ?_) (fun h56 => ?_)
          · refine ev_iconst (v := 1) dX10_as_79 kc_1 ?_
            refine ev_goto (tgt := 84) dX10_as_80 (by decide) ?_
            refine ev_istore dX10_as_84 (Nat.le_of_ble_eq_true rfl) rfl ?_
            refine ev_iload dX10_as_86 rfl ?_
            refine ev_if_eq (tgt := 99) dX10_as_88 (by decide) (fun h88 => ?_) (fun h88 => ?_)
            · refine ev_aload_n (i := 0) dX10_as_99 rfl rfl ?_
              refine ev_iconst (v := 3) dX10_as_100 kc_3 ?_
              refine s_dVi (As := [_]) (m_finds _) (Nat.le_of_ble_eq_true rfl) lX10_80 kX10_finds vX10_finds dX10_as_101 rfl rfl rfl (by decide) rfl (Nat.le_of_ble_eq_true rfl) ?_
              exact s_retI dX10_as_104 (by
        simp only [h5, h17, Bool.and_self, if_true, ec, key]
        clear key hkd hW hC hF hor hk hsok hb hbd
        constructor <;> simp_all)
            · refine ev_aload_n (i := 0) dX10_as_91 rfl rfl ?_
              refine ev_iload_n (i := 1) dX10_as_92 rfl rfl ?_
              refine s_dVi (As := [_]) (m_well _) (Nat.le_of_ble_eq_true rfl) lX10_84 kX10_well vX10_well dX10_as_93 rfl rfl rfl (by decide) rfl (Nat.le_of_ble_eq_true rfl) ?_
              refine ev_goto (tgt := 104) dX10_as_96 (by decide) ?_
              exact s_retI dX10_as_104 (by
        simp only [h5, h17, Bool.and_self, if_true, ec, key]
        clear key hkd hW hC hF hor hk hsok hb hbd
        constructor <;> simp_all)
          · refine ev_iload_n (i := 2) dX10_as_59 rfl rfl ?_
            refine ev_iload_n (i := 3) dX10_as_60 rfl rfl ?_
            refine ev_icmp_eq (tgt := 79) dX10_as_61 (by decide) (fun h61 => ?_) (fun h61 => ?_)
            · refine ev_iconst (v := 1) dX10_as_79 kc_1 ?_
              refine ev_goto (tgt := 84) dX10_as_80 (by decide) ?_
              refine ev_istore dX10_as_84 (Nat.le_of_ble_eq_true rfl) rfl ?_
              refine ev_iload dX10_as_86 rfl ?_
              refine ev_if_eq (tgt := 99) dX10_as_88 (by decide) (fun h88 => ?_) (fun h88 => ?_)
              · refine ev_aload_n (i := 0) dX10_as_99 rfl rfl ?_
                refine ev_iconst (v := 3) dX10_as_100 kc_3 ?_
                refine s_dVi (As := [_]) (m_finds _) (Nat.le_of_ble_eq_true rfl) lX10_80 kX10_finds vX10_finds dX10_as_101 rfl rfl rfl (by decide) rfl (Nat.le_of_ble_eq_true rfl) ?_
                exact s_retI dX10_as_104 (by
        simp only [h5, h17, Bool.and_self, if_true, ec, key]
        clear key hkd hW hC hF hor hk hsok hb hbd
        constructor <;> simp_all)
              · refine ev_aload_n (i := 0) dX10_as_91 rfl rfl ?_
                refine ev_iload_n (i := 1) dX10_as_92 rfl rfl ?_
                refine s_dVi (As := [_]) (m_well _) (Nat.le_of_ble_eq_true rfl) lX10_84 kX10_well vX10_well dX10_as_93 rfl rfl rfl (by decide) rfl (Nat.le_of_ble_eq_true rfl) ?_
                refine ev_goto (tgt := 104) dX10_as_96 (by decide) ?_
                exact s_retI dX10_as_104 (by
        simp only [h5, h17, Bool.and_self, if_true, ec, key]
        clear key hkd hW hC hF hor hk hsok hb hbd
        constructor <;> simp_all)
            · refine ev_iload dX10_as_64 rfl ?_
              refine ev_if_ne (tgt := 79) dX10_as_66 (by decide) (fun h66 => ?_) (fun h66 => ?_)
              · refine ev_iconst (v := 1) dX10_as_79 kc_1 ?_
                refine ev_goto (tgt := 84) dX10_as_80 (by decide) ?_
                refine ev_istore dX10_as_84 (Nat.le_of_ble_eq_true rfl) rfl ?_
                refine ev_iload dX10_as_86 rfl ?_
                refine ev_if_eq (tgt := 99) dX10_as_88 (by decide) (fun h88 => ?_) (fun h88 => ?_)
                · refine ev_aload_n (i := 0) dX10_as_99 rfl rfl ?_
                  refine ev_iconst (v := 3) dX10_as_100 kc_3 ?_
                  refine s_dVi (As := [_]) (m_finds _) (Nat.le_of_ble_eq_true rfl) lX10_80 kX10_finds vX10_finds dX10_as_101 rfl rfl rfl (by decide) rfl (Nat.le_of_ble_eq_true rfl) ?_
                  exact s_retI dX10_as_104 (by
        simp only [h5, h17, Bool.and_self, if_true, ec, key]
        clear key hkd hW hC hF hor hk hsok hb hbd
        constructor <;> simp_all)
                · refine ev_aload_n (i := 0) dX10_as_91 rfl rfl ?_
                  refine ev_iload_n (i := 1) dX10_as_92 rfl rfl ?_
                  refine s_dVi (As := [_]) (m_well _) (Nat.le_of_ble_eq_true rfl) lX10_84 kX10_well vX10_well dX10_as_93 rfl rfl rfl (by decide) rfl (Nat.le_of_ble_eq_true rfl) ?_
                  refine ev_goto (tgt := 104) dX10_as_96 (by decide) ?_
                  exact s_retI dX10_as_104 (by
        simp only [h5, h17, Bool.and_self, if_true, ec, key]
        clear key hkd hW hC hF hor hk hsok hb hbd
        constructor <;> simp_all)
              · refine ev_iload_n (i := 2) dX10_as_69 rfl rfl ?_
                refine ev_iconst (v := 4) dX10_as_70 kc_4 ?_
                refine ev_icmp_ne (tgt := 83) dX10_as_71 (by decide) (fun h71 => ?_) (fun h71 => ?_)
                · refine ev_iconst (v := 0) dX10_as_83 kc_0 ?_
                  refine ev_istore dX10_as_84 (Nat.le_of_ble_eq_true rfl) rfl ?_
                  refine ev_iload dX10_as_86 rfl ?_
                  refine ev_if_eq (tgt := 99) dX10_as_88 (by decide) (fun h88 => ?_) (fun h88 => ?_)
                  · refine ev_aload_n (i := 0) dX10_as_99 rfl rfl ?_
                    refine ev_iconst (v := 3) dX10_as_100 kc_3 ?_
                    refine s_dVi (As := [_]) (m_finds _) (Nat.le_of_ble_eq_true rfl) lX10_80 kX10_finds vX10_finds dX10_as_101 rfl rfl rfl (by decide) rfl (Nat.le_of_ble_eq_true rfl) ?_
                    exact s_retI dX10_as_104 (by
        simp only [h5, h17, Bool.and_self, if_true, ec, key]
        clear key hkd hW hC hF hor hk hsok hb hbd
        constructor <;> simp_all)
                  · refine ev_aload_n (i := 0) dX10_as_91 rfl rfl ?_
                    refine ev_iload_n (i := 1) dX10_as_92 rfl rfl ?_
                    refine s_dVi (As := [_]) (m_well _) (Nat.le_of_ble_eq_true rfl) lX10_84 kX10_well vX10_well dX10_as_93 rfl rfl rfl (by decide) rfl (Nat.le_of_ble_eq_true rfl) ?_
                    refine ev_goto (tgt := 104) dX10_as_96 (by decide) ?_
                    exact s_retI dX10_as_104 (by
        simp only [h5, h17, Bool.and_self, if_true, ec, key]
        clear key hkd hW hC hF hor hk hsok hb hbd
        constructor <;> simp_all)
                · refine ev_iload_n (i := 3) dX10_as_74 rfl rfl ?_
                  refine ev_iconst (v := 5) dX10_as_75 kc_5 ?_
                  refine ev_icmp_ne (tgt := 83) dX10_as_76 (by decide) (fun h76 => ?_) (fun h76 => ?_)
                  · refine ev_iconst (v := 0) dX10_as_83 kc_0 ?_
                    refine ev_istore dX10_as_84 (Nat.le_of_ble_eq_true rfl) rfl ?_
                    refine ev_iload dX10_as_86 rfl ?_
                    refine ev_if_eq (tgt := 99) dX10_as_88 (by decide) (fun h88 => ?_) (fun h88 => ?_)
                    · refine ev_aload_n (i := 0) dX10_as_99 rfl rfl ?_
                      refine ev_iconst (v := 3) dX10_as_100 kc_3 ?_
                      refine s_dVi (As := [_]) (m_finds _) (Nat.le_of_ble_eq_true rfl) lX10_80 kX10_finds vX10_finds dX10_as_101 rfl rfl rfl (by decide) rfl (Nat.le_of_ble_eq_true rfl) ?_
                      exact s_retI dX10_as_104 (by
        simp only [h5, h17, Bool.and_self, if_true, ec, key]
        clear key hkd hW hC hF hor hk hsok hb hbd
        constructor <;> simp_all)
                    · refine ev_aload_n (i := 0) dX10_as_91 rfl rfl ?_
                      refine ev_iload_n (i := 1) dX10_as_92 rfl rfl ?_
                      refine s_dVi (As := [_]) (m_well _) (Nat.le_of_ble_eq_true rfl) lX10_84 kX10_well vX10_well dX10_as_93 rfl rfl rfl (by decide) rfl (Nat.le_of_ble_eq_true rfl) ?_
                      refine ev_goto (tgt := 104) dX10_as_96 (by decide) ?_
                      exact s_retI dX10_as_104 (by
        simp only [h5, h17, Bool.and_self, if_true, ec, key]
        clear key hkd hW hC hF hor hk hsok hb hbd
        constructor <;> simp_all)
                  · refine ev_iconst (v := 1) dX10_as_79 kc_1 ?_
                    refine ev_goto (tgt := 84) dX10_as_80 (by decide) ?_
                    refine ev_istore dX10_as_84 (Nat.le_of_ble_eq_true rfl) rfl ?_
                    refine ev_iload dX10_as_86 rfl ?_
                    refine ev_if_eq (tgt := 99) dX10_as_88 (by decide) (fun h88 => ?_) (fun h88 => ?_)
                    · refine ev_aload_n (i := 0) dX10_as_99 rfl rfl ?_
                      refine ev_iconst (v := 3) dX10_as_100 kc_3 ?_
                      refine s_dVi (As := [_]) (m_finds _) (Nat.le_of_ble_eq_true rfl) lX10_80 kX10_finds vX10_finds dX10_as_101 rfl rfl rfl (by decide) rfl (Nat.le_of_ble_eq_true rfl) ?_
                      exact s_retI dX10_as_104 (by
        simp only [h5, h17, Bool.and_self, if_true, ec, key]
        clear key hkd hW hC hF hor hk hsok hb hbd
        constructor <;> simp_all)
                    · refine ev_aload_n (i := 0) dX10_as_91 rfl rfl ?_
                      refine ev_iload_n (i := 1) dX10_as_92 rfl rfl ?_
                      refine s_dVi (As := [_]) (m_well _) (Nat.le_of_ble_eq_true rfl) lX10_84 kX10_well vX10_well dX10_as_93 rfl rfl rfl (by decide) rfl (Nat.le_of_ble_eq_true rfl) ?_
                      refine ev_goto (tgt := 104) dX10_as_96 (by decide) ?_
                      exact s_retI dX10_as_104 (by
        simp only [h5, h17, Bool.and_self, if_true, ec, key]
        clear key hkd hW hC hF hor hk hsok hb hbd
        constructor <;> simp_all)
        · refine ev_iload_n (i := 3) dX10_as_43 rfl rfl ?_
          refine ev_iconst (v := 3) dX10_as_44 kc_3 ?_
          refine ev_icmp_ne (tgt := 52) dX10_as_45 (by decide) (fun h45 => ?_) (fun h45 => ?_)
          · refine ev_iconst (v := 0) dX10_as_52 kc_0 ?_
            refine ev_istore dX10_as_53 (Nat.le_of_ble_eq_true rfl) rfl ?_
            refine ev_iload_n (i := 2) dX10_as_55 rfl rfl ?_
            refine ev_if_eq (tgt := 79) dX10_as_56 (by decide) (fun h56 => ?_) (fun h56 => ?_)
            · refine ev_iconst (v := 1) dX10_as_79 kc_1 ?_
              refine ev_goto (tgt := 84) dX10_as_80 (by decide) ?_
              refine ev_istore dX10_as_84 (Nat.le_of_ble_eq_true rfl) rfl ?_
              refine ev_iload dX10_as_86 rfl ?_
              refine ev_if_eq (tgt := 99) dX10_as_88 (by decide) (fun h88 => ?_) (fun h88 => ?_)
              · refine ev_aload_n (i := 0) dX10_as_99 rfl rfl ?_
                refine ev_iconst (v := 3) dX10_as_100 kc_3 ?_
                refine s_dVi (As := [_]) (m_finds _) (Nat.le_of_ble_eq_true rfl) lX10_80 kX10_finds vX10_finds dX10_as_101 rfl rfl rfl (by decide) rfl (Nat.le_of_ble_eq_true rfl) ?_
                exact s_retI dX10_as_104 (by
        simp only [h5, h17, Bool.and_self, if_true, ec, key]
        clear key hkd hW hC hF hor hk hsok hb hbd
        constructor <;> simp_all)
              · refine ev_aload_n (i := 0) dX10_as_91 rfl rfl ?_
                refine ev_iload_n (i := 1) dX10_as_92 rfl rfl ?_
                refine s_dVi (As := [_]) (m_well _) (Nat.le_of_ble_eq_true rfl) lX10_84 kX10_well vX10_well dX10_as_93 rfl rfl rfl (by decide) rfl (Nat.le_of_ble_eq_true rfl) ?_
                refine ev_goto (tgt := 104) dX10_as_96 (by decide) ?_
                exact s_retI dX10_as_104 (by
        simp only [h5, h17, Bool.and_self, if_true, ec, key]
        clear key hkd hW hC hF hor hk hsok hb hbd
        constructor <;> simp_all)
            · refine ev_iload_n (i := 2) dX10_as_59 rfl rfl ?_
              refine ev_iload_n (i := 3) dX10_as_60 rfl rfl ?_
              refine ev_icmp_eq (tgt := 79) dX10_as_61 (by decide) (fun h61 => ?_) (fun h61 => ?_)
              · refine ev_iconst (v := 1) dX10_as_79 kc_1 ?_
                refine ev_goto (tgt := 84) dX10_as_80 (by decide) ?_
                refine ev_istore dX10_as_84 (Nat.le_of_ble_eq_true rfl) rfl ?_
                refine ev_iload dX10_as_86 rfl ?_
                refine ev_if_eq (tgt := 99) dX10_as_88 (by decide) (fun h88 => ?_) (fun h88 => ?_)
                · refine ev_aload_n (i := 0) dX10_as_99 rfl rfl ?_
                  refine ev_iconst (v := 3) dX10_as_100 kc_3 ?_
                  refine s_dVi (As := [_]) (m_finds _) (Nat.le_of_ble_eq_true rfl) lX10_80 kX10_finds vX10_finds dX10_as_101 rfl rfl rfl (by decide) rfl (Nat.le_of_ble_eq_true rfl) ?_
                  exact s_retI dX10_as_104 (by
        simp only [h5, h17, Bool.and_self, if_true, ec, key]
        clear key hkd hW hC hF hor hk hsok hb hbd
        constructor <;> simp_all)
                · refine ev_aload_n (i := 0) dX10_as_91 rfl rfl ?_
                  refine ev_iload_n (i := 1) dX10_as_92 rfl rfl ?_
                  refine s_dVi (As := [_]) (m_well _) (Nat.le_of_ble_eq_true rfl) lX10_84 kX10_well vX10_well dX10_as_93 rfl rfl rfl (by decide) rfl (Nat.le_of_ble_eq_true rfl) ?_
                  refine ev_goto (tgt := 104) dX10_as_96 (by decide) ?_
                  exact s_retI dX10_as_104 (by
        simp only [h5, h17, Bool.and_self, if_true, ec, key]
        clear key hkd hW hC hF hor hk hsok hb hbd
        constructor <;> simp_all)
              · refine ev_iload dX10_as_64 rfl ?_
                refine ev_if_ne (tgt := 79) dX10_as_66 (by decide) (fun h66 => ?_) (fun h66 => ?_)
                · refine ev_iconst (v := 1) dX10_as_79 kc_1 ?_
                  refine ev_goto (tgt := 84) dX10_as_80 (by decide) ?_
                  refine ev_istore dX10_as_84 (Nat.le_of_ble_eq_true rfl) rfl ?_
                  refine ev_iload dX10_as_86 rfl ?_
                  refine ev_if_eq (tgt := 99) dX10_as_88 (by decide) (fun h88 => ?_) (fun h88 => ?_)
                  · refine ev_aload_n (i := 0) dX10_as_99 rfl rfl ?_
                    refine ev_iconst (v := 3) dX10_as_100 kc_3 ?_
                    refine s_dVi (As := [_]) (m_finds _) (Nat.le_of_ble_eq_true rfl) lX10_80 kX10_finds vX10_finds dX10_as_101 rfl rfl rfl (by decide) rfl (Nat.le_of_ble_eq_true rfl) ?_
                    exact s_retI dX10_as_104 (by
        simp only [h5, h17, Bool.and_self, if_true, ec, key]
        clear key hkd hW hC hF hor hk hsok hb hbd
        constructor <;> simp_all)
                  · refine ev_aload_n (i := 0) dX10_as_91 rfl rfl ?_
                    refine ev_iload_n (i := 1) dX10_as_92 rfl rfl ?_
                    refine s_dVi (As := [_]) (m_well _) (Nat.le_of_ble_eq_true rfl) lX10_84 kX10_well vX10_well dX10_as_93 rfl rfl rfl (by decide) rfl (Nat.le_of_ble_eq_true rfl) ?_
                    refine ev_goto (tgt := 104) dX10_as_96 (by decide) ?_
                    exact s_retI dX10_as_104 (by
        simp only [h5, h17, Bool.and_self, if_true, ec, key]
        clear key hkd hW hC hF hor hk hsok hb hbd
        constructor <;> simp_all)
                · refine ev_iload_n (i := 2) dX10_as_69 rfl rfl ?_
                  refine ev_iconst (v := 4) dX10_as_70 kc_4 ?_
                  refine ev_icmp_ne (tgt := 83) dX10_as_71 (by decide) (fun h71 => ?_) (fun h71 => ?_)
                  · refine ev_iconst (v := 0) dX10_as_83 kc_0 ?_
                    refine ev_istore dX10_as_84 (Nat.le_of_ble_eq_true rfl) rfl ?_
                    refine ev_iload dX10_as_86 rfl ?_
                    refine ev_if_eq (tgt := 99) dX10_as_88 (by decide) (fun h88 => ?_) (fun h88 => ?_)
                    · refine ev_aload_n (i := 0) dX10_as_99 rfl rfl ?_
                      refine ev_iconst (v := 3) dX10_as_100 kc_3 ?_
                      refine s_dVi (As := [_]) (m_finds _) (Nat.le_of_ble_eq_true rfl) lX10_80 kX10_finds vX10_finds dX10_as_101 rfl rfl rfl (by decide) rfl (Nat.le_of_ble_eq_true rfl) ?_
                      exact s_retI dX10_as_104 (by
        simp only [h5, h17, Bool.and_self, if_true, ec, key]
        clear key hkd hW hC hF hor hk hsok hb hbd
        constructor <;> simp_all)
                    · refine ev_aload_n (i := 0) dX10_as_91 rfl rfl ?_
                      refine ev_iload_n (i := 1) dX10_as_92 rfl rfl ?_
                      refine s_dVi (As := [_]) (m_well _) (Nat.le_of_ble_eq_true rfl) lX10_84 kX10_well vX10_well dX10_as_93 rfl rfl rfl (by decide) rfl (Nat.le_of_ble_eq_true rfl) ?_
                      refine ev_goto (tgt := 104) dX10_as_96 (by decide) ?_
                      exact s_retI dX10_as_104 (by
        simp only [h5, h17, Bool.and_self, if_true, ec, key]
        clear key hkd hW hC hF hor hk hsok hb hbd
        constructor <;> simp_all)
                  · refine ev_iload_n (i := 3) dX10_as_74 rfl rfl ?_
                    refine ev_iconst (v := 5) dX10_as_75 kc_5 ?_
                    refine ev_icmp_ne (tgt := 83) dX10_as_76 (by decide) (fun h76 => ?_) (fun h76 => ?_)
                    · refine ev_iconst (v := 0) dX10_as_83 kc_0 ?_
                      refine ev_istore dX10_as_84 (Nat.le_of_ble_eq_true rfl) rfl ?_
                      refine ev_iload dX10_as_86 rfl ?_
                      refine ev_if_eq (tgt := 99) dX10_as_88 (by decide) (fun h88 => ?_) (fun h88 => ?_)
                      · refine ev_aload_n (i := 0) dX10_as_99 rfl rfl ?_
                        refine ev_iconst (v := 3) dX10_as_100 kc_3 ?_
                        refine s_dVi (As := [_]) (m_finds _) (Nat.le_of_ble_eq_true rfl) lX10_80 kX10_finds vX10_finds dX10_as_101 rfl rfl rfl (by decide) rfl (Nat.le_of_ble_eq_true rfl) ?_
                        exact s_retI dX10_as_104 (by
        simp only [h5, h17, Bool.and_self, if_true, ec, key]
        clear key hkd hW hC hF hor hk hsok hb hbd
        constructor <;> simp_all)
                      · refine ev_aload_n (i := 0) dX10_as_91 rfl rfl ?_
                        refine ev_iload_n (i := 1) dX10_as_92 rfl rfl ?_
                        refine s_dVi (As := [_]) (m_well _) (Nat.le_of_ble_eq_true rfl) lX10_84 kX10_well vX10_well dX10_as_93 rfl rfl rfl (by decide) rfl (Nat.le_of_ble_eq_true rfl) ?_
                        refine ev_goto (tgt := 104) dX10_as_96 (by decide) ?_
                        exact s_retI dX10_as_104 (by
        simp only [h5, h17, Bool.and_self, if_true, ec, key]
        clear key hkd hW hC hF hor hk hsok hb hbd
        constructor <;> simp_all)
                    · refine ev_iconst (v := 1) dX10_as_79 kc_1 ?_
                      refine ev_goto (tgt := 84) dX10_as_80 (by decide) ?_
                      refine ev_istore dX10_as_84 (Nat.le_of_ble_eq_true rfl) rfl ?_
                      refine ev_iload dX10_as_86 rfl ?_
                      refine ev_if_eq (tgt := 99) dX10_as_88 (by decide) (fun h88 => ?_) (fun h88 => ?_)
                      · refine ev_aload_n (i := 0) dX10_as_99 rfl rfl ?_
                        refine ev_iconst (v := 3) dX10_as_100 kc_3 ?_
                        refine s_dVi (As := [_]) (m_finds _) (Nat.le_of_ble_eq_true rfl) lX10_80 kX10_finds vX10_finds dX10_as_101 rfl rfl rfl (by decide) rfl (Nat.le_of_ble_eq_true rfl) ?_
                        exact s_retI dX10_as_104 (by
        simp only [h5, h17, Bool.and_self, if_true, ec, key]
        clear key hkd hW hC hF hor hk hsok hb hbd
        constructor <;> simp_all)
                      · refine ev_aload_n (i := 0) dX10_as_91 rfl rfl ?_
                        refine ev_iload_n (i := 1) dX10_as_92 rfl rfl ?_
                        refine s_dVi (As := [_]) (m_well _) (Nat.le_of_ble_eq_true rfl) lX10_84 kX10_well vX10_well dX10_as_93 rfl rfl rfl (by decide) rfl (Nat.le_of_ble_eq_true rfl) ?_
                        refine ev_goto (tgt := 104) dX10_as_96 (by decide) ?_
                        exact s_retI dX10_as_104 (by
        simp only [h5, h17, Bool.and_self, if_true, ec, key]
        clear key hkd hW hC hF hor hk hsok hb hbd
        constructor <;> simp_all)
          · refine ev_iconst (v := 1) dX10_as_48 kc_1 ?_
            refine ev_goto (tgt := 53) dX10_as_49 (by decide) ?_
            refine ev_istore dX10_as_53 (Nat.le_of_ble_eq_true rfl) rfl ?_
            refine ev_iload_n (i := 2) dX10_as_55 rfl rfl ?_
            refine ev_if_eq (tgt := 79) dX10_as_56 (by decide) (fun h56 => ?_) (fun h56 => ?_)
            · refine ev_iconst (v := 1) dX10_as_79 kc_1 ?_
              refine ev_goto (tgt := 84) dX10_as_80 (by decide) ?_
              refine ev_istore dX10_as_84 (Nat.le_of_ble_eq_true rfl) rfl ?_
              refine ev_iload dX10_as_86 rfl ?_
              refine ev_if_eq (tgt := 99) dX10_as_88 (by decide) (fun h88 => ?_) (fun h88 => ?_)
              · refine ev_aload_n (i := 0) dX10_as_99 rfl rfl ?_
                refine ev_iconst (v := 3) dX10_as_100 kc_3 ?_
                refine s_dVi (As := [_]) (m_finds _) (Nat.le_of_ble_eq_true rfl) lX10_80 kX10_finds vX10_finds dX10_as_101 rfl rfl rfl (by decide) rfl (Nat.le_of_ble_eq_true rfl) ?_
                exact s_retI dX10_as_104 (by
        simp only [h5, h17, Bool.and_self, if_true, ec, key]
        clear key hkd hW hC hF hor hk hsok hb hbd
        constructor <;> simp_all)
              · refine ev_aload_n (i := 0) dX10_as_91 rfl rfl ?_
                refine ev_iload_n (i := 1) dX10_as_92 rfl rfl ?_
                refine s_dVi (As := [_]) (m_well _) (Nat.le_of_ble_eq_true rfl) lX10_84 kX10_well vX10_well dX10_as_93 rfl rfl rfl (by decide) rfl (Nat.le_of_ble_eq_true rfl) ?_
                refine ev_goto (tgt := 104) dX10_as_96 (by decide) ?_
                exact s_retI dX10_as_104 (by
        simp only [h5, h17, Bool.and_self, if_true, ec, key]
        clear key hkd hW hC hF hor hk hsok hb hbd
        constructor <;> simp_all)
            · refine ev_iload_n (i := 2) dX10_as_59 rfl rfl ?_
              refine ev_iload_n (i := 3) dX10_as_60 rfl rfl ?_
              refine ev_icmp_eq (tgt := 79) dX10_as_61 (by decide) (fun h61 => ?_) (fun h61 => ?_)
              · refine ev_iconst (v := 1) dX10_as_79 kc_1 ?_
                refine ev_goto (tgt := 84) dX10_as_80 (by decide) ?_
                refine ev_istore dX10_as_84 (Nat.le_of_ble_eq_true rfl) rfl ?_
                refine ev_iload dX10_as_86 rfl ?_
                refine ev_if_eq (tgt := 99) dX10_as_88 (by decide) (fun h88 => ?_) (fun h88 => ?_)
                · refine ev_aload_n (i := 0) dX10_as_99 rfl rfl ?_
                  refine ev_iconst (v := 3) dX10_as_100 kc_3 ?_
                  refine s_dVi (As := [_]) (m_finds _) (Nat.le_of_ble_eq_true rfl) lX10_80 kX10_finds vX10_finds dX10_as_101 rfl rfl rfl (by decide) rfl (Nat.le_of_ble_eq_true rfl) ?_
                  exact s_retI dX10_as_104 (by
        simp only [h5, h17, Bool.and_self, if_true, ec, key]
        clear key hkd hW hC hF hor hk hsok hb hbd
        constructor <;> simp_all)
                · refine ev_aload_n (i := 0) dX10_as_91 rfl rfl ?_
                  refine ev_iload_n (i := 1) dX10_as_92 rfl rfl ?_
                  refine s_dVi (As := [_]) (m_well _) (Nat.le_of_ble_eq_true rfl) lX10_84 kX10_well vX10_well dX10_as_93 rfl rfl rfl (by decide) rfl (Nat.le_of_ble_eq_true rfl) ?_
                  refine ev_goto (tgt := 104) dX10_as_96 (by decide) ?_
                  exact s_retI dX10_as_104 (by
        simp only [h5, h17, Bool.and_self, if_true, ec, key]
        clear key hkd hW hC hF hor hk hsok hb hbd
        constructor <;> simp_all)
              · refine ev_iload dX10_as_64 rfl ?_
                refine ev_if_ne (tgt := 79) dX10_as_66 (by decide) (fun h66 => ?_) (fun h66 => ?_)
                · refine ev_iconst (v := 1) dX10_as_79 kc_1 ?_
                  refine ev_goto (tgt := 84) dX10_as_80 (by decide) ?_
                  refine ev_istore dX10_as_84 (Nat.le_of_ble_eq_true rfl) rfl ?_
                  refine ev_iload dX10_as_86 rfl ?_
                  refine ev_if_eq (tgt := 99) dX10_as_88 (by decide) (fun h88 => ?_) (fun h88 => ?_)
                  · refine ev_aload_n (i := 0) dX10_as_99 rfl rfl ?_
                    refine ev_iconst (v := 3) dX10_as_100 kc_3 ?_
                    refine s_dVi (As := [_]) (m_finds _) (Nat.le_of_ble_eq_true rfl) lX10_80 kX10_finds vX10_finds dX10_as_101 rfl rfl rfl (by decide) rfl (Nat.le_of_ble_eq_true rfl) ?_
                    exact s_retI dX10_as_104 (by
        simp only [h5, h17, Bool.and_self, if_true, ec, key]
        clear key hkd hW hC hF hor hk hsok hb hbd
        constructor <;> simp_all)
                  · refine ev_aload_n (i := 0) dX10_as_91 rfl rfl ?_
                    refine ev_iload_n (i := 1) dX10_as_92 rfl rfl ?_
                    refine s_dVi (As := [_]) (m_well _) (Nat.le_of_ble_eq_true rfl) lX10_84 kX10_well vX10_well dX10_as_93 rfl rfl rfl (by decide) rfl (Nat.le_of_ble_eq_true rfl) ?_
                    refine ev_goto (tgt := 104) dX10_as_96 (by decide) ?_
                    exact s_retI dX10_as_104 (by
        simp only [h5, h17, Bool.and_self, if_true, ec, key]
        clear key hkd hW hC hF hor hk hsok hb hbd
        constructor <;> simp_all)
                · refine ev_iload_n (i := 2) dX10_as_69 rfl rfl ?_
                  refine ev_iconst (v := 4) dX10_as_70 kc_4 ?_
                  refine ev_icmp_ne (tgt := 83) dX10_as_71 (by decide) (fun h71 => ?_) (fun h71 => ?_)
                  · refine ev_iconst (v := 0) dX10_as_83 kc_0 ?_
                    refine ev_istore dX10_as_84 (Nat.le_of_ble_eq_true rfl) rfl ?_
                    refine ev_iload dX10_as_86 rfl ?_
                    refine ev_if_eq (tgt := 99) dX10_as_88 (by decide) (fun h88 => ?_) (fun h88 => ?_)
                    · refine ev_aload_n (i := 0) dX10_as_99 rfl rfl ?_
                      refine ev_iconst (v := 3) dX10_as_100 kc_3 ?_
                      refine s_dVi (As := [_]) (m_finds _) (Nat.le_of_ble_eq_true rfl) lX10_80 kX10_finds vX10_finds dX10_as_101 rfl rfl rfl (by decide) rfl (Nat.le_of_ble_eq_true rfl) ?_
                      exact s_retI dX10_as_104 (by
        simp only [h5, h17, Bool.and_self, if_true, ec, key]
        clear key hkd hW hC hF hor hk hsok hb hbd
        constructor <;> simp_all)
                    · refine ev_aload_n (i := 0) dX10_as_91 rfl rfl ?_
                      refine ev_iload_n (i := 1) dX10_as_92 rfl rfl ?_
                      refine s_dVi (As := [_]) (m_well _) (Nat.le_of_ble_eq_true rfl) lX10_84 kX10_well vX10_well dX10_as_93 rfl rfl rfl (by decide) rfl (Nat.le_of_ble_eq_true rfl) ?_
                      refine ev_goto (tgt := 104) dX10_as_96 (by decide) ?_
                      exact s_retI dX10_as_104 (by
        simp only [h5, h17, Bool.and_self, if_true, ec, key]
        clear key hkd hW hC hF hor hk hsok hb hbd
        constructor <;> simp_all)
                  · refine ev_iload_n (i := 3) dX10_as_74 rfl rfl ?_
                    refine ev_iconst (v := 5) dX10_as_75 kc_5 ?_
                    refine ev_icmp_ne (tgt := 83) dX10_as_76 (by decide) (fun h76 => ?_) (fun h76 => ?_)
                    · refine ev_iconst (v := 0) dX10_as_83 kc_0 ?_
                      refine ev_istore dX10_as_84 (Nat.le_of_ble_eq_true rfl) rfl ?_
                      refine ev_iload dX10_as_86 rfl ?_
                      refine ev_if_eq (tgt := 99) dX10_as_88 (by decide) (fun h88 => ?_) (fun h88 => ?_)
                      · refine ev_aload_n (i := 0) dX10_as_99 rfl rfl ?_
                        refine ev_iconst (v := 3) dX10_as_100 kc_3 ?_
                        refine s_dVi (As := [_]) (m_finds _) (Nat.le_of_ble_eq_true rfl) lX10_80 kX10_finds vX10_finds dX10_as_101 rfl rfl rfl (by decide) rfl (Nat.le_of_ble_eq_true rfl) ?_
                        exact s_retI dX10_as_104 (by
        simp only [h5, h17, Bool.and_self, if_true, ec, key]
        clear key hkd hW hC hF hor hk hsok hb hbd
        constructor <;> simp_all)
                      · refine ev_aload_n (i := 0) dX10_as_91 rfl rfl ?_
                        refine ev_iload_n (i := 1) dX10_as_92 rfl rfl ?_
                        refine s_dVi (As := [_]) (m_well _) (Nat.le_of_ble_eq_true rfl) lX10_84 kX10_well vX10_well dX10_as_93 rfl rfl rfl (by decide) rfl (Nat.le_of_ble_eq_true rfl) ?_
                        refine ev_goto (tgt := 104) dX10_as_96 (by decide) ?_
                        exact s_retI dX10_as_104 (by
        simp only [h5, h17, Bool.and_self, if_true, ec, key]
        clear key hkd hW hC hF hor hk hsok hb hbd
        constructor <;> simp_all)
                    · refine ev_iconst (v := 1) dX10_as_79 kc_1 ?_
                      refine ev_goto (tgt := 84) dX10_as_80 (by decide) ?_
                      refine ev_istore dX10_as_84 (Nat.le_of_ble_eq_true rfl) rfl ?_
                      refine ev_iload dX10_as_86 rfl ?_
                      refine ev_if_eq (tgt := 99) dX10_as_88 (by decide) (fun h88 => ?_) (fun h88 => ?_)
                      · refine ev_aload_n (i := 0) dX10_as_99 rfl rfl ?_
                        refine ev_iconst (v := 3) dX10_as_100 kc_3 ?_
                        refine s_dVi (As := [_]) (m_finds _) (Nat.le_of_ble_eq_true rfl) lX10_80 kX10_finds vX10_finds dX10_as_101 rfl rfl rfl (by decide) rfl (Nat.le_of_ble_eq_true rfl) ?_
                        exact s_retI dX10_as_104 (by
        simp only [h5, h17, Bool.and_self, if_true, ec, key]
        clear key hkd hW hC hF hor hk hsok hb hbd
        constructor <;> simp_all)
                      · refine ev_aload_n (i := 0) dX10_as_91 rfl rfl ?_
                        refine ev_iload_n (i := 1) dX10_as_92 rfl rfl ?_
                        refine s_dVi (As := [_]) (m_well _) (Nat.le_of_ble_eq_true rfl) lX10_84 kX10_well vX10_well dX10_as_93 rfl rfl rfl (by decide) rfl (Nat.le_of_ble_eq_true rfl) ?_
                        refine ev_goto (tgt := 104) dX10_as_96 (by decide) ?_
                        exact s_retI dX10_as_104 (by
        simp only [h5, h17, Bool.and_self, if_true, ec, key]
        clear key hkd hW hC hF hor hk hsok hb hbd
        constructor <;> simp_all)
    · refine ev_ldc qX10_79 dX10_as_20 ?_
      exact s_retI dX10_as_22 ⟨by rw [if_neg (by first | (simp [h5]; done) | (simp [h17]; done) | (simp [h27]; done))], by rw [if_neg (by first | (simp [h5]; done) | (simp [h17]; done) | (simp [h27]; done))]⟩
theorem pigeon : ∀ (S : Nat) (f : Nat → Nat), (∀ p, p < S → f p < S) → (∀ p q, p < S → q < S → f p = f q → p = q) → ∀ s, s < S → ∃ p, p < S ∧ f p = s := by
  intro S
  induction S with
  | zero => intro f h1 h2 s hs; omega
  | succ S ih =>
    intro f h1 h2 s hs
    have hg := ih (fun p => if f p = S then f S else f p) (fun p hp => by
      show (if f p = S then f S else f p) < S
      have a := h1 p (by omega)
      have c := h1 S (by omega)
      split
      · have : f S ≠ S := fun q => by have := h2 p S (by omega) (by omega) (by omega); omega
        omega
      · omega) (fun p q hp hq e => by
      have e : (if f p = S then f S else f p) = (if f q = S then f S else f q) := e
      split at e <;> split at e
      · exact h2 p q (by omega) (by omega) (by omega)
      · have := h2 S q (by omega) (by omega) e; omega
      · have := h2 p S (by omega) (by omega) e; omega
      · exact h2 p q (by omega) (by omega) e)
    have fS := h1 S (by omega)
    by_cases e1 : f S = s
    · exact ⟨S, by omega, e1⟩
    by_cases e2 : s = S
    · obtain ⟨p, hp, e⟩ := hg (f S) (by omega)
      have e : (if f p = S then f S else f p) = f S := e
      split at e
      · exact ⟨p, by omega, by omega⟩
      · have := h2 p S (by omega) (by omega) e; omega
    · obtain ⟨p, hp, e⟩ := hg s (by omega)
      have e : (if f p = S then f S else f p) = s := e
      split at e
      · exact absurd e e1
      · exact ⟨p, by omega, e⟩
theorem nv_sok.on (h : nv_sok T S F) (h6 : S ≤ 6) {s : Nat} (hs : s < S) : ∃ p, p < S ∧ F (5 + p) = nI s := by
  obtain ⟨p, hp, e⟩ := pigeon S (fun p => (F (5 + p)).toNatClampNeg) (fun p hp => by
    obtain ⟨q, hq, e⟩ := h.1 p hp
    show (F (5 + p)).toNatClampNeg < S
    rw [e, nI_clamp (by omega)]
    exact hq) (fun p q hp hq e => by
    obtain ⟨p', hp', e1⟩ := h.1 p hp
    obtain ⟨q', hq', e2⟩ := h.1 q hq
    have e : (F (5 + p)).toNatClampNeg = (F (5 + q)).toNatClampNeg := e
    rw [e1, e2, nI_clamp (by omega), nI_clamp (by omega)] at e
    exact h.2.1 p q hp hq (by rw [e1, e2, e])) s hs
  obtain ⟨q, hq, e1⟩ := h.1 p hp
  have e : (F (5 + p)).toNatClampNeg = s := e
  rw [e1, nI_clamp (by omega)] at e
  exact ⟨p, hp, by rw [e1, e]⟩
theorem p_place_u {x : Int32} {u : Nat} : ∀ (n p : Nat), p ≤ u → u < p + n → F (5 + u) = x → (∀ q, p ≤ q → q < u → ¬ F (5 + q) = x) → p_place F x n p = u
  | 0, p, h1, h2, _, _ => by omega
  | n + 1, p, h1, h2, h3, h4 => by
    unfold p_place
    by_cases e : p = u
    · subst e
      rw [if_pos h3]
    · rw [if_neg (h4 p (Nat.le_refl p) (by omega))]
      exact p_place_u n (p + 1) (by omega) (by omega) h3 (fun q g1 g2 => h4 q (by omega) g2)
theorem nv_sok.pl (h : nv_sok T S F) (h6 : S ≤ 6) {s : Nat} (hs : s < S) : p_place F (nI s) 6 0 < S ∧ F (5 + p_place F (nI s) 6 0) = nI s ∧ ∀ q, q < S → F (5 + q) = nI s → q = p_place F (nI s) 6 0 := by
  obtain ⟨u, hu, e⟩ := h.on h6 hs
  have hp : p_place F (nI s) 6 0 = u := p_place_u 6 0 (by omega) (by omega) e (fun q g1 g2 g3 => by
    have := h.2.1 q u (by omega) hu (by rw [g3, e])
    omega)
  rw [hp]
  exact ⟨hu, e, fun q hq e2 => h.2.1 q u hq hu (by rw [e2, e])⟩
theorem l_mplace {s u : Nat} (hC : nl_C N T S C (I 225)) (hF : nl_F T S F (I 226)) (hu : u < S) (e1 : F (5 + u) = nI s) (e2 : ∀ q, q < S → F (5 + q) = nI s → q = u) : ∀ (k p : Nat), p + k = S → nw_S l g 0 mX10_placeOf 4 [some (.ref (nw_a g 219)), some (.int (nI s)), some (.int (nI (if u < p then u else 0))), some (.int (nI p))] [] I (nw_qI (fun r J => r = nI u ∧ J = I)) := by
  have hS := hC.s
  have hS6 := hC.hS
  intro k
  induction k with
  | zero =>
    intro p hp
    rw [if_pos (by omega)]
    refine ev_iload_n (i := 3) dX10_placeOf_4 rfl rfl ?_
    refine ev_aload_n (i := 0) dX10_placeOf_5 rfl rfl ?_
    refine ev_getR fX10_25 dX10_placeOf_6 rfl rfl (by decide) ?_
    refine ev_iconst (v := 5) dX10_placeOf_9 kc_5 ?_
    refine ev_ialdN (j := 5) dX10_placeOf_10 rfl (by omega) (by decide) ?_
    rw [hS]
    refine ev_icmp_ge (tgt := 38) dX10_placeOf_11 (by decide) (fun h11 => ?_) (fun h11 => ?_)
    · refine ev_iload_n (i := 2) dX10_placeOf_38 rfl rfl ?_
      exact s_retI dX10_placeOf_39 ⟨rfl, rfl⟩
    · exact absurd (nI_le (by omega) (by omega)) h11
  | succ k ih =>
    intro p hp
    have ep := hF (5 + p) (by unfold nl_f; omega)
    refine ev_iload_n (i := 3) dX10_placeOf_4 rfl rfl ?_
    refine ev_aload_n (i := 0) dX10_placeOf_5 rfl rfl ?_
    refine ev_getR fX10_25 dX10_placeOf_6 rfl rfl (by decide) ?_
    refine ev_iconst (v := 5) dX10_placeOf_9 kc_5 ?_
    refine ev_ialdN (j := 5) dX10_placeOf_10 rfl (by omega) (by decide) ?_
    rw [hS]
    refine ev_icmp_ge (tgt := 38) dX10_placeOf_11 (by decide) (fun h11 => ?_) (fun h11 => ?_)
    · exact absurd h11 (nI_ge (by omega) (by omega))
    · refine ev_aload_n (i := 0) dX10_placeOf_14 rfl rfl ?_
      refine ev_getR fX10_28 dX10_placeOf_15 rfl rfl (by decide) ?_
      refine ev_iconst (v := 5) dX10_placeOf_18 kc_5 ?_
      refine ev_iload_n (i := 3) dX10_placeOf_19 rfl rfl ?_
      refine ev_iaddN (a := 5) (b := p) dX10_placeOf_20 ?_
      refine ev_ialdN (j := (5 + p)) dX10_placeOf_21 rfl (by omega) (by decide) ?_
      rw [ep]
      refine ev_iload_n (i := 1) dX10_placeOf_22 rfl rfl ?_
      refine ev_icmp_ne (tgt := 30) dX10_placeOf_23 (by decide) (fun h23 => ?_) (fun h23 => ?_)
      · refine ev_iload_n (i := 2) dX10_placeOf_30 rfl rfl ?_
        refine ev_istore_n (i := 2) dX10_placeOf_31 rfl (Nat.le_of_ble_eq_true rfl) rfl ?_
        refine ev_iincN (a := p) dX10_placeOf_32 rfl (Nat.le_of_ble_eq_true rfl) rfl ?_
        refine ev_goto (tgt := 4) dX10_placeOf_35 (by decide) ?_
        have hi := ih (p + 1) (by omega)
        first
          | (have e := e2 p (by omega) h23
             subst e
             rw [if_pos (by omega)] at hi
             exact hi)
          | (have e : ¬ p = u := fun q => h23 (by rw [q]; exact e1)
             rw [show (if u < p + 1 then u else 0) = (if u < p then u else 0) by split <;> split <;> first | rfl | (exfalso; omega)] at hi
             exact hi)
      · refine ev_iload_n (i := 3) dX10_placeOf_26 rfl rfl ?_
        refine ev_goto (tgt := 31) dX10_placeOf_27 (by decide) ?_
        refine ev_istore_n (i := 2) dX10_placeOf_31 rfl (Nat.le_of_ble_eq_true rfl) rfl ?_
        refine ev_iincN (a := p) dX10_placeOf_32 rfl (Nat.le_of_ble_eq_true rfl) rfl ?_
        refine ev_goto (tgt := 4) dX10_placeOf_35 (by decide) ?_
        have hi := ih (p + 1) (by omega)
        first
          | (have e := e2 p (by omega) h23
             subst e
             rw [if_pos (by omega)] at hi
             exact hi)
          | (have e : ¬ p = u := fun q => h23 (by rw [q]; exact e1)
             rw [show (if u < p + 1 then u else 0) = (if u < p then u else 0) by split <;> split <;> first | rfl | (exfalso; omega)] at hi
             exact hi)
theorem m_placeOf {s : Nat} (hC : nl_C N T S C (I 225)) (hF : nl_F T S F (I 226)) (hsok : nv_sok T S F) (hs : s < S) : nw_dI l g 0 mX10_placeOf [.ref (nw_a g 219), .int (nI s)] I (nI (p_place F (nI s) 6 0)) I := by
  refine ⟨(Nat.le_of_ble_eq_true rfl), ?_⟩
  have hp := hsok.pl hC.hS hs
  refine ev_iconst (v := 0) dX10_placeOf_0 kc_0 ?_
  refine ev_istore_n (i := 2) dX10_placeOf_1 rfl (Nat.le_of_ble_eq_true rfl) rfl ?_
  refine ev_iconst (v := 0) dX10_placeOf_2 kc_0 ?_
  refine ev_istore_n (i := 3) dX10_placeOf_3 rfl (Nat.le_of_ble_eq_true rfl) rfl ?_
  have h := l_mplace (l := l) (g := g) hC hF hp.1 hp.2.1 hp.2.2 S 0 (by omega)
  rw [if_neg (by omega)] at h
  exact h
theorem m_ship (hW : nm_W I b N T S C F) (x w : Int32) : nw_dI l g 2 mX10_ship [.ref (nw_a g 219), .int x, .int w] I (if nv_in x 0 (nI S - 1) then (if w = 0 then C (49 + x.toNatClampNeg) else if w = 1 then F (11 + x.toNatClampNeg) else if w = 2 then nI (p_place F x 6 0) else if w = 3 then F (17 + x.toNatClampNeg) else if w = 4 then F (23 + x.toNatClampNeg) else -1000001) else -1000001) I := by
  refine ⟨(Nat.le_of_ble_eq_true rfl), ?_⟩
  obtain ⟨hb, hC, hF, hor⟩ := id hW
  have hbd := hW.bd
  have hN := hC.n
  have hT := hC.t
  have hS := hC.s
  have hN2 := hC.hN
  have hT3 := hC.hT
  have hS6 := hC.hS
  refine ev_aload_n (i := 0) dX10_ship_0 rfl rfl ?_
  refine ev_iload_n (i := 1) dX10_ship_1 rfl rfl ?_
  refine s_dVz (As := [_]) (m_isShip _) (Nat.le_of_ble_eq_true rfl) lX10_221 kX10_isShip vX10_isShip dX10_ship_2 rfl rfl rfl (by decide) rfl (Nat.le_of_ble_eq_true rfl) ?_
  rw [hS]
  refine s_ifZ_eq (tgt := 20) dX10_ship_5 (by decide) (fun h5 => ?_) (fun h5 => ?_)
  · refine ev_ldc qX10_79 dX10_ship_20 ?_
    exact s_retI dX10_ship_22 ⟨by first | rw [if_neg (by rw [h5]; decide)] | rw [if_pos h5, if_neg (by intro q; subst q; revert h17; decide), if_neg (by intro q; subst q; revert h17; decide), if_neg (by intro q; subst q; revert h17; decide), if_neg (by intro q; subst q; revert h17; decide), if_neg (by intro q; subst q; revert h17; decide)], rfl⟩
  · refine ev_iload_n (i := 2) dX10_ship_8 rfl rfl ?_
    refine ev_i2l dX10_ship_9 ?_
    refine ev_lconst (v := 0) dX10_ship_10 rfl ?_
    refine ev_ldc2 qX10_227 dX10_ship_11 ?_
    refine s_dSz (As := [_, _, _]) (m_in _ 0 4 (by decide) (by decide)) (Nat.le_of_ble_eq_true rfl) lX10_64 kX10_in sX10_in dX10_ship_14 rfl rfl (Nat.le_of_ble_eq_true rfl) ?_
    refine s_ifZ_ne (tgt := 23) dX10_ship_17 (by decide) (fun h17 => ?_) (fun h17 => ?_)
    · obtain ⟨s, hs, rfl⟩ := nv_in_S (by omega) h5
      obtain ⟨-, h0, h0T, hk, hsok⟩ := hW.sea (Or.inl (by omega))
      have ec : (nI s).toNatClampNeg = s := nI_clamp (by omega)
      have f1 := hF (11 + s) (by unfold nl_f; omega)
      have f2 := hF (17 + s) (by unfold nl_f; omega)
      have f3 := hF (23 + s) (by unfold nl_f; omega)
      have c1 := hC.2 (49 + s) (by unfold nl_c; omega)
      refine ev_iload_n (i := 2) dX10_ship_23 rfl rfl ?_
      refine ev_iconst (v := 3) dX10_ship_24 kc_3 ?_
      refine ev_icmp_ne (tgt := 40) dX10_ship_25 (by decide) (fun h25 => ?_) (fun h25 => ?_)
      · refine ev_aload_n (i := 0) dX10_ship_40 rfl rfl ?_
        refine ev_getR fX10_28 dX10_ship_41 rfl rfl (by decide) ?_
        refine ev_bipush (v := 23) dX10_ship_44 kb_23 ?_
        refine ev_iload_n (i := 1) dX10_ship_46 rfl rfl ?_
        refine ev_iaddN (a := 23) (b := s) dX10_ship_47 ?_
        refine ev_ialdN (j := (23 + s)) dX10_ship_48 rfl (by omega) (by decide) ?_
        refine ev_istore_n (i := 3) dX10_ship_49 rfl (Nat.le_of_ble_eq_true rfl) rfl ?_
        refine ev_iload_n (i := 2) dX10_ship_50 rfl rfl ?_
        refine ev_if_ne (tgt := 66) dX10_ship_51 (by decide) (fun h51 => ?_) (fun h51 => ?_)
        · refine ev_iload_n (i := 2) dX10_ship_66 rfl rfl ?_
          refine ev_iconst (v := 1) dX10_ship_67 kc_1 ?_
          refine ev_icmp_ne (tgt := 83) dX10_ship_68 (by decide) (fun h68 => ?_) (fun h68 => ?_)
          · refine ev_iload_n (i := 2) dX10_ship_83 rfl rfl ?_
            refine ev_iconst (v := 2) dX10_ship_84 kc_2 ?_
            refine ev_icmp_ne (tgt := 96) dX10_ship_85 (by decide) (fun h85 => ?_) (fun h85 => ?_)
            · refine ev_iload_n (i := 3) dX10_ship_96 rfl rfl ?_
              exact s_retI dX10_ship_97 ⟨by
            rw [if_pos h5, ec]
            rcases w04 h17 with rfl | rfl | rfl | rfl | rfl <;> first | (exfalso; first | exact absurd rfl (by assumption) | exact absurd ‹(_ : Int32) = _› (by decide)) | exact f1 | exact f2 | exact f3 | exact c1 | rfl, rfl⟩
            · refine ev_aload_n (i := 0) dX10_ship_88 rfl rfl ?_
              refine ev_iload_n (i := 1) dX10_ship_89 rfl rfl ?_
              refine s_dVi (As := [_]) (m_placeOf hC hF hsok hs) (Nat.le_of_ble_eq_true rfl) lX10_224 kX10_placeOf vX10_placeOf dX10_ship_90 rfl rfl rfl (by decide) rfl (Nat.le_of_ble_eq_true rfl) ?_
              refine ev_goto (tgt := 97) dX10_ship_93 (by decide) ?_
              exact s_retI dX10_ship_97 ⟨by
            rw [if_pos h5, ec]
            rcases w04 h17 with rfl | rfl | rfl | rfl | rfl <;> first | (exfalso; first | exact absurd rfl (by assumption) | exact absurd ‹(_ : Int32) = _› (by decide)) | exact f1 | exact f2 | exact f3 | exact c1 | rfl, rfl⟩
          · refine ev_aload_n (i := 0) dX10_ship_71 rfl rfl ?_
            refine ev_getR fX10_28 dX10_ship_72 rfl rfl (by decide) ?_
            refine ev_bipush (v := 11) dX10_ship_75 kb_11 ?_
            refine ev_iload_n (i := 1) dX10_ship_77 rfl rfl ?_
            refine ev_iaddN (a := 11) (b := s) dX10_ship_78 ?_
            refine ev_ialdN (j := (11 + s)) dX10_ship_79 rfl (by omega) (by decide) ?_
            refine ev_goto (tgt := 97) dX10_ship_80 (by decide) ?_
            exact s_retI dX10_ship_97 ⟨by
            rw [if_pos h5, ec]
            rcases w04 h17 with rfl | rfl | rfl | rfl | rfl <;> first | (exfalso; first | exact absurd rfl (by assumption) | exact absurd ‹(_ : Int32) = _› (by decide)) | exact f1 | exact f2 | exact f3 | exact c1 | rfl, rfl⟩
        · refine ev_aload_n (i := 0) dX10_ship_54 rfl rfl ?_
          refine ev_getR fX10_25 dX10_ship_55 rfl rfl (by decide) ?_
          refine ev_bipush (v := 49) dX10_ship_58 kb_49 ?_
          refine ev_iload_n (i := 1) dX10_ship_60 rfl rfl ?_
          refine ev_iaddN (a := 49) (b := s) dX10_ship_61 ?_
          refine ev_ialdN (j := (49 + s)) dX10_ship_62 rfl (by omega) (by decide) ?_
          refine ev_goto (tgt := 97) dX10_ship_63 (by decide) ?_
          exact s_retI dX10_ship_97 ⟨by
            rw [if_pos h5, ec]
            rcases w04 h17 with rfl | rfl | rfl | rfl | rfl <;> first | (exfalso; first | exact absurd rfl (by assumption) | exact absurd ‹(_ : Int32) = _› (by decide)) | exact f1 | exact f2 | exact f3 | exact c1 | rfl, rfl⟩
      · refine ev_aload_n (i := 0) dX10_ship_28 rfl rfl ?_
        refine ev_getR fX10_28 dX10_ship_29 rfl rfl (by decide) ?_
        refine ev_bipush (v := 17) dX10_ship_32 kb_17 ?_
        refine ev_iload_n (i := 1) dX10_ship_34 rfl rfl ?_
        refine ev_iaddN (a := 17) (b := s) dX10_ship_35 ?_
        refine ev_ialdN (j := (17 + s)) dX10_ship_36 rfl (by omega) (by decide) ?_
        refine ev_goto (tgt := 49) dX10_ship_37 (by decide) ?_
        refine ev_istore_n (i := 3) dX10_ship_49 rfl (Nat.le_of_ble_eq_true rfl) rfl ?_
        refine ev_iload_n (i := 2) dX10_ship_50 rfl rfl ?_
        refine ev_if_ne (tgt := 66) dX10_ship_51 (by decide) (fun h51 => ?_) (fun h51 => ?_)
        · refine ev_iload_n (i := 2) dX10_ship_66 rfl rfl ?_
          refine ev_iconst (v := 1) dX10_ship_67 kc_1 ?_
          refine ev_icmp_ne (tgt := 83) dX10_ship_68 (by decide) (fun h68 => ?_) (fun h68 => ?_)
          · refine ev_iload_n (i := 2) dX10_ship_83 rfl rfl ?_
            refine ev_iconst (v := 2) dX10_ship_84 kc_2 ?_
            refine ev_icmp_ne (tgt := 96) dX10_ship_85 (by decide) (fun h85 => ?_) (fun h85 => ?_)
            · refine ev_iload_n (i := 3) dX10_ship_96 rfl rfl ?_
              exact s_retI dX10_ship_97 ⟨by
            rw [if_pos h5, ec]
            rcases w04 h17 with rfl | rfl | rfl | rfl | rfl <;> first | (exfalso; first | exact absurd rfl (by assumption) | exact absurd ‹(_ : Int32) = _› (by decide)) | exact f1 | exact f2 | exact f3 | exact c1 | rfl, rfl⟩
            · refine ev_aload_n (i := 0) dX10_ship_88 rfl rfl ?_
              refine ev_iload_n (i := 1) dX10_ship_89 rfl rfl ?_
              refine s_dVi (As := [_]) (m_placeOf hC hF hsok hs) (Nat.le_of_ble_eq_true rfl) lX10_224 kX10_placeOf vX10_placeOf dX10_ship_90 rfl rfl rfl (by decide) rfl (Nat.le_of_ble_eq_true rfl) ?_
              refine ev_goto (tgt := 97) dX10_ship_93 (by decide) ?_
              exact s_retI dX10_ship_97 ⟨by
            rw [if_pos h5, ec]
            rcases w04 h17 with rfl | rfl | rfl | rfl | rfl <;> first | (exfalso; first | exact absurd rfl (by assumption) | exact absurd ‹(_ : Int32) = _› (by decide)) | exact f1 | exact f2 | exact f3 | exact c1 | rfl, rfl⟩
          · refine ev_aload_n (i := 0) dX10_ship_71 rfl rfl ?_
            refine ev_getR fX10_28 dX10_ship_72 rfl rfl (by decide) ?_
            refine ev_bipush (v := 11) dX10_ship_75 kb_11 ?_
            refine ev_iload_n (i := 1) dX10_ship_77 rfl rfl ?_
            refine ev_iaddN (a := 11) (b := s) dX10_ship_78 ?_
            refine ev_ialdN (j := (11 + s)) dX10_ship_79 rfl (by omega) (by decide) ?_
            refine ev_goto (tgt := 97) dX10_ship_80 (by decide) ?_
            exact s_retI dX10_ship_97 ⟨by
            rw [if_pos h5, ec]
            rcases w04 h17 with rfl | rfl | rfl | rfl | rfl <;> first | (exfalso; first | exact absurd rfl (by assumption) | exact absurd ‹(_ : Int32) = _› (by decide)) | exact f1 | exact f2 | exact f3 | exact c1 | rfl, rfl⟩
        · refine ev_aload_n (i := 0) dX10_ship_54 rfl rfl ?_
          refine ev_getR fX10_25 dX10_ship_55 rfl rfl (by decide) ?_
          refine ev_bipush (v := 49) dX10_ship_58 kb_49 ?_
          refine ev_iload_n (i := 1) dX10_ship_60 rfl rfl ?_
          refine ev_iaddN (a := 49) (b := s) dX10_ship_61 ?_
          refine ev_ialdN (j := (49 + s)) dX10_ship_62 rfl (by omega) (by decide) ?_
          refine ev_goto (tgt := 97) dX10_ship_63 (by decide) ?_
          exact s_retI dX10_ship_97 ⟨by
            rw [if_pos h5, ec]
            rcases w04 h17 with rfl | rfl | rfl | rfl | rfl <;> first | (exfalso; first | exact absurd rfl (by assumption) | exact absurd ‹(_ : Int32) = _› (by decide)) | exact f1 | exact f2 | exact f3 | exact c1 | rfl, rfl⟩
    · refine ev_ldc qX10_79 dX10_ship_20 ?_
      exact s_retI dX10_ship_22 ⟨by first | rw [if_neg (by rw [h5]; decide)] | rw [if_pos h5, if_neg (by intro q; subst q; revert h17; decide), if_neg (by intro q; subst q; revert h17; decide), if_neg (by intro q; subst q; revert h17; decide), if_neg (by intro q; subst q; revert h17; decide), if_neg (by intro q; subst q; revert h17; decide)], rfl⟩
theorem l_mtower {t : Nat} {w : Int32} (hC : nl_C N T S C (I 225)) (hF : nl_F T S F (I 226)) (ht : t < T) : ∀ (k p m : Nat), p + k = S → nw_S l g 2 mX10_tower 28 [some (.ref (nw_a g 219)), some (.int (nI t)), some (.int w), some (.int (nI m)), some (.int (nI p))] [] I (nw_qI (fun r J => r = (if w = 0 then C (46 + t) else if w = 1 then F (2 + t) else nI (m + p_cnt (p_wf F (nI t)) k p)) ∧ J = I)) := by
  have hS := hC.s
  have hS6 := hC.hS
  have hT3 := hC.hT
  intro k
  induction k with
  | zero =>
    intro p m hp
    have f1 := hF (2 + t) (by unfold nl_f; omega)
    have c1 := hC.2 (46 + t) (by unfold nl_c; omega)
    refine ev_iload dX10_tower_28 rfl ?_
    refine ev_aload_n (i := 0) dX10_tower_30 rfl rfl ?_
    refine ev_getR fX10_25 dX10_tower_31 rfl rfl (by decide) ?_
    refine ev_iconst (v := 5) dX10_tower_34 kc_5 ?_
    refine ev_ialdN (j := 5) dX10_tower_35 rfl (by omega) (by decide) ?_
    rw [hS]
    refine ev_icmp_ge (tgt := 80) dX10_tower_36 (by decide) (fun h36 => ?_) (fun h36 => ?_)
    · refine ev_iload_n (i := 2) dX10_tower_80 rfl rfl ?_
      refine ev_if_ne (tgt := 96) dX10_tower_81 (by decide) (fun h81 => ?_) (fun h81 => ?_)
      · refine ev_iload_n (i := 2) dX10_tower_96 rfl rfl ?_
        refine ev_iconst (v := 1) dX10_tower_97 kc_1 ?_
        refine ev_icmp_ne (tgt := 112) dX10_tower_98 (by decide) (fun h98 => ?_) (fun h98 => ?_)
        · refine ev_iload_n (i := 3) dX10_tower_112 rfl rfl ?_
          exact s_retI dX10_tower_113 ⟨by first | (rw [if_pos h81]; exact c1) | (rw [if_neg h81, if_pos h98]; exact f1) | (rw [if_neg h81, if_neg h98]; rfl), rfl⟩
        · refine ev_aload_n (i := 0) dX10_tower_101 rfl rfl ?_
          refine ev_getR fX10_28 dX10_tower_102 rfl rfl (by decide) ?_
          refine ev_iconst (v := 2) dX10_tower_105 kc_2 ?_
          refine ev_iload_n (i := 1) dX10_tower_106 rfl rfl ?_
          refine ev_iaddN (a := 2) (b := t) dX10_tower_107 ?_
          refine ev_ialdN (j := (2 + t)) dX10_tower_108 rfl (by omega) (by decide) ?_
          refine ev_goto (tgt := 113) dX10_tower_109 (by decide) ?_
          exact s_retI dX10_tower_113 ⟨by first | (rw [if_pos h81]; exact c1) | (rw [if_neg h81, if_pos h98]; exact f1) | (rw [if_neg h81, if_neg h98]; rfl), rfl⟩
      · refine ev_aload_n (i := 0) dX10_tower_84 rfl rfl ?_
        refine ev_getR fX10_25 dX10_tower_85 rfl rfl (by decide) ?_
        refine ev_bipush (v := 46) dX10_tower_88 kb_46 ?_
        refine ev_iload_n (i := 1) dX10_tower_90 rfl rfl ?_
        refine ev_iaddN (a := 46) (b := t) dX10_tower_91 ?_
        refine ev_ialdN (j := (46 + t)) dX10_tower_92 rfl (by omega) (by decide) ?_
        refine ev_goto (tgt := 113) dX10_tower_93 (by decide) ?_
        exact s_retI dX10_tower_113 ⟨by first | (rw [if_pos h81]; exact c1) | (rw [if_neg h81, if_pos h98]; exact f1) | (rw [if_neg h81, if_neg h98]; rfl), rfl⟩
    · exact absurd (nI_le (by omega) (by omega)) h36
  | succ k ih =>
    intro p m hp
    have e1 := hF (17 + p) (by unfold nl_f; omega)
    have e2 := hF (11 + p) (by unfold nl_f; omega)
    refine ev_iload dX10_tower_28 rfl ?_
    refine ev_aload_n (i := 0) dX10_tower_30 rfl rfl ?_
    refine ev_getR fX10_25 dX10_tower_31 rfl rfl (by decide) ?_
    refine ev_iconst (v := 5) dX10_tower_34 kc_5 ?_
    refine ev_ialdN (j := 5) dX10_tower_35 rfl (by omega) (by decide) ?_
    rw [hS]
    refine ev_icmp_ge (tgt := 80) dX10_tower_36 (by decide) (fun h36 => ?_) (fun h36 => ?_)
    · exact absurd h36 (nI_ge (by omega) (by omega))
    · refine ev_iload_n (i := 3) dX10_tower_39 rfl rfl ?_
      refine ev_aload_n (i := 0) dX10_tower_40 rfl rfl ?_
      refine ev_getR fX10_28 dX10_tower_41 rfl rfl (by decide) ?_
      refine ev_bipush (v := 17) dX10_tower_44 kb_17 ?_
      refine ev_iload dX10_tower_46 rfl ?_
      refine ev_iaddN (a := 17) (b := p) dX10_tower_48 ?_
      refine ev_ialdN (j := (17 + p)) dX10_tower_49 rfl (by omega) (by decide) ?_
      rw [e1]
      refine ev_if_ne (tgt := 71) dX10_tower_50 (by decide) (fun h50 => ?_) (fun h50 => ?_)
      · refine ev_iconst (v := 0) dX10_tower_71 kc_0 ?_
        refine ev_iadd dX10_tower_72 ?_
        refine ev_istore_n (i := 3) dX10_tower_73 rfl (Nat.le_of_ble_eq_true rfl) rfl ?_
        refine ev_iincN (a := p) dX10_tower_74 rfl (Nat.le_of_ble_eq_true rfl) rfl ?_
        refine ev_goto (tgt := 28) dX10_tower_77 (by decide) ?_
        first
          | rw [p_cnt_t (by simp [p_wf, *]) m, nI_1]; exact ih (p + 1) (m + 1) (by omega)
          | rw [p_cnt_f (by simp [p_wf, *]) m, Int32.add_zero]; exact ih (p + 1) m (by omega)
      · refine ev_aload_n (i := 0) dX10_tower_53 rfl rfl ?_
        refine ev_getR fX10_28 dX10_tower_54 rfl rfl (by decide) ?_
        refine ev_bipush (v := 11) dX10_tower_57 kb_11 ?_
        refine ev_iload dX10_tower_59 rfl ?_
        refine ev_iaddN (a := 11) (b := p) dX10_tower_61 ?_
        refine ev_ialdN (j := (11 + p)) dX10_tower_62 rfl (by omega) (by decide) ?_
        rw [e2]
        refine ev_iload_n (i := 1) dX10_tower_63 rfl rfl ?_
        refine ev_icmp_ne (tgt := 71) dX10_tower_64 (by decide) (fun h64 => ?_) (fun h64 => ?_)
        · refine ev_iconst (v := 0) dX10_tower_71 kc_0 ?_
          refine ev_iadd dX10_tower_72 ?_
          refine ev_istore_n (i := 3) dX10_tower_73 rfl (Nat.le_of_ble_eq_true rfl) rfl ?_
          refine ev_iincN (a := p) dX10_tower_74 rfl (Nat.le_of_ble_eq_true rfl) rfl ?_
          refine ev_goto (tgt := 28) dX10_tower_77 (by decide) ?_
          first
            | rw [p_cnt_t (by simp [p_wf, *]) m, nI_1]; exact ih (p + 1) (m + 1) (by omega)
            | rw [p_cnt_f (by simp [p_wf, *]) m, Int32.add_zero]; exact ih (p + 1) m (by omega)
        · refine ev_iconst (v := 1) dX10_tower_67 kc_1 ?_
          refine ev_goto (tgt := 72) dX10_tower_68 (by decide) ?_
          refine ev_iadd dX10_tower_72 ?_
          refine ev_istore_n (i := 3) dX10_tower_73 rfl (Nat.le_of_ble_eq_true rfl) rfl ?_
          refine ev_iincN (a := p) dX10_tower_74 rfl (Nat.le_of_ble_eq_true rfl) rfl ?_
          refine ev_goto (tgt := 28) dX10_tower_77 (by decide) ?_
          first
            | rw [p_cnt_t (by simp [p_wf, *]) m, nI_1]; exact ih (p + 1) (m + 1) (by omega)
            | rw [p_cnt_f (by simp [p_wf, *]) m, Int32.add_zero]; exact ih (p + 1) m (by omega)
theorem m_tower (hW : nm_W I b N T S C F) (x w : Int32) : nw_dI l g 2 mX10_tower [.ref (nw_a g 219), .int x, .int w] I (if nv_in x 0 (nI T - 1) then (if w = 0 then C (46 + x.toNatClampNeg) else if w = 1 then F (2 + x.toNatClampNeg) else if w = 2 then nI (p_cnt (p_wf F x) S 0) else -1000001) else -1000001) I := by
  refine ⟨(Nat.le_of_ble_eq_true rfl), ?_⟩
  obtain ⟨hb, hC, hF, hor⟩ := id hW
  have hbd := hW.bd
  have hN := hC.n
  have hT := hC.t
  have hS := hC.s
  have hN2 := hC.hN
  have hT3 := hC.hT
  have hS6 := hC.hS
  refine ev_aload_n (i := 0) dX10_tower_0 rfl rfl ?_
  refine ev_iload_n (i := 1) dX10_tower_1 rfl rfl ?_
  refine s_dVz (As := [_]) (m_isTower _) (Nat.le_of_ble_eq_true rfl) lX10_212 kX10_isTower vX10_isTower dX10_tower_2 rfl rfl rfl (by decide) rfl (Nat.le_of_ble_eq_true rfl) ?_
  rw [hT]
  refine s_ifZ_eq (tgt := 20) dX10_tower_5 (by decide) (fun h5 => ?_) (fun h5 => ?_)
  · refine ev_ldc qX10_79 dX10_tower_20 ?_
    exact s_retI dX10_tower_22 ⟨by first | rw [if_neg (by rw [h5]; decide)] | rw [if_pos h5, if_neg (by intro q; subst q; revert h17; decide), if_neg (by intro q; subst q; revert h17; decide), if_neg (by intro q; subst q; revert h17; decide)], rfl⟩
  · refine ev_iload_n (i := 2) dX10_tower_8 rfl rfl ?_
    refine ev_i2l dX10_tower_9 ?_
    refine ev_lconst (v := 0) dX10_tower_10 rfl ?_
    refine ev_ldc2 qX10_77 dX10_tower_11 ?_
    refine s_dSz (As := [_, _, _]) (m_in _ 0 2 (by decide) (by decide)) (Nat.le_of_ble_eq_true rfl) lX10_64 kX10_in sX10_in dX10_tower_14 rfl rfl (Nat.le_of_ble_eq_true rfl) ?_
    refine s_ifZ_ne (tgt := 23) dX10_tower_17 (by decide) (fun h17 => ?_) (fun h17 => ?_)
    · obtain ⟨s, hs, rfl⟩ := nv_in_S (by omega) h5
      refine ev_iconst (v := 0) dX10_tower_23 kc_0 ?_
      refine ev_istore_n (i := 3) dX10_tower_24 rfl (Nat.le_of_ble_eq_true rfl) rfl ?_
      refine ev_iconst (v := 0) dX10_tower_25 kc_0 ?_
      refine ev_istore dX10_tower_26 (Nat.le_of_ble_eq_true rfl) rfl ?_
      refine s_postI (l_mtower (w := w) hC hF hs S 0 0 (by omega)) (fun r J q => ⟨?_, q.2⟩)
      rw [if_pos h5, nI_clamp (by omega), q.1, Nat.zero_add]
      rcases w02 h17 with rfl | rfl | rfl
      · rw [if_pos rfl, if_pos rfl]
      · rw [if_neg (by decide), if_pos rfl, if_neg (by decide), if_pos rfl]
      · rw [if_neg (by decide), if_neg (by decide), if_neg (by decide), if_neg (by decide), if_pos rfl]
    · refine ev_ldc qX10_79 dX10_tower_20 ?_
      exact s_retI dX10_tower_22 ⟨by first | rw [if_neg (by rw [h5]; decide)] | rw [if_pos h5, if_neg (by intro q; subst q; revert h17; decide), if_neg (by intro q; subst q; revert h17; decide), if_neg (by intro q; subst q; revert h17; decide)], rfl⟩
theorem m_wave (hW : nm_W I b N T S C F) (x w : Int32) : nw_dI l g 4 mX10_wave [.ref (nw_a g 219), .int x, .int w] I (if b then (if nv_in x 0 1199 then (if w = 0 then p_hei C x else if w = 1 then nv_lift (p_kind C x) (p_hei C x) else if w = 2 then p_wat C x else if w = 3 then p_kind C x else -1000001) else -1000001) else -1000002) I := by
  refine ⟨(Nat.le_of_ble_eq_true rfl), ?_⟩
  obtain ⟨hb, hC, hF, hor⟩ := id hW
  have hbd := hW.bd
  have hN := hC.n
  have hT := hC.t
  have hS := hC.s
  have hN2 := hC.hN
  have hT3 := hC.hT
  have hS6 := hC.hS
  refine ev_aload_n (i := 0) dX10_wave_0 rfl rfl ?_
  refine s_dVz (As := []) (m_isSea) (Nat.le_of_ble_eq_true rfl) lX10_196 kX10_isSea vX10_isSea dX10_wave_1 rfl rfl rfl (by decide) rfl (Nat.le_of_ble_eq_true rfl) ?_
  rw [hbd]
  refine s_ifZ_ne (tgt := 10) dX10_wave_4 (by decide) (fun h4 => ?_) (fun h4 => ?_)
  · refine ev_iload_n (i := 1) dX10_wave_10 rfl rfl ?_
    refine ev_i2l dX10_wave_11 ?_
    refine ev_lconst (v := 0) dX10_wave_12 rfl ?_
    refine ev_ldc2 qX10_229 dX10_wave_13 ?_
    refine s_dSz (As := [_, _, _]) (m_in _ 0 1199 (by decide) (by decide)) (Nat.le_of_ble_eq_true rfl) lX10_64 kX10_in sX10_in dX10_wave_16 rfl rfl (Nat.le_of_ble_eq_true rfl) ?_
    refine s_ifZ_eq (tgt := 34) dX10_wave_19 (by decide) (fun h19 => ?_) (fun h19 => ?_)
    · refine ev_ldc qX10_79 dX10_wave_34 ?_
      exact s_retI dX10_wave_36 ⟨by rw [if_pos h4]; first | rw [if_neg (by rw [h19]; decide)] | rw [if_pos h19, if_neg (by intro q; subst q; revert h31; decide), if_neg (by intro q; subst q; revert h31; decide), if_neg (by intro q; subst q; revert h31; decide), if_neg (by intro q; subst q; revert h31; decide)], rfl⟩
    · refine ev_iload_n (i := 2) dX10_wave_22 rfl rfl ?_
      refine ev_i2l dX10_wave_23 ?_
      refine ev_lconst (v := 0) dX10_wave_24 rfl ?_
      refine ev_ldc2 qX10_231 dX10_wave_25 ?_
      refine s_dSz (As := [_, _, _]) (m_in _ 0 3 (by decide) (by decide)) (Nat.le_of_ble_eq_true rfl) lX10_64 kX10_in sX10_in dX10_wave_28 rfl rfl (Nat.le_of_ble_eq_true rfl) ?_
      refine s_ifZ_ne (tgt := 37) dX10_wave_31 (by decide) (fun h31 => ?_) (fun h31 => ?_)
      · obtain ⟨rfl, h0, h0T, hk, hsok⟩ := hW.sea (Or.inr (Or.inr (Or.inr h4)))
        obtain ⟨v, -, hv1, rfl⟩ := nv_in_n (a := 0) (c := 1199) h19 (by decide) (by decide)
        have hv : v < 2 ^ 31 := by omega
        refine ev_iload_n (i := 2) dX10_wave_37 rfl rfl ?_
        refine ev_if_ne (tgt := 49) dX10_wave_38 (by decide) (fun h38 => ?_) (fun h38 => ?_)
        · refine ev_iload_n (i := 2) dX10_wave_49 rfl rfl ?_
          refine ev_iconst (v := 1) dX10_wave_50 kc_1 ?_
          refine ev_icmp_ne (tgt := 70) dX10_wave_51 (by decide) (fun h51 => ?_) (fun h51 => ?_)
          · refine ev_iload_n (i := 2) dX10_wave_70 rfl rfl ?_
            refine ev_iconst (v := 2) dX10_wave_71 kc_2 ?_
            refine ev_icmp_ne (tgt := 83) dX10_wave_72 (by decide) (fun h72 => ?_) (fun h72 => ?_)
            · refine ev_aload_n (i := 0) dX10_wave_83 rfl rfl ?_
              refine ev_iload_n (i := 1) dX10_wave_84 rfl rfl ?_
              refine s_dVi (As := [_]) (m_sortIn hC h0 hv) (Nat.le_of_ble_eq_true rfl) lX10_176 kX10_sortIn vX10_sortIn dX10_wave_85 rfl rfl rfl (by decide) rfl (Nat.le_of_ble_eq_true rfl) ?_
              exact s_retI dX10_wave_88 ⟨by
            rw [if_pos rfl, if_pos h19]
            rcases w03 h31 with rfl | rfl | rfl | rfl <;> first | (exfalso; first | exact absurd rfl (by assumption) | exact absurd ‹(_ : Int32) = _› (by decide)) | rfl, rfl⟩
            · refine ev_aload_n (i := 0) dX10_wave_75 rfl rfl ?_
              refine ev_iload_n (i := 1) dX10_wave_76 rfl rfl ?_
              refine s_dVi (As := [_]) (m_waterIn hC h0 hk hv) (Nat.le_of_ble_eq_true rfl) lX10_233 kX10_waterIn vX10_waterIn dX10_wave_77 rfl rfl rfl (by decide) rfl (Nat.le_of_ble_eq_true rfl) ?_
              refine ev_goto (tgt := 88) dX10_wave_80 (by decide) ?_
              exact s_retI dX10_wave_88 ⟨by
            rw [if_pos rfl, if_pos h19]
            rcases w03 h31 with rfl | rfl | rfl | rfl <;> first | (exfalso; first | exact absurd rfl (by assumption) | exact absurd ‹(_ : Int32) = _› (by decide)) | rfl, rfl⟩
          · refine ev_aload_n (i := 0) dX10_wave_54 rfl rfl ?_
            refine ev_iload_n (i := 1) dX10_wave_55 rfl rfl ?_
            refine s_dVi (As := [_]) (m_sortIn hC h0 hv) (Nat.le_of_ble_eq_true rfl) lX10_176 kX10_sortIn vX10_sortIn dX10_wave_56 rfl rfl rfl (by decide) rfl (Nat.le_of_ble_eq_true rfl) ?_
            refine ev_aload_n (i := 0) dX10_wave_59 rfl rfl ?_
            refine ev_iload_n (i := 1) dX10_wave_60 rfl rfl ?_
            refine s_dVi (As := [_]) (m_heightIn hC h0 hv) (Nat.le_of_ble_eq_true rfl) lX10_179 kX10_heightIn vX10_heightIn dX10_wave_61 rfl rfl rfl (by decide) rfl (Nat.le_of_ble_eq_true rfl) ?_
            refine s_dSi (As := [_, _]) (m_lift (hk.kd hC.1 h0 hv) _) (Nat.le_of_ble_eq_true rfl) lX10_173 kX10_lift sX10_lift dX10_wave_64 rfl rfl (Nat.le_of_ble_eq_true rfl) ?_
            refine ev_goto (tgt := 88) dX10_wave_67 (by decide) ?_
            exact s_retI dX10_wave_88 ⟨by
            rw [if_pos rfl, if_pos h19]
            rcases w03 h31 with rfl | rfl | rfl | rfl <;> first | (exfalso; first | exact absurd rfl (by assumption) | exact absurd ‹(_ : Int32) = _› (by decide)) | rfl, rfl⟩
        · refine ev_aload_n (i := 0) dX10_wave_41 rfl rfl ?_
          refine ev_iload_n (i := 1) dX10_wave_42 rfl rfl ?_
          refine s_dVi (As := [_]) (m_heightIn hC h0 hv) (Nat.le_of_ble_eq_true rfl) lX10_179 kX10_heightIn vX10_heightIn dX10_wave_43 rfl rfl rfl (by decide) rfl (Nat.le_of_ble_eq_true rfl) ?_
          refine ev_goto (tgt := 88) dX10_wave_46 (by decide) ?_
          exact s_retI dX10_wave_88 ⟨by
            rw [if_pos rfl, if_pos h19]
            rcases w03 h31 with rfl | rfl | rfl | rfl <;> first | (exfalso; first | exact absurd rfl (by assumption) | exact absurd ‹(_ : Int32) = _› (by decide)) | rfl, rfl⟩
      · refine ev_ldc qX10_79 dX10_wave_34 ?_
        exact s_retI dX10_wave_36 ⟨by rw [if_pos h4]; first | rw [if_neg (by rw [h19]; decide)] | rw [if_pos h19, if_neg (by intro q; subst q; revert h31; decide), if_neg (by intro q; subst q; revert h31; decide), if_neg (by intro q; subst q; revert h31; decide), if_neg (by intro q; subst q; revert h31; decide)], rfl⟩
  · refine ev_ldc qX10_199 dX10_wave_7 ?_
    exact s_retI dX10_wave_9 ⟨by rw [h4]; rfl, rfl⟩
theorem m_ahead (hW : nm_W I b N T S C F) (n w : Int32) : nw_cI l g 5 mX10_ahead [.ref (nw_a g 219), .int n, .int w] I (fun r J => r = (if b then (if nv_in n 0 200 && nv_in w 0 1 then nI (p_cnt (p_isf (p_pass C T S n.toNatClampNeg F) (if w = 0 then 1 else 2)) S 0) else -1000001) else -1000002) ∧ ∀ q, q ≠ 233 → J q = I q) := by
  refine ⟨(Nat.le_of_ble_eq_true rfl), ?_⟩
  obtain ⟨hb, hC, hF, hor⟩ := id hW
  have hbd := hW.bd
  have hN := hC.n
  have hT := hC.t
  have hS := hC.s
  have hN2 := hC.hN
  have hT3 := hC.hT
  have hS6 := hC.hS
  refine ev_aload_n (i := 0) dX10_ahead_0 rfl rfl ?_
  refine s_dVz (As := []) (m_isSea) (Nat.le_of_ble_eq_true rfl) lX10_196 kX10_isSea vX10_isSea dX10_ahead_1 rfl rfl rfl (by decide) rfl (Nat.le_of_ble_eq_true rfl) ?_
  rw [hbd]
  refine s_ifZ_ne (tgt := 10) dX10_ahead_4 (by decide) (fun h4 => ?_) (fun h4 => ?_)
  · refine ev_iload_n (i := 1) dX10_ahead_10 rfl rfl ?_
    refine ev_i2l dX10_ahead_11 ?_
    refine ev_lconst (v := 0) dX10_ahead_12 rfl ?_
    refine ev_ldc2 qX10_236 dX10_ahead_13 ?_
    refine s_dSz (As := [_, _, _]) (m_in _ 0 200 (by decide) (by decide)) (Nat.le_of_ble_eq_true rfl) lX10_64 kX10_in sX10_in dX10_ahead_16 rfl rfl (Nat.le_of_ble_eq_true rfl) ?_
    refine s_ifZ_eq (tgt := 32) dX10_ahead_19 (by decide) (fun h19 => ?_) (fun h19 => ?_)
    · refine ev_ldc qX10_79 dX10_ahead_32 ?_
      exact s_retI dX10_ahead_34 ⟨by rw [if_pos h4, if_neg (by first | (simp [h19]; done) | (simp [h29]; done))], fun _ _ => rfl⟩
    · refine ev_iload_n (i := 2) dX10_ahead_22 rfl rfl ?_
      refine ev_i2l dX10_ahead_23 ?_
      refine ev_lconst (v := 0) dX10_ahead_24 rfl ?_
      refine ev_lconst (v := 1) dX10_ahead_25 rfl ?_
      refine s_dSz (As := [_, _, _]) (m_in _ 0 1 (by decide) (by decide)) (Nat.le_of_ble_eq_true rfl) lX10_64 kX10_in sX10_in dX10_ahead_26 rfl rfl (Nat.le_of_ble_eq_true rfl) ?_
      refine s_ifZ_ne (tgt := 35) dX10_ahead_29 (by decide) (fun h29 => ?_) (fun h29 => ?_)
      · have eb : b = true := h4
        subst eb
        obtain ⟨-, h0, h0T, hk, hsok⟩ := hW.sea (Or.inr (Or.inr (Or.inr rfl)))
        obtain ⟨v, hv2, hv⟩ := hsok.2.2.1
        have hl := hsok.law
        have hfk := hsok.1
        obtain ⟨x, -, hx, rfl⟩ := nv_in_n (a := 0) (c := 200) h19 (by decide) (by decide)
        refine ev_aload_n (i := 0) dX10_ahead_35 rfl rfl ?_
        refine s_callVv (As := []) (m_asNow) (Nat.le_of_ble_eq_true rfl) lX10_205 kX10_asNow vX10_asNow dX10_ahead_36 rfl rfl rfl (by decide) rfl (Nat.le_of_ble_eq_true rfl) (fun J1 h1 => ?_)
        refine ev_aload_n (i := 0) dX10_ahead_39 rfl rfl ?_
        refine ev_iload_n (i := 1) dX10_ahead_40 rfl rfl ?_
        refine s_callVv (As := [_]) (m_waves0 (x := x) (v := v) (by rw [h1.2 225 (by decide)]; exact hC) h0 hk (by omega) hfk hl hv (by omega) (hW.so h1.1)) (Nat.le_of_ble_eq_true rfl) lX10_208 kX10_waves0 vX10_waves0 dX10_ahead_41 rfl rfl rfl (by decide) rfl (Nat.le_of_ble_eq_true rfl) (fun J2 h2 => ?_)
        refine ev_aload_n (i := 0) dX10_ahead_44 rfl rfl ?_
        refine ev_iload_n (i := 2) dX10_ahead_45 rfl rfl ?_
        refine ev_iconst (v := 1) dX10_ahead_46 kc_1 ?_
        refine ev_iadd dX10_ahead_47 ?_
        refine s_dVi (As := [_]) (m_many (by rw [h2.2 225 (by decide), h1.2 225 (by decide)]; exact hC) h2.1 _) (Nat.le_of_ble_eq_true rfl) lX10_238 kX10_many vX10_many dX10_ahead_48 rfl rfl rfl (by decide) rfl (Nat.le_of_ble_eq_true rfl) ?_
        exact s_retI dX10_ahead_51 ⟨by
      rw [if_pos rfl, if_pos (by rw [h19, h29]; rfl), nI_clamp (by omega)]
      rcases w01 h29 with rfl | rfl <;> rfl, fun q hq => (h2.2 q hq).trans (h1.2 q hq)⟩
      · refine ev_ldc qX10_79 dX10_ahead_32 ?_
        exact s_retI dX10_ahead_34 ⟨by rw [if_pos h4, if_neg (by first | (simp [h19]; done) | (simp [h29]; done))], fun _ _ => rfl⟩
  · refine ev_ldc qX10_199 dX10_ahead_7 ?_
    exact s_retI dX10_ahead_9 ⟨by rw [h4]; rfl, fun _ _ => rfl⟩
theorem m_shipAhead (hW : nm_W I b N T S C F) (x0 n w : Int32) : nw_cI l g 5 mX10_shipAhead [.ref (nw_a g 219), .int x0, .int n, .int w] I (fun r J => r = (if nv_in x0 0 (nI S - 1) && (nv_in n 0 200 && nv_in w 0 1) then p_pass C T S n.toNatClampNeg F ((if w = 0 then 17 else 23) + x0.toNatClampNeg) else -1000001) ∧ ∀ q, q ≠ 233 → J q = I q) := by
  refine ⟨(Nat.le_of_ble_eq_true rfl), ?_⟩
  obtain ⟨hb, hC, hF, hor⟩ := id hW
  have hbd := hW.bd
  have hN := hC.n
  have hT := hC.t
  have hS := hC.s
  have hN2 := hC.hN
  have hT3 := hC.hT
  have hS6 := hC.hS
  refine ev_aload_n (i := 0) dX10_shipAhead_0 rfl rfl ?_
  refine ev_iload_n (i := 1) dX10_shipAhead_1 rfl rfl ?_
  refine s_dVz (As := [_]) (m_isShip _) (Nat.le_of_ble_eq_true rfl) lX10_221 kX10_isShip vX10_isShip dX10_shipAhead_2 rfl rfl rfl (by decide) rfl (Nat.le_of_ble_eq_true rfl) ?_
  rw [hS]
  refine s_ifZ_eq (tgt := 30) dX10_shipAhead_5 (by decide) (fun h5 => ?_) (fun h5 => ?_)
  · refine ev_ldc qX10_79 dX10_shipAhead_30 ?_
    exact s_retI dX10_shipAhead_32 ⟨by rw [if_neg (by first | (simp [h5]; done) | (simp [h17]; done) | (simp [h27]; done))], fun _ _ => rfl⟩
  · refine ev_iload_n (i := 2) dX10_shipAhead_8 rfl rfl ?_
    refine ev_i2l dX10_shipAhead_9 ?_
    refine ev_lconst (v := 0) dX10_shipAhead_10 rfl ?_
    refine ev_ldc2 qX10_236 dX10_shipAhead_11 ?_
    refine s_dSz (As := [_, _, _]) (m_in _ 0 200 (by decide) (by decide)) (Nat.le_of_ble_eq_true rfl) lX10_64 kX10_in sX10_in dX10_shipAhead_14 rfl rfl (Nat.le_of_ble_eq_true rfl) ?_
    refine s_ifZ_eq (tgt := 30) dX10_shipAhead_17 (by decide) (fun h17 => ?_) (fun h17 => ?_)
    · refine ev_ldc qX10_79 dX10_shipAhead_30 ?_
      exact s_retI dX10_shipAhead_32 ⟨by rw [if_neg (by first | (simp [h5]; done) | (simp [h17]; done) | (simp [h27]; done))], fun _ _ => rfl⟩
    · refine ev_iload_n (i := 3) dX10_shipAhead_20 rfl rfl ?_
      refine ev_i2l dX10_shipAhead_21 ?_
      refine ev_lconst (v := 0) dX10_shipAhead_22 rfl ?_
      refine ev_lconst (v := 1) dX10_shipAhead_23 rfl ?_
      refine s_dSz (As := [_, _, _]) (m_in _ 0 1 (by decide) (by decide)) (Nat.le_of_ble_eq_true rfl) lX10_64 kX10_in sX10_in dX10_shipAhead_24 rfl rfl (Nat.le_of_ble_eq_true rfl) ?_
      refine s_ifZ_ne (tgt := 33) dX10_shipAhead_27 (by decide) (fun h27 => ?_) (fun h27 => ?_)
      · obtain ⟨s, hs, rfl⟩ := nv_in_S (by omega) h5
        obtain ⟨rfl, h0, h0T, hk, hsok⟩ := hW.sea (Or.inl (by omega))
        obtain ⟨v, hv2, hv⟩ := hsok.2.2.1
        have hl := hsok.law
        have hfk := hsok.1
        obtain ⟨x, -, hx, rfl⟩ := nv_in_n (a := 0) (c := 200) h17 (by decide) (by decide)
        refine ev_aload_n (i := 0) dX10_shipAhead_33 rfl rfl ?_
        refine s_callVv (As := []) (m_asNow) (Nat.le_of_ble_eq_true rfl) lX10_205 kX10_asNow vX10_asNow dX10_shipAhead_34 rfl rfl rfl (by decide) rfl (Nat.le_of_ble_eq_true rfl) (fun J1 h1 => ?_)
        refine ev_aload_n (i := 0) dX10_shipAhead_37 rfl rfl ?_
        refine ev_iload_n (i := 2) dX10_shipAhead_38 rfl rfl ?_
        refine s_callVv (As := [_]) (m_waves0 (x := x) (v := v) (by rw [h1.2 225 (by decide)]; exact hC) h0 hk (by omega) hfk hl hv (by omega) (hW.so h1.1)) (Nat.le_of_ble_eq_true rfl) lX10_208 kX10_waves0 vX10_waves0 dX10_shipAhead_39 rfl rfl rfl (by decide) rfl (Nat.le_of_ble_eq_true rfl) (fun J2 h2 => ?_)
        refine ev_iload_n (i := 3) dX10_shipAhead_42 rfl rfl ?_
        refine ev_if_ne (tgt := 58) dX10_shipAhead_43 (by decide) (fun h43 => ?_) (fun h43 => ?_)
        · refine ev_aload_n (i := 0) dX10_shipAhead_58 rfl rfl ?_
          refine ev_getR fX10_50 dX10_shipAhead_59 rfl rfl (by decide) ?_
          refine ev_bipush (v := 23) dX10_shipAhead_62 kb_23 ?_
          refine ev_iload_n (i := 1) dX10_shipAhead_64 rfl rfl ?_
          refine ev_iaddN (a := 23) (b := s) dX10_shipAhead_65 ?_
          refine ev_ialdN (j := (23 + s)) dX10_shipAhead_66 rfl (by omega) (by decide) ?_
          exact s_retI dX10_shipAhead_67 ⟨by
        rw [if_pos (by rw [h5, h17, h27]; rfl), nI_clamp (by omega), nI_clamp (by omega)]
        first | (rw [if_pos h43]; exact h2.1 _ (by unfold nl_f; omega)) | (rw [if_neg h43]; exact h2.1 _ (by unfold nl_f; omega)), fun q hq => (h2.2 q hq).trans (h1.2 q hq)⟩
        · refine ev_aload_n (i := 0) dX10_shipAhead_46 rfl rfl ?_
          refine ev_getR fX10_50 dX10_shipAhead_47 rfl rfl (by decide) ?_
          refine ev_bipush (v := 17) dX10_shipAhead_50 kb_17 ?_
          refine ev_iload_n (i := 1) dX10_shipAhead_52 rfl rfl ?_
          refine ev_iaddN (a := 17) (b := s) dX10_shipAhead_53 ?_
          refine ev_ialdN (j := (17 + s)) dX10_shipAhead_54 rfl (by omega) (by decide) ?_
          refine ev_goto (tgt := 67) dX10_shipAhead_55 (by decide) ?_
          exact s_retI dX10_shipAhead_67 ⟨by
        rw [if_pos (by rw [h5, h17, h27]; rfl), nI_clamp (by omega), nI_clamp (by omega)]
        first | (rw [if_pos h43]; exact h2.1 _ (by unfold nl_f; omega)) | (rw [if_neg h43]; exact h2.1 _ (by unfold nl_f; omega)), fun q hq => (h2.2 q hq).trans (h1.2 q hq)⟩
      · refine ev_ldc qX10_79 dX10_shipAhead_30 ?_
        exact s_retI dX10_shipAhead_32 ⟨by rw [if_neg (by first | (simp [h5]; done) | (simp [h17]; done) | (simp [h27]; done))], fun _ _ => rfl⟩
theorem m_towerAhead (hW : nm_W I b N T S C F) (x0 n : Int32) : nw_cI l g 5 mX10_towerAhead [.ref (nw_a g 219), .int x0, .int n] I (fun r J => r = (if nv_in x0 0 (nI T - 1) && nv_in n 0 200 then p_pass C T S n.toNatClampNeg F (2 + x0.toNatClampNeg) else -1000001) ∧ ∀ q, q ≠ 233 → J q = I q) := by
  refine ⟨(Nat.le_of_ble_eq_true rfl), ?_⟩
  obtain ⟨hb, hC, hF, hor⟩ := id hW
  have hbd := hW.bd
  have hN := hC.n
  have hT := hC.t
  have hS := hC.s
  have hN2 := hC.hN
  have hT3 := hC.hT
  have hS6 := hC.hS
  refine ev_aload_n (i := 0) dX10_towerAhead_0 rfl rfl ?_
  refine ev_iload_n (i := 1) dX10_towerAhead_1 rfl rfl ?_
  refine s_dVz (As := [_]) (m_isTower _) (Nat.le_of_ble_eq_true rfl) lX10_212 kX10_isTower vX10_isTower dX10_towerAhead_2 rfl rfl rfl (by decide) rfl (Nat.le_of_ble_eq_true rfl) ?_
  rw [hT]
  refine s_ifZ_eq (tgt := 20) dX10_towerAhead_5 (by decide) (fun h5 => ?_) (fun h5 => ?_)
  · refine ev_ldc qX10_79 dX10_towerAhead_20 ?_
    exact s_retI dX10_towerAhead_22 ⟨by rw [if_neg (by first | (simp [h5]; done) | (simp [h17]; done) | (simp [h27]; done))], fun _ _ => rfl⟩
  · refine ev_iload_n (i := 2) dX10_towerAhead_8 rfl rfl ?_
    refine ev_i2l dX10_towerAhead_9 ?_
    refine ev_lconst (v := 0) dX10_towerAhead_10 rfl ?_
    refine ev_ldc2 qX10_236 dX10_towerAhead_11 ?_
    refine s_dSz (As := [_, _, _]) (m_in _ 0 200 (by decide) (by decide)) (Nat.le_of_ble_eq_true rfl) lX10_64 kX10_in sX10_in dX10_towerAhead_14 rfl rfl (Nat.le_of_ble_eq_true rfl) ?_
    refine s_ifZ_ne (tgt := 23) dX10_towerAhead_17 (by decide) (fun h17 => ?_) (fun h17 => ?_)
    · obtain ⟨s, hs, rfl⟩ := nv_in_S (by omega) h5
      obtain ⟨rfl, h0, h0T, hk, hsok⟩ := hW.sea (Or.inr (Or.inl (by omega)))
      obtain ⟨v, hv2, hv⟩ := hsok.2.2.1
      have hl := hsok.law
      have hfk := hsok.1
      obtain ⟨x, -, hx, rfl⟩ := nv_in_n (a := 0) (c := 200) h17 (by decide) (by decide)
      refine ev_aload_n (i := 0) dX10_towerAhead_23 rfl rfl ?_
      refine s_callVv (As := []) (m_asNow) (Nat.le_of_ble_eq_true rfl) lX10_205 kX10_asNow vX10_asNow dX10_towerAhead_24 rfl rfl rfl (by decide) rfl (Nat.le_of_ble_eq_true rfl) (fun J1 h1 => ?_)
      refine ev_aload_n (i := 0) dX10_towerAhead_27 rfl rfl ?_
      refine ev_iload_n (i := 2) dX10_towerAhead_28 rfl rfl ?_
      refine s_callVv (As := [_]) (m_waves0 (x := x) (v := v) (by rw [h1.2 225 (by decide)]; exact hC) h0 hk (by omega) hfk hl hv (by omega) (hW.so h1.1)) (Nat.le_of_ble_eq_true rfl) lX10_208 kX10_waves0 vX10_waves0 dX10_towerAhead_29 rfl rfl rfl (by decide) rfl (Nat.le_of_ble_eq_true rfl) (fun J2 h2 => ?_)
      refine ev_aload_n (i := 0) dX10_towerAhead_32 rfl rfl ?_
      refine ev_getR fX10_50 dX10_towerAhead_33 rfl rfl (by decide) ?_
      refine ev_iconst (v := 2) dX10_towerAhead_36 kc_2 ?_
      refine ev_iload_n (i := 1) dX10_towerAhead_37 rfl rfl ?_
      refine ev_iaddN (a := 2) (b := s) dX10_towerAhead_38 ?_
      refine ev_ialdN (j := (2 + s)) dX10_towerAhead_39 rfl (by omega) (by decide) ?_
      exact s_retI dX10_towerAhead_40 ⟨by
      rw [if_pos (by rw [h5, h17]; rfl), nI_clamp (by omega), nI_clamp (by omega)]
      exact h2.1 _ (by unfold nl_f; omega), fun q hq => (h2.2 q hq).trans (h1.2 q hq)⟩
    · refine ev_ldc qX10_79 dX10_towerAhead_20 ?_
      exact s_retI dX10_towerAhead_22 ⟨by rw [if_neg (by first | (simp [h5]; done) | (simp [h17]; done) | (simp [h27]; done))], fun _ _ => rfl⟩
end
