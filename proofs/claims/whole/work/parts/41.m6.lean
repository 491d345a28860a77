section
variable {l : Launch} {g : nw_G} {I : nw_Me} {N T S : Nat} {C F G : Nat → Int32} {b : Bool} {L : List (Nat → Int32)}
/-- the model's trace -/
def nm_T (I : nw_Me) (bs : List Int32) : Prop := I 219 28 = nI bs.length ∧ ∀ i x, bs[i]? = some x → I 236 i = x
def nm_Tf (I J : nw_Me) : Prop := (∀ j, j ≠ 28 → J 219 j = I 219 j) ∧ ∀ q, q ≠ 219 → q ≠ 236 → J q = I q
theorem nm_Tf.refl (I : nw_Me) : nm_Tf I I := ⟨fun _ _ => rfl, fun _ _ _ => rfl⟩
theorem nm_Tf.trans {J K : nw_Me} (h1 : nm_Tf I J) (h2 : nm_Tf J K) : nm_Tf I K := ⟨fun j hj => (h2.1 j hj).trans (h1.1 j hj), fun q a c => (h2.2 q a c).trans (h1.2 q a c)⟩
theorem m_leaves {bs : List Int32} (hT : nm_T I bs) (hl : bs.length < 16) (x : Int32) : nw_cV l g 0 mX10_leaves [.ref (nw_a g 219), .int x] I (fun J => nm_T J (bs ++ [x]) ∧ nm_Tf I J) := by
  refine ⟨(Nat.le_of_ble_eq_true rfl), ?_⟩
  have e16 : (16 : Int32) = nI 16 := by decide
  have ht := hT.1
  refine ev_aload_n (i := 0) dX10_leaves_0 rfl rfl ?_
  refine ev_getI fX10_277 dX10_leaves_1 rfl rfl (by decide) ?_
  refine ev_bipush (v := 16) dX10_leaves_4 kb_16 ?_
  refine ev_icmp_ge (tgt := 29) dX10_leaves_6 (by decide) (fun h6 => ?_) (fun h6 => ?_)
  · exact absurd h6 (by rw [ht, e16]; exact nI_ge hl (by omega))
  · refine ev_aload_n (i := 0) dX10_leaves_9 rfl rfl ?_
    refine ev_getR fX10_59 dX10_leaves_10 rfl rfl (by decide) ?_
    refine ev_aload_n (i := 0) dX10_leaves_13 rfl rfl ?_
    refine ev_getI fX10_277 dX10_leaves_14 rfl rfl (by decide) ?_
    rw [ht]
    refine ev_iload_n (i := 1) dX10_leaves_17 rfl rfl ?_
    refine ev_iastN (j := bs.length) dX10_leaves_18 rfl (by omega) (by decide) ?_
    refine ev_aload_n (i := 0) dX10_leaves_19 rfl rfl ?_
    refine ev_dup dX10_leaves_20 rfl ?_
    refine ev_getI fX10_277 dX10_leaves_21 rfl rfl (by decide) ?_
    rw [nw_up_ne (by decide), ht]
    refine ev_iconst (v := 1) dX10_leaves_24 kc_1 ?_
    refine ev_iaddN (a := bs.length) (b := 1) dX10_leaves_25 ?_
    refine ev_putI fX10_277 dX10_leaves_26 rfl rfl (by decide) rfl rfl rfl rfl ?_
    exact s_retV dX10_leaves_29 (by
      refine ⟨⟨by rw [nw_up_self, pk_us, List.length_append]; rfl, fun i y hy => ?_⟩, fun j hj => by rw [nw_up_self, pk_un hj, nw_up_ne (by decide)], fun q a c => by rw [nw_up_ne a, nw_up_ne c]⟩
      rw [nw_up_ne (by decide), nw_up_self]
      by_cases e : i = bs.length
      · subst e
        rw [pk_us]
        simp at hy
        exact hy
      · rw [pk_un e]
        refine hT.2 i y ?_
        have hi : i < (bs ++ [x]).length := (List.getElem?_eq_some_iff.mp hy).1
        rw [List.length_append] at hi
        rw [List.getElem?_append_left (by simp at hi; omega)] at hy
        exact hy)
theorem m_plain_1 {s : Nat} {bs : List Int32} (hC : nl_C N T S C (I 225)) (hs : s < N) (hk : C (6 + s) = 1) (hT : nm_T I bs) (hl : bs.length ≤ 6) : nw_cI l g 2 mX10_plainMark [.ref (nw_a g 219), .int (nI s)] I (fun r J => r = nI s + nv_lift 1 (C (26 + s)) ∧ nm_T J (bs ++ [21, 20]) ∧ nm_Tf I J) := by
  refine ⟨(Nat.le_of_ble_eq_true rfl), ?_⟩
  have hN2 := hC.hN
  refine ev_aload_n (i := 0) dX10_plainMark_0 rfl rfl ?_
  refine ev_getR fX10_25 dX10_plainMark_1 rfl rfl (by decide) ?_
  refine ev_bipush (v := 6) dX10_plainMark_4 kb_6 ?_
  refine ev_iload_n (i := 1) dX10_plainMark_6 rfl rfl ?_
  refine ev_iaddN (a := 6) (b := s) dX10_plainMark_7 ?_
  refine ev_ialdN (j := (6 + s)) dX10_plainMark_8 rfl (by omega) (by decide) ?_
  rw [hC.2 (6 + s) (by unfold nl_c; omega), hk]
  refine ev_istore_n (i := 2) dX10_plainMark_9 rfl (Nat.le_of_ble_eq_true rfl) rfl ?_
  refine ev_iload_n (i := 2) dX10_plainMark_10 rfl rfl ?_
  refine ev_iconst (v := 3) dX10_plainMark_11 kc_3 ?_
  refine ev_icmp_ne (tgt := 24) dX10_plainMark_12 (by decide) (fun _ => ?_) (fun h => absurd h (by decide))
  refine ev_iload_n (i := 2) dX10_plainMark_24 rfl rfl ?_
  refine ev_iconst (v := 2) dX10_plainMark_25 kc_2 ?_
  refine ev_icmp_ne (tgt := 35) dX10_plainMark_26 (by decide) (fun _ => ?_) (fun h => absurd h (by decide))
  refine ev_aload_n (i := 0) dX10_plainMark_35 rfl rfl ?_
  refine ev_bipush (v := 21) dX10_plainMark_36 kb_21 ?_
  refine s_callVv (As := [_]) (m_leaves hT (by first | omega | (simp only [List.length_append, List.length_cons, List.length_nil]; omega)) _) (Nat.le_of_ble_eq_true rfl) lX10_280 kX10_leaves vX10_leaves dX10_plainMark_38 rfl rfl rfl (by decide) rfl (Nat.le_of_ble_eq_true rfl) (fun J38 t38 => ?_)
  have f38 := t38.2
  refine ev_aload_n (i := 0) dX10_plainMark_41 rfl rfl ?_
  refine ev_bipush (v := 20) dX10_plainMark_42 kb_20 ?_
  refine s_callVv (As := [_]) (m_leaves t38.1 (by first | omega | (simp only [List.length_append, List.length_cons, List.length_nil]; omega)) _) (Nat.le_of_ble_eq_true rfl) lX10_280 kX10_leaves vX10_leaves dX10_plainMark_44 rfl rfl rfl (by decide) rfl (Nat.le_of_ble_eq_true rfl) (fun J44 t44 => ?_)
  have f44 := f38.trans t44.2
  refine ev_iload_n (i := 1) dX10_plainMark_47 rfl rfl ?_
  refine ev_iload_n (i := 2) dX10_plainMark_48 rfl rfl ?_
  refine ev_aload_n (i := 0) dX10_plainMark_49 rfl rfl ?_
  refine ev_getR fX10_25 dX10_plainMark_50 rfl rfl (by decide) ?_
  refine ev_bipush (v := 26) dX10_plainMark_53 kb_26 ?_
  refine ev_iload_n (i := 1) dX10_plainMark_55 rfl rfl ?_
  refine ev_iaddN (a := 26) (b := s) dX10_plainMark_56 ?_
  refine ev_ialdN (j := (26 + s)) dX10_plainMark_57 rfl (by omega) (by decide) ?_
  rw [f44.2 225 (by decide) (by decide), hC.2 (26 + s) (by unfold nl_c; omega)]
  refine s_dSi (As := [_, _]) (m_lift (by unfold nv_kd; decide) _) (Nat.le_of_ble_eq_true rfl) lX10_173 kX10_lift sX10_lift dX10_plainMark_58 rfl rfl (Nat.le_of_ble_eq_true rfl) ?_
  refine ev_iadd dX10_plainMark_61 ?_
  refine ev_istore_n (i := 3) dX10_plainMark_62 rfl (Nat.le_of_ble_eq_true rfl) rfl ?_
  refine ev_iload_n (i := 2) dX10_plainMark_63 rfl rfl ?_
  refine ev_iconst (v := 3) dX10_plainMark_64 kc_3 ?_
  refine ev_icmp_ne (tgt := 76) dX10_plainMark_65 (by decide) (fun _ => ?_) (fun h => absurd h (by decide))
  refine ev_iload_n (i := 2) dX10_plainMark_76 rfl rfl ?_
  refine ev_iconst (v := 2) dX10_plainMark_77 kc_2 ?_
  refine ev_icmp_ne (tgt := 87) dX10_plainMark_78 (by decide) (fun _ => ?_) (fun h => absurd h (by decide))
  refine ev_iload_n (i := 3) dX10_plainMark_87 rfl rfl ?_
  exact s_retI dX10_plainMark_88 ⟨rfl, (by have q := t44.1; simp only [List.append_assoc, List.cons_append, List.nil_append] at q; exact q), f44⟩
theorem m_plain_2 {s : Nat} {bs : List Int32} (hC : nl_C N T S C (I 225)) (hs : s < N) (hk : C (6 + s) = 2) (hT : nm_T I bs) (hl : bs.length ≤ 6) : nw_cI l g 2 mX10_plainMark [.ref (nw_a g 219), .int (nI s)] I (fun r J => r = (nI s + nv_lift 2 (C (26 + s))) * 2 ∧ nm_T J (bs ++ [24, 21, 20]) ∧ nm_Tf I J) := by
  refine ⟨(Nat.le_of_ble_eq_true rfl), ?_⟩
  have hN2 := hC.hN
  refine ev_aload_n (i := 0) dX10_plainMark_0 rfl rfl ?_
  refine ev_getR fX10_25 dX10_plainMark_1 rfl rfl (by decide) ?_
  refine ev_bipush (v := 6) dX10_plainMark_4 kb_6 ?_
  refine ev_iload_n (i := 1) dX10_plainMark_6 rfl rfl ?_
  refine ev_iaddN (a := 6) (b := s) dX10_plainMark_7 ?_
  refine ev_ialdN (j := (6 + s)) dX10_plainMark_8 rfl (by omega) (by decide) ?_
  rw [hC.2 (6 + s) (by unfold nl_c; omega), hk]
  refine ev_istore_n (i := 2) dX10_plainMark_9 rfl (Nat.le_of_ble_eq_true rfl) rfl ?_
  refine ev_iload_n (i := 2) dX10_plainMark_10 rfl rfl ?_
  refine ev_iconst (v := 3) dX10_plainMark_11 kc_3 ?_
  refine ev_icmp_ne (tgt := 24) dX10_plainMark_12 (by decide) (fun _ => ?_) (fun h => absurd h (by decide))
  refine ev_iload_n (i := 2) dX10_plainMark_24 rfl rfl ?_
  refine ev_iconst (v := 2) dX10_plainMark_25 kc_2 ?_
  refine ev_icmp_ne (tgt := 35) dX10_plainMark_26 (by decide) (fun h => absurd h (by decide)) (fun _ => ?_)
  refine ev_aload_n (i := 0) dX10_plainMark_29 rfl rfl ?_
  refine ev_bipush (v := 24) dX10_plainMark_30 kb_24 ?_
  refine s_callVv (As := [_]) (m_leaves hT (by first | omega | (simp only [List.length_append, List.length_cons, List.length_nil]; omega)) _) (Nat.le_of_ble_eq_true rfl) lX10_280 kX10_leaves vX10_leaves dX10_plainMark_32 rfl rfl rfl (by decide) rfl (Nat.le_of_ble_eq_true rfl) (fun J32 t32 => ?_)
  have f32 := t32.2
  refine ev_aload_n (i := 0) dX10_plainMark_35 rfl rfl ?_
  refine ev_bipush (v := 21) dX10_plainMark_36 kb_21 ?_
  refine s_callVv (As := [_]) (m_leaves t32.1 (by first | omega | (simp only [List.length_append, List.length_cons, List.length_nil]; omega)) _) (Nat.le_of_ble_eq_true rfl) lX10_280 kX10_leaves vX10_leaves dX10_plainMark_38 rfl rfl rfl (by decide) rfl (Nat.le_of_ble_eq_true rfl) (fun J38 t38 => ?_)
  have f38 := f32.trans t38.2
  refine ev_aload_n (i := 0) dX10_plainMark_41 rfl rfl ?_
  refine ev_bipush (v := 20) dX10_plainMark_42 kb_20 ?_
  refine s_callVv (As := [_]) (m_leaves t38.1 (by first | omega | (simp only [List.length_append, List.length_cons, List.length_nil]; omega)) _) (Nat.le_of_ble_eq_true rfl) lX10_280 kX10_leaves vX10_leaves dX10_plainMark_44 rfl rfl rfl (by decide) rfl (Nat.le_of_ble_eq_true rfl) (fun J44 t44 => ?_)
  have f44 := f38.trans t44.2
  refine ev_iload_n (i := 1) dX10_plainMark_47 rfl rfl ?_
  refine ev_iload_n (i := 2) dX10_plainMark_48 rfl rfl ?_
  refine ev_aload_n (i := 0) dX10_plainMark_49 rfl rfl ?_
  refine ev_getR fX10_25 dX10_plainMark_50 rfl rfl (by decide) ?_
  refine ev_bipush (v := 26) dX10_plainMark_53 kb_26 ?_
  refine ev_iload_n (i := 1) dX10_plainMark_55 rfl rfl ?_
  refine ev_iaddN (a := 26) (b := s) dX10_plainMark_56 ?_
  refine ev_ialdN (j := (26 + s)) dX10_plainMark_57 rfl (by omega) (by decide) ?_
  rw [f44.2 225 (by decide) (by decide), hC.2 (26 + s) (by unfold nl_c; omega)]
  refine s_dSi (As := [_, _]) (m_lift (by unfold nv_kd; decide) _) (Nat.le_of_ble_eq_true rfl) lX10_173 kX10_lift sX10_lift dX10_plainMark_58 rfl rfl (Nat.le_of_ble_eq_true rfl) ?_
  refine ev_iadd dX10_plainMark_61 ?_
  refine ev_istore_n (i := 3) dX10_plainMark_62 rfl (Nat.le_of_ble_eq_true rfl) rfl ?_
  refine ev_iload_n (i := 2) dX10_plainMark_63 rfl rfl ?_
  refine ev_iconst (v := 3) dX10_plainMark_64 kc_3 ?_
  refine ev_icmp_ne (tgt := 76) dX10_plainMark_65 (by decide) (fun _ => ?_) (fun h => absurd h (by decide))
  refine ev_iload_n (i := 2) dX10_plainMark_76 rfl rfl ?_
  refine ev_iconst (v := 2) dX10_plainMark_77 kc_2 ?_
  refine ev_icmp_ne (tgt := 87) dX10_plainMark_78 (by decide) (fun h => absurd h (by decide)) (fun _ => ?_)
  refine ev_iconst (v := 2) dX10_plainMark_81 kc_2 ?_
  refine ev_iload_n (i := 3) dX10_plainMark_82 rfl rfl ?_
  refine ev_imul dX10_plainMark_83 ?_
  refine ev_goto (tgt := 88) dX10_plainMark_84 (by decide) ?_
  exact s_retI dX10_plainMark_88 ⟨Int32.mul_comm _ _, (by have q := t44.1; simp only [List.append_assoc, List.cons_append, List.nil_append] at q; exact q), f44⟩
theorem m_plain_3 {s : Nat} {bs : List Int32} (hC : nl_C N T S C (I 225)) (hs : s < N) (hk : C (6 + s) = 3) (hT : nm_T I bs) (hl : bs.length ≤ 6) : nw_cI l g 2 mX10_plainMark [.ref (nw_a g 219), .int (nI s)] I (fun r J => r = nI s + nv_lift 3 (C (26 + s)) - 1000 ∧ nm_T J (bs ++ [22, 21, 20]) ∧ nm_Tf I J) := by
  refine ⟨(Nat.le_of_ble_eq_true rfl), ?_⟩
  have hN2 := hC.hN
  refine ev_aload_n (i := 0) dX10_plainMark_0 rfl rfl ?_
  refine ev_getR fX10_25 dX10_plainMark_1 rfl rfl (by decide) ?_
  refine ev_bipush (v := 6) dX10_plainMark_4 kb_6 ?_
  refine ev_iload_n (i := 1) dX10_plainMark_6 rfl rfl ?_
  refine ev_iaddN (a := 6) (b := s) dX10_plainMark_7 ?_
  refine ev_ialdN (j := (6 + s)) dX10_plainMark_8 rfl (by omega) (by decide) ?_
  rw [hC.2 (6 + s) (by unfold nl_c; omega), hk]
  refine ev_istore_n (i := 2) dX10_plainMark_9 rfl (Nat.le_of_ble_eq_true rfl) rfl ?_
  refine ev_iload_n (i := 2) dX10_plainMark_10 rfl rfl ?_
  refine ev_iconst (v := 3) dX10_plainMark_11 kc_3 ?_
  refine ev_icmp_ne (tgt := 24) dX10_plainMark_12 (by decide) (fun h => absurd h (by decide)) (fun _ => ?_)
  refine ev_aload_n (i := 0) dX10_plainMark_15 rfl rfl ?_
  refine ev_bipush (v := 22) dX10_plainMark_16 kb_22 ?_
  refine s_callVv (As := [_]) (m_leaves hT (by first | omega | (simp only [List.length_append, List.length_cons, List.length_nil]; omega)) _) (Nat.le_of_ble_eq_true rfl) lX10_280 kX10_leaves vX10_leaves dX10_plainMark_18 rfl rfl rfl (by decide) rfl (Nat.le_of_ble_eq_true rfl) (fun J18 t18 => ?_)
  have f18 := t18.2
  refine ev_goto (tgt := 35) dX10_plainMark_21 (by decide) ?_
  refine ev_aload_n (i := 0) dX10_plainMark_35 rfl rfl ?_
  refine ev_bipush (v := 21) dX10_plainMark_36 kb_21 ?_
  refine s_callVv (As := [_]) (m_leaves t18.1 (by first | omega | (simp only [List.length_append, List.length_cons, List.length_nil]; omega)) _) (Nat.le_of_ble_eq_true rfl) lX10_280 kX10_leaves vX10_leaves dX10_plainMark_38 rfl rfl rfl (by decide) rfl (Nat.le_of_ble_eq_true rfl) (fun J38 t38 => ?_)
  have f38 := f18.trans t38.2
  refine ev_aload_n (i := 0) dX10_plainMark_41 rfl rfl ?_
  refine ev_bipush (v := 20) dX10_plainMark_42 kb_20 ?_
  refine s_callVv (As := [_]) (m_leaves t38.1 (by first | omega | (simp only [List.length_append, List.length_cons, List.length_nil]; omega)) _) (Nat.le_of_ble_eq_true rfl) lX10_280 kX10_leaves vX10_leaves dX10_plainMark_44 rfl rfl rfl (by decide) rfl (Nat.le_of_ble_eq_true rfl) (fun J44 t44 => ?_)
  have f44 := f38.trans t44.2
  refine ev_iload_n (i := 1) dX10_plainMark_47 rfl rfl ?_
  refine ev_iload_n (i := 2) dX10_plainMark_48 rfl rfl ?_
  refine ev_aload_n (i := 0) dX10_plainMark_49 rfl rfl ?_
  refine ev_getR fX10_25 dX10_plainMark_50 rfl rfl (by decide) ?_
  refine ev_bipush (v := 26) dX10_plainMark_53 kb_26 ?_
  refine ev_iload_n (i := 1) dX10_plainMark_55 rfl rfl ?_
  refine ev_iaddN (a := 26) (b := s) dX10_plainMark_56 ?_
  refine ev_ialdN (j := (26 + s)) dX10_plainMark_57 rfl (by omega) (by decide) ?_
  rw [f44.2 225 (by decide) (by decide), hC.2 (26 + s) (by unfold nl_c; omega)]
  refine s_dSi (As := [_, _]) (m_lift (by unfold nv_kd; decide) _) (Nat.le_of_ble_eq_true rfl) lX10_173 kX10_lift sX10_lift dX10_plainMark_58 rfl rfl (Nat.le_of_ble_eq_true rfl) ?_
  refine ev_iadd dX10_plainMark_61 ?_
  refine ev_istore_n (i := 3) dX10_plainMark_62 rfl (Nat.le_of_ble_eq_true rfl) rfl ?_
  refine ev_iload_n (i := 2) dX10_plainMark_63 rfl rfl ?_
  refine ev_iconst (v := 3) dX10_plainMark_64 kc_3 ?_
  refine ev_icmp_ne (tgt := 76) dX10_plainMark_65 (by decide) (fun h => absurd h (by decide)) (fun _ => ?_)
  refine ev_iload_n (i := 3) dX10_plainMark_68 rfl rfl ?_
  refine ev_sipush (v := 1000) dX10_plainMark_69 ks_1000 ?_
  refine ev_isub dX10_plainMark_72 ?_
  refine ev_goto (tgt := 88) dX10_plainMark_73 (by decide) ?_
  exact s_retI dX10_plainMark_88 ⟨rfl, (by have q := t44.1; simp only [List.append_assoc, List.cons_append, List.nil_append] at q; exact q), f44⟩
theorem m_size_1 {s : Nat} {bs : List Int32} (hC : nl_C N T S C (I 225)) (hs : s < N) (hk : C (6 + s) = 1) (hT : nm_T I bs) (hl : bs.length ≤ 2) : nw_cI l g 3 mX10_sizeOf [.ref (nw_a g 219), .int (nI s)] I (fun r J => r = (C (26 + s)) + (nI s + nv_lift 1 (C (26 + s))) ∧ nm_T J (bs ++ [11, 10, 21, 20]) ∧ nm_Tf I J) := by
  refine ⟨(Nat.le_of_ble_eq_true rfl), ?_⟩
  have hN2 := hC.hN
  refine ev_aload_n (i := 0) dX10_sizeOf_0 rfl rfl ?_
  refine ev_getR fX10_25 dX10_sizeOf_1 rfl rfl (by decide) ?_
  refine ev_bipush (v := 6) dX10_sizeOf_4 kb_6 ?_
  refine ev_iload_n (i := 1) dX10_sizeOf_6 rfl rfl ?_
  refine ev_iaddN (a := 6) (b := s) dX10_sizeOf_7 ?_
  refine ev_ialdN (j := (6 + s)) dX10_sizeOf_8 rfl (by omega) (by decide) ?_
  rw [hC.2 (6 + s) (by unfold nl_c; omega), hk]
  refine ev_istore_n (i := 2) dX10_sizeOf_9 rfl (Nat.le_of_ble_eq_true rfl) rfl ?_
  refine ev_aload_n (i := 0) dX10_sizeOf_10 rfl rfl ?_
  refine ev_getR fX10_25 dX10_sizeOf_11 rfl rfl (by decide) ?_
  refine ev_bipush (v := 26) dX10_sizeOf_14 kb_26 ?_
  refine ev_iload_n (i := 1) dX10_sizeOf_16 rfl rfl ?_
  refine ev_iaddN (a := 26) (b := s) dX10_sizeOf_17 ?_
  refine ev_ialdN (j := (26 + s)) dX10_sizeOf_18 rfl (by omega) (by decide) ?_
  rw [hC.2 (26 + s) (by unfold nl_c; omega)]
  refine ev_istore_n (i := 3) dX10_sizeOf_19 rfl (Nat.le_of_ble_eq_true rfl) rfl ?_
  refine ev_iload_n (i := 2) dX10_sizeOf_20 rfl rfl ?_
  refine ev_iconst (v := 4) dX10_sizeOf_21 kc_4 ?_
  refine ev_icmp_lt (tgt := 67) dX10_sizeOf_22 (by decide) (fun _ => ?_) (fun h => absurd (by decide) h)
  refine ev_iload_n (i := 2) dX10_sizeOf_67 rfl rfl ?_
  refine ev_iconst (v := 2) dX10_sizeOf_68 kc_2 ?_
  refine ev_icmp_ne (tgt := 78) dX10_sizeOf_69 (by decide) (fun _ => ?_) (fun h => absurd h (by decide))
  refine ev_aload_n (i := 0) dX10_sizeOf_78 rfl rfl ?_
  refine ev_bipush (v := 11) dX10_sizeOf_79 kb_11 ?_
  refine s_callVv (As := [_]) (m_leaves hT (by first | omega | (simp only [List.length_append, List.length_cons, List.length_nil]; omega)) _) (Nat.le_of_ble_eq_true rfl) lX10_280 kX10_leaves vX10_leaves dX10_sizeOf_81 rfl rfl rfl (by decide) rfl (Nat.le_of_ble_eq_true rfl) (fun J81 t81 => ?_)
  have f81 := t81.2
  refine ev_aload_n (i := 0) dX10_sizeOf_84 rfl rfl ?_
  refine ev_bipush (v := 10) dX10_sizeOf_85 kb_10 ?_
  refine s_callVv (As := [_]) (m_leaves t81.1 (by first | omega | (simp only [List.length_append, List.length_cons, List.length_nil]; omega)) _) (Nat.le_of_ble_eq_true rfl) lX10_280 kX10_leaves vX10_leaves dX10_sizeOf_87 rfl rfl rfl (by decide) rfl (Nat.le_of_ble_eq_true rfl) (fun J87 t87 => ?_)
  have f87 := f81.trans t87.2
  refine ev_iload_n (i := 3) dX10_sizeOf_90 rfl rfl ?_
  refine ev_aload_n (i := 0) dX10_sizeOf_91 rfl rfl ?_
  refine ev_iload_n (i := 1) dX10_sizeOf_92 rfl rfl ?_
  refine s_callVi (As := [_]) (m_plain_1 (by rw [f87.2 225 (by decide) (by decide)]; exact hC) hs hk t87.1 (by simp only [List.length_append, List.length_cons, List.length_nil]; omega)) (Nat.le_of_ble_eq_true rfl) lX10_283 kX10_plainMark vX10_plainMark dX10_sizeOf_93 rfl rfl rfl (by decide) rfl (Nat.le_of_ble_eq_true rfl) (fun r J h => ?_)
  refine ev_iadd dX10_sizeOf_96 ?_
  refine ev_istore dX10_sizeOf_97 (Nat.le_of_ble_eq_true rfl) rfl ?_
  refine ev_iload_n (i := 2) dX10_sizeOf_99 rfl rfl ?_
  refine ev_iconst (v := 2) dX10_sizeOf_100 kc_2 ?_
  refine ev_icmp_ne (tgt := 110) dX10_sizeOf_101 (by decide) (fun _ => ?_) (fun h => absurd h (by decide))
  refine ev_iload dX10_sizeOf_110 rfl ?_
  exact s_retI dX10_sizeOf_112 ⟨by rw [h.1], (by have q := h.2.1; simp only [List.append_assoc, List.cons_append, List.nil_append] at q; exact q), f87.trans h.2.2⟩
theorem m_size_2 {s : Nat} {bs : List Int32} (hC : nl_C N T S C (I 225)) (hs : s < N) (hk : C (6 + s) = 2) (hT : nm_T I bs) (hl : bs.length ≤ 2) : nw_cI l g 3 mX10_sizeOf [.ref (nw_a g 219), .int (nI s)] I (fun r J => r = 0 - ((C (26 + s)) + ((nI s + nv_lift 2 (C (26 + s))) * 2)) ∧ nm_T J (bs ++ [12, 11, 10, 24, 21, 20]) ∧ nm_Tf I J) := by
  refine ⟨(Nat.le_of_ble_eq_true rfl), ?_⟩
  have hN2 := hC.hN
  refine ev_aload_n (i := 0) dX10_sizeOf_0 rfl rfl ?_
  refine ev_getR fX10_25 dX10_sizeOf_1 rfl rfl (by decide) ?_
  refine ev_bipush (v := 6) dX10_sizeOf_4 kb_6 ?_
  refine ev_iload_n (i := 1) dX10_sizeOf_6 rfl rfl ?_
  refine ev_iaddN (a := 6) (b := s) dX10_sizeOf_7 ?_
  refine ev_ialdN (j := (6 + s)) dX10_sizeOf_8 rfl (by omega) (by decide) ?_
  rw [hC.2 (6 + s) (by unfold nl_c; omega), hk]
  refine ev_istore_n (i := 2) dX10_sizeOf_9 rfl (Nat.le_of_ble_eq_true rfl) rfl ?_
  refine ev_aload_n (i := 0) dX10_sizeOf_10 rfl rfl ?_
  refine ev_getR fX10_25 dX10_sizeOf_11 rfl rfl (by decide) ?_
  refine ev_bipush (v := 26) dX10_sizeOf_14 kb_26 ?_
  refine ev_iload_n (i := 1) dX10_sizeOf_16 rfl rfl ?_
  refine ev_iaddN (a := 26) (b := s) dX10_sizeOf_17 ?_
  refine ev_ialdN (j := (26 + s)) dX10_sizeOf_18 rfl (by omega) (by decide) ?_
  rw [hC.2 (26 + s) (by unfold nl_c; omega)]
  refine ev_istore_n (i := 3) dX10_sizeOf_19 rfl (Nat.le_of_ble_eq_true rfl) rfl ?_
  refine ev_iload_n (i := 2) dX10_sizeOf_20 rfl rfl ?_
  refine ev_iconst (v := 4) dX10_sizeOf_21 kc_4 ?_
  refine ev_icmp_lt (tgt := 67) dX10_sizeOf_22 (by decide) (fun _ => ?_) (fun h => absurd (by decide) h)
  refine ev_iload_n (i := 2) dX10_sizeOf_67 rfl rfl ?_
  refine ev_iconst (v := 2) dX10_sizeOf_68 kc_2 ?_
  refine ev_icmp_ne (tgt := 78) dX10_sizeOf_69 (by decide) (fun h => absurd h (by decide)) (fun _ => ?_)
  refine ev_aload_n (i := 0) dX10_sizeOf_72 rfl rfl ?_
  refine ev_bipush (v := 12) dX10_sizeOf_73 kb_12 ?_
  refine s_callVv (As := [_]) (m_leaves hT (by first | omega | (simp only [List.length_append, List.length_cons, List.length_nil]; omega)) _) (Nat.le_of_ble_eq_true rfl) lX10_280 kX10_leaves vX10_leaves dX10_sizeOf_75 rfl rfl rfl (by decide) rfl (Nat.le_of_ble_eq_true rfl) (fun J75 t75 => ?_)
  have f75 := t75.2
  refine ev_aload_n (i := 0) dX10_sizeOf_78 rfl rfl ?_
  refine ev_bipush (v := 11) dX10_sizeOf_79 kb_11 ?_
  refine s_callVv (As := [_]) (m_leaves t75.1 (by first | omega | (simp only [List.length_append, List.length_cons, List.length_nil]; omega)) _) (Nat.le_of_ble_eq_true rfl) lX10_280 kX10_leaves vX10_leaves dX10_sizeOf_81 rfl rfl rfl (by decide) rfl (Nat.le_of_ble_eq_true rfl) (fun J81 t81 => ?_)
  have f81 := f75.trans t81.2
  refine ev_aload_n (i := 0) dX10_sizeOf_84 rfl rfl ?_
  refine ev_bipush (v := 10) dX10_sizeOf_85 kb_10 ?_
  refine s_callVv (As := [_]) (m_leaves t81.1 (by first | omega | (simp only [List.length_append, List.length_cons, List.length_nil]; omega)) _) (Nat.le_of_ble_eq_true rfl) lX10_280 kX10_leaves vX10_leaves dX10_sizeOf_87 rfl rfl rfl (by decide) rfl (Nat.le_of_ble_eq_true rfl) (fun J87 t87 => ?_)
  have f87 := f81.trans t87.2
  refine ev_iload_n (i := 3) dX10_sizeOf_90 rfl rfl ?_
  refine ev_aload_n (i := 0) dX10_sizeOf_91 rfl rfl ?_
  refine ev_iload_n (i := 1) dX10_sizeOf_92 rfl rfl ?_
  refine s_callVi (As := [_]) (m_plain_2 (by rw [f87.2 225 (by decide) (by decide)]; exact hC) hs hk t87.1 (by simp only [List.length_append, List.length_cons, List.length_nil]; omega)) (Nat.le_of_ble_eq_true rfl) lX10_283 kX10_plainMark vX10_plainMark dX10_sizeOf_93 rfl rfl rfl (by decide) rfl (Nat.le_of_ble_eq_true rfl) (fun r J h => ?_)
  refine ev_iadd dX10_sizeOf_96 ?_
  refine ev_istore dX10_sizeOf_97 (Nat.le_of_ble_eq_true rfl) rfl ?_
  refine ev_iload_n (i := 2) dX10_sizeOf_99 rfl rfl ?_
  refine ev_iconst (v := 2) dX10_sizeOf_100 kc_2 ?_
  refine ev_icmp_ne (tgt := 110) dX10_sizeOf_101 (by decide) (fun h => absurd h (by decide)) (fun _ => ?_)
  refine ev_iload dX10_sizeOf_104 rfl ?_
  refine ev_ineg dX10_sizeOf_106 ?_
  refine ev_goto (tgt := 112) dX10_sizeOf_107 (by decide) ?_
  exact s_retI dX10_sizeOf_112 ⟨by rw [h.1]; rw [Int32.zero_sub], (by have q := h.2.1; simp only [List.append_assoc, List.cons_append, List.nil_append] at q; exact q), f87.trans h.2.2⟩
theorem m_size_3 {s : Nat} {bs : List Int32} (hC : nl_C N T S C (I 225)) (hs : s < N) (hk : C (6 + s) = 3) (hT : nm_T I bs) (hl : bs.length ≤ 2) : nw_cI l g 3 mX10_sizeOf [.ref (nw_a g 219), .int (nI s)] I (fun r J => r = (C (26 + s)) + (nI s + nv_lift 3 (C (26 + s)) - 1000) ∧ nm_T J (bs ++ [11, 10, 22, 21, 20]) ∧ nm_Tf I J) := by
  refine ⟨(Nat.le_of_ble_eq_true rfl), ?_⟩
  have hN2 := hC.hN
  refine ev_aload_n (i := 0) dX10_sizeOf_0 rfl rfl ?_
  refine ev_getR fX10_25 dX10_sizeOf_1 rfl rfl (by decide) ?_
  refine ev_bipush (v := 6) dX10_sizeOf_4 kb_6 ?_
  refine ev_iload_n (i := 1) dX10_sizeOf_6 rfl rfl ?_
  refine ev_iaddN (a := 6) (b := s) dX10_sizeOf_7 ?_
  refine ev_ialdN (j := (6 + s)) dX10_sizeOf_8 rfl (by omega) (by decide) ?_
  rw [hC.2 (6 + s) (by unfold nl_c; omega), hk]
  refine ev_istore_n (i := 2) dX10_sizeOf_9 rfl (Nat.le_of_ble_eq_true rfl) rfl ?_
  refine ev_aload_n (i := 0) dX10_sizeOf_10 rfl rfl ?_
  refine ev_getR fX10_25 dX10_sizeOf_11 rfl rfl (by decide) ?_
  refine ev_bipush (v := 26) dX10_sizeOf_14 kb_26 ?_
  refine ev_iload_n (i := 1) dX10_sizeOf_16 rfl rfl ?_
  refine ev_iaddN (a := 26) (b := s) dX10_sizeOf_17 ?_
  refine ev_ialdN (j := (26 + s)) dX10_sizeOf_18 rfl (by omega) (by decide) ?_
  rw [hC.2 (26 + s) (by unfold nl_c; omega)]
  refine ev_istore_n (i := 3) dX10_sizeOf_19 rfl (Nat.le_of_ble_eq_true rfl) rfl ?_
  refine ev_iload_n (i := 2) dX10_sizeOf_20 rfl rfl ?_
  refine ev_iconst (v := 4) dX10_sizeOf_21 kc_4 ?_
  refine ev_icmp_lt (tgt := 67) dX10_sizeOf_22 (by decide) (fun _ => ?_) (fun h => absurd (by decide) h)
  refine ev_iload_n (i := 2) dX10_sizeOf_67 rfl rfl ?_
  refine ev_iconst (v := 2) dX10_sizeOf_68 kc_2 ?_
  refine ev_icmp_ne (tgt := 78) dX10_sizeOf_69 (by decide) (fun _ => ?_) (fun h => absurd h (by decide))
  refine ev_aload_n (i := 0) dX10_sizeOf_78 rfl rfl ?_
  refine ev_bipush (v := 11) dX10_sizeOf_79 kb_11 ?_
  refine s_callVv (As := [_]) (m_leaves hT (by first | omega | (simp only [List.length_append, List.length_cons, List.length_nil]; omega)) _) (Nat.le_of_ble_eq_true rfl) lX10_280 kX10_leaves vX10_leaves dX10_sizeOf_81 rfl rfl rfl (by decide) rfl (Nat.le_of_ble_eq_true rfl) (fun J81 t81 => ?_)
  have f81 := t81.2
  refine ev_aload_n (i := 0) dX10_sizeOf_84 rfl rfl ?_
  refine ev_bipush (v := 10) dX10_sizeOf_85 kb_10 ?_
  refine s_callVv (As := [_]) (m_leaves t81.1 (by first | omega | (simp only [List.length_append, List.length_cons, List.length_nil]; omega)) _) (Nat.le_of_ble_eq_true rfl) lX10_280 kX10_leaves vX10_leaves dX10_sizeOf_87 rfl rfl rfl (by decide) rfl (Nat.le_of_ble_eq_true rfl) (fun J87 t87 => ?_)
  have f87 := f81.trans t87.2
  refine ev_iload_n (i := 3) dX10_sizeOf_90 rfl rfl ?_
  refine ev_aload_n (i := 0) dX10_sizeOf_91 rfl rfl ?_
  refine ev_iload_n (i := 1) dX10_sizeOf_92 rfl rfl ?_
  refine s_callVi (As := [_]) (m_plain_3 (by rw [f87.2 225 (by decide) (by decide)]; exact hC) hs hk t87.1 (by simp only [List.length_append, List.length_cons, List.length_nil]; omega)) (Nat.le_of_ble_eq_true rfl) lX10_283 kX10_plainMark vX10_plainMark dX10_sizeOf_93 rfl rfl rfl (by decide) rfl (Nat.le_of_ble_eq_true rfl) (fun r J h => ?_)
  refine ev_iadd dX10_sizeOf_96 ?_
  refine ev_istore dX10_sizeOf_97 (Nat.le_of_ble_eq_true rfl) rfl ?_
  refine ev_iload_n (i := 2) dX10_sizeOf_99 rfl rfl ?_
  refine ev_iconst (v := 2) dX10_sizeOf_100 kc_2 ?_
  refine ev_icmp_ne (tgt := 110) dX10_sizeOf_101 (by decide) (fun _ => ?_) (fun h => absurd h (by decide))
  refine ev_iload dX10_sizeOf_110 rfl ?_
  exact s_retI dX10_sizeOf_112 ⟨by rw [h.1], (by have q := h.2.1; simp only [List.append_assoc, List.cons_append, List.nil_append] at q; exact q), f87.trans h.2.2⟩
theorem m_size_4 {s : Nat} {bs : List Int32} (hC : nl_C N T S C (I 225)) (hs : s < N) (hk : C (6 + s) = 4) (hT : nm_T I bs) (hl : bs.length ≤ 6) : nw_cI l g 3 mX10_sizeOf [.ref (nw_a g 219), .int (nI s)] I (fun r J => r = (C (26 + s)) - 100 ∧ nm_T J (bs ++ [13, 10]) ∧ nm_Tf I J) := by
  refine ⟨(Nat.le_of_ble_eq_true rfl), ?_⟩
  have hN2 := hC.hN
  refine ev_aload_n (i := 0) dX10_sizeOf_0 rfl rfl ?_
  refine ev_getR fX10_25 dX10_sizeOf_1 rfl rfl (by decide) ?_
  refine ev_bipush (v := 6) dX10_sizeOf_4 kb_6 ?_
  refine ev_iload_n (i := 1) dX10_sizeOf_6 rfl rfl ?_
  refine ev_iaddN (a := 6) (b := s) dX10_sizeOf_7 ?_
  refine ev_ialdN (j := (6 + s)) dX10_sizeOf_8 rfl (by omega) (by decide) ?_
  rw [hC.2 (6 + s) (by unfold nl_c; omega), hk]
  refine ev_istore_n (i := 2) dX10_sizeOf_9 rfl (Nat.le_of_ble_eq_true rfl) rfl ?_
  refine ev_aload_n (i := 0) dX10_sizeOf_10 rfl rfl ?_
  refine ev_getR fX10_25 dX10_sizeOf_11 rfl rfl (by decide) ?_
  refine ev_bipush (v := 26) dX10_sizeOf_14 kb_26 ?_
  refine ev_iload_n (i := 1) dX10_sizeOf_16 rfl rfl ?_
  refine ev_iaddN (a := 26) (b := s) dX10_sizeOf_17 ?_
  refine ev_ialdN (j := (26 + s)) dX10_sizeOf_18 rfl (by omega) (by decide) ?_
  rw [hC.2 (26 + s) (by unfold nl_c; omega)]
  refine ev_istore_n (i := 3) dX10_sizeOf_19 rfl (Nat.le_of_ble_eq_true rfl) rfl ?_
  refine ev_iload_n (i := 2) dX10_sizeOf_20 rfl rfl ?_
  refine ev_iconst (v := 4) dX10_sizeOf_21 kc_4 ?_
  refine ev_icmp_lt (tgt := 67) dX10_sizeOf_22 (by decide) (fun h => absurd h (by decide)) (fun _ => ?_)
  refine ev_iload_n (i := 2) dX10_sizeOf_25 rfl rfl ?_
  refine ev_iconst (v := 5) dX10_sizeOf_26 kc_5 ?_
  refine ev_icmp_ne (tgt := 36) dX10_sizeOf_27 (by decide) (fun _ => ?_) (fun h => absurd h (by decide))
  refine ev_aload_n (i := 0) dX10_sizeOf_36 rfl rfl ?_
  refine ev_bipush (v := 13) dX10_sizeOf_37 kb_13 ?_
  refine s_callVv (As := [_]) (m_leaves hT (by first | omega | (simp only [List.length_append, List.length_cons, List.length_nil]; omega)) _) (Nat.le_of_ble_eq_true rfl) lX10_280 kX10_leaves vX10_leaves dX10_sizeOf_39 rfl rfl rfl (by decide) rfl (Nat.le_of_ble_eq_true rfl) (fun J39 t39 => ?_)
  have f39 := t39.2
  refine ev_aload_n (i := 0) dX10_sizeOf_42 rfl rfl ?_
  refine ev_bipush (v := 10) dX10_sizeOf_43 kb_10 ?_
  refine s_callVv (As := [_]) (m_leaves t39.1 (by first | omega | (simp only [List.length_append, List.length_cons, List.length_nil]; omega)) _) (Nat.le_of_ble_eq_true rfl) lX10_280 kX10_leaves vX10_leaves dX10_sizeOf_45 rfl rfl rfl (by decide) rfl (Nat.le_of_ble_eq_true rfl) (fun J45 t45 => ?_)
  have f45 := f39.trans t45.2
  refine ev_iload_n (i := 2) dX10_sizeOf_48 rfl rfl ?_
  refine ev_iconst (v := 5) dX10_sizeOf_49 kc_5 ?_
  refine ev_icmp_ne (tgt := 62) dX10_sizeOf_50 (by decide) (fun _ => ?_) (fun h => absurd h (by decide))
  refine ev_iload_n (i := 3) dX10_sizeOf_62 rfl rfl ?_
  refine ev_bipush (v := 100) dX10_sizeOf_63 kb_100 ?_
  refine ev_isub dX10_sizeOf_65 ?_
  exact s_retI dX10_sizeOf_66 ⟨rfl, (by have q := t45.1; simp only [List.append_assoc, List.cons_append, List.nil_append] at q; exact q), f45⟩
theorem m_size_5 {s : Nat} {bs : List Int32} (hC : nl_C N T S C (I 225)) (hs : s < N) (hk : C (6 + s) = 5) (hT : nm_T I bs) (hl : bs.length ≤ 6) : nw_cI l g 3 mX10_sizeOf [.ref (nw_a g 219), .int (nI s)] I (fun r J => r = ((C (26 + s)) - 100) * 2 ∧ nm_T J (bs ++ [14, 13, 10]) ∧ nm_Tf I J) := by
  refine ⟨(Nat.le_of_ble_eq_true rfl), ?_⟩
  have hN2 := hC.hN
  refine ev_aload_n (i := 0) dX10_sizeOf_0 rfl rfl ?_
  refine ev_getR fX10_25 dX10_sizeOf_1 rfl rfl (by decide) ?_
  refine ev_bipush (v := 6) dX10_sizeOf_4 kb_6 ?_
  refine ev_iload_n (i := 1) dX10_sizeOf_6 rfl rfl ?_
  refine ev_iaddN (a := 6) (b := s) dX10_sizeOf_7 ?_
  refine ev_ialdN (j := (6 + s)) dX10_sizeOf_8 rfl (by omega) (by decide) ?_
  rw [hC.2 (6 + s) (by unfold nl_c; omega), hk]
  refine ev_istore_n (i := 2) dX10_sizeOf_9 rfl (Nat.le_of_ble_eq_true rfl) rfl ?_
  refine ev_aload_n (i := 0) dX10_sizeOf_10 rfl rfl ?_
  refine ev_getR fX10_25 dX10_sizeOf_11 rfl rfl (by decide) ?_
  refine ev_bipush (v := 26) dX10_sizeOf_14 kb_26 ?_
  refine ev_iload_n (i := 1) dX10_sizeOf_16 rfl rfl ?_
  refine ev_iaddN (a := 26) (b := s) dX10_sizeOf_17 ?_
  refine ev_ialdN (j := (26 + s)) dX10_sizeOf_18 rfl (by omega) (by decide) ?_
  rw [hC.2 (26 + s) (by unfold nl_c; omega)]
  refine ev_istore_n (i := 3) dX10_sizeOf_19 rfl (Nat.le_of_ble_eq_true rfl) rfl ?_
  refine ev_iload_n (i := 2) dX10_sizeOf_20 rfl rfl ?_
  refine ev_iconst (v := 4) dX10_sizeOf_21 kc_4 ?_
  refine ev_icmp_lt (tgt := 67) dX10_sizeOf_22 (by decide) (fun h => absurd h (by decide)) (fun _ => ?_)
  refine ev_iload_n (i := 2) dX10_sizeOf_25 rfl rfl ?_
  refine ev_iconst (v := 5) dX10_sizeOf_26 kc_5 ?_
  refine ev_icmp_ne (tgt := 36) dX10_sizeOf_27 (by decide) (fun h => absurd h (by decide)) (fun _ => ?_)
  refine ev_aload_n (i := 0) dX10_sizeOf_30 rfl rfl ?_
  refine ev_bipush (v := 14) dX10_sizeOf_31 kb_14 ?_
  refine s_callVv (As := [_]) (m_leaves hT (by first | omega | (simp only [List.length_append, List.length_cons, List.length_nil]; omega)) _) (Nat.le_of_ble_eq_true rfl) lX10_280 kX10_leaves vX10_leaves dX10_sizeOf_33 rfl rfl rfl (by decide) rfl (Nat.le_of_ble_eq_true rfl) (fun J33 t33 => ?_)
  have f33 := t33.2
  refine ev_aload_n (i := 0) dX10_sizeOf_36 rfl rfl ?_
  refine ev_bipush (v := 13) dX10_sizeOf_37 kb_13 ?_
  refine s_callVv (As := [_]) (m_leaves t33.1 (by first | omega | (simp only [List.length_append, List.length_cons, List.length_nil]; omega)) _) (Nat.le_of_ble_eq_true rfl) lX10_280 kX10_leaves vX10_leaves dX10_sizeOf_39 rfl rfl rfl (by decide) rfl (Nat.le_of_ble_eq_true rfl) (fun J39 t39 => ?_)
  have f39 := f33.trans t39.2
  refine ev_aload_n (i := 0) dX10_sizeOf_42 rfl rfl ?_
  refine ev_bipush (v := 10) dX10_sizeOf_43 kb_10 ?_
  refine s_callVv (As := [_]) (m_leaves t39.1 (by first | omega | (simp only [List.length_append, List.length_cons, List.length_nil]; omega)) _) (Nat.le_of_ble_eq_true rfl) lX10_280 kX10_leaves vX10_leaves dX10_sizeOf_45 rfl rfl rfl (by decide) rfl (Nat.le_of_ble_eq_true rfl) (fun J45 t45 => ?_)
  have f45 := f39.trans t45.2
  refine ev_iload_n (i := 2) dX10_sizeOf_48 rfl rfl ?_
  refine ev_iconst (v := 5) dX10_sizeOf_49 kc_5 ?_
  refine ev_icmp_ne (tgt := 62) dX10_sizeOf_50 (by decide) (fun h => absurd h (by decide)) (fun _ => ?_)
  refine ev_iconst (v := 2) dX10_sizeOf_53 kc_2 ?_
  refine ev_iload_n (i := 3) dX10_sizeOf_54 rfl rfl ?_
  refine ev_bipush (v := 100) dX10_sizeOf_55 kb_100 ?_
  refine ev_isub dX10_sizeOf_57 ?_
  refine ev_imul dX10_sizeOf_58 ?_
  refine ev_goto (tgt := 66) dX10_sizeOf_59 (by decide) ?_
  exact s_retI dX10_sizeOf_66 ⟨Int32.mul_comm _ _, (by have q := t45.1; simp only [List.append_assoc, List.cons_append, List.nil_append] at q; exact q), f45⟩
theorem m_mark_1 {s : Nat} {bs : List Int32} (hC : nl_C N T S C (I 225)) (hs : s < N) (hk : C (6 + s) = 1) (hT : nm_T I bs) (hl : bs.length ≤ 6) : nw_cI l g 4 mX10_markOf [.ref (nw_a g 219), .int (nI s)] I (fun r J => r = nI s + nv_lift 1 (C (26 + s)) ∧ nm_T J (bs ++ [21, 20]) ∧ nm_Tf I J) := by
  refine ⟨(Nat.le_of_ble_eq_true rfl), ?_⟩
  have hN2 := hC.hN
  refine ev_aload_n (i := 0) dX10_markOf_0 rfl rfl ?_
  refine ev_getR fX10_25 dX10_markOf_1 rfl rfl (by decide) ?_
  refine ev_bipush (v := 6) dX10_markOf_4 kb_6 ?_
  refine ev_iload_n (i := 1) dX10_markOf_6 rfl rfl ?_
  refine ev_iaddN (a := 6) (b := s) dX10_markOf_7 ?_
  refine ev_ialdN (j := (6 + s)) dX10_markOf_8 rfl (by omega) (by decide) ?_
  rw [hC.2 (6 + s) (by unfold nl_c; omega), hk]
  refine ev_iconst (v := 4) dX10_markOf_9 kc_4 ?_
  refine ev_icmp_ge (tgt := 19) dX10_markOf_10 (by decide) (fun h => absurd h (by decide)) (fun _ => ?_)
  refine ev_aload_n (i := 0) dX10_markOf_13 rfl rfl ?_
  refine ev_iload_n (i := 1) dX10_markOf_14 rfl rfl ?_
  refine s_callVi (As := [_]) (m_plain_1 hC hs hk hT hl) (Nat.le_of_ble_eq_true rfl) lX10_283 kX10_plainMark vX10_plainMark dX10_markOf_15 rfl rfl rfl (by decide) rfl (Nat.le_of_ble_eq_true rfl) (fun r J h => ?_)
  exact s_retI dX10_markOf_18 h
theorem m_mark_2 {s : Nat} {bs : List Int32} (hC : nl_C N T S C (I 225)) (hs : s < N) (hk : C (6 + s) = 2) (hT : nm_T I bs) (hl : bs.length ≤ 6) : nw_cI l g 4 mX10_markOf [.ref (nw_a g 219), .int (nI s)] I (fun r J => r = (nI s + nv_lift 2 (C (26 + s))) * 2 ∧ nm_T J (bs ++ [24, 21, 20]) ∧ nm_Tf I J) := by
  refine ⟨(Nat.le_of_ble_eq_true rfl), ?_⟩
  have hN2 := hC.hN
  refine ev_aload_n (i := 0) dX10_markOf_0 rfl rfl ?_
  refine ev_getR fX10_25 dX10_markOf_1 rfl rfl (by decide) ?_
  refine ev_bipush (v := 6) dX10_markOf_4 kb_6 ?_
  refine ev_iload_n (i := 1) dX10_markOf_6 rfl rfl ?_
  refine ev_iaddN (a := 6) (b := s) dX10_markOf_7 ?_
  refine ev_ialdN (j := (6 + s)) dX10_markOf_8 rfl (by omega) (by decide) ?_
  rw [hC.2 (6 + s) (by unfold nl_c; omega), hk]
  refine ev_iconst (v := 4) dX10_markOf_9 kc_4 ?_
  refine ev_icmp_ge (tgt := 19) dX10_markOf_10 (by decide) (fun h => absurd h (by decide)) (fun _ => ?_)
  refine ev_aload_n (i := 0) dX10_markOf_13 rfl rfl ?_
  refine ev_iload_n (i := 1) dX10_markOf_14 rfl rfl ?_
  refine s_callVi (As := [_]) (m_plain_2 hC hs hk hT hl) (Nat.le_of_ble_eq_true rfl) lX10_283 kX10_plainMark vX10_plainMark dX10_markOf_15 rfl rfl rfl (by decide) rfl (Nat.le_of_ble_eq_true rfl) (fun r J h => ?_)
  exact s_retI dX10_markOf_18 h
theorem m_mark_3 {s : Nat} {bs : List Int32} (hC : nl_C N T S C (I 225)) (hs : s < N) (hk : C (6 + s) = 3) (hT : nm_T I bs) (hl : bs.length ≤ 6) : nw_cI l g 4 mX10_markOf [.ref (nw_a g 219), .int (nI s)] I (fun r J => r = nI s + nv_lift 3 (C (26 + s)) - 1000 ∧ nm_T J (bs ++ [22, 21, 20]) ∧ nm_Tf I J) := by
  refine ⟨(Nat.le_of_ble_eq_true rfl), ?_⟩
  have hN2 := hC.hN
  refine ev_aload_n (i := 0) dX10_markOf_0 rfl rfl ?_
  refine ev_getR fX10_25 dX10_markOf_1 rfl rfl (by decide) ?_
  refine ev_bipush (v := 6) dX10_markOf_4 kb_6 ?_
  refine ev_iload_n (i := 1) dX10_markOf_6 rfl rfl ?_
  refine ev_iaddN (a := 6) (b := s) dX10_markOf_7 ?_
  refine ev_ialdN (j := (6 + s)) dX10_markOf_8 rfl (by omega) (by decide) ?_
  rw [hC.2 (6 + s) (by unfold nl_c; omega), hk]
  refine ev_iconst (v := 4) dX10_markOf_9 kc_4 ?_
  refine ev_icmp_ge (tgt := 19) dX10_markOf_10 (by decide) (fun h => absurd h (by decide)) (fun _ => ?_)
  refine ev_aload_n (i := 0) dX10_markOf_13 rfl rfl ?_
  refine ev_iload_n (i := 1) dX10_markOf_14 rfl rfl ?_
  refine s_callVi (As := [_]) (m_plain_3 hC hs hk hT hl) (Nat.le_of_ble_eq_true rfl) lX10_283 kX10_plainMark vX10_plainMark dX10_markOf_15 rfl rfl rfl (by decide) rfl (Nat.le_of_ble_eq_true rfl) (fun r J h => ?_)
  exact s_retI dX10_markOf_18 h
theorem m_mark_4 {s : Nat} {bs : List Int32} (hC : nl_C N T S C (I 225)) (hs : s < N) (hk : C (6 + s) = 4) (hT : nm_T I bs) (hl : bs.length ≤ 2) : nw_cI l g 4 mX10_markOf [.ref (nw_a g 219), .int (nI s)] I (fun r J => r = nI s - ((C (26 + s)) - 100) ∧ nm_T J (bs ++ [23, 20, 13, 10]) ∧ nm_Tf I J) := by
  refine ⟨(Nat.le_of_ble_eq_true rfl), ?_⟩
  have hN2 := hC.hN
  refine ev_aload_n (i := 0) dX10_markOf_0 rfl rfl ?_
  refine ev_getR fX10_25 dX10_markOf_1 rfl rfl (by decide) ?_
  refine ev_bipush (v := 6) dX10_markOf_4 kb_6 ?_
  refine ev_iload_n (i := 1) dX10_markOf_6 rfl rfl ?_
  refine ev_iaddN (a := 6) (b := s) dX10_markOf_7 ?_
  refine ev_ialdN (j := (6 + s)) dX10_markOf_8 rfl (by omega) (by decide) ?_
  rw [hC.2 (6 + s) (by unfold nl_c; omega), hk]
  refine ev_iconst (v := 4) dX10_markOf_9 kc_4 ?_
  refine ev_icmp_ge (tgt := 19) dX10_markOf_10 (by decide) (fun _ => ?_) (fun h => absurd (by decide) h)
  refine ev_aload_n (i := 0) dX10_markOf_19 rfl rfl ?_
  refine ev_bipush (v := 23) dX10_markOf_20 kb_23 ?_
  refine s_callVv (As := [_]) (m_leaves hT (by first | omega | (simp only [List.length_append, List.length_cons, List.length_nil]; omega)) _) (Nat.le_of_ble_eq_true rfl) lX10_280 kX10_leaves vX10_leaves dX10_markOf_22 rfl rfl rfl (by decide) rfl (Nat.le_of_ble_eq_true rfl) (fun J22 t22 => ?_)
  have f22 := t22.2
  refine ev_aload_n (i := 0) dX10_markOf_25 rfl rfl ?_
  refine ev_bipush (v := 20) dX10_markOf_26 kb_20 ?_
  refine s_callVv (As := [_]) (m_leaves t22.1 (by first | omega | (simp only [List.length_append, List.length_cons, List.length_nil]; omega)) _) (Nat.le_of_ble_eq_true rfl) lX10_280 kX10_leaves vX10_leaves dX10_markOf_28 rfl rfl rfl (by decide) rfl (Nat.le_of_ble_eq_true rfl) (fun J28 t28 => ?_)
  have f28 := f22.trans t28.2
  refine ev_iload_n (i := 1) dX10_markOf_31 rfl rfl ?_
  refine ev_aload_n (i := 0) dX10_markOf_32 rfl rfl ?_
  refine ev_iload_n (i := 1) dX10_markOf_33 rfl rfl ?_
  refine s_callVi (As := [_]) (m_size_4 (by rw [f28.2 225 (by decide) (by decide)]; exact hC) hs hk t28.1 (by simp only [List.length_append, List.length_cons, List.length_nil]; omega)) (Nat.le_of_ble_eq_true rfl) lX10_286 kX10_sizeOf vX10_sizeOf dX10_markOf_34 rfl rfl rfl (by decide) rfl (Nat.le_of_ble_eq_true rfl) (fun r J h => ?_)
  refine ev_isub dX10_markOf_37 ?_
  exact s_retI dX10_markOf_38 ⟨by rw [h.1], (by have q := h.2.1; simp only [List.append_assoc, List.cons_append, List.nil_append] at q; exact q), f28.trans h.2.2⟩
theorem m_mark_5 {s : Nat} {bs : List Int32} (hC : nl_C N T S C (I 225)) (hs : s < N) (hk : C (6 + s) = 5) (hT : nm_T I bs) (hl : bs.length ≤ 2) : nw_cI l g 4 mX10_markOf [.ref (nw_a g 219), .int (nI s)] I (fun r J => r = nI s - (((C (26 + s)) - 100) * 2) ∧ nm_T J (bs ++ [23, 20, 14, 13, 10]) ∧ nm_Tf I J) := by
  refine ⟨(Nat.le_of_ble_eq_true rfl), ?_⟩
  have hN2 := hC.hN
  refine ev_aload_n (i := 0) dX10_markOf_0 rfl rfl ?_
  refine ev_getR fX10_25 dX10_markOf_1 rfl rfl (by decide) ?_
  refine ev_bipush (v := 6) dX10_markOf_4 kb_6 ?_
  refine ev_iload_n (i := 1) dX10_markOf_6 rfl rfl ?_
  refine ev_iaddN (a := 6) (b := s) dX10_markOf_7 ?_
  refine ev_ialdN (j := (6 + s)) dX10_markOf_8 rfl (by omega) (by decide) ?_
  rw [hC.2 (6 + s) (by unfold nl_c; omega), hk]
  refine ev_iconst (v := 4) dX10_markOf_9 kc_4 ?_
  refine ev_icmp_ge (tgt := 19) dX10_markOf_10 (by decide) (fun _ => ?_) (fun h => absurd (by decide) h)
  refine ev_aload_n (i := 0) dX10_markOf_19 rfl rfl ?_
  refine ev_bipush (v := 23) dX10_markOf_20 kb_23 ?_
  refine s_callVv (As := [_]) (m_leaves hT (by first | omega | (simp only [List.length_append, List.length_cons, List.length_nil]; omega)) _) (Nat.le_of_ble_eq_true rfl) lX10_280 kX10_leaves vX10_leaves dX10_markOf_22 rfl rfl rfl (by decide) rfl (Nat.le_of_ble_eq_true rfl) (fun J22 t22 => ?_)
  have f22 := t22.2
  refine ev_aload_n (i := 0) dX10_markOf_25 rfl rfl ?_
  refine ev_bipush (v := 20) dX10_markOf_26 kb_20 ?_
  refine s_callVv (As := [_]) (m_leaves t22.1 (by first | omega | (simp only [List.length_append, List.length_cons, List.length_nil]; omega)) _) (Nat.le_of_ble_eq_true rfl) lX10_280 kX10_leaves vX10_leaves dX10_markOf_28 rfl rfl rfl (by decide) rfl (Nat.le_of_ble_eq_true rfl) (fun J28 t28 => ?_)
  have f28 := f22.trans t28.2
  refine ev_iload_n (i := 1) dX10_markOf_31 rfl rfl ?_
  refine ev_aload_n (i := 0) dX10_markOf_32 rfl rfl ?_
  refine ev_iload_n (i := 1) dX10_markOf_33 rfl rfl ?_
  refine s_callVi (As := [_]) (m_size_5 (by rw [f28.2 225 (by decide) (by decide)]; exact hC) hs hk t28.1 (by simp only [List.length_append, List.length_cons, List.length_nil]; omega)) (Nat.le_of_ble_eq_true rfl) lX10_286 kX10_sizeOf vX10_sizeOf dX10_markOf_34 rfl rfl rfl (by decide) rfl (Nat.le_of_ble_eq_true rfl) (fun r J h => ?_)
  refine ev_isub dX10_markOf_37 ?_
  exact s_retI dX10_markOf_38 ⟨by rw [h.1], (by have q := h.2.1; simp only [List.append_assoc, List.cons_append, List.nil_append] at q; exact q), f28.trans h.2.2⟩
theorem m_ask (hW : nm_W I b N T S C F) (x w : Int32) : nw_cI l g 5 mX10_ask [.ref (nw_a g 219), .int x, .int w] I (fun r J => ((nv_in x 0 (nI N - 1) = false ∨ nv_in w 0 1 = false) ∧ r = -1000001 ∧ J = I) ∨ ∃ s k w0, s < N ∧ x = nI s ∧ w = nI w0 ∧ w0 ≤ 1 ∧ 1 ≤ k ∧ k ≤ 5 ∧ C (6 + s) = nI k ∧ r = (nv_ask k w0 (C (26 + s)) (nv_lift (nI k) (C (26 + s))) (nI s)).1 ∧ nm_T J (nv_ask k w0 (C (26 + s)) (nv_lift (nI k) (C (26 + s))) (nI s)).2 ∧ nm_Tf I J) := by
  refine ⟨(Nat.le_of_ble_eq_true rfl), ?_⟩
  obtain ⟨hb, hC, hF, hor⟩ := id hW
  have hbd := hW.bd
  have hN := hC.n
  have hT := hC.t
  have hS := hC.s
  have hN2 := hC.hN
  have hT3 := hC.hT
  have hS6 := hC.hS
  refine ev_aload_n (i := 0) dX10_ask_0 rfl rfl ?_
  refine ev_iload_n (i := 1) dX10_ask_1 rfl rfl ?_
  refine s_dVz (As := [_]) (m_isSwell _) (Nat.le_of_ble_eq_true rfl) lX10_274 kX10_isSwell vX10_isSwell dX10_ask_2 rfl rfl rfl (by decide) rfl (Nat.le_of_ble_eq_true rfl) ?_
  rw [hN]
  refine s_ifZ_eq (tgt := 18) dX10_ask_5 (by decide) (fun h5 => ?_) (fun h5 => ?_)
  · refine ev_ldc qX10_79 dX10_ask_18 ?_
    exact s_retI dX10_ask_20 (Or.inl ⟨by first | exact Or.inl h5 | exact Or.inr h15, rfl, rfl⟩)
  · refine ev_iload_n (i := 2) dX10_ask_8 rfl rfl ?_
    refine ev_i2l dX10_ask_9 ?_
    refine ev_lconst (v := 0) dX10_ask_10 rfl ?_
    refine ev_lconst (v := 1) dX10_ask_11 rfl ?_
    refine s_dSz (As := [_, _, _]) (m_in _ 0 1 (by decide) (by decide)) (Nat.le_of_ble_eq_true rfl) lX10_64 kX10_in sX10_in dX10_ask_12 rfl rfl (Nat.le_of_ble_eq_true rfl) ?_
    refine s_ifZ_ne (tgt := 21) dX10_ask_15 (by decide) (fun h15 => ?_) (fun h15 => ?_)
    · obtain ⟨s, hs, rfl⟩ := nv_in_S (by omega) h5
      obtain ⟨-, h0, h0T, hk, hsok⟩ := hW.sea (Or.inr (Or.inr (Or.inl (by omega))))
      obtain ⟨k, hk1, hk5, hck⟩ := hk s hs
      refine ev_aload_n (i := 0) dX10_ask_21 rfl rfl ?_
      refine ev_iconst (v := 0) dX10_ask_22 kc_0 ?_
      refine ev_putI fX10_277 dX10_ask_23 rfl rfl (by decide) rfl rfl rfl rfl ?_
      have hT0 : nm_T (nw_up I 219 28 0) [] := ⟨by rw [nw_up_self, pk_us]; exact nI_0.symm, fun i x q => by simp at q⟩
      have hC0 : nl_C N T S C (nw_up I 219 28 0 225) := by rw [nw_up_ne (by decide)]; exact hC
      have hTf0 : nm_Tf I (nw_up I 219 28 0) := ⟨fun j hj => by rw [nw_up_self, pk_un hj], fun q a c => nw_up_ne a⟩
      rcases (show k = 1 ∨ k = 2 ∨ k = 3 ∨ k = 4 ∨ k = 5 by omega) with rfl | rfl | rfl | rfl | rfl
      · have hT0 : nm_T (nw_up I 219 28 0) [] := ⟨by rw [nw_up_self, pk_us]; exact nI_0.symm, fun i x q => by simp at q⟩
        have hC0 : nl_C N T S C (nw_up I 219 28 0 225) := by rw [nw_up_ne (by decide)]; exact hC
        have hTf0 : nm_Tf I (nw_up I 219 28 0) := ⟨fun j hj => by rw [nw_up_self, pk_un hj], fun q a c => nw_up_ne a⟩
        refine ev_iload_n (i := 2) dX10_ask_26 rfl rfl ?_
        refine ev_if_ne (tgt := 38) dX10_ask_27 (by decide) (fun h27 => ?_) (fun h27 => ?_)
        · refine ev_aload_n (i := 0) dX10_ask_38 rfl rfl ?_
          refine ev_iload_n (i := 1) dX10_ask_39 rfl rfl ?_
          refine s_callVi (As := [_]) (m_mark_1 (bs := []) hC0 hs hck hT0 (by simp)) (Nat.le_of_ble_eq_true rfl) lX10_289 kX10_markOf vX10_markOf dX10_ask_40 rfl rfl rfl (by decide) rfl (Nat.le_of_ble_eq_true rfl) (fun r J h => ?_)
          exact s_retI dX10_ask_43 (by
            first
              | exact Or.inr ⟨s, 1, 0, hs, rfl, h27, by decide, by decide, by decide, hck, h.1, h.2.1, hTf0.trans h.2.2⟩
              | exact Or.inr ⟨s, 1, 1, hs, rfl, (w01 h15).resolve_left h27, by decide, by decide, by decide, hck, h.1, h.2.1, hTf0.trans h.2.2⟩)
        · refine ev_aload_n (i := 0) dX10_ask_30 rfl rfl ?_
          refine ev_iload_n (i := 1) dX10_ask_31 rfl rfl ?_
          refine s_callVi (As := [_]) (m_size_1 (bs := []) hC0 hs hck hT0 (by simp)) (Nat.le_of_ble_eq_true rfl) lX10_286 kX10_sizeOf vX10_sizeOf dX10_ask_32 rfl rfl rfl (by decide) rfl (Nat.le_of_ble_eq_true rfl) (fun r J h => ?_)
          refine ev_goto (tgt := 43) dX10_ask_35 (by decide) ?_
          exact s_retI dX10_ask_43 (by
            first
              | exact Or.inr ⟨s, 1, 0, hs, rfl, h27, by decide, by decide, by decide, hck, h.1, h.2.1, hTf0.trans h.2.2⟩
              | exact Or.inr ⟨s, 1, 1, hs, rfl, (w01 h15).resolve_left h27, by decide, by decide, by decide, hck, h.1, h.2.1, hTf0.trans h.2.2⟩)
      · have hT0 : nm_T (nw_up I 219 28 0) [] := ⟨by rw [nw_up_self, pk_us]; exact nI_0.symm, fun i x q => by simp at q⟩
        have hC0 : nl_C N T S C (nw_up I 219 28 0 225) := by rw [nw_up_ne (by decide)]; exact hC
        have hTf0 : nm_Tf I (nw_up I 219 28 0) := ⟨fun j hj => by rw [nw_up_self, pk_un hj], fun q a c => nw_up_ne a⟩
        refine ev_iload_n (i := 2) dX10_ask_26 rfl rfl ?_
        refine ev_if_ne (tgt := 38) dX10_ask_27 (by decide) (fun h27 => ?_) (fun h27 => ?_)
        · refine ev_aload_n (i := 0) dX10_ask_38 rfl rfl ?_
          refine ev_iload_n (i := 1) dX10_ask_39 rfl rfl ?_
          refine s_callVi (As := [_]) (m_mark_2 (bs := []) hC0 hs hck hT0 (by simp)) (Nat.le_of_ble_eq_true rfl) lX10_289 kX10_markOf vX10_markOf dX10_ask_40 rfl rfl rfl (by decide) rfl (Nat.le_of_ble_eq_true rfl) (fun r J h => ?_)
          exact s_retI dX10_ask_43 (by
            first
              | exact Or.inr ⟨s, 2, 0, hs, rfl, h27, by decide, by decide, by decide, hck, h.1, h.2.1, hTf0.trans h.2.2⟩
              | exact Or.inr ⟨s, 2, 1, hs, rfl, (w01 h15).resolve_left h27, by decide, by decide, by decide, hck, h.1, h.2.1, hTf0.trans h.2.2⟩)
        · refine ev_aload_n (i := 0) dX10_ask_30 rfl rfl ?_
          refine ev_iload_n (i := 1) dX10_ask_31 rfl rfl ?_
          refine s_callVi (As := [_]) (m_size_2 (bs := []) hC0 hs hck hT0 (by simp)) (Nat.le_of_ble_eq_true rfl) lX10_286 kX10_sizeOf vX10_sizeOf dX10_ask_32 rfl rfl rfl (by decide) rfl (Nat.le_of_ble_eq_true rfl) (fun r J h => ?_)
          refine ev_goto (tgt := 43) dX10_ask_35 (by decide) ?_
          exact s_retI dX10_ask_43 (by
            first
              | exact Or.inr ⟨s, 2, 0, hs, rfl, h27, by decide, by decide, by decide, hck, h.1, h.2.1, hTf0.trans h.2.2⟩
              | exact Or.inr ⟨s, 2, 1, hs, rfl, (w01 h15).resolve_left h27, by decide, by decide, by decide, hck, h.1, h.2.1, hTf0.trans h.2.2⟩)
      · have hT0 : nm_T (nw_up I 219 28 0) [] := ⟨by rw [nw_up_self, pk_us]; exact nI_0.symm, fun i x q => by simp at q⟩
        have hC0 : nl_C N T S C (nw_up I 219 28 0 225) := by rw [nw_up_ne (by decide)]; exact hC
        have hTf0 : nm_Tf I (nw_up I 219 28 0) := ⟨fun j hj => by rw [nw_up_self, pk_un hj], fun q a c => nw_up_ne a⟩
        refine ev_iload_n (i := 2) dX10_ask_26 rfl rfl ?_
        refine ev_if_ne (tgt := 38) dX10_ask_27 (by decide) (fun h27 => ?_) (fun h27 => ?_)
        · refine ev_aload_n (i := 0) dX10_ask_38 rfl rfl ?_
          refine ev_iload_n (i := 1) dX10_ask_39 rfl rfl ?_
          refine s_callVi (As := [_]) (m_mark_3 (bs := []) hC0 hs hck hT0 (by simp)) (Nat.le_of_ble_eq_true rfl) lX10_289 kX10_markOf vX10_markOf dX10_ask_40 rfl rfl rfl (by decide) rfl (Nat.le_of_ble_eq_true rfl) (fun r J h => ?_)
          exact s_retI dX10_ask_43 (by
            first
              | exact Or.inr ⟨s, 3, 0, hs, rfl, h27, by decide, by decide, by decide, hck, h.1, h.2.1, hTf0.trans h.2.2⟩
              | exact Or.inr ⟨s, 3, 1, hs, rfl, (w01 h15).resolve_left h27, by decide, by decide, by decide, hck, h.1, h.2.1, hTf0.trans h.2.2⟩)
        · refine ev_aload_n (i := 0) dX10_ask_30 rfl rfl ?_
          refine ev_iload_n (i := 1) dX10_ask_31 rfl rfl ?_
          refine s_callVi (As := [_]) (m_size_3 (bs := []) hC0 hs hck hT0 (by simp)) (Nat.le_of_ble_eq_true rfl) lX10_286 kX10_sizeOf vX10_sizeOf dX10_ask_32 rfl rfl rfl (by decide) rfl (Nat.le_of_ble_eq_true rfl) (fun r J h => ?_)
          refine ev_goto (tgt := 43) dX10_ask_35 (by decide) ?_
          exact s_retI dX10_ask_43 (by
            first
              | exact Or.inr ⟨s, 3, 0, hs, rfl, h27, by decide, by decide, by decide, hck, h.1, h.2.1, hTf0.trans h.2.2⟩
              | exact Or.inr ⟨s, 3, 1, hs, rfl, (w01 h15).resolve_left h27, by decide, by decide, by decide, hck, h.1, h.2.1, hTf0.trans h.2.2⟩)
      · have hT0 : nm_T (nw_up I 219 28 0) [] := ⟨by rw [nw_up_self, pk_us]; exact nI_0.symm, fun i x q => by simp at q⟩
        have hC0 : nl_C N T S C (nw_up I 219 28 0 225) := by rw [nw_up_ne (by decide)]; exact hC
        have hTf0 : nm_Tf I (nw_up I 219 28 0) := ⟨fun j hj => by rw [nw_up_self, pk_un hj], fun q a c => nw_up_ne a⟩
        refine ev_iload_n (i := 2) dX10_ask_26 rfl rfl ?_
        refine ev_if_ne (tgt := 38) dX10_ask_27 (by decide) (fun h27 => ?_) (fun h27 => ?_)
        · refine ev_aload_n (i := 0) dX10_ask_38 rfl rfl ?_
          refine ev_iload_n (i := 1) dX10_ask_39 rfl rfl ?_
          refine s_callVi (As := [_]) (m_mark_4 (bs := []) hC0 hs hck hT0 (by simp)) (Nat.le_of_ble_eq_true rfl) lX10_289 kX10_markOf vX10_markOf dX10_ask_40 rfl rfl rfl (by decide) rfl (Nat.le_of_ble_eq_true rfl) (fun r J h => ?_)
          exact s_retI dX10_ask_43 (by
            first
              | exact Or.inr ⟨s, 4, 0, hs, rfl, h27, by decide, by decide, by decide, hck, h.1, h.2.1, hTf0.trans h.2.2⟩
              | exact Or.inr ⟨s, 4, 1, hs, rfl, (w01 h15).resolve_left h27, by decide, by decide, by decide, hck, h.1, h.2.1, hTf0.trans h.2.2⟩)
        · refine ev_aload_n (i := 0) dX10_ask_30 rfl rfl ?_
          refine ev_iload_n (i := 1) dX10_ask_31 rfl rfl ?_
          refine s_callVi (As := [_]) (m_size_4 (bs := []) hC0 hs hck hT0 (by simp)) (Nat.le_of_ble_eq_true rfl) lX10_286 kX10_sizeOf vX10_sizeOf dX10_ask_32 rfl rfl rfl (by decide) rfl (Nat.le_of_ble_eq_true rfl) (fun r J h => ?_)
          refine ev_goto (tgt := 43) dX10_ask_35 (by decide) ?_
          exact s_retI dX10_ask_43 (by
            first
              | exact Or.inr ⟨s, 4, 0, hs, rfl, h27, by decide, by decide, by decide, hck, h.1, h.2.1, hTf0.trans h.2.2⟩
              | exact Or.inr ⟨s, 4, 1, hs, rfl, (w01 h15).resolve_left h27, by decide, by decide, by decide, hck, h.1, h.2.1, hTf0.trans h.2.2⟩)
      · have hT0 : nm_T (nw_up I 219 28 0) [] := ⟨by rw [nw_up_self, pk_us]; exact nI_0.symm, fun i x q => by simp at q⟩
        have hC0 : nl_C N T S C (nw_up I 219 28 0 225) := by rw [nw_up_ne (by decide)]; exact hC
        have hTf0 : nm_Tf I (nw_up I 219 28 0) := ⟨fun j hj => by rw [nw_up_self, pk_un hj], fun q a c => nw_up_ne a⟩
        refine ev_iload_n (i := 2) dX10_ask_26 rfl rfl ?_
        refine ev_if_ne (tgt := 38) dX10_ask_27 (by decide) (fun h27 => ?_) (fun h27 => ?_)
        · refine ev_aload_n (i := 0) dX10_ask_38 rfl rfl ?_
          refine ev_iload_n (i := 1) dX10_ask_39 rfl rfl ?_
          refine s_callVi (As := [_]) (m_mark_5 (bs := []) hC0 hs hck hT0 (by simp)) (Nat.le_of_ble_eq_true rfl) lX10_289 kX10_markOf vX10_markOf dX10_ask_40 rfl rfl rfl (by decide) rfl (Nat.le_of_ble_eq_true rfl) (fun r J h => ?_)
          exact s_retI dX10_ask_43 (by
            first
              | exact Or.inr ⟨s, 5, 0, hs, rfl, h27, by decide, by decide, by decide, hck, h.1, h.2.1, hTf0.trans h.2.2⟩
              | exact Or.inr ⟨s, 5, 1, hs, rfl, (w01 h15).resolve_left h27, by decide, by decide, by decide, hck, h.1, h.2.1, hTf0.trans h.2.2⟩)
        · refine ev_aload_n (i := 0) dX10_ask_30 rfl rfl ?_
          refine ev_iload_n (i := 1) dX10_ask_31 rfl rfl ?_
          refine s_callVi (As := [_]) (m_size_5 (bs := []) hC0 hs hck hT0 (by simp)) (Nat.le_of_ble_eq_true rfl) lX10_286 kX10_sizeOf vX10_sizeOf dX10_ask_32 rfl rfl rfl (by decide) rfl (Nat.le_of_ble_eq_true rfl) (fun r J h => ?_)
          refine ev_goto (tgt := 43) dX10_ask_35 (by decide) ?_
          exact s_retI dX10_ask_43 (by
            first
              | exact Or.inr ⟨s, 5, 0, hs, rfl, h27, by decide, by decide, by decide, hck, h.1, h.2.1, hTf0.trans h.2.2⟩
              | exact Or.inr ⟨s, 5, 1, hs, rfl, (w01 h15).resolve_left h27, by decide, by decide, by decide, hck, h.1, h.2.1, hTf0.trans h.2.2⟩)
    · refine ev_ldc qX10_79 dX10_ask_18 ?_
      exact s_retI dX10_ask_20 (Or.inl ⟨by first | exact Or.inl h5 | exact Or.inr h15, rfl, rfl⟩)
theorem m_trace {t : Nat} (ht : I 219 28 = nI t) (h16 : t ≤ 16) (x : Int32) : nw_dI l g 1 mX10_trace [.ref (nw_a g 219), .int x] I (if nv_in x 0 (nI t - 1) then I 236 x.toNatClampNeg else -1000000) I := by
  refine ⟨(Nat.le_of_ble_eq_true rfl), ?_⟩
  refine ev_iload_n (i := 1) dX10_trace_0 rfl rfl ?_
  refine ev_i2l dX10_trace_1 ?_
  refine ev_lconst (v := 0) dX10_trace_2 rfl ?_
  refine ev_aload_n (i := 0) dX10_trace_3 rfl rfl ?_
  refine ev_getI fX10_277 dX10_trace_4 rfl rfl (by decide) ?_
  refine ev_iconst (v := 1) dX10_trace_7 kc_1 ?_
  refine ev_isub dX10_trace_8 ?_
  refine ev_i2l dX10_trace_9 ?_
  refine s_dSz (As := [_, _, _]) (m_in _ 0 _ (by decide) rfl) (Nat.le_of_ble_eq_true rfl) lX10_64 kX10_in sX10_in dX10_trace_10 rfl rfl (Nat.le_of_ble_eq_true rfl) ?_
  rw [ht]
  refine s_ifZ_eq (tgt := 25) dX10_trace_13 (by decide) (fun h13 => ?_) (fun h13 => ?_)
  · refine ev_ldc qX10_165 dX10_trace_25 ?_
    exact s_retI dX10_trace_27 ⟨by first | rw [if_neg (by rw [h13]; decide)] | rw [if_pos h13, nI_clamp (by omega)], rfl⟩
  · obtain ⟨s, hs, rfl⟩ := nv_in_S (by omega) h13
    refine ev_aload_n (i := 0) dX10_trace_16 rfl rfl ?_
    refine ev_getR fX10_59 dX10_trace_17 rfl rfl (by decide) ?_
    refine ev_iload_n (i := 1) dX10_trace_20 rfl rfl ?_
    refine ev_ialdN (j := s) dX10_trace_21 rfl (by omega) (by decide) ?_
    refine ev_goto (tgt := 27) dX10_trace_22 (by decide) ?_
    exact s_retI dX10_trace_27 ⟨by first | rw [if_neg (by rw [h13]; decide)] | rw [if_pos h13, nI_clamp (by omega)], rfl⟩
theorem m_fault : nw_dI l g 0 mX10_fault [.ref (nw_a g 219)] I (I 219 7) I := by
  refine ⟨(Nat.le_of_ble_eq_true rfl), ?_⟩
  refine ev_aload_n (i := 0) dX10_fault_0 rfl rfl ?_
  refine ev_getI fX10_161 dX10_fault_1 rfl rfl (by decide) ?_
  exact s_retI dX10_fault_4 ⟨rfl, rfl⟩
theorem m_status : nw_dI l g 0 mX10_status [.ref (nw_a g 219)] I (I 219 3) I := by
  refine ⟨(Nat.le_of_ble_eq_true rfl), ?_⟩
  refine ev_aload_n (i := 0) dX10_status_0 rfl rfl ?_
  refine ev_getI fX10_68 dX10_status_1 rfl rfl (by decide) ?_
  exact s_retI dX10_status_4 ⟨rfl, rfl⟩
theorem w08 {w : Int32} (h : nv_in w 0 8 = true) : w = 0 ∨ w = 1 ∨ w = 2 ∨ w = 3 ∨ w = 4 ∨ w = 5 ∨ w = 6 ∨ w = 7 ∨ w = 8 := by
  obtain ⟨n, -, h1, rfl⟩ := nv_in_n (a := 0) (c := 8) h (by decide) (by decide)
  rcases (show n = 0 ∨ n = 1 ∨ n = 2 ∨ n = 3 ∨ n = 4 ∨ n = 5 ∨ n = 6 ∨ n = 7 ∨ n = 8 by omega) with rfl | rfl | rfl | rfl | rfl | rfl | rfl | rfl | rfl <;> decide
theorem l_mcount {x : Int32} {Z : Nat → Bool} (hZ : ∀ r, r < 8 → decide (I 220 r < 0) = Z r) {Post : Option Int32 → List nw_Sh → nw_Me → Prop} (kk : ∀ z3 : Option Value, nw_S l g 1 mX10_count 48 [some (.ref (nw_a g 219)), some (.int x), some (.int (nI (p_cnt (fun r => !Z r) 8 0))), some (.int (nI 8)), none] [] I Post) : ∀ (k p m : Nat), p + k = 8 → m + p_cnt (fun r => !Z r) k p = p_cnt (fun r => !Z r) 8 0 → nw_S l g 1 mX10_count 19 [some (.ref (nw_a g 219)), some (.int x), some (.int (nI m)), some (.int (nI p)), none] [] I Post := by
  have e8 : (8 : Int32) = nI 8 := by decide
  intro k
  induction k with
  | zero =>
    intro p m hp hm
    obtain rfl : p = 8 := by omega
    obtain rfl : m = p_cnt (fun r => !Z r) 8 0 := hm
    refine ev_iload_n (i := 3) dX10_count_19 rfl rfl ?_
    refine ev_bipush (v := 8) dX10_count_20 kb_8 ?_
    refine ev_icmp_ge (tgt := 48) dX10_count_22 (by decide) (fun h22 => ?_) (fun h22 => ?_)
    · exact kk none
    · exact absurd (by decide) h22
  | succ k ih =>
    intro p m hp hm
    have hz := hZ p (by omega)
    refine ev_iload_n (i := 3) dX10_count_19 rfl rfl ?_
    refine ev_bipush (v := 8) dX10_count_20 kb_8 ?_
    refine ev_icmp_ge (tgt := 48) dX10_count_22 (by decide) (fun h22 => ?_) (fun h22 => ?_)
    · exact absurd h22 (by rw [e8]; exact nI_ge (by omega) (by omega))
    · refine ev_iload_n (i := 2) dX10_count_25 rfl rfl ?_
      refine ev_aload_n (i := 0) dX10_count_26 rfl rfl ?_
      refine ev_getR fX10_7 dX10_count_27 rfl rfl (by decide) ?_
      refine ev_iload_n (i := 3) dX10_count_30 rfl rfl ?_
      refine ev_ialdN (j := p) dX10_count_31 rfl (by omega) (by decide) ?_
      refine ev_if_ge (tgt := 39) dX10_count_32 (by decide) (fun h32 => ?_) (fun h32 => ?_)
      · refine ev_iconst (v := 1) dX10_count_39 kc_1 ?_
        refine ev_iadd dX10_count_40 ?_
        refine ev_istore_n (i := 2) dX10_count_41 rfl (Nat.le_of_ble_eq_true rfl) rfl ?_
        refine ev_iincN (a := p) dX10_count_42 rfl (Nat.le_of_ble_eq_true rfl) rfl ?_
        refine ev_goto (tgt := 19) dX10_count_45 (by decide) ?_
        first
          | (rw [nI_1]; exact ih (p + 1) (m + 1) (by omega) (by rw [← hm, p_cnt_t (by show (!Z p) = true; rw [← hz, decide_eq_false (Int32.not_lt.mpr h32)]; rfl)]))
          | (rw [Int32.add_zero]; exact ih (p + 1) m (by omega) (by rw [← hm, p_cnt_f (by show (!Z p) = false; rw [← hz, decide_eq_true (Int32.not_le.mp h32)]; rfl)]))
      · refine ev_iconst (v := 0) dX10_count_35 kc_0 ?_
        refine ev_goto (tgt := 40) dX10_count_36 (by decide) ?_
        refine ev_iadd dX10_count_40 ?_
        refine ev_istore_n (i := 2) dX10_count_41 rfl (Nat.le_of_ble_eq_true rfl) rfl ?_
        refine ev_iincN (a := p) dX10_count_42 rfl (Nat.le_of_ble_eq_true rfl) rfl ?_
        refine ev_goto (tgt := 19) dX10_count_45 (by decide) ?_
        first
          | (rw [nI_1]; exact ih (p + 1) (m + 1) (by omega) (by rw [← hm, p_cnt_t (by show (!Z p) = true; rw [← hz, decide_eq_false (Int32.not_lt.mpr h32)]; rfl)]))
          | (rw [Int32.add_zero]; exact ih (p + 1) m (by omega) (by rw [← hm, p_cnt_f (by show (!Z p) = false; rw [← hz, decide_eq_true (Int32.not_le.mp h32)]; rfl)]))
theorem m_count (hW : nm_W I b N T S C F) {n m v : Nat} {Z : Nat → Bool} (hZ : ∀ r, r < 8 → decide (I 220 r < 0) = Z r) (hn : I 219 6 = nI n) (hm : I 219 14 = nI m) (hv : F 0 = nI v) (hlaw : b = false → I 226 1 = 0) (x : Int32) : nw_cI l g 1 mX10_count [.ref (nw_a g 219), .int x] I (fun r J => r = (if x = 0 then nI (p_cnt (fun r => !Z r) 8 0) else if x = 1 then nI N else if x = 2 then nI T else if x = 3 then nI S else if x = 4 then nI v else if x = 5 then (if b then F 1 else 0) else if x = 6 then nI (p_cnt (p_isf F 0) S 0) else if x = 7 then nI m else if x = 8 then nI n else -1000001) ∧ ∀ q, q ≠ 233 → J q = I q) := by
  refine ⟨(Nat.le_of_ble_eq_true rfl), ?_⟩
  obtain ⟨hb, hC, hF, hor⟩ := id hW
  have hbd := hW.bd
  have hN := hC.n
  have hT := hC.t
  have hS := hC.s
  have hN2 := hC.hN
  have hT3 := hC.hT
  have hS6 := hC.hS
  refine ev_iload_n (i := 1) dX10_count_0 rfl rfl ?_
  refine ev_i2l dX10_count_1 ?_
  refine ev_lconst (v := 0) dX10_count_2 rfl ?_
  refine ev_ldc2 qX10_292 dX10_count_3 ?_
  refine s_dSz (As := [_, _, _]) (m_in _ 0 8 (by decide) (by decide)) (Nat.le_of_ble_eq_true rfl) lX10_64 kX10_in sX10_in dX10_count_6 rfl rfl (Nat.le_of_ble_eq_true rfl) ?_
  refine s_ifZ_ne (tgt := 15) dX10_count_9 (by decide) (fun h9 => ?_) (fun h9 => ?_)
  · refine ev_iconst (v := 0) dX10_count_15 kc_0 ?_
    refine ev_istore_n (i := 2) dX10_count_16 rfl (Nat.le_of_ble_eq_true rfl) rfl ?_
    refine ev_iconst (v := 0) dX10_count_17 kc_0 ?_
    refine ev_istore_n (i := 3) dX10_count_18 rfl (Nat.le_of_ble_eq_true rfl) rfl ?_
    refine l_mcount (Z := Z) hZ (fun _ => ?_) 8 0 0 (by omega) (Nat.zero_add _)
    refine ev_aload_n (i := 0) dX10_count_48 rfl rfl ?_
    refine s_callVv (As := []) (m_asNow) (Nat.le_of_ble_eq_true rfl) lX10_205 kX10_asNow vX10_asNow dX10_count_49 rfl rfl rfl (by decide) rfl (Nat.le_of_ble_eq_true rfl) (fun J h1 => ?_)
    have j1 : J 225 = I 225 := h1.2 225 (by decide)
    have j2 : J 226 = I 226 := h1.2 226 (by decide)
    have j3 : J 219 = I 219 := h1.2 219 (by decide)
    have hC1 : nl_C N T S C (J 225) := by rw [j1]; exact hC
    refine ev_iload_n (i := 1) dX10_count_52 rfl rfl ?_
    refine ev_if_ne (tgt := 60) dX10_count_53 (by decide) (fun h53 => ?_) (fun h53 => ?_)
    · refine ev_iload_n (i := 1) dX10_count_60 rfl rfl ?_
      refine ev_iconst (v := 1) dX10_count_61 kc_1 ?_
      refine ev_icmp_ne (tgt := 74) dX10_count_62 (by decide) (fun h62 => ?_) (fun h62 => ?_)
      · refine ev_iload_n (i := 1) dX10_count_74 rfl rfl ?_
        refine ev_iconst (v := 2) dX10_count_75 kc_2 ?_
        refine ev_icmp_ne (tgt := 88) dX10_count_76 (by decide) (fun h76 => ?_) (fun h76 => ?_)
        · refine ev_aload_n (i := 0) dX10_count_88 rfl rfl ?_
          refine ev_getR fX10_25 dX10_count_89 rfl rfl (by decide) ?_
          refine ev_iconst (v := 5) dX10_count_92 kc_5 ?_
          refine ev_ialdN (j := 5) dX10_count_93 rfl (by omega) (by decide) ?_
          refine ev_istore_n (i := 3) dX10_count_94 rfl (Nat.le_of_ble_eq_true rfl) rfl ?_
          refine ev_iload_n (i := 1) dX10_count_95 rfl rfl ?_
          refine ev_iconst (v := 5) dX10_count_96 kc_5 ?_
          refine ev_icmp_ne (tgt := 109) dX10_count_97 (by decide) (fun h97 => ?_) (fun h97 => ?_)
          · refine ev_iload_n (i := 1) dX10_count_109 rfl rfl ?_
            refine ev_bipush (v := 6) dX10_count_110 kb_6 ?_
            refine ev_icmp_ne (tgt := 123) dX10_count_112 (by decide) (fun h112 => ?_) (fun h112 => ?_)
            · refine ev_iload_n (i := 1) dX10_count_123 rfl rfl ?_
              refine ev_bipush (v := 7) dX10_count_124 kb_7 ?_
              refine ev_icmp_ne (tgt := 136) dX10_count_126 (by decide) (fun h126 => ?_) (fun h126 => ?_)
              · refine ev_aload_n (i := 0) dX10_count_136 rfl rfl ?_
                refine ev_getI fX10_89 dX10_count_137 rfl rfl (by decide) ?_
                refine ev_istore dX10_count_140 (Nat.le_of_ble_eq_true rfl) rfl ?_
                refine ev_iload_n (i := 1) dX10_count_142 rfl rfl ?_
                refine ev_iconst (v := 4) dX10_count_143 kc_4 ?_
                refine ev_icmp_ge (tgt := 151) dX10_count_144 (by decide) (fun h144 => ?_) (fun h144 => ?_)
                · refine ev_iload_n (i := 1) dX10_count_151 rfl rfl ?_
                  refine ev_iconst (v := 4) dX10_count_152 kc_4 ?_
                  refine ev_icmp_ne (tgt := 165) dX10_count_153 (by decide) (fun h153 => ?_) (fun h153 => ?_)
                  · refine ev_iload dX10_count_165 rfl ?_
                    exact s_retI dX10_count_167 (by
        refine ⟨?_, fun q hq => h1.2 q hq⟩
        rcases w08 h9 with rfl | rfl | rfl | rfl | rfl | rfl | rfl | rfl | rfl <;> first
          | (exfalso; first | exact absurd rfl (by assumption) | exact absurd ‹(_ : Int32) = _› (by decide) | exact absurd ‹(_ : Int32) ≤ _› (by decide) | exact absurd (by decide) ‹¬ (_ : Int32) ≤ _›)
          | exact rfl
          | (show J 225 3 = _; rw [j1]; exact hN)
          | (show J 225 4 = _; rw [j1]; exact hT)
          | (show J 225 5 = _; rw [j1]; exact hS)
          | (show J 226 0 = _; rw [j2, hF 0 (by unfold nl_f; omega)]; exact hv)
          | (show J 226 1 = (if b = true then _ else _); rw [j2]; cases b; exact hlaw rfl; obtain ⟨-, h0, h0T, hk, hsok⟩ := hW.sea (Or.inr (Or.inr (Or.inr rfl))); exact hF 1 (by unfold nl_f; omega))
          | (show J 219 14 = _; rw [j3]; exact hm)
          | (show J 219 6 = _; rw [j3]; exact hn))
                  · refine ev_aload_n (i := 0) dX10_count_156 rfl rfl ?_
                    refine ev_getR fX10_28 dX10_count_157 rfl rfl (by decide) ?_
                    refine ev_iconst (v := 0) dX10_count_160 kc_0 ?_
                    refine ev_ialdN (j := 0) dX10_count_161 rfl (by omega) (by decide) ?_
                    refine ev_goto (tgt := 167) dX10_count_162 (by decide) ?_
                    exact s_retI dX10_count_167 (by
        refine ⟨?_, fun q hq => h1.2 q hq⟩
        rcases w08 h9 with rfl | rfl | rfl | rfl | rfl | rfl | rfl | rfl | rfl <;> first
          | (exfalso; first | exact absurd rfl (by assumption) | exact absurd ‹(_ : Int32) = _› (by decide) | exact absurd ‹(_ : Int32) ≤ _› (by decide) | exact absurd (by decide) ‹¬ (_ : Int32) ≤ _›)
          | exact rfl
          | (show J 225 3 = _; rw [j1]; exact hN)
          | (show J 225 4 = _; rw [j1]; exact hT)
          | (show J 225 5 = _; rw [j1]; exact hS)
          | (show J 226 0 = _; rw [j2, hF 0 (by unfold nl_f; omega)]; exact hv)
          | (show J 226 1 = (if b = true then _ else _); rw [j2]; cases b; exact hlaw rfl; obtain ⟨-, h0, h0T, hk, hsok⟩ := hW.sea (Or.inr (Or.inr (Or.inr rfl))); exact hF 1 (by unfold nl_f; omega))
          | (show J 219 14 = _; rw [j3]; exact hm)
          | (show J 219 6 = _; rw [j3]; exact hn))
                · refine ev_iload_n (i := 3) dX10_count_147 rfl rfl ?_
                  refine ev_goto (tgt := 167) dX10_count_148 (by decide) ?_
                  exact s_retI dX10_count_167 (by
        refine ⟨?_, fun q hq => h1.2 q hq⟩
        rcases w08 h9 with rfl | rfl | rfl | rfl | rfl | rfl | rfl | rfl | rfl <;> first
          | (exfalso; first | exact absurd rfl (by assumption) | exact absurd ‹(_ : Int32) = _› (by decide) | exact absurd ‹(_ : Int32) ≤ _› (by decide) | exact absurd (by decide) ‹¬ (_ : Int32) ≤ _›)
          | exact rfl
          | (show J 225 3 = _; rw [j1]; exact hN)
          | (show J 225 4 = _; rw [j1]; exact hT)
          | (show J 225 5 = _; rw [j1]; exact hS)
          | (show J 226 0 = _; rw [j2, hF 0 (by unfold nl_f; omega)]; exact hv)
          | (show J 226 1 = (if b = true then _ else _); rw [j2]; cases b; exact hlaw rfl; obtain ⟨-, h0, h0T, hk, hsok⟩ := hW.sea (Or.inr (Or.inr (Or.inr rfl))); exact hF 1 (by unfold nl_f; omega))
          | (show J 219 14 = _; rw [j3]; exact hm)
          | (show J 219 6 = _; rw [j3]; exact hn))
              · refine ev_aload_n (i := 0) dX10_count_129 rfl rfl ?_
                refine ev_getI fX10_166 dX10_count_130 rfl rfl (by decide) ?_
                refine ev_goto (tgt := 140) dX10_count_133 (by decide) ?_
                refine ev_istore dX10_count_140 (Nat.le_of_ble_eq_true rfl) rfl ?_
                refine ev_iload_n (i := 1) dX10_count_142 rfl rfl ?_
                refine ev_iconst (v := 4) dX10_count_143 kc_4 ?_
                refine ev_icmp_ge (tgt := 151) dX10_count_144 (by decide) (fun h144 => ?_) (fun h144 => ?_)
                · refine ev_iload_n (i := 1) dX10_count_151 rfl rfl ?_
                  refine ev_iconst (v := 4) dX10_count_152 kc_4 ?_
                  refine ev_icmp_ne (tgt := 165) dX10_count_153 (by decide) (fun h153 => ?_) (fun h153 => ?_)
                  · refine ev_iload dX10_count_165 rfl ?_
                    exact s_retI dX10_count_167 (by
        refine ⟨?_, fun q hq => h1.2 q hq⟩
        rcases w08 h9 with rfl | rfl | rfl | rfl | rfl | rfl | rfl | rfl | rfl <;> first
          | (exfalso; first | exact absurd rfl (by assumption) | exact absurd ‹(_ : Int32) = _› (by decide) | exact absurd ‹(_ : Int32) ≤ _› (by decide) | exact absurd (by decide) ‹¬ (_ : Int32) ≤ _›)
          | exact rfl
          | (show J 225 3 = _; rw [j1]; exact hN)
          | (show J 225 4 = _; rw [j1]; exact hT)
          | (show J 225 5 = _; rw [j1]; exact hS)
          | (show J 226 0 = _; rw [j2, hF 0 (by unfold nl_f; omega)]; exact hv)
          | (show J 226 1 = (if b = true then _ else _); rw [j2]; cases b; exact hlaw rfl; obtain ⟨-, h0, h0T, hk, hsok⟩ := hW.sea (Or.inr (Or.inr (Or.inr rfl))); exact hF 1 (by unfold nl_f; omega))
          | (show J 219 14 = _; rw [j3]; exact hm)
          | (show J 219 6 = _; rw [j3]; exact hn))
                  · refine ev_aload_n (i := 0) dX10_count_156 rfl rfl ?_
                    refine ev_getR fX10_28 dX10_count_157 rfl rfl (by decide) ?_
                    refine ev_iconst (v := 0) dX10_count_160 kc_0 ?_
                    refine ev_ialdN (j := 0) dX10_count_161 rfl (by omega) (by decide) ?_
                    refine ev_goto (tgt := 167) dX10_count_162 (by decide) ?_
                    exact s_retI dX10_count_167 (by
        refine ⟨?_, fun q hq => h1.2 q hq⟩
        rcases w08 h9 with rfl | rfl | rfl | rfl | rfl | rfl | rfl | rfl | rfl <;> first
          | (exfalso; first | exact absurd rfl (by assumption) | exact absurd ‹(_ : Int32) = _› (by decide) | exact absurd ‹(_ : Int32) ≤ _› (by decide) | exact absurd (by decide) ‹¬ (_ : Int32) ≤ _›)
          | exact rfl
          | (show J 225 3 = _; rw [j1]; exact hN)
          | (show J 225 4 = _; rw [j1]; exact hT)
          | (show J 225 5 = _; rw [j1]; exact hS)
          | (show J 226 0 = _; rw [j2, hF 0 (by unfold nl_f; omega)]; exact hv)
          | (show J 226 1 = (if b = true then _ else _); rw [j2]; cases b; exact hlaw rfl; obtain ⟨-, h0, h0T, hk, hsok⟩ := hW.sea (Or.inr (Or.inr (Or.inr rfl))); exact hF 1 (by unfold nl_f; omega))
          | (show J 219 14 = _; rw [j3]; exact hm)
          | (show J 219 6 = _; rw [j3]; exact hn))
                · refine ev_iload_n (i := 3) dX10_count_147 rfl rfl ?_
                  refine ev_goto (tgt := 167) dX10_count_148 (by decide) ?_
                  exact s_retI dX10_count_167 (by
        refine ⟨?_, fun q hq => h1.2 q hq⟩
        rcases w08 h9 with rfl | rfl | rfl | rfl | rfl | rfl | rfl | rfl | rfl <;> first
          | (exfalso; first | exact absurd rfl (by assumption) | exact absurd ‹(_ : Int32) = _› (by decide) | exact absurd ‹(_ : Int32) ≤ _› (by decide) | exact absurd (by decide) ‹¬ (_ : Int32) ≤ _›)
          | exact rfl
          | (show J 225 3 = _; rw [j1]; exact hN)
          | (show J 225 4 = _; rw [j1]; exact hT)
          | (show J 225 5 = _; rw [j1]; exact hS)
          | (show J 226 0 = _; rw [j2, hF 0 (by unfold nl_f; omega)]; exact hv)
          | (show J 226 1 = (if b = true then _ else _); rw [j2]; cases b; exact hlaw rfl; obtain ⟨-, h0, h0T, hk, hsok⟩ := hW.sea (Or.inr (Or.inr (Or.inr rfl))); exact hF 1 (by unfold nl_f; omega))
          | (show J 219 14 = _; rw [j3]; exact hm)
          | (show J 219 6 = _; rw [j3]; exact hn))
            · refine ev_aload_n (i := 0) dX10_count_115 rfl rfl ?_
              refine ev_iconst (v := 0) dX10_count_116 kc_0 ?_
              refine s_dVi (As := [_]) (m_many hC1 (hW.so h1.1) _) (Nat.le_of_ble_eq_true rfl) lX10_238 kX10_many vX10_many dX10_count_117 rfl rfl rfl (by decide) rfl (Nat.le_of_ble_eq_true rfl) ?_
              refine ev_goto (tgt := 140) dX10_count_120 (by decide) ?_
              refine ev_istore dX10_count_140 (Nat.le_of_ble_eq_true rfl) rfl ?_
              refine ev_iload_n (i := 1) dX10_count_142 rfl rfl ?_
              refine ev_iconst (v := 4) dX10_count_143 kc_4 ?_
              refine ev_icmp_ge (tgt := 151) dX10_count_144 (by decide) (fun h144 => ?_) (fun h144 => ?_)
              · refine ev_iload_n (i := 1) dX10_count_151 rfl rfl ?_
                refine ev_iconst (v := 4) dX10_count_152 kc_4 ?_
                refine ev_icmp_ne (tgt := 165) dX10_count_153 (by decide) (fun h153 => ?_) (fun h153 => ?_)
                · refine ev_iload dX10_count_165 rfl ?_
                  exact s_retI dX10_count_167 (by
        refine ⟨?_, fun q hq => h1.2 q hq⟩
        rcases w08 h9 with rfl | rfl | rfl | rfl | rfl | rfl | rfl | rfl | rfl <;> first
          | (exfalso; first | exact absurd rfl (by assumption) | exact absurd ‹(_ : Int32) = _› (by decide) | exact absurd ‹(_ : Int32) ≤ _› (by decide) | exact absurd (by decide) ‹¬ (_ : Int32) ≤ _›)
          | exact rfl
          | (show J 225 3 = _; rw [j1]; exact hN)
          | (show J 225 4 = _; rw [j1]; exact hT)
          | (show J 225 5 = _; rw [j1]; exact hS)
          | (show J 226 0 = _; rw [j2, hF 0 (by unfold nl_f; omega)]; exact hv)
          | (show J 226 1 = (if b = true then _ else _); rw [j2]; cases b; exact hlaw rfl; obtain ⟨-, h0, h0T, hk, hsok⟩ := hW.sea (Or.inr (Or.inr (Or.inr rfl))); exact hF 1 (by unfold nl_f; omega))
          | (show J 219 14 = _; rw [j3]; exact hm)
          | (show J 219 6 = _; rw [j3]; exact hn))
                · refine ev_aload_n (i := 0) dX10_count_156 rfl rfl ?_
                  refine ev_getR fX10_28 dX10_count_157 rfl rfl (by decide) ?_
                  refine ev_iconst (v := 0) dX10_count_160 kc_0 ?_
                  refine ev_ialdN (j := 0) dX10_count_161 rfl (by omega) (by decide) ?_
                  refine ev_goto (tgt := 167) dX10_count_162 (by decide) ?_
                  exact s_retI dX10_count_167 (by
        refine ⟨?_, fun q hq => h1.2 q hq⟩
        rcases w08 h9 with rfl | rfl | rfl | rfl | rfl | rfl | rfl | rfl | rfl <;> first
          | (exfalso; first | exact absurd rfl (by assumption) | exact absurd ‹(_ : Int32) = _› (by decide) | exact absurd ‹(_ : Int32) ≤ _› (by decide) | exact absurd (by decide) ‹¬ (_ : Int32) ≤ _›)
          | exact rfl
          | (show J 225 3 = _; rw [j1]; exact hN)
          | (show J 225 4 = _; rw [j1]; exact hT)
          | (show J 225 5 = _; rw [j1]; exact hS)
          | (show J 226 0 = _; rw [j2, hF 0 (by unfold nl_f; omega)]; exact hv)
          | (show J 226 1 = (if b = true then _ else _); rw [j2]; cases b; exact hlaw rfl; obtain ⟨-, h0, h0T, hk, hsok⟩ := hW.sea (Or.inr (Or.inr (Or.inr rfl))); exact hF 1 (by unfold nl_f; omega))
          | (show J 219 14 = _; rw [j3]; exact hm)
          | (show J 219 6 = _; rw [j3]; exact hn))
              · refine ev_iload_n (i := 3) dX10_count_147 rfl rfl ?_
                refine ev_goto (tgt := 167) dX10_count_148 (by decide) ?_
                exact s_retI dX10_count_167 (by
        refine ⟨?_, fun q hq => h1.2 q hq⟩
        rcases w08 h9 with rfl | rfl | rfl | rfl | rfl | rfl | rfl | rfl | rfl <;> first
          | (exfalso; first | exact absurd rfl (by assumption) | exact absurd ‹(_ : Int32) = _› (by decide) | exact absurd ‹(_ : Int32) ≤ _› (by decide) | exact absurd (by decide) ‹¬ (_ : Int32) ≤ _›)
          | exact rfl
          | (show J 225 3 = _; rw [j1]; exact hN)
          | (show J 225 4 = _; rw [j1]; exact hT)
          | (show J 225 5 = _; rw [j1]; exact hS)
          | (show J 226 0 = _; rw [j2, hF 0 (by unfold nl_f; omega)]; exact hv)
          | (show J 226 1 = (if b = true then _ else _); rw [j2]; cases b; exact hlaw rfl; obtain ⟨-, h0, h0T, hk, hsok⟩ := hW.sea (Or.inr (Or.inr (Or.inr rfl))); exact hF 1 (by unfold nl_f; omega))
          | (show J 219 14 = _; rw [j3]; exact hm)
          | (show J 219 6 = _; rw [j3]; exact hn))
          · refine ev_aload_n (i := 0) dX10_count_100 rfl rfl ?_
            refine ev_getR fX10_28 dX10_count_101 rfl rfl (by decide) ?_
            refine ev_iconst (v := 1) dX10_count_104 kc_1 ?_
            refine ev_ialdN (j := 1) dX10_count_105 rfl (by omega) (by decide) ?_
            refine ev_goto (tgt := 140) dX10_count_106 (by decide) ?_
            refine ev_istore dX10_count_140 (Nat.le_of_ble_eq_true rfl) rfl ?_
            refine ev_iload_n (i := 1) dX10_count_142 rfl rfl ?_
            refine ev_iconst (v := 4) dX10_count_143 kc_4 ?_
            refine ev_icmp_ge (tgt := 151) dX10_count_144 (by decide) (fun h144 => ?_) (fun h144 => ?_)
            · refine ev_iload_n (i := 1) dX10_count_151 rfl rfl ?_
              refine ev_iconst (v := 4) dX10_count_152 kc_4 ?_
              refine ev_icmp_ne (tgt := 165) dX10_count_153 (by decide) (fun h153 => ?_) (fun h153 => ?_)
              · refine ev_iload dX10_count_165 rfl ?_
                exact s_retI dX10_count_167 (by
        refine ⟨?_, fun q hq => h1.2 q hq⟩
        rcases w08 h9 with rfl | rfl | rfl | rfl | rfl | rfl | rfl | rfl | rfl <;> first
          | (exfalso; first | exact absurd rfl (by assumption) | exact absurd ‹(_ : Int32) = _› (by decide) | exact absurd ‹(_ : Int32) ≤ _› (by decide) | exact absurd (by decide) ‹¬ (_ : Int32) ≤ _›)
          | exact rfl
          | (show J 225 3 = _; rw [j1]; exact hN)
          | (show J 225 4 = _; rw [j1]; exact hT)
          | (show J 225 5 = _; rw [j1]; exact hS)
          | (show J 226 0 = _; rw [j2, hF 0 (by unfold nl_f; omega)]; exact hv)
          | (show J 226 1 = (if b = true then _ else _); rw [j2]; cases b; exact hlaw rfl; obtain ⟨-, h0, h0T, hk, hsok⟩ := hW.sea (Or.inr (Or.inr (Or.inr rfl))); exact hF 1 (by unfold nl_f; omega))
          | (show J 219 14 = _; rw [j3]; exact hm)
          | (show J 219 6 = _; rw [j3]; exact hn))
              · refine ev_aload_n (i := 0) dX10_count_156 rfl rfl ?_
                refine ev_getR fX10_28 dX10_count_157 rfl rfl (by decide) ?_
                refine ev_iconst (v := 0) dX10_count_160 kc_0 ?_
                refine ev_ialdN (j := 0) dX10_count_161 rfl (by omega) (by decide) ?_
                refine ev_goto (tgt := 167) dX10_count_162 (by decide) ?_
                exact s_retI dX10_count_167 (by
        refine ⟨?_, fun q hq => h1.2 q hq⟩
        rcases w08 h9 with rfl | rfl | rfl | rfl | rfl | rfl | rfl | rfl | rfl <;> first
          | (exfalso; first | exact absurd rfl (by assumption) | exact absurd ‹(_ : Int32) = _› (by decide) | exact absurd ‹(_ : Int32) ≤ _› (by decide) | exact absurd (by decide) ‹¬ (_ : Int32) ≤ _›)
          | exact rfl
          | (show J 225 3 = _; rw [j1]; exact hN)
          | (show J 225 4 = _; rw [j1]; exact hT)
          | (show J 225 5 = _; rw [j1]; exact hS)
          | (show J 226 0 = _; rw [j2, hF 0 (by unfold nl_f; omega)]; exact hv)
          | (show J 226 1 = (if b = true then _ else _); rw [j2]; cases b; exact hlaw rfl; obtain ⟨-, h0, h0T, hk, hsok⟩ := hW.sea (Or.inr (Or.inr (Or.inr rfl))); exact hF 1 (by unfold nl_f; omega))
          | (show J 219 14 = _; rw [j3]; exact hm)
          | (show J 219 6 = _; rw [j3]; exact hn))
            · refine ev_iload_n (i := 3) dX10_count_147 rfl rfl ?_
              refine ev_goto (tgt := 167) dX10_count_148 (by decide) ?_
              exact s_retI dX10_count_167 (by
        refine ⟨?_, fun q hq => h1.2 q hq⟩
        rcases w08 h9 with rfl | rfl | rfl | rfl | rfl | rfl | rfl | rfl | rfl <;> first
          | (exfalso; first | exact absurd rfl (by assumption) | exact absurd ‹(_ : Int32) = _› (by decide) | exact absurd ‹(_ : Int32) ≤ _› (by decide) | exact absurd (by decide) ‹¬ (_ : Int32) ≤ _›)
          | exact rfl
          | (show J 225 3 = _; rw [j1]; exact hN)
          | (show J 225 4 = _; rw [j1]; exact hT)
          | (show J 225 5 = _; rw [j1]; exact hS)
          | (show J 226 0 = _; rw [j2, hF 0 (by unfold nl_f; omega)]; exact hv)
          | (show J 226 1 = (if b = true then _ else _); rw [j2]; cases b; exact hlaw rfl; obtain ⟨-, h0, h0T, hk, hsok⟩ := hW.sea (Or.inr (Or.inr (Or.inr rfl))); exact hF 1 (by unfold nl_f; omega))
          | (show J 219 14 = _; rw [j3]; exact hm)
          | (show J 219 6 = _; rw [j3]; exact hn))
        · refine ev_aload_n (i := 0) dX10_count_79 rfl rfl ?_
          refine ev_getR fX10_25 dX10_count_80 rfl rfl (by decide) ?_
          refine ev_iconst (v := 4) dX10_count_83 kc_4 ?_
          refine ev_ialdN (j := 4) dX10_count_84 rfl (by omega) (by decide) ?_
          refine ev_goto (tgt := 94) dX10_count_85 (by decide) ?_
          refine ev_istore_n (i := 3) dX10_count_94 rfl (Nat.le_of_ble_eq_true rfl) rfl ?_
          refine ev_iload_n (i := 1) dX10_count_95 rfl rfl ?_
          refine ev_iconst (v := 5) dX10_count_96 kc_5 ?_
          refine ev_icmp_ne (tgt := 109) dX10_count_97 (by decide) (fun h97 => ?_) (fun h97 => ?_)
          · refine ev_iload_n (i := 1) dX10_count_109 rfl rfl ?_
            refine ev_bipush (v := 6) dX10_count_110 kb_6 ?_
            refine ev_icmp_ne (tgt := 123) dX10_count_112 (by decide) (fun h112 => ?_) (fun h112 => ?_)
            · refine ev_iload_n (i := 1) dX10_count_123 rfl rfl ?_
              refine ev_bipush (v := 7) dX10_count_124 kb_7 ?_
              refine ev_icmp_ne (tgt := 136) dX10_count_126 (by decide) (fun h126 => ?_) (fun h126 => ?_)
              · refine ev_aload_n (i := 0) dX10_count_136 rfl rfl ?_
                refine ev_getI fX10_89 dX10_count_137 rfl rfl (by decide) ?_
                refine ev_istore dX10_count_140 (Nat.le_of_ble_eq_true rfl) rfl ?_
                refine ev_iload_n (i := 1) dX10_count_142 rfl rfl ?_
                refine ev_iconst (v := 4) dX10_count_143 kc_4 ?_
                refine ev_icmp_ge (tgt := 151) dX10_count_144 (by decide) (fun h144 => ?_) (fun h144 => ?_)
                · refine ev_iload_n (i := 1) dX10_count_151 rfl rfl ?_
                  refine ev_iconst (v := 4) dX10_count_152 kc_4 ?_
                  refine ev_icmp_ne (tgt := 165) dX10_count_153 (by decide) (fun h153 => ?_) (fun h153 => ?_)
                  · refine ev_iload dX10_count_165 rfl ?_
                    exact s_retI dX10_count_167 (by
        refine ⟨?_, fun q hq => h1.2 q hq⟩
        rcases w08 h9 with rfl | rfl | rfl | rfl | rfl | rfl | rfl | rfl | rfl <;> first
          | (exfalso; first | exact absurd rfl (by assumption) | exact absurd ‹(_ : Int32) = _› (by decide) | exact absurd ‹(_ : Int32) ≤ _› (by decide) | exact absurd (by decide) ‹¬ (_ : Int32) ≤ _›)
          | exact rfl
          | (show J 225 3 = _; rw [j1]; exact hN)
          | (show J 225 4 = _; rw [j1]; exact hT)
          | (show J 225 5 = _; rw [j1]; exact hS)
          | (show J 226 0 = _; rw [j2, hF 0 (by unfold nl_f; omega)]; exact hv)
          | (show J 226 1 = (if b = true then _ else _); rw [j2]; cases b; exact hlaw rfl; obtain ⟨-, h0, h0T, hk, hsok⟩ := hW.sea (Or.inr (Or.inr (Or.inr rfl))); exact hF 1 (by unfold nl_f; omega))
          | (show J 219 14 = _; rw [j3]; exact hm)
          | (show J 219 6 = _; rw [j3]; exact hn))
                  · refine ev_aload_n (i := 0) dX10_count_156 rfl rfl ?_
                    refine ev_getR fX10_28 dX10_count_157 rfl rfl (by decide) ?_
                    refine ev_iconst (v := 0) dX10_count_160 kc_0 ?_
                    refine ev_ialdN (j := 0) dX10_count_161 rfl (by omega) (by decide) ?_
                    refine ev_goto (tgt := 167) dX10_count_162 (by decide) ?_
                    exact s_retI dX10_count_167 (by
        refine ⟨?_, fun q hq => h1.2 q hq⟩
        rcases w08 h9 with rfl | rfl | rfl | rfl | rfl | rfl | rfl | rfl | rfl <;> first
          | (exfalso; first | exact absurd rfl (by assumption) | exact absurd ‹(_ : Int32) = _› (by decide) | exact absurd ‹(_ : Int32) ≤ _› (by decide) | exact absurd (by decide) ‹¬ (_ : Int32) ≤ _›)
          | exact rfl
          | (show J 225 3 = _; rw [j1]; exact hN)
          | (show J 225 4 = _; rw [j1]; exact hT)
          | (show J 225 5 = _; rw [j1]; exact hS)
          | (show J 226 0 = _; rw [j2, hF 0 (by unfold nl_f; omega)]; exact hv)
          | (show J 226 1 = (if b = true then _ else _); rw [j2]; cases b; exact hlaw rfl; obtain ⟨-, h0, h0T, hk, hsok⟩ := hW.sea (Or.inr (Or.inr (Or.inr rfl))); exact hF 1 (by unfold nl_f; omega))
          | (show J 219 14 = _; rw [j3]; exact hm)
          | (show J 219 6 = _; rw [j3]; exact hn))
                · refine ev_iload_n (i := 3) dX10_count_147 rfl rfl ?_
                  refine ev_goto (tgt := 167) dX10_count_148 (by decide) ?_
                  exact s_retI dX10_count_167 (by
        refine ⟨?_, fun q hq => h1.2 q hq⟩
        rcases w08 h9 with rfl | rfl | rfl | rfl | rfl | rfl | rfl | rfl | rfl <;> first
          | (exfalso; first | exact absurd rfl (by assumption) | exact absurd ‹(_ : Int32) = _› (by decide) | exact absurd ‹(_ : Int32) ≤ _› (by decide) | exact absurd (by decide) ‹¬ (_ : Int32) ≤ _›)
          | exact rfl
          | (show J 225 3 = _; rw [j1]; exact hN)
          | (show J 225 4 = _; rw [j1]; exact hT)
          | (show J 225 5 = _; rw [j1]; exact hS)
          | (show J 226 0 = _; rw [j2, hF 0 (by unfold nl_f; omega)]; exact hv)
          | (show J 226 1 = (if b = true then _ else _); rw [j2]; cases b; exact hlaw rfl; obtain ⟨-, h0, h0T, hk, hsok⟩ := hW.sea (Or.inr (Or.inr (Or.inr rfl))); exact hF 1 (by unfold nl_f; omega))
          | (show J 219 14 = _; rw [j3]; exact hm)
          | (show J 219 6 = _; rw [j3]; exact hn))
              · refine ev_aload_n (i := 0) dX10_count_129 rfl rfl ?_
                refine ev_getI fX10_166 dX10_count_130 rfl rfl (by decide) ?_
                refine ev_goto (tgt := 140) dX10_count_133 (by decide) ?_
                refine ev_istore dX10_count_140 (Nat.le_of_ble_eq_true rfl) rfl ?_
                refine ev_iload_n (i := 1) dX10_count_142 rfl rfl ?_
                refine ev_iconst (v := 4) dX10_count_143 kc_4 ?_
                refine ev_icmp_ge (tgt := 151) dX10_count_144 (by decide) (fun h144 => ?_) (fun h144 => ?_)
                · refine ev_iload_n (i := 1) dX10_count_151 rfl rfl ?_
                  refine ev_iconst (v := 4) dX10_count_152 kc_4 ?_
                  refine ev_icmp_ne (tgt := 165) dX10_count_153 (by decide) (fun h153 => ?_) (fun h153 => ?_)
                  · refine ev_iload dX10_count_165 rfl ?_
                    exact s_retI dX10_count_167 (by
        refine ⟨?_, fun q hq => h1.2 q hq⟩
        rcases w08 h9 with rfl | rfl | rfl | rfl | rfl | rfl | rfl | rfl | rfl <;> first
          | (exfalso; first | exact absurd rfl (by assumption) | exact absurd ‹(_ : Int32) = _› (by decide) | exact absurd ‹(_ : Int32) ≤ _› (by decide) | exact absurd (by decide) ‹¬ (_ : Int32) ≤ _›)
          | exact rfl
          | (show J 225 3 = _; rw [j1]; exact hN)
          | (show J 225 4 = _; rw [j1]; exact hT)
          | (show J 225 5 = _; rw [j1]; exact hS)
          | (show J 226 0 = _; rw [j2, hF 0 (by unfold nl_f; omega)]; exact hv)
          | (show J 226 1 = (if b = true then _ else _); rw [j2]; cases b; exact hlaw rfl; obtain ⟨-, h0, h0T, hk, hsok⟩ := hW.sea (Or.inr (Or.inr (Or.inr rfl))); exact hF 1 (by unfold nl_f; omega))
          | (show J 219 14 = _; rw [j3]; exact hm)
          | (show J 219 6 = _; rw [j3]; exact hn))
                  · refine ev_aload_n (i := 0) dX10_count_156 rfl rfl ?_
                    refine ev_getR fX10_28 dX10_count_157 rfl rfl (by decide) ?_
                    refine ev_iconst (v := 0) dX10_count_160 kc_0 ?_
                    refine ev_ialdN (j := 0) dX10_count_161 rfl (by omega) (by decide) ?_
                    refine ev_goto (tgt := 167) dX10_count_162 (by decide) ?_
                    exact s_retI dX10_count_167 (by
        refine ⟨?_, fun q hq => h1.2 q hq⟩
        rcases w08 h9 with rfl | rfl | rfl | rfl | rfl | rfl | rfl | rfl | rfl <;> first
          | (exfalso; first | exact absurd rfl (by assumption) | exact absurd ‹(_ : Int32) = _› (by decide) | exact absurd ‹(_ : Int32) ≤ _› (by decide) | exact absurd (by decide) ‹¬ (_ : Int32) ≤ _›)
          | exact rfl
          | (show J 225 3 = _; rw [j1]; exact hN)
          | (show J 225 4 = _; rw [j1]; exact hT)
          | (show J 225 5 = _; rw [j1]; exact hS)
          | (show J 226 0 = _; rw [j2, hF 0 (by unfold nl_f; omega)]; exact hv)
          | (show J 226 1 = (if b = true then _ else _); rw [j2]; cases b; exact hlaw rfl; obtain ⟨-, h0, h0T, hk, hsok⟩ := hW.sea (Or.inr (Or.inr (Or.inr rfl))); exact hF 1 (by unfold nl_f; omega))
          | (show J 219 14 = _; rw [j3]; exact hm)
          | (show J 219 6 = _; rw [j3]; exact hn))
                · refine ev_iload_n (i := 3) dX10_count_147 rfl rfl ?_
                  refine ev_goto (tgt := 167) dX10_count_148 (by decide) ?_
                  exact s_retI dX10_count_167 (by
        refine ⟨?_, fun q hq => h1.2 q hq⟩
        rcases w08 h9 with rfl | rfl | rfl | rfl | rfl | rfl | rfl | rfl | rfl <;> first
          | (exfalso; first | exact absurd rfl (by assumption) | exact absurd ‹(_ : Int32) = _› (by decide) | exact absurd ‹(_ : Int32) ≤ _› (by decide) | exact absurd (by decide) ‹¬ (_ : Int32) ≤ _›)
          | exact rfl
          | (show J 225 3 = _; rw [j1]; exact hN)
          | (show J 225 4 = _; rw [j1]; exact hT)
          | (show J 225 5 = _; rw [j1]; exact hS)
          | (show J 226 0 = _; rw [j2, hF 0 (by unfold nl_f; omega)]; exact hv)
          | (show J 226 1 = (if b = true then _ else _); rw [j2]; cases b; exact hlaw rfl; obtain ⟨-, h0, h0T, hk, hsok⟩ := hW.sea (Or.inr (Or.inr (Or.inr rfl))); exact hF 1 (by unfold nl_f; omega))
          | (show J 219 14 = _; rw [j3]; exact hm)
          | (show J 219 6 = _; rw [j3]; exact hn))
            · refine ev_aload_n (i := 0) dX10_count_115 rfl rfl ?_
              refine ev_iconst (v := 0) dX10_count_116 kc_0 ?_
              refine s_dVi (As := [_]) (m_many hC1 (hW.so h1.1) _) (Nat.le_of_ble_eq_true rfl) lX10_238 kX10_many vX10_many dX10_count_117 rfl rfl rfl (by decide) rfl (Nat.le_of_ble_eq_true rfl) ?_
              refine ev_goto (tgt := 140) dX10_count_120 (by decide) ?_
              refine ev_istore dX10_count_140 (Nat.le_of_ble_eq_true rfl) rfl ?_
              refine ev_iload_n (i := 1) dX10_count_142 rfl rfl ?_
              refine ev_iconst (v := 4) dX10_count_143 kc_4 ?_
              refine ev_icmp_ge (tgt := 151) dX10_count_144 (by decide) (fun h144 => ?_) (fun h144 => ?_)
              · refine ev_iload_n (i := 1) dX10_count_151 rfl rfl ?_
                refine ev_iconst (v := 4) dX10_count_152 kc_4 ?_
                refine ev_icmp_ne (tgt := 165) dX10_count_153 (by decide) (fun h153 => ?_) (fun h153 => ?_)
                · refine ev_iload dX10_count_165 rfl ?_
                  exact s_retI dX10_count_167 (by
        refine ⟨?_, fun q hq => h1.2 q hq⟩
        rcases w08 h9 with rfl | rfl | rfl | rfl | rfl | rfl | rfl | rfl | rfl <;> first
          | (exfalso; first | exact absurd rfl (by assumption) | exact absurd ‹(_ : Int32) = _› (by decide) | exact absurd ‹(_ : Int32) ≤ _› (by decide) | exact absurd (by decide) ‹¬ (_ : Int32) ≤ _›)
          | exact rfl
          | (show J 225 3 = _; rw [j1]; exact hN)
          | (show J 225 4 = _; rw [j1]; exact hT)
          | (show J 225 5 = _; rw [j1]; exact hS)
          | (show J 226 0 = _; rw [j2, hF 0 (by unfold nl_f; omega)]; exact hv)
          | (show J 226 1 = (if b = true then _ else _); rw [j2]; cases b; exact hlaw rfl; obtain ⟨-, h0, h0T, hk, hsok⟩ := hW.sea (Or.inr (Or.inr (Or.inr rfl))); exact hF 1 (by unfold nl_f; omega))
          | (show J 219 14 = _; rw [j3]; exact hm)
          | (show J 219 6 = _; rw [j3]; exact hn))
                · refine ev_aload_n (i := 0) dX10_count_156 rfl rfl ?_
                  refine ev_getR fX10_28 dX10_count_157 rfl rfl (by decide) ?_
                  refine ev_iconst (v := 0) dX10_count_160 kc_0 ?_
                  refine ev_ialdN (j := 0) dX10_count_161 rfl (by omega) (by decide) ?_
                  refine ev_goto (tgt := 167) dX10_count_162 (by decide) ?_
                  exact s_retI dX10_count_167 (by
        refine ⟨?_, fun q hq => h1.2 q hq⟩
        rcases w08 h9 with rfl | rfl | rfl | rfl | rfl | rfl | rfl | rfl | rfl <;> first
          | (exfalso; first | exact absurd rfl (by assumption) | exact absurd ‹(_ : Int32) = _› (by decide) | exact absurd ‹(_ : Int32) ≤ _› (by decide) | exact absurd (by decide) ‹¬ (_ : Int32) ≤ _›)
          | exact rfl
          | (show J 225 3 = _; rw [j1]; exact hN)
          | (show J 225 4 = _; rw [j1]; exact hT)
          | (show J 225 5 = _; rw [j1]; exact hS)
          | (show J 226 0 = _; rw [j2, hF 0 (by unfold nl_f; omega)]; exact hv)
          | (show J 226 1 = (if b = true then _ else _); rw [j2]; cases b; exact hlaw rfl; obtain ⟨-, h0, h0T, hk, hsok⟩ := hW.sea (Or.inr (Or.inr (Or.inr rfl))); exact hF 1 (by unfold nl_f; omega))
          | (show J 219 14 = _; rw [j3]; exact hm)
          | (show J 219 6 = _; rw [j3]; exact hn))
              · refine ev_iload_n (i := 3) dX10_count_147 rfl rfl ?_
                refine ev_goto (tgt := 167) dX10_count_148 (by decide) ?_
                exact s_retI dX10_count_167 (by
        refine ⟨?_, fun q hq => h1.2 q hq⟩
        rcases w08 h9 with rfl | rfl | rfl | rfl | rfl | rfl | rfl | rfl | rfl <;> first
          | (exfalso; first | exact absurd rfl (by assumption) | exact absurd ‹(_ : Int32) = _› (by decide) | exact absurd ‹(_ : Int32) ≤ _› (by decide) | exact absurd (by decide) ‹¬ (_ : Int32) ≤ _›)
          | exact rfl
          | (show J 225 3 = _; rw [j1]; exact hN)
          | (show J 225 4 = _; rw [j1]; exact hT)
          | (show J 225 5 = _; rw [j1]; exact hS)
          | (show J 226 0 = _; rw [j2, hF 0 (by unfold nl_f; omega)]; exact hv)
          | (show J 226 1 = (if b = true then _ else _); rw [j2]; cases b; exact hlaw rfl; obtain ⟨-, h0, h0T, hk, hsok⟩ := hW.sea (Or.inr (Or.inr (Or.inr rfl))); exact hF 1 (by unfold nl_f; omega))
          | (show J 219 14 = _; rw [j3]; exact hm)
          | (show J 219 6 = _; rw [j3]; exact hn))
          · refine ev_aload_n (i := 0) dX10_count_100 rfl rfl ?_
            refine ev_getR fX10_28 dX10_count_101 rfl rfl (by decide) ?_
            refine ev_iconst (v := 1) dX10_count_104 kc_1 ?_
            refine ev_ialdN (j := 1) dX10_count_105 rfl (by omega) (by decide) ?_
            refine ev_goto (tgt := 140) dX10_count_106 (by decide) ?_
            refine ev_istore dX10_count_140 (Nat.le_of_ble_eq_true rfl) rfl ?_
            refine ev_iload_n (i := 1) dX10_count_142 rfl rfl ?_
            refine ev_iconst (v := 4) dX10_count_143 kc_4 ?_
            refine ev_icmp_ge (tgt := 151) dX10_count_144 (by decide) (fun h144 => ?_) (fun h144 => ?_)
            · refine ev_iload_n (i := 1) dX10_count_151 rfl rfl ?_
              refine ev_iconst (v := 4) dX10_count_152 kc_4 ?_
              refine ev_icmp_ne (tgt := 165) dX10_count_153 (by decide) (fun h153 => ?_) (fun h153 => ?_)
              · refine ev_iload dX10_count_165 rfl ?_
                exact s_retI dX10_count_167 (by
        refine ⟨?_, fun q hq => h1.2 q hq⟩
        rcases w08 h9 with rfl | rfl | rfl | rfl | rfl | rfl | rfl | rfl | rfl <;> first
          | (exfalso; first | exact absurd rfl (by assumption) | exact absurd ‹(_ : Int32) = _› (by decide) | exact absurd ‹(_ : Int32) ≤ _› (by decide) | exact absurd (by decide) ‹¬ (_ : Int32) ≤ _›)
          | exact rfl
          | (show J 225 3 = _; rw [j1]; exact hN)
          | (show J 225 4 = _; rw [j1]; exact hT)
          | (show J 225 5 = _; rw [j1]; exact hS)
          | (show J 226 0 = _; rw [j2, hF 0 (by unfold nl_f; omega)]; exact hv)
          | (show J 226 1 = (if b = true then _ else _); rw [j2]; cases b; exact hlaw rfl; obtain ⟨-, h0, h0T, hk, hsok⟩ := hW.sea (Or.inr (Or.inr (Or.inr rfl))); exact hF 1 (by unfold nl_f; omega))
          | (show J 219 14 = _; rw [j3]; exact hm)
          | (show J 219 6 = _; rw [j3]; exact hn))
              · refine ev_aload_n (i := 0) dX10_count_156 rfl rfl ?_
                refine ev_getR fX10_28 dX10_count_157 rfl rfl (by decide) ?_
                refine ev_iconst (v := 0) dX10_count_160 kc_0 ?_
                refine ev_ialdN (j := 0) dX10_count_161 rfl (by omega) (by decide) ?_
                refine ev_goto (tgt := 167) dX10_count_162 (by decide) ?_
                exact s_retI dX10_count_167 (by
        refine ⟨?_, fun q hq => h1.2 q hq⟩
        rcases w08 h9 with rfl | rfl | rfl | rfl | rfl | rfl | rfl | rfl | rfl <;> first
          | (exfalso; first | exact absurd rfl (by assumption) | exact absurd ‹(_ : Int32) = _› (by decide) | exact absurd ‹(_ : Int32) ≤ _› (by decide) | exact absurd (by decide) ‹¬ (_ : Int32) ≤ _›)
          | exact rfl
          | (show J 225 3 = _; rw [j1]; exact hN)
          | (show J 225 4 = _; rw [j1]; exact hT)
          | (show J 225 5 = _; rw [j1]; exact hS)
          | (show J 226 0 = _; rw [j2, hF 0 (by unfold nl_f; omega)]; exact hv)
          | (show J 226 1 = (if b = true then _ else _); rw [j2]; cases b; exact hlaw rfl; obtain ⟨-, h0, h0T, hk, hsok⟩ := hW.sea (Or.inr (Or.inr (Or.inr rfl))); exact hF 1 (by unfold nl_f; omega))
          | (show J 219 14 = _; rw [j3]; exact hm)
          | (show J 219 6 = _; rw [j3]; exact hn))
            · refine ev_iload_n (i := 3) dX10_count_147 rfl rfl ?_
              refine ev_goto (tgt := 167) dX10_count_148 (by decide) ?_
              exact s_retI dX10_count_167 (by
        refine ⟨?_, fun q hq => h1.2 q hq⟩
        rcases w08 h9 with rfl | rfl | rfl | rfl | rfl | rfl | rfl | rfl | rfl <;> first
          | (exfalso; first | exact absurd rfl (by assumption) | exact absurd ‹(_ : Int32) = _› (by decide) | exact absurd ‹(_ : Int32) ≤ _› (by decide) | exact absurd (by decide) ‹¬ (_ : Int32) ≤ _›)
          | exact rfl
          | (show J 225 3 = _; rw [j1]; exact hN)
          | (show J 225 4 = _; rw [j1]; exact hT)
          | (show J 225 5 = _; rw [j1]; exact hS)
          | (show J 226 0 = _; rw [j2, hF 0 (by unfold nl_f; omega)]; exact hv)
          | (show J 226 1 = (if b = true then _ else _); rw [j2]; cases b; exact hlaw rfl; obtain ⟨-, h0, h0T, hk, hsok⟩ := hW.sea (Or.inr (Or.inr (Or.inr rfl))); exact hF 1 (by unfold nl_f; omega))
          | (show J 219 14 = _; rw [j3]; exact hm)
          | (show J 219 6 = _; rw [j3]; exact hn))
      · refine ev_aload_n (i := 0) dX10_count_65 rfl rfl ?_
        refine ev_getR fX10_25 dX10_count_66 rfl rfl (by decide) ?_
        refine ev_iconst (v := 3) dX10_count_69 kc_3 ?_
        refine ev_ialdN (j := 3) dX10_count_70 rfl (by omega) (by decide) ?_
        refine ev_goto (tgt := 94) dX10_count_71 (by decide) ?_
        refine ev_istore_n (i := 3) dX10_count_94 rfl (Nat.le_of_ble_eq_true rfl) rfl ?_
        refine ev_iload_n (i := 1) dX10_count_95 rfl rfl ?_
        refine ev_iconst (v := 5) dX10_count_96 kc_5 ?_
        refine ev_icmp_ne (tgt := 109) dX10_count_97 (by decide) (fun h97 => ?_) (fun h97 => ?_)
        · refine ev_iload_n (i := 1) dX10_count_109 rfl rfl ?_
          refine ev_bipush (v := 6) dX10_count_110 kb_6 ?_
          refine ev_icmp_ne (tgt := 123) dX10_count_112 (by decide) (fun h112 => ?_) (fun h112 => ?_)
          · refine ev_iload_n (i := 1) dX10_count_123 rfl rfl ?_
            refine ev_bipush (v := 7) dX10_count_124 kb_7 ?_
            refine ev_icmp_ne (tgt := 136) dX10_count_126 (by decide) (fun h126 => ?_) (fun h126 => ?_)
            · refine ev_aload_n (i := 0) dX10_count_136 rfl rfl ?_
              refine ev_getI fX10_89 dX10_count_137 rfl rfl (by decide) ?_
              refine ev_istore dX10_count_140 (Nat.le_of_ble_eq_true rfl) rfl ?_
              refine ev_iload_n (i := 1) dX10_count_142 rfl rfl ?_
              refine ev_iconst (v := 4) dX10_count_143 kc_4 ?_
              refine ev_icmp_ge (tgt := 151) dX10_count_144 (by decide) (fun h144 => ?_) (fun h144 => ?_)
              · refine ev_iload_n (i := 1) dX10_count_151 rfl rfl ?_
                refine ev_iconst (v := 4) dX10_count_152 kc_4 ?_
                refine ev_icmp_ne (tgt := 165) dX10_count_153 (by decide) (fun h153 => ?_) (fun h153 => ?_)
                · refine ev_iload dX10_count_165 rfl ?_
                  exact s_retI dX10_count_167 (by
        refine ⟨?_, fun q hq => h1.2 q hq⟩
        rcases w08 h9 with rfl | rfl | rfl | rfl | rfl | rfl | rfl | rfl | rfl <;> first
          | (exfalso; first | exact absurd rfl (by assumption) | exact absurd ‹(_ : Int32) = _› (by decide) | exact absurd ‹(_ : Int32) ≤ _› (by decide) | exact absurd (by decide) ‹¬ (_ : Int32) ≤ _›)
          | exact rfl
          | (show J 225 3 = _; rw [j1]; exact hN)
          | (show J 225 4 = _; rw [j1]; exact hT)
          | (show J 225 5 = _; rw [j1]; exact hS)
          | (show J 226 0 = _; rw [j2, hF 0 (by unfold nl_f; omega)]; exact hv)
          | (show J 226 1 = (if b = true then _ else _); rw [j2]; cases b; exact hlaw rfl; obtain ⟨-, h0, h0T, hk, hsok⟩ := hW.sea (Or.inr (Or.inr (Or.inr rfl))); exact hF 1 (by unfold nl_f; omega))
          | (show J 219 14 = _; rw [j3]; exact hm)
          | (show J 219 6 = _; rw [j3]; exact hn))
                · refine ev_aload_n (i := 0) dX10_count_156 rfl rfl ?_
                  refine ev_getR fX10_28 dX10_count_157 rfl rfl (by decide) ?_
                  refine ev_iconst (v := 0) dX10_count_160 kc_0 ?_
                  refine ev_ialdN (j := 0) dX10_count_161 rfl (by omega) (by decide) ?_
                  refine ev_goto (tgt := 167) dX10_count_162 (by decide) ?_
                  exact s_retI dX10_count_167 (by
        refine ⟨?_, fun q hq => h1.2 q hq⟩
        rcases w08 h9 with rfl | rfl | rfl | rfl | rfl | rfl | rfl | rfl | rfl <;> first
          | (exfalso; first | exact absurd rfl (by assumption) | exact absurd ‹(_ : Int32) = _› (by decide) | exact absurd ‹(_ : Int32) ≤ _› (by decide) | exact absurd (by decide) ‹¬ (_ : Int32) ≤ _›)
          | exact rfl
          | (show J 225 3 = _; rw [j1]; exact hN)
          | (show J 225 4 = _; rw [j1]; exact hT)
          | (show J 225 5 = _; rw [j1]; exact hS)
          | (show J 226 0 = _; rw [j2, hF 0 (by unfold nl_f; omega)]; exact hv)
          | (show J 226 1 = (if b = true then _ else _); rw [j2]; cases b; exact hlaw rfl; obtain ⟨-, h0, h0T, hk, hsok⟩ := hW.sea (Or.inr (Or.inr (Or.inr rfl))); exact hF 1 (by unfold nl_f; omega))
          | (show J 219 14 = _; rw [j3]; exact hm)
          | (show J 219 6 = _; rw [j3]; exact hn))
              · refine ev_iload_n (i := 3) dX10_count_147 rfl rfl ?_
                refine ev_goto (tgt := 167) dX10_count_148 (by decide) ?_
                exact s_retI dX10_count_167 (by
        refine ⟨?_, fun q hq => h1.2 q hq⟩
        rcases w08 h9 with rfl | rfl | rfl | rfl | rfl | rfl | rfl | rfl | rfl <;> first
          | (exfalso; first | exact absurd rfl (by assumption) | exact absurd ‹(_ : Int32) = _› (by decide) | exact absurd ‹(_ : Int32) ≤ _› (by decide) | exact absurd (by decide) ‹¬ (_ : Int32) ≤ _›)
          | exact rfl
          | (show J 225 3 = _; rw [j1]; exact hN)
          | (show J 225 4 = _; rw [j1]; exact hT)
          | (show J 225 5 = _; rw [j1]; exact hS)
          | (show J 226 0 = _; rw [j2, hF 0 (by unfold nl_f; omega)]; exact hv)
          | (show J 226 1 = (if b = true then _ else _); rw [j2]; cases b; exact hlaw rfl; obtain ⟨-, h0, h0T, hk, hsok⟩ := hW.sea (Or.inr (Or.inr (Or.inr rfl))); exact hF 1 (by unfold nl_f; omega))
          | (show J 219 14 = _; rw [j3]; exact hm)
          | (show J 219 6 = _; rw [j3]; exact hn))
            · refine ev_aload_n (i := 0) dX10_count_129 rfl rfl ?_
              refine ev_getI fX10_166 dX10_count_130 rfl rfl (by decide) ?_
              refine ev_goto (tgt := 140) dX10_count_133 (by decide) ?_
              refine ev_istore dX10_count_140 (Nat.le_of_ble_eq_true rfl) rfl ?_
              refine ev_iload_n (i := 1) dX10_count_142 rfl rfl ?_
              refine ev_iconst (v := 4) dX10_count_143 kc_4 ?_
              refine ev_icmp_ge (tgt := 151) dX10_count_144 (by decide) (fun h144 => ?_) (fun h144 => ?_)
              · refine ev_iload_n (i := 1) dX10_count_151 rfl rfl ?_
                refine ev_iconst (v := 4) dX10_count_152 kc_4 ?_
                refine ev_icmp_ne (tgt := 165) dX10_count_153 (by decide) (fun h153 => ?_) (fun h153 => ?_)
                · refine ev_iload dX10_count_165 rfl ?_
                  exact s_retI dX10_count_167 (by
        refine ⟨?_, fun q hq => h1.2 q hq⟩
        rcases w08 h9 with rfl | rfl | rfl | rfl | rfl | rfl | rfl | rfl | rfl <;> first
          | (exfalso; first | exact absurd rfl (by assumption) | exact absurd ‹(_ : Int32) = _› (by decide) | exact absurd ‹(_ : Int32) ≤ _› (by decide) | exact absurd (by decide) ‹¬ (_ : Int32) ≤ _›)
          | exact rfl
          | (show J 225 3 = _; rw [j1]; exact hN)
          | (show J 225 4 = _; rw [j1]; exact hT)
          | (show J 225 5 = _; rw [j1]; exact hS)
          | (show J 226 0 = _; rw [j2, hF 0 (by unfold nl_f; omega)]; exact hv)
          | (show J 226 1 = (if b = true then _ else _); rw [j2]; cases b; exact hlaw rfl; obtain ⟨-, h0, h0T, hk, hsok⟩ := hW.sea (Or.inr (Or.inr (Or.inr rfl))); exact hF 1 (by unfold nl_f; omega))
          | (show J 219 14 = _; rw [j3]; exact hm)
          | (show J 219 6 = _; rw [j3]; exact hn))
                · refine ev_aload_n (i := 0) dX10_count_156 rfl rfl ?_
                  refine ev_getR fX10_28 dX10_count_157 rfl rfl (by decide) ?_
                  refine ev_iconst (v := 0) dX10_count_160 kc_0 ?_
                  refine ev_ialdN (j := 0) dX10_count_161 rfl (by omega) (by decide) ?_
                  refine ev_goto (tgt := 167) dX10_count_162 (by decide) ?_
                  exact s_retI dX10_count_167 (by
        refine ⟨?_, fun q hq => h1.2 q hq⟩
        rcases w08 h9 with rfl | rfl | rfl | rfl | rfl | rfl | rfl | rfl | rfl <;> first
          | (exfalso; first | exact absurd rfl (by assumption) | exact absurd ‹(_ : Int32) = _› (by decide) | exact absurd ‹(_ : Int32) ≤ _› (by decide) | exact absurd (by decide) ‹¬ (_ : Int32) ≤ _›)
          | exact rfl
          | (show J 225 3 = _; rw [j1]; exact hN)
          | (show J 225 4 = _; rw [j1]; exact hT)
          | (show J 225 5 = _; rw [j1]; exact hS)
          | (show J 226 0 = _; rw [j2, hF 0 (by unfold nl_f; omega)]; exact hv)
          | (show J 226 1 = (if b = true then _ else _); rw [j2]; cases b; exact hlaw rfl; obtain ⟨-, h0, h0T, hk, hsok⟩ := hW.sea (Or.inr (Or.inr (Or.inr rfl))); exact hF 1 (by unfold nl_f; omega))
          | (show J 219 14 = _; rw [j3]; exact hm)
          | (show J 219 6 = _; rw [j3]; exact hn))
              · refine ev_iload_n (i := 3) dX10_count_147 rfl rfl ?_
                refine ev_goto (tgt := 167) dX10_count_148 (by decide) ?_
                exact s_retI dX10_count_167 (by
        refine ⟨?_, fun q hq => h1.2 q hq⟩
        rcases w08 h9 with rfl | rfl | rfl | rfl | rfl | rfl | rfl | rfl | rfl <;> first
          | (exfalso; first | exact absurd rfl (by assumption) | exact absurd ‹(_ : Int32) = _› (by decide) | exact absurd ‹(_ : Int32) ≤ _› (by decide) | exact absurd (by decide) ‹¬ (_ : Int32) ≤ _›)
          | exact rfl
          | (show J 225 3 = _; rw [j1]; exact hN)
          | (show J 225 4 = _; rw [j1]; exact hT)
          | (show J 225 5 = _; rw [j1]; exact hS)
          | (show J 226 0 = _; rw [j2, hF 0 (by unfold nl_f; omega)]; exact hv)
          | (show J 226 1 = (if b = true then _ else _); rw [j2]; cases b; exact hlaw rfl; obtain ⟨-, h0, h0T, hk, hsok⟩ := hW.sea (Or.inr (Or.inr (Or.inr rfl))); exact hF 1 (by unfold nl_f; omega))
          | (show J 219 14 = _; rw [j3]; exact hm)
          | (show J 219 6 = _; rw [j3]; exact hn))
          · refine ev_aload_n (i := 0) dX10_count_115 rfl rfl ?_
            refine ev_iconst (v := 0) dX10_count_116 kc_0 ?_
            refine s_dVi (As := [_]) (m_many hC1 (hW.so h1.1) _) (Nat.le_of_ble_eq_true rfl) lX10_238 kX10_many vX10_many dX10_count_117 rfl rfl rfl (by decide) rfl (Nat.le_of_ble_eq_true rfl) ?_
            refine ev_goto (tgt := 140) dX10_count_120 (by decide) ?_
            refine ev_istore dX10_count_140 (Nat.le_of_ble_eq_true rfl) rfl ?_
            refine ev_iload_n (i := 1) dX10_count_142 rfl rfl ?_
            refine ev_iconst (v := 4) dX10_count_143 kc_4 ?_
            refine ev_icmp_ge (tgt := 151) dX10_count_144 (by decide) (fun h144 => ?_) (fun h144 => ?_)
            · refine ev_iload_n (i := 1) dX10_count_151 rfl rfl ?_
              refine ev_iconst (v := 4) dX10_count_152 kc_4 ?_
              refine ev_icmp_ne (tgt := 165) dX10_count_153 (by decide) (fun h153 => ?_) (fun h153 => ?_)
              · refine ev_iload dX10_count_165 rfl ?_
                exact s_retI dX10_count_167 (by
        refine ⟨?_, fun q hq => h1.2 q hq⟩
        rcases w08 h9 with rfl | rfl | rfl | rfl | rfl | rfl | rfl | rfl | rfl <;> first
          | (exfalso; first | exact absurd rfl (by assumption) | exact absurd ‹(_ : Int32) = _› (by decide) | exact absurd ‹(_ : Int32) ≤ _› (by decide) | exact absurd (by decide) ‹¬ (_ : Int32) ≤ _›)
          | exact rfl
          | (show J 225 3 = _; rw [j1]; exact hN)
          | (show J 225 4 = _; rw [j1]; exact hT)
          | (show J 225 5 = _; rw [j1]; exact hS)
          | (show J 226 0 = _; rw [j2, hF 0 (by unfold nl_f; omega)]; exact hv)
          | (show J 226 1 = (if b = true then _ else _); rw [j2]; cases b; exact hlaw rfl; obtain ⟨-, h0, h0T, hk, hsok⟩ := hW.sea (Or.inr (Or.inr (Or.inr rfl))); exact hF 1 (by unfold nl_f; omega))
          | (show J 219 14 = _; rw [j3]; exact hm)
          | (show J 219 6 = _; rw [j3]; exact hn))
              · refine ev_aload_n (i := 0) dX10_count_156 rfl rfl ?_
                refine ev_getR fX10_28 dX10_count_157 rfl rfl (by decide) ?_
                refine ev_iconst (v := 0) dX10_count_160 kc_0 ?_
                refine ev_ialdN (j := 0) dX10_count_161 rfl (by omega) (by decide) ?_
                refine ev_goto (tgt := 167) dX10_count_162 (by decide) ?_
                exact s_retI dX10_count_167 (by
        refine ⟨?_, fun q hq => h1.2 q hq⟩
        rcases w08 h9 with rfl | rfl | rfl | rfl | rfl | rfl | rfl | rfl | rfl <;> first
          | (exfalso; first | exact absurd rfl (by assumption) | exact absurd ‹(_ : Int32) = _› (by decide) | exact absurd ‹(_ : Int32) ≤ _› (by decide) | exact absurd (by decide) ‹¬ (_ : Int32) ≤ _›)
          | exact rfl
          | (show J 225 3 = _; rw [j1]; exact hN)
          | (show J 225 4 = _; rw [j1]; exact hT)
          | (show J 225 5 = _; rw [j1]; exact hS)
          | (show J 226 0 = _; rw [j2, hF 0 (by unfold nl_f; omega)]; exact hv)
          | (show J 226 1 = (if b = true then _ else _); rw [j2]; cases b; exact hlaw rfl; obtain ⟨-, h0, h0T, hk, hsok⟩ := hW.sea (Or.inr (Or.inr (Or.inr rfl))); exact hF 1 (by unfold nl_f; omega))
          | (show J 219 14 = _; rw [j3]; exact hm)
          | (show J 219 6 = _; rw [j3]; exact hn))
            · refine ev_iload_n (i := 3) dX10_count_147 rfl rfl ?_
              refine ev_goto (tgt := 167) dX10_count_148 (by decide) ?_
              exact s_retI dX10_count_167 (by
        refine ⟨?_, fun q hq => h1.2 q hq⟩
        rcases w08 h9 with rfl | rfl | rfl | rfl | rfl | rfl | rfl | rfl | rfl <;> first
          | (exfalso; first | exact absurd rfl (by assumption) | exact absurd ‹(_ : Int32) = _› (by decide) | exact absurd ‹(_ : Int32) ≤ _› (by decide) | exact absurd (by decide) ‹¬ (_ : Int32) ≤ _›)
          | exact rfl
          | (show J 225 3 = _; rw [j1]; exact hN)
          | (show J 225 4 = _; rw [j1]; exact hT)
          | (show J 225 5 = _; rw [j1]; exact hS)
          | (show J 226 0 = _; rw [j2, hF 0 (by unfold nl_f; omega)]; exact hv)
          | (show J 226 1 = (if b = true then _ else _); rw [j2]; cases b; exact hlaw rfl; obtain ⟨-, h0, h0T, hk, hsok⟩ := hW.sea (Or.inr (Or.inr (Or.inr rfl))); exact hF 1 (by unfold nl_f; omega))
          | (show J 219 14 = _; rw [j3]; exact hm)
          | (show J 219 6 = _; rw [j3]; exact hn))
        · refine ev_aload_n (i := 0) dX10_count_100 rfl rfl ?_
          refine ev_getR fX10_28 dX10_count_101 rfl rfl (by decide) ?_
          refine ev_iconst (v := 1) dX10_count_104 kc_1 ?_
          refine ev_ialdN (j := 1) dX10_count_105 rfl (by omega) (by decide) ?_
          refine ev_goto (tgt := 140) dX10_count_106 (by decide) ?_
          refine ev_istore dX10_count_140 (Nat.le_of_ble_eq_true rfl) rfl ?_
          refine ev_iload_n (i := 1) dX10_count_142 rfl rfl ?_
          refine ev_iconst (v := 4) dX10_count_143 kc_4 ?_
          refine ev_icmp_ge (tgt := 151) dX10_count_144 (by decide) (fun h144 => ?_) (fun h144 => ?_)
          · refine ev_iload_n (i := 1) dX10_count_151 rfl rfl ?_
            refine ev_iconst (v := 4) dX10_count_152 kc_4 ?_
            refine ev_icmp_ne (tgt := 165) dX10_count_153 (by decide) (fun h153 => ?_) (fun h153 => ?_)
            · refine ev_iload dX10_count_165 rfl ?_
              exact s_retI dX10_count_167 (by
        refine ⟨?_, fun q hq => h1.2 q hq⟩
        rcases w08 h9 with rfl | rfl | rfl | rfl | rfl | rfl | rfl | rfl | rfl <;> first
          | (exfalso; first | exact absurd rfl (by assumption) | exact absurd ‹(_ : Int32) = _› (by decide) | exact absurd ‹(_ : Int32) ≤ _› (by decide) | exact absurd (by decide) ‹¬ (_ : Int32) ≤ _›)
          | exact rfl
          | (show J 225 3 = _; rw [j1]; exact hN)
          | (show J 225 4 = _; rw [j1]; exact hT)
          | (show J 225 5 = _; rw [j1]; exact hS)
          | (show J 226 0 = _; rw [j2, hF 0 (by unfold nl_f; omega)]; exact hv)
          | (show J 226 1 = (if b = true then _ else _); rw [j2]; cases b; exact hlaw rfl; obtain ⟨-, h0, h0T, hk, hsok⟩ := hW.sea (Or.inr (Or.inr (Or.inr rfl))); exact hF 1 (by unfold nl_f; omega))
          | (show J 219 14 = _; rw [j3]; exact hm)
          | (show J 219 6 = _; rw [j3]; exact hn))
            · refine ev_aload_n (i := 0) dX10_count_156 rfl rfl ?_
              refine ev_getR fX10_28 dX10_count_157 rfl rfl (by decide) ?_
              refine ev_iconst (v := 0) dX10_count_160 kc_0 ?_
              refine ev_ialdN (j := 0) dX10_count_161 rfl (by omega) (by decide) ?_
              refine ev_goto (tgt := 167) dX10_count_162 (by decide) ?_
              exact s_retI dX10_count_167 (by
        refine ⟨?_, fun q hq => h1.2 q hq⟩
        rcases w08 h9 with rfl | rfl | rfl | rfl | rfl | rfl | rfl | rfl | rfl <;> first
          | (exfalso; first | exact absurd rfl (by assumption) | exact absurd ‹(_ : Int32) = _› (by decide) | exact absurd ‹(_ : Int32) ≤ _› (by decide) | exact absurd (by decide) ‹¬ (_ : Int32) ≤ _›)
          | exact rfl
          | (show J 225 3 = _; rw [j1]; exact hN)
          | (show J 225 4 = _; rw [j1]; exact hT)
          | (show J 225 5 = _; rw [j1]; exact hS)
          | (show J 226 0 = _; rw [j2, hF 0 (by unfold nl_f; omega)]; exact hv)
          | (show J 226 1 = (if b = true then _ else _); rw [j2]; cases b; exact hlaw rfl; obtain ⟨-, h0, h0T, hk, hsok⟩ := hW.sea (Or.inr (Or.inr (Or.inr rfl))); exact hF 1 (by unfold nl_f; omega))
          | (show J 219 14 = _; rw [j3]; exact hm)
          | (show J 219 6 = _; rw [j3]; exact hn))
          · refine ev_iload_n (i := 3) dX10_count_147 rfl rfl ?_
            refine ev_goto (tgt := 167) dX10_count_148 (by decide) ?_
            exact s_retI dX10_count_167 (by
        refine ⟨?_, fun q hq => h1.2 q hq⟩
        rcases w08 h9 with rfl | rfl | rfl | rfl | rfl | rfl | rfl | rfl | rfl <;> first
          | (exfalso; first | exact absurd rfl (by assumption) | exact absurd ‹(_ : Int32) = _› (by decide) | exact absurd ‹(_ : Int32) ≤ _› (by decide) | exact absurd (by decide) ‹¬ (_ : Int32) ≤ _›)
          | exact rfl
          | (show J 225 3 = _; rw [j1]; exact hN)
          | (show J 225 4 = _; rw [j1]; exact hT)
          | (show J 225 5 = _; rw [j1]; exact hS)
          | (show J 226 0 = _; rw [j2, hF 0 (by unfold nl_f; omega)]; exact hv)
          | (show J 226 1 = (if b = true then _ else _); rw [j2]; cases b; exact hlaw rfl; obtain ⟨-, h0, h0T, hk, hsok⟩ := hW.sea (Or.inr (Or.inr (Or.inr rfl))); exact hF 1 (by unfold nl_f; omega))
          | (show J 219 14 = _; rw [j3]; exact hm)
          | (show J 219 6 = _; rw [j3]; exact hn))
    · refine ev_iload_n (i := 2) dX10_count_56 rfl rfl ?_
      refine ev_goto (tgt := 94) dX10_count_57 (by decide) ?_
      refine ev_istore_n (i := 3) dX10_count_94 rfl (Nat.le_of_ble_eq_true rfl) rfl ?_
      refine ev_iload_n (i := 1) dX10_count_95 rfl rfl ?_
      refine ev_iconst (v := 5) dX10_count_96 kc_5 ?_
      refine ev_icmp_ne (tgt := 109) dX10_count_97 (by decide) (fun h97 => ?_) (fun h97 => ?_)
      · refine ev_iload_n (i := 1) dX10_count_109 rfl rfl ?_
        refine ev_bipush (v := 6) dX10_count_110 kb_6 ?_
        refine ev_icmp_ne (tgt := 123) dX10_count_112 (by decide) (fun h112 => ?_) (fun h112 => ?_)
        · refine ev_iload_n (i := 1) dX10_count_123 rfl rfl ?_
          refine ev_bipush (v := 7) dX10_count_124 kb_7 ?_
          refine ev_icmp_ne (tgt := 136) dX10_count_126 (by decide) (fun h126 => ?_) (fun h126 => ?_)
          · refine ev_aload_n (i := 0) dX10_count_136 rfl rfl ?_
            refine ev_getI fX10_89 dX10_count_137 rfl rfl (by decide) ?_
            refine ev_istore dX10_count_140 (Nat.le_of_ble_eq_true rfl) rfl ?_
            refine ev_iload_n (i := 1) dX10_count_142 rfl rfl ?_
            refine ev_iconst (v := 4) dX10_count_143 kc_4 ?_
            refine ev_icmp_ge (tgt := 151) dX10_count_144 (by decide) (fun h144 => ?_) (fun h144 => ?_)
            · refine ev_iload_n (i := 1) dX10_count_151 rfl rfl ?_
              refine ev_iconst (v := 4) dX10_count_152 kc_4 ?_
              refine ev_icmp_ne (tgt := 165) dX10_count_153 (by decide) (fun h153 => ?_) (fun h153 => ?_)
              · refine ev_iload dX10_count_165 rfl ?_
                exact s_retI dX10_count_167 (by
        refine ⟨?_, fun q hq => h1.2 q hq⟩
        rcases w08 h9 with rfl | rfl | rfl | rfl | rfl | rfl | rfl | rfl | rfl <;> first
          | (exfalso; first | exact absurd rfl (by assumption) | exact absurd ‹(_ : Int32) = _› (by decide) | exact absurd ‹(_ : Int32) ≤ _› (by decide) | exact absurd (by decide) ‹¬ (_ : Int32) ≤ _›)
          | exact rfl
          | (show J 225 3 = _; rw [j1]; exact hN)
          | (show J 225 4 = _; rw [j1]; exact hT)
          | (show J 225 5 = _; rw [j1]; exact hS)
          | (show J 226 0 = _; rw [j2, hF 0 (by unfold nl_f; omega)]; exact hv)
          | (show J 226 1 = (if b = true then _ else _); rw [j2]; cases b; exact hlaw rfl; obtain ⟨-, h0, h0T, hk, hsok⟩ := hW.sea (Or.inr (Or.inr (Or.inr rfl))); exact hF 1 (by unfold nl_f; omega))
          | (show J 219 14 = _; rw [j3]; exact hm)
          | (show J 219 6 = _; rw [j3]; exact hn))
              · refine ev_aload_n (i := 0) dX10_count_156 rfl rfl ?_
                refine ev_getR fX10_28 dX10_count_157 rfl rfl (by decide) ?_
                refine ev_iconst (v := 0) dX10_count_160 kc_0 ?_
                refine ev_ialdN (j := 0) dX10_count_161 rfl (by omega) (by decide) ?_
                refine ev_goto (tgt := 167) dX10_count_162 (by decide) ?_
                exact s_retI dX10_count_167 (by
        refine ⟨?_, fun q hq => h1.2 q hq⟩
        rcases w08 h9 with rfl | rfl | rfl | rfl | rfl | rfl | rfl | rfl | rfl <;> first
          | (exfalso; first | exact absurd rfl (by assumption) | exact absurd ‹(_ : Int32) = _› (by decide) | exact absurd ‹(_ : Int32) ≤ _› (by decide) | exact absurd (by decide) ‹¬ (_ : Int32) ≤ _›)
          | exact rfl
          | (show J 225 3 = _; rw [j1]; exact hN)
          | (show J 225 4 = _; rw [j1]; exact hT)
          | (show J 225 5 = _; rw [j1]; exact hS)
          | (show J 226 0 = _; rw [j2, hF 0 (by unfold nl_f; omega)]; exact hv)
          | (show J 226 1 = (if b = true then _ else _); rw [j2]; cases b; exact hlaw rfl; obtain ⟨-, h0, h0T, hk, hsok⟩ := hW.sea (Or.inr (Or.inr (Or.inr rfl))); exact hF 1 (by unfold nl_f; omega))
          | (show J 219 14 = _; rw [j3]; exact hm)
          | (show J 219 6 = _; rw [j3]; exact hn))
            · refine ev_iload_n (i := 3) dX10_count_147 rfl rfl ?_
              refine ev_goto (tgt := 167) dX10_count_148 (by decide) ?_
              exact s_retI dX10_count_167 (by
        refine ⟨?_, fun q hq => h1.2 q hq⟩
        rcases w08 h9 with rfl | rfl | rfl | rfl | rfl | rfl | rfl | rfl | rfl <;> first
          | (exfalso; first | exact absurd rfl (by assumption) | exact absurd ‹(_ : Int32) = _› (by decide) | exact absurd ‹(_ : Int32) ≤ _› (by decide) | exact absurd (by decide) ‹¬ (_ : Int32) ≤ _›)
          | exact rfl
          | (show J 225 3 = _; rw [j1]; exact hN)
          | (show J 225 4 = _; rw [j1]; exact hT)
          | (show J 225 5 = _; rw [j1]; exact hS)
          | (show J 226 0 = _; rw [j2, hF 0 (by unfold nl_f; omega)]; exact hv)
          | (show J 226 1 = (if b = true then _ else _); rw [j2]; cases b; exact hlaw rfl; obtain ⟨-, h0, h0T, hk, hsok⟩ := hW.sea (Or.inr (Or.inr (Or.inr rfl))); exact hF 1 (by unfold nl_f; omega))
          | (show J 219 14 = _; rw [j3]; exact hm)
          | (show J 219 6 = _; rw [j3]; exact hn))
          · refine ev_aload_n (i := 0) dX10_count_129 rfl rfl ?_
            refine ev_getI fX10_166 dX10_count_130 rfl rfl (by decide) ?_
            refine ev_goto (tgt := 140) dX10_count_133 (by decide) ?_
            refine ev_istore dX10_count_140 (Nat.le_of_ble_eq_true rfl) rfl ?_
            refine ev_iload_n (i := 1) dX10_count_142 rfl rfl ?_
            refine ev_iconst (v := 4) dX10_count_143 kc_4 ?_
            refine ev_icmp_ge (tgt := 151) dX10_count_144 (by decide) (fun h144 => ?_) (fun h144 => ?_)
            · refine ev_iload_n (i := 1) dX10_count_151 rfl rfl ?_
              refine ev_iconst (v := 4) dX10_count_152 kc_4 ?_
              refine ev_icmp_ne (tgt := 165) dX10_count_153 (by decide) (fun h153 => ?_) (fun h153 => ?_)
              · refine ev_iload dX10_count_165 rfl ?_
                exact s_retI dX10_count_167 (by
        refine ⟨?_, fun q hq => h1.2 q hq⟩
        rcases w08 h9 with rfl | rfl | rfl | rfl | rfl | rfl | rfl | rfl | rfl <;> first
          | (exfalso; first | exact absurd rfl (by assumption) | exact absurd ‹(_ : Int32) = _› (by decide) | exact absurd ‹(_ : Int32) ≤ _› (by decide) | exact absurd (by decide) ‹¬ (_ : Int32) ≤ _›)
          | exact rfl
          | (show J 225 3 = _; rw [j1]; exact hN)
          | (show J 225 4 = _; rw [j1]; exact hT)
          | (show J 225 5 = _; rw [j1]; exact hS)
          | (show J 226 0 = _; rw [j2, hF 0 (by unfold nl_f; omega)]; exact hv)
          | (show J 226 1 = (if b = true then _ else _); rw [j2]; cases b; exact hlaw rfl; obtain ⟨-, h0, h0T, hk, hsok⟩ := hW.sea (Or.inr (Or.inr (Or.inr rfl))); exact hF 1 (by unfold nl_f; omega))
          | (show J 219 14 = _; rw [j3]; exact hm)
          | (show J 219 6 = _; rw [j3]; exact hn))
              · refine ev_aload_n (i := 0) dX10_count_156 rfl rfl ?_
                refine ev_getR fX10_28 dX10_count_157 rfl rfl (by decide) ?_
                refine ev_iconst (v := 0) dX10_count_160 kc_0 ?_
                refine ev_ialdN (j := 0) dX10_count_161 rfl (by omega) (by decide) ?_
                refine ev_goto (tgt := 167) dX10_count_162 (by decide) ?_
                exact s_retI dX10_count_167 (by
        refine ⟨?_, fun q hq => h1.2 q hq⟩
        rcases w08 h9 with rfl | rfl | rfl | rfl | rfl | rfl | rfl | rfl | rfl <;> first
          | (exfalso; first | exact absurd rfl (by assumption) | exact absurd ‹(_ : Int32) = _› (by decide) | exact absurd ‹(_ : Int32) ≤ _› (by decide) | exact absurd (by decide) ‹¬ (_ : Int32) ≤ _›)
          | exact rfl
          | (show J 225 3 = _; rw [j1]; exact hN)
          | (show J 225 4 = _; rw [j1]; exact hT)
          | (show J 225 5 = _; rw [j1]; exact hS)
          | (show J 226 0 = _; rw [j2, hF 0 (by unfold nl_f; omega)]; exact hv)
          | (show J 226 1 = (if b = true then _ else _); rw [j2]; cases b; exact hlaw rfl; obtain ⟨-, h0, h0T, hk, hsok⟩ := hW.sea (Or.inr (Or.inr (Or.inr rfl))); exact hF 1 (by unfold nl_f; omega))
          | (show J 219 14 = _; rw [j3]; exact hm)
          | (show J 219 6 = _; rw [j3]; exact hn))
            · refine ev_iload_n (i := 3) dX10_count_147 rfl rfl ?_
              refine ev_goto (tgt := 167) dX10_count_148 (by decide) ?_
              exact s_retI dX10_count_167 (by
        refine ⟨?_, fun q hq => h1.2 q hq⟩
        rcases w08 h9 with rfl | rfl | rfl | rfl | rfl | rfl | rfl | rfl | rfl <;> first
          | (exfalso; first | exact absurd rfl (by assumption) | exact absurd ‹(_ : Int32) = _› (by decide) | exact absurd ‹(_ : Int32) ≤ _› (by decide) | exact absurd (by decide) ‹¬ (_ : Int32) ≤ _›)
          | exact rfl
          | (show J 225 3 = _; rw [j1]; exact hN)
          | (show J 225 4 = _; rw [j1]; exact hT)
          | (show J 225 5 = _; rw [j1]; exact hS)
          | (show J 226 0 = _; rw [j2, hF 0 (by unfold nl_f; omega)]; exact hv)
          | (show J 226 1 = (if b = true then _ else _); rw [j2]; cases b; exact hlaw rfl; obtain ⟨-, h0, h0T, hk, hsok⟩ := hW.sea (Or.inr (Or.inr (Or.inr rfl))); exact hF 1 (by unfold nl_f; omega))
          | (show J 219 14 = _; rw [j3]; exact hm)
          | (show J 219 6 = _; rw [j3]; exact hn))
        · refine ev_aload_n (i := 0) dX10_count_115 rfl rfl ?_
          refine ev_iconst (v := 0) dX10_count_116 kc_0 ?_
          refine s_dVi (As := [_]) (m_many hC1 (hW.so h1.1) _) (Nat.le_of_ble_eq_true rfl) lX10_238 kX10_many vX10_many dX10_count_117 rfl rfl rfl (by decide) rfl (Nat.le_of_ble_eq_true rfl) ?_
          refine ev_goto (tgt := 140) dX10_count_120 (by decide) ?_
          refine ev_istore dX10_count_140 (Nat.le_of_ble_eq_true rfl) rfl ?_
          refine ev_iload_n (i := 1) dX10_count_142 rfl rfl ?_
          refine ev_iconst (v := 4) dX10_count_143 kc_4 ?_
          refine ev_icmp_ge (tgt := 151) dX10_count_144 (by decide) (fun h144 => ?_) (fun h144 => ?_)
          · refine ev_iload_n (i := 1) dX10_count_151 rfl rfl ?_
            refine ev_iconst (v := 4) dX10_count_152 kc_4 ?_
            refine ev_icmp_ne (tgt := 165) dX10_count_153 (by decide) (fun h153 => ?_) (fun h153 => ?_)
            · refine ev_iload dX10_count_165 rfl ?_
              exact s_retI dX10_count_167 (by
        refine ⟨?_, fun q hq => h1.2 q hq⟩
        rcases w08 h9 with rfl | rfl | rfl | rfl | rfl | rfl | rfl | rfl | rfl <;> first
          | (exfalso; first | exact absurd rfl (by assumption) | exact absurd ‹(_ : Int32) = _› (by decide) | exact absurd ‹(_ : Int32) ≤ _› (by decide) | exact absurd (by decide) ‹¬ (_ : Int32) ≤ _›)
          | exact rfl
          | (show J 225 3 = _; rw [j1]; exact hN)
          | (show J 225 4 = _; rw [j1]; exact hT)
          | (show J 225 5 = _; rw [j1]; exact hS)
          | (show J 226 0 = _; rw [j2, hF 0 (by unfold nl_f; omega)]; exact hv)
          | (show J 226 1 = (if b = true then _ else _); rw [j2]; cases b; exact hlaw rfl; obtain ⟨-, h0, h0T, hk, hsok⟩ := hW.sea (Or.inr (Or.inr (Or.inr rfl))); exact hF 1 (by unfold nl_f; omega))
          | (show J 219 14 = _; rw [j3]; exact hm)
          | (show J 219 6 = _; rw [j3]; exact hn))
            · refine ev_aload_n (i := 0) dX10_count_156 rfl rfl ?_
              refine ev_getR fX10_28 dX10_count_157 rfl rfl (by decide) ?_
              refine ev_iconst (v := 0) dX10_count_160 kc_0 ?_
              refine ev_ialdN (j := 0) dX10_count_161 rfl (by omega) (by decide) ?_
              refine ev_goto (tgt := 167) dX10_count_162 (by decide) ?_
              exact s_retI dX10_count_167 (by
        refine ⟨?_, fun q hq => h1.2 q hq⟩
        rcases w08 h9 with rfl | rfl | rfl | rfl | rfl | rfl | rfl | rfl | rfl <;> first
          | (exfalso; first | exact absurd rfl (by assumption) | exact absurd ‹(_ : Int32) = _› (by decide) | exact absurd ‹(_ : Int32) ≤ _› (by decide) | exact absurd (by decide) ‹¬ (_ : Int32) ≤ _›)
          | exact rfl
          | (show J 225 3 = _; rw [j1]; exact hN)
          | (show J 225 4 = _; rw [j1]; exact hT)
          | (show J 225 5 = _; rw [j1]; exact hS)
          | (show J 226 0 = _; rw [j2, hF 0 (by unfold nl_f; omega)]; exact hv)
          | (show J 226 1 = (if b = true then _ else _); rw [j2]; cases b; exact hlaw rfl; obtain ⟨-, h0, h0T, hk, hsok⟩ := hW.sea (Or.inr (Or.inr (Or.inr rfl))); exact hF 1 (by unfold nl_f; omega))
          | (show J 219 14 = _; rw [j3]; exact hm)
          | (show J 219 6 = _; rw [j3]; exact hn))
          · refine ev_iload_n (i := 3) dX10_count_147 rfl rfl ?_
            refine ev_goto (tgt := 167) dX10_count_148 (by decide) ?_
            exact s_retI dX10_count_167 (by
        refine ⟨?_, fun q hq => h1.2 q hq⟩
        rcases w08 h9 with rfl | rfl | rfl | rfl | rfl | rfl | rfl | rfl | rfl <;> first
          | (exfalso; first | exact absurd rfl (by assumption) | exact absurd ‹(_ : Int32) = _› (by decide) | exact absurd ‹(_ : Int32) ≤ _› (by decide) | exact absurd (by decide) ‹¬ (_ : Int32) ≤ _›)
          | exact rfl
          | (show J 225 3 = _; rw [j1]; exact hN)
          | (show J 225 4 = _; rw [j1]; exact hT)
          | (show J 225 5 = _; rw [j1]; exact hS)
          | (show J 226 0 = _; rw [j2, hF 0 (by unfold nl_f; omega)]; exact hv)
          | (show J 226 1 = (if b = true then _ else _); rw [j2]; cases b; exact hlaw rfl; obtain ⟨-, h0, h0T, hk, hsok⟩ := hW.sea (Or.inr (Or.inr (Or.inr rfl))); exact hF 1 (by unfold nl_f; omega))
          | (show J 219 14 = _; rw [j3]; exact hm)
          | (show J 219 6 = _; rw [j3]; exact hn))
      · refine ev_aload_n (i := 0) dX10_count_100 rfl rfl ?_
        refine ev_getR fX10_28 dX10_count_101 rfl rfl (by decide) ?_
        refine ev_iconst (v := 1) dX10_count_104 kc_1 ?_
        refine ev_ialdN (j := 1) dX10_count_105 rfl (by omega) (by decide) ?_
        refine ev_goto (tgt := 140) dX10_count_106 (by decide) ?_
        refine ev_istore dX10_count_140 (Nat.le_of_ble_eq_true rfl) rfl ?_
        refine ev_iload_n (i := 1) dX10_count_142 rfl rfl ?_
        refine ev_iconst (v := 4) dX10_count_143 kc_4 ?_
        refine ev_icmp_ge (tgt := 151) dX10_count_144 (by decide) (fun h144 => ?_) (fun h144 => ?_)
        · refine ev_iload_n (i := 1) dX10_count_151 rfl rfl ?_
          refine ev_iconst (v := 4) dX10_count_152 kc_4 ?_
          refine ev_icmp_ne (tgt := 165) dX10_count_153 (by decide) (fun h153 => ?_) (fun h153 => ?_)
          · refine ev_iload dX10_count_165 rfl ?_
            exact s_retI dX10_count_167 (by
        refine ⟨?_, fun q hq => h1.2 q hq⟩
        rcases w08 h9 with rfl | rfl | rfl | rfl | rfl | rfl | rfl | rfl | rfl <;> first
          | (exfalso; first | exact absurd rfl (by assumption) | exact absurd ‹(_ : Int32) = _› (by decide) | exact absurd ‹(_ : Int32) ≤ _› (by decide) | exact absurd (by decide) ‹¬ (_ : Int32) ≤ _›)
          | exact rfl
          | (show J 225 3 = _; rw [j1]; exact hN)
          | (show J 225 4 = _; rw [j1]; exact hT)
          | (show J 225 5 = _; rw [j1]; exact hS)
          | (show J 226 0 = _; rw [j2, hF 0 (by unfold nl_f; omega)]; exact hv)
          | (show J 226 1 = (if b = true then _ else _); rw [j2]; cases b; exact hlaw rfl; obtain ⟨-, h0, h0T, hk, hsok⟩ := hW.sea (Or.inr (Or.inr (Or.inr rfl))); exact hF 1 (by unfold nl_f; omega))
          | (show J 219 14 = _; rw [j3]; exact hm)
          | (show J 219 6 = _; rw [j3]; exact hn))
          · refine ev_aload_n (i := 0) dX10_count_156 rfl rfl ?_
            refine ev_getR fX10_28 dX10_count_157 rfl rfl (by decide) ?_
            refine ev_iconst (v := 0) dX10_count_160 kc_0 ?_
            refine ev_ialdN (j := 0) dX10_count_161 rfl (by omega) (by decide) ?_
            refine ev_goto (tgt := 167) dX10_count_162 (by decide) ?_
            exact s_retI dX10_count_167 (by
        refine ⟨?_, fun q hq => h1.2 q hq⟩
        rcases w08 h9 with rfl | rfl | rfl | rfl | rfl | rfl | rfl | rfl | rfl <;> first
          | (exfalso; first | exact absurd rfl (by assumption) | exact absurd ‹(_ : Int32) = _› (by decide) | exact absurd ‹(_ : Int32) ≤ _› (by decide) | exact absurd (by decide) ‹¬ (_ : Int32) ≤ _›)
          | exact rfl
          | (show J 225 3 = _; rw [j1]; exact hN)
          | (show J 225 4 = _; rw [j1]; exact hT)
          | (show J 225 5 = _; rw [j1]; exact hS)
          | (show J 226 0 = _; rw [j2, hF 0 (by unfold nl_f; omega)]; exact hv)
          | (show J 226 1 = (if b = true then _ else _); rw [j2]; cases b; exact hlaw rfl; obtain ⟨-, h0, h0T, hk, hsok⟩ := hW.sea (Or.inr (Or.inr (Or.inr rfl))); exact hF 1 (by unfold nl_f; omega))
          | (show J 219 14 = _; rw [j3]; exact hm)
          | (show J 219 6 = _; rw [j3]; exact hn))
        · refine ev_iload_n (i := 3) dX10_count_147 rfl rfl ?_
          refine ev_goto (tgt := 167) dX10_count_148 (by decide) ?_
          exact s_retI dX10_count_167 (by
        refine ⟨?_, fun q hq => h1.2 q hq⟩
        rcases w08 h9 with rfl | rfl | rfl | rfl | rfl | rfl | rfl | rfl | rfl <;> first
          | (exfalso; first | exact absurd rfl (by assumption) | exact absurd ‹(_ : Int32) = _› (by decide) | exact absurd ‹(_ : Int32) ≤ _› (by decide) | exact absurd (by decide) ‹¬ (_ : Int32) ≤ _›)
          | exact rfl
          | (show J 225 3 = _; rw [j1]; exact hN)
          | (show J 225 4 = _; rw [j1]; exact hT)
          | (show J 225 5 = _; rw [j1]; exact hS)
          | (show J 226 0 = _; rw [j2, hF 0 (by unfold nl_f; omega)]; exact hv)
          | (show J 226 1 = (if b = true then _ else _); rw [j2]; cases b; exact hlaw rfl; obtain ⟨-, h0, h0T, hk, hsok⟩ := hW.sea (Or.inr (Or.inr (Or.inr rfl))); exact hF 1 (by unfold nl_f; omega))
          | (show J 219 14 = _; rw [j3]; exact hm)
          | (show J 219 6 = _; rw [j3]; exact hn))
  · refine ev_ldc qX10_79 dX10_count_12 ?_
    exact s_retI dX10_count_14 ⟨by rw [if_neg (by intro q; subst q; revert h9; decide), if_neg (by intro q; subst q; revert h9; decide), if_neg (by intro q; subst q; revert h9; decide), if_neg (by intro q; subst q; revert h9; decide), if_neg (by intro q; subst q; revert h9; decide), if_neg (by intro q; subst q; revert h9; decide), if_neg (by intro q; subst q; revert h9; decide), if_neg (by intro q; subst q; revert h9; decide), if_neg (by intro q; subst q; revert h9; decide)], fun _ _ => rfl⟩
end
