section
variable {l : Launch} {g : nw_G} {I : nw_Me} {N T S : Nat} {b : Bool}
/-- waves looked through: how many hit, the first that did -/
def p_scan (C : Nat → Int32) (T S : Nat) (hit : Nat → (Nat → Int32) → Bool) : Nat → Nat → (Nat → Int32) → Int32 × Int32 → Int32 × Int32
  | 0, _, _, r => r
  | n + 1, w, F, r => p_scan C T S hit n (w + 1) (p_by C T S F) (if hit w F then (r.1 + 1, if r.1 = 0 then nI w else r.2) else r)
def p_nc (C : Nat → Int32) (T : Nat) (F : Nat → Int32) : Int32 := nI (p_cnt (p_call C (p_kind C (F 0)) F) T 0)
theorem p_scan_t {C : Nat → Int32} {T S : Nat} {hit : Nat → (Nat → Int32) → Bool} {n w : Nat} {F : Nat → Int32} {r : Int32 × Int32} (h : hit w F = true) : p_scan C T S hit (n + 1) w F r = p_scan C T S hit n (w + 1) (p_by C T S F) (r.1 + 1, if r.1 = 0 then nI w else r.2) := by
  conv => lhs; unfold p_scan
  rw [if_pos h]
theorem p_scan_f {C : Nat → Int32} {T S : Nat} {hit : Nat → (Nat → Int32) → Bool} {n w : Nat} {F : Nat → Int32} {r : Int32 × Int32} (h : hit w F = false) : p_scan C T S hit (n + 1) w F r = p_scan C T S hit n (w + 1) (p_by C T S F) r := by
  conv => lhs; unfold p_scan
  rw [if_neg (by rw [h]; decide)]
def p_hitA (C : Nat → Int32) (T : Nat) (_ : Nat) (F : Nat → Int32) : Bool := decide (¬ p_nc C T F < 2)
theorem l_agreed {n v : Nat} {w : Int32} (hW : nv_W I true N T S) (hn : n ≤ 100) (hv : nv_fl I 25 0 = nI v) (hv2 : v ≤ 999) : ∀ (m u : Nat) (r : Int32 × Int32) (G : Nat → Int32) (J : nw_Me), u + m = v + n → nv_fr I J 31 6 → nv_fl J 31 = G → nv_fok G S → G 0 = nI u → nw_S l g 4 mX9_agreed 58 [some (.ref (nw_a g 0)), some (.int (nI n)), some (.int w), some (.int r.1), some (.int r.2), some (.int (nI u))] [] J (nw_qI (fun a J' => a = (if w = 0 then (p_scan (nv_cf I 15) T S (p_hitA (nv_cf I 15) T) m u G r).1 else (p_scan (nv_cf I 15) T S (p_hitA (nv_cf I 15) T) m u G r).2) ∧ nv_fr I J' 31 6)) := by
  obtain ⟨hb, hCk, hor⟩ := id hW
  obtain ⟨hN, hT, hS, hN2, hT3, hS6⟩ := id hCk
  have hN' : I 15 2 = nI N := (cf3 I 15).symm.trans hN
  have hT' : I 15 3 = nI T := (cf4 I 15).symm.trans hT
  have hS' : I 15 4 = nI S := (cf5 I 15).symm.trans hS
  obtain ⟨-, h0, -⟩ := hW.sea (Or.inr (Or.inr (Or.inr rfl)))
  intro m
  induction m with
  | zero =>
    intro u r G J hu hJ hG hGo hG0
    have hw' : J 25 0 = nI v := by rw [hJ 25 (by omega)]; exact (fl0 I 25).symm.trans hv
    refine ev_iload dX9_agreed_58 rfl ?_
    refine ev_aload_n (i := 0) dX9_agreed_60 rfl rfl ?_
    refine ev_getR fX9_36 dX9_agreed_61 rfl rfl (by decide) ?_
    refine ev_getI fX9_157 dX9_agreed_64 rfl rfl (by decide) ?_
    refine ev_iload_n (i := 1) dX9_agreed_67 rfl rfl ?_
    refine ev_iadd dX9_agreed_68 ?_
    rw [hw', nI_add]
    refine ev_icmp_ge (tgt := 109) dX9_agreed_69 (by decide) (fun h69 => ?_) (fun h69 => ?_)
    · refine ev_iload_n (i := 2) dX9_agreed_109 rfl rfl ?_
      refine ev_if_ne (tgt := 117) dX9_agreed_110 (by decide) (fun h110 => ?_) (fun h110 => ?_)
      · refine ev_iload dX9_agreed_117 rfl ?_
        exact s_retI dX9_agreed_119 ⟨by first | (rw [if_pos h110]; rfl) | (rw [if_neg h110]; rfl), hJ⟩
      · refine ev_iload_n (i := 3) dX9_agreed_113 rfl rfl ?_
        refine ev_goto (tgt := 119) dX9_agreed_114 (by decide) ?_
        exact s_retI dX9_agreed_119 ⟨by first | (rw [if_pos h110]; rfl) | (rw [if_neg h110]; rfl), hJ⟩
    · exact absurd (nI_le (by omega) (by omega)) h69
  | succ m ih =>
    intro u r G J hu hJ hG hGo hG0
    have hw' : J 25 0 = nI v := by rw [hJ 25 (by omega)]; exact (fl0 I 25).symm.trans hv
    refine ev_iload dX9_agreed_58 rfl ?_
    refine ev_aload_n (i := 0) dX9_agreed_60 rfl rfl ?_
    refine ev_getR fX9_36 dX9_agreed_61 rfl rfl (by decide) ?_
    refine ev_getI fX9_157 dX9_agreed_64 rfl rfl (by decide) ?_
    refine ev_iload_n (i := 1) dX9_agreed_67 rfl rfl ?_
    refine ev_iadd dX9_agreed_68 ?_
    rw [hw', nI_add]
    refine ev_icmp_ge (tgt := 109) dX9_agreed_69 (by decide) (fun h69 => ?_) (fun h69 => ?_)
    · exact absurd h69 (nI_ge (by omega) (by omega))
    · refine ev_aload_n (i := 0) dX9_agreed_72 rfl rfl ?_
      refine ev_getR fX9_40 dX9_agreed_73 rfl rfl (by decide) ?_
      refine ev_aload_n (i := 0) dX9_agreed_76 rfl rfl ?_
      refine ev_getR fX9_26 dX9_agreed_77 rfl rfl (by decide) ?_
      refine s_callVi (As := [_]) (c_comeInBy (v := u) nw_sc31 nw_ch15 (by omega) (by rw [hJ.cf (by omega)]; exact hCk) h0 (by rw [hG]; exact hGo) (by rw [hG]; exact hG0) (by omega)) (Nat.le_of_ble_eq_true rfl) lX9_163 kX8_comeInBy vX8_comeInBy dX9_agreed_80 rfl rfl rfl (by decide) rfl (Nat.le_of_ble_eq_true rfl) (fun c J1 h1 => ?_)
      rw [hJ.cf (by omega), hG] at h1
      obtain ⟨rfl, h1, h1f⟩ := h1
      rw [show p_kind (nv_cf I 15) (nI u) = p_kind (nv_cf I 15) (G 0) from by rw [hG0]]
      have hJ1 := hJ.trans h1f
      have g1 := p_by_fok (C := nv_cf I 15) (T := T) hT3 hS6 hGo
      have g2 : p_by (nv_cf I 15) T S G 0 = nI (u + 1) := by rw [p_by_0 _ hT3, hG0, nI_1]
      refine ev_iconst (v := 2) dX9_agreed_83 kc_2 ?_
      refine ev_icmp_lt (tgt := 103) dX9_agreed_84 (by decide) (fun h84 => ?_) (fun h84 => ?_)
      · refine ev_iincm (m := 1) dX9_agreed_103 kc_1 rfl (Nat.le_of_ble_eq_true rfl) rfl ?_
        refine ev_goto (tgt := 58) dX9_agreed_106 (by decide) ?_
        first
          | (rw [p_scan_f (show p_hitA (nv_cf I 15) T u G = false from decide_eq_false (fun q => q h84)), nI_1]
             exact ih (u + 1) r _ J1 (by omega) hJ1 h1 g1 g2)
          | (rw [p_scan_t (show p_hitA (nv_cf I 15) T u G = true from decide_eq_true h84), nI_1, if_pos h88]
             exact ih (u + 1) (r.1 + 1, nI u) _ J1 (by omega) hJ1 h1 g1 g2)
          | (rw [p_scan_t (show p_hitA (nv_cf I 15) T u G = true from decide_eq_true h84), nI_1, if_neg h88]
             exact ih (u + 1) (r.1 + 1, r.2) _ J1 (by omega) hJ1 h1 g1 g2)
      · refine ev_iload_n (i := 3) dX9_agreed_87 rfl rfl ?_
        refine ev_if_ne (tgt := 96) dX9_agreed_88 (by decide) (fun h88 => ?_) (fun h88 => ?_)
        · refine ev_iload dX9_agreed_96 rfl ?_
          refine ev_istore dX9_agreed_98 (Nat.le_of_ble_eq_true rfl) rfl ?_
          refine ev_iincm (m := 1) dX9_agreed_100 kc_1 rfl (Nat.le_of_ble_eq_true rfl) rfl ?_
          refine ev_iincm (m := 1) dX9_agreed_103 kc_1 rfl (Nat.le_of_ble_eq_true rfl) rfl ?_
          refine ev_goto (tgt := 58) dX9_agreed_106 (by decide) ?_
          first
            | (rw [p_scan_f (show p_hitA (nv_cf I 15) T u G = false from decide_eq_false (fun q => q h84)), nI_1]
               exact ih (u + 1) r _ J1 (by omega) hJ1 h1 g1 g2)
            | (rw [p_scan_t (show p_hitA (nv_cf I 15) T u G = true from decide_eq_true h84), nI_1, if_pos h88]
               exact ih (u + 1) (r.1 + 1, nI u) _ J1 (by omega) hJ1 h1 g1 g2)
            | (rw [p_scan_t (show p_hitA (nv_cf I 15) T u G = true from decide_eq_true h84), nI_1, if_neg h88]
               exact ih (u + 1) (r.1 + 1, r.2) _ J1 (by omega) hJ1 h1 g1 g2)
        · refine ev_iload dX9_agreed_91 rfl ?_
          refine ev_goto (tgt := 98) dX9_agreed_93 (by decide) ?_
          refine ev_istore dX9_agreed_98 (Nat.le_of_ble_eq_true rfl) rfl ?_
          refine ev_iincm (m := 1) dX9_agreed_100 kc_1 rfl (Nat.le_of_ble_eq_true rfl) rfl ?_
          refine ev_iincm (m := 1) dX9_agreed_103 kc_1 rfl (Nat.le_of_ble_eq_true rfl) rfl ?_
          refine ev_goto (tgt := 58) dX9_agreed_106 (by decide) ?_
          first
            | (rw [p_scan_f (show p_hitA (nv_cf I 15) T u G = false from decide_eq_false (fun q => q h84)), nI_1]
               exact ih (u + 1) r _ J1 (by omega) hJ1 h1 g1 g2)
            | (rw [p_scan_t (show p_hitA (nv_cf I 15) T u G = true from decide_eq_true h84), nI_1, if_pos h88]
               exact ih (u + 1) (r.1 + 1, nI u) _ J1 (by omega) hJ1 h1 g1 g2)
            | (rw [p_scan_t (show p_hitA (nv_cf I 15) T u G = true from decide_eq_true h84), nI_1, if_neg h88]
               exact ih (u + 1) (r.1 + 1, r.2) _ J1 (by omega) hJ1 h1 g1 g2)
theorem x_agreed (hW : nv_W I b N T S) (n w : Int32) : nw_cI l g 4 mX9_agreed [.ref (nw_a g 0), .int n, .int w] I (fun r J => r = (if b then (if nv_in n 1 100 && nv_in w 0 1 then (if w = 0 then (p_scan (nv_cf I 15) T S (p_hitA (nv_cf I 15) T) n.toNatClampNeg (nv_fl I 25 0).toNatClampNeg (nv_fl I 25) (0, -1000000)).1 else (p_scan (nv_cf I 15) T S (p_hitA (nv_cf I 15) T) n.toNatClampNeg (nv_fl I 25 0).toNatClampNeg (nv_fl I 25) (0, -1000000)).2) else -1000001) else -1000002) ∧ nv_fr I J 31 6) := by
  obtain ⟨hb, hCk, hor⟩ := id hW
  obtain ⟨hN, hT, hS, hN2, hT3, hS6⟩ := id hCk
  have hN' : I 15 2 = nI N := (cf3 I 15).symm.trans hN
  have hT' : I 15 3 = nI T := (cf4 I 15).symm.trans hT
  have hS' : I 15 4 = nI S := (cf5 I 15).symm.trans hS
  refine ⟨(Nat.le_of_ble_eq_true rfl), ?_⟩
  refine ev_aload_n (i := 0) dX9_agreed_0 rfl rfl ?_
  refine ev_getI fX9_149 dX9_agreed_1 rfl rfl (by decide) ?_
  rw [hb]
  refine ev_if_ne (tgt := 10) dX9_agreed_4 (by decide) (fun h4 => ?_) (fun h4 => ?_)
  · refine ev_iload_n (i := 1) dX9_agreed_10 rfl rfl ?_
    refine ev_iconst (v := 1) dX9_agreed_11 kc_1 ?_
    refine ev_bipush (v := 100) dX9_agreed_12 kb_100 ?_
    refine s_dSz (As := [_, _, _]) (c_within _ _ _) (Nat.le_of_ble_eq_true rfl) lX9_75 kX9_within sX9_within dX9_agreed_14 rfl rfl (Nat.le_of_ble_eq_true rfl) ?_
    refine s_ifZ_eq (tgt := 29) dX9_agreed_17 (by decide) (fun h17 => ?_) (fun h17 => ?_)
    · refine ev_ldc qX9_79 dX9_agreed_29 ?_
      exact s_retI dX9_agreed_31 (by
      first
        | (have eb : b = false := nw_bi_0.mp h4
           subst eb
           exact ⟨rfl, nv_fr.refl _ _ _⟩)
        | (have eb : b = true := by cases b; exact absurd rfl h4; rfl
           subst eb
           refine ⟨?_, nv_fr.refl _ _ _⟩
           simp_all; done))
    · refine ev_iload_n (i := 2) dX9_agreed_20 rfl rfl ?_
      refine ev_iconst (v := 0) dX9_agreed_21 kc_0 ?_
      refine ev_iconst (v := 1) dX9_agreed_22 kc_1 ?_
      refine s_dSz (As := [_, _, _]) (c_within _ _ _) (Nat.le_of_ble_eq_true rfl) lX9_75 kX9_within sX9_within dX9_agreed_23 rfl rfl (Nat.le_of_ble_eq_true rfl) ?_
      refine s_ifZ_ne (tgt := 32) dX9_agreed_26 (by decide) (fun h26 => ?_) (fun h26 => ?_)
      · have eb : b = true := by cases b; exact absurd rfl h4; rfl
        subst eb
        obtain ⟨-, h0, h0T, hk, hF, hinj, ⟨v, hv, hv2⟩, hlaw, hH⟩ := hW.sea (Or.inr (Or.inr (Or.inr rfl)))
        obtain ⟨m, -, hn2, rfl⟩ := nv_in_n (a := 1) (c := 100) h17 (by decide) (by decide)
        have em : (nI m).toNatClampNeg = m := nI_clamp (by omega)
        refine ev_iconst (v := 0) dX9_agreed_32 kc_0 ?_
        refine ev_istore_n (i := 3) dX9_agreed_33 rfl (Nat.le_of_ble_eq_true rfl) rfl ?_
        refine ev_ldc qX9_249 dX9_agreed_34 ?_
        refine ev_istore dX9_agreed_36 (Nat.le_of_ble_eq_true rfl) rfl ?_
        refine ev_aload_n (i := 0) dX9_agreed_38 rfl rfl ?_
        refine ev_getR fX9_40 dX9_agreed_39 rfl rfl (by decide) ?_
        refine ev_aload_n (i := 0) dX9_agreed_42 rfl rfl ?_
        refine ev_getR fX9_36 dX9_agreed_43 rfl rfl (by decide) ?_
        refine s_callVv (As := [_]) (c_scBecome nw_sc31 nw_sc25 (by omega)) (Nat.le_of_ble_eq_true rfl) lX9_143 kX8_become vX8_become dX9_agreed_46 rfl rfl rfl (by decide) rfl (Nat.le_of_ble_eq_true rfl) (fun J1 h1 => ?_)
        refine ev_aload_n (i := 0) dX9_agreed_49 rfl rfl ?_
        refine ev_getR fX9_36 dX9_agreed_50 rfl rfl (by decide) ?_
        refine ev_getI fX9_157 dX9_agreed_53 rfl rfl (by decide) ?_
        rw [show J1 25 0 = nI v from by rw [h1.2 25 (by omega)]; exact (fl0 I 25).symm.trans hv2]
        refine ev_istore dX9_agreed_56 (Nat.le_of_ble_eq_true rfl) rfl ?_
        rw [if_pos rfl, if_pos (by simp_all), em, hv2, nI_clamp (by omega)]
        exact l_agreed hW hn2 hv2 hv m v (0, -1000000) _ J1 rfl h1.2 h1.1 hF hv2
      · refine ev_ldc qX9_79 dX9_agreed_29 ?_
        exact s_retI dX9_agreed_31 (by
      first
        | (have eb : b = false := nw_bi_0.mp h4
           subst eb
           exact ⟨rfl, nv_fr.refl _ _ _⟩)
        | (have eb : b = true := by cases b; exact absurd rfl h4; rfl
           subst eb
           refine ⟨?_, nv_fr.refl _ _ _⟩
           simp_all; done))
  · refine ev_ldc qX9_156 dX9_agreed_7 ?_
    exact s_retI dX9_agreed_9 (by
      first
        | (have eb : b = false := nw_bi_0.mp h4
           subst eb
           exact ⟨rfl, nv_fr.refl _ _ _⟩)
        | (have eb : b = true := by cases b; exact absurd rfl h4; rfl
           subst eb
           refine ⟨?_, nv_fr.refl _ _ _⟩
           simp_all; done))
def p_hitW (C : Nat → Int32) (T : Nat) (x : Int32) (w : Nat) (F : Nat → Int32) : Bool := decide (¬ p_nc C T F < 1) && decide (p_wat C (nI w) = x)
theorem l_wreck {n v : Nat} {w x y : Int32} (hW : nv_W I true N T S) (hn : n ≤ 100) (hv : nv_fl I 25 0 = nI v) (hv2 : v ≤ 999) : ∀ (m u : Nat) (r : Int32 × Int32) (G : Nat → Int32) (J : nw_Me), u + m = v + n → nv_fr I J 31 6 → nv_fl J 31 = G → nv_fok G S → G 0 = nI u → nw_S l g 4 mX9_wreck 80 [some (.ref (nw_a g 0)), some (.int x), some (.int y), some (.int (nI n)), some (.int w), some (.int r.1), some (.int r.2), some (.int (nI u))] [] J (nw_qI (fun a J' => a = (if w = 0 then (p_scan (nv_cf I 15) T S (p_hitW (nv_cf I 15) T (x - y)) m u G r).1 else (p_scan (nv_cf I 15) T S (p_hitW (nv_cf I 15) T (x - y)) m u G r).2) ∧ nv_fr I J' 31 6)) := by
  obtain ⟨hb, hCk, hor⟩ := id hW
  obtain ⟨hN, hT, hS, hN2, hT3, hS6⟩ := id hCk
  have hN' : I 15 2 = nI N := (cf3 I 15).symm.trans hN
  have hT' : I 15 3 = nI T := (cf4 I 15).symm.trans hT
  have hS' : I 15 4 = nI S := (cf5 I 15).symm.trans hS
  obtain ⟨-, h0, -⟩ := hW.sea (Or.inr (Or.inr (Or.inr rfl)))
  intro m
  induction m with
  | zero =>
    intro u r G J hu hJ hG hGo hG0
    have hw' : J 25 0 = nI v := by rw [hJ 25 (by omega)]; exact (fl0 I 25).symm.trans hv
    refine ev_iload dX9_wreck_80 rfl ?_
    refine ev_aload_n (i := 0) dX9_wreck_82 rfl rfl ?_
    refine ev_getR fX9_36 dX9_wreck_83 rfl rfl (by decide) ?_
    refine ev_getI fX9_157 dX9_wreck_86 rfl rfl (by decide) ?_
    refine ev_iload_n (i := 3) dX9_wreck_89 rfl rfl ?_
    refine ev_iadd dX9_wreck_90 ?_
    rw [hw', nI_add]
    refine ev_icmp_ge (tgt := 147) dX9_wreck_91 (by decide) (fun h91 => ?_) (fun h91 => ?_)
    · refine ev_iload dX9_wreck_147 rfl ?_
      refine ev_if_ne (tgt := 157) dX9_wreck_149 (by decide) (fun h149 => ?_) (fun h149 => ?_)
      · refine ev_iload dX9_wreck_157 rfl ?_
        exact s_retI dX9_wreck_159 ⟨by first | (rw [if_pos h149]; rfl) | (rw [if_neg h149]; rfl), hJ⟩
      · refine ev_iload dX9_wreck_152 rfl ?_
        refine ev_goto (tgt := 159) dX9_wreck_154 (by decide) ?_
        exact s_retI dX9_wreck_159 ⟨by first | (rw [if_pos h149]; rfl) | (rw [if_neg h149]; rfl), hJ⟩
    · exact absurd (nI_le (by omega) (by omega)) h91
  | succ m ih =>
    intro u r G J hu hJ hG hGo hG0
    have hw' : J 25 0 = nI v := by rw [hJ 25 (by omega)]; exact (fl0 I 25).symm.trans hv
    refine ev_iload dX9_wreck_80 rfl ?_
    refine ev_aload_n (i := 0) dX9_wreck_82 rfl rfl ?_
    refine ev_getR fX9_36 dX9_wreck_83 rfl rfl (by decide) ?_
    refine ev_getI fX9_157 dX9_wreck_86 rfl rfl (by decide) ?_
    refine ev_iload_n (i := 3) dX9_wreck_89 rfl rfl ?_
    refine ev_iadd dX9_wreck_90 ?_
    rw [hw', nI_add]
    refine ev_icmp_ge (tgt := 147) dX9_wreck_91 (by decide) (fun h91 => ?_) (fun h91 => ?_)
    · exact absurd h91 (nI_ge (by omega) (by omega))
    · refine ev_aload_n (i := 0) dX9_wreck_94 rfl rfl ?_
      refine ev_getR fX9_40 dX9_wreck_95 rfl rfl (by decide) ?_
      refine ev_aload_n (i := 0) dX9_wreck_98 rfl rfl ?_
      refine ev_getR fX9_26 dX9_wreck_99 rfl rfl (by decide) ?_
      refine s_callVi (As := [_]) (c_comeInBy (v := u) nw_sc31 nw_ch15 (by omega) (by rw [hJ.cf (by omega)]; exact hCk) h0 (by rw [hG]; exact hGo) (by rw [hG]; exact hG0) (by omega)) (Nat.le_of_ble_eq_true rfl) lX9_163 kX8_comeInBy vX8_comeInBy dX9_wreck_102 rfl rfl rfl (by decide) rfl (Nat.le_of_ble_eq_true rfl) (fun c J1 h1 => ?_)
      rw [hJ.cf (by omega), hG] at h1
      obtain ⟨rfl, h1, h1f⟩ := h1
      rw [show p_kind (nv_cf I 15) (nI u) = p_kind (nv_cf I 15) (G 0) from by rw [hG0]]
      have hJ1 := hJ.trans h1f
      have g1 := p_by_fok (C := nv_cf I 15) (T := T) hT3 hS6 hGo
      have g2 : p_by (nv_cf I 15) T S G 0 = nI (u + 1) := by rw [p_by_0 _ hT3, hG0, nI_1]
      refine ev_iconst (v := 1) dX9_wreck_105 kc_1 ?_
      refine ev_icmp_lt (tgt := 141) dX9_wreck_106 (by decide) (fun h106 => ?_) (fun h106 => ?_)
      · refine ev_iincm (m := 1) dX9_wreck_141 kc_1 rfl (Nat.le_of_ble_eq_true rfl) rfl ?_
        refine ev_goto (tgt := 80) dX9_wreck_144 (by decide) ?_
        first
          | (rw [p_scan_f (show p_hitW (nv_cf I 15) T (x - y) u G = false from by unfold p_hitW; rw [show decide (¬ p_nc (nv_cf I 15) T G < 1) = false from decide_eq_false (fun q => q h106)]; rfl), nI_1]
             exact ih (u + 1) r _ J1 (by omega) hJ1 h1 g1 g2)
          | (rw [p_scan_f (show p_hitW (nv_cf I 15) T (x - y) u G = false from by unfold p_hitW; rw [show decide (p_wat (nv_cf I 15) (nI u) = x - y) = false from decide_eq_false h121, Bool.and_false]), nI_1]
             exact ih (u + 1) r _ J1 (by omega) hJ1 h1 g1 g2)
          | (rw [p_scan_t (show p_hitW (nv_cf I 15) T (x - y) u G = true from by unfold p_hitW; rw [Bool.and_eq_true]; exact ⟨decide_eq_true h106, decide_eq_true h121⟩), nI_1, if_pos h126]
             exact ih (u + 1) (r.1 + 1, nI u) _ J1 (by omega) hJ1 h1 g1 g2)
          | (rw [p_scan_t (show p_hitW (nv_cf I 15) T (x - y) u G = true from by unfold p_hitW; rw [Bool.and_eq_true]; exact ⟨decide_eq_true h106, decide_eq_true h121⟩), nI_1, if_neg h126]
             exact ih (u + 1) (r.1 + 1, r.2) _ J1 (by omega) hJ1 h1 g1 g2)
      · refine ev_aload_n (i := 0) dX9_wreck_109 rfl rfl ?_
        refine ev_getR fX9_26 dX9_wreck_110 rfl rfl (by decide) ?_
        refine ev_iload dX9_wreck_113 rfl ?_
        refine s_dVi (As := [_]) (c_waterIn nw_ch15 (by rw [hJ1.cf (by omega)]; exact hN) h0 hN2 (by omega)) (Nat.le_of_ble_eq_true rfl) lX9_227 kX2_waterIn vX2_waterIn dX9_wreck_115 rfl rfl rfl (by decide) rfl (Nat.le_of_ble_eq_true rfl) ?_
        rw [hJ1.cf (by omega)]
        refine ev_iload_n (i := 1) dX9_wreck_118 rfl rfl ?_
        refine ev_iload_n (i := 2) dX9_wreck_119 rfl rfl ?_
        refine ev_isub dX9_wreck_120 ?_
        refine ev_icmp_ne (tgt := 141) dX9_wreck_121 (by decide) (fun h121 => ?_) (fun h121 => ?_)
        · refine ev_iincm (m := 1) dX9_wreck_141 kc_1 rfl (Nat.le_of_ble_eq_true rfl) rfl ?_
          refine ev_goto (tgt := 80) dX9_wreck_144 (by decide) ?_
          first
            | (rw [p_scan_f (show p_hitW (nv_cf I 15) T (x - y) u G = false from by unfold p_hitW; rw [show decide (¬ p_nc (nv_cf I 15) T G < 1) = false from decide_eq_false (fun q => q h106)]; rfl), nI_1]
               exact ih (u + 1) r _ J1 (by omega) hJ1 h1 g1 g2)
            | (rw [p_scan_f (show p_hitW (nv_cf I 15) T (x - y) u G = false from by unfold p_hitW; rw [show decide (p_wat (nv_cf I 15) (nI u) = x - y) = false from decide_eq_false h121, Bool.and_false]), nI_1]
               exact ih (u + 1) r _ J1 (by omega) hJ1 h1 g1 g2)
            | (rw [p_scan_t (show p_hitW (nv_cf I 15) T (x - y) u G = true from by unfold p_hitW; rw [Bool.and_eq_true]; exact ⟨decide_eq_true h106, decide_eq_true h121⟩), nI_1, if_pos h126]
               exact ih (u + 1) (r.1 + 1, nI u) _ J1 (by omega) hJ1 h1 g1 g2)
            | (rw [p_scan_t (show p_hitW (nv_cf I 15) T (x - y) u G = true from by unfold p_hitW; rw [Bool.and_eq_true]; exact ⟨decide_eq_true h106, decide_eq_true h121⟩), nI_1, if_neg h126]
               exact ih (u + 1) (r.1 + 1, r.2) _ J1 (by omega) hJ1 h1 g1 g2)
        · refine ev_iload dX9_wreck_124 rfl ?_
          refine ev_if_ne (tgt := 134) dX9_wreck_126 (by decide) (fun h126 => ?_) (fun h126 => ?_)
          · refine ev_iload dX9_wreck_134 rfl ?_
            refine ev_istore dX9_wreck_136 (Nat.le_of_ble_eq_true rfl) rfl ?_
            refine ev_iincm (m := 1) dX9_wreck_138 kc_1 rfl (Nat.le_of_ble_eq_true rfl) rfl ?_
            refine ev_iincm (m := 1) dX9_wreck_141 kc_1 rfl (Nat.le_of_ble_eq_true rfl) rfl ?_
            refine ev_goto (tgt := 80) dX9_wreck_144 (by decide) ?_
            first
              | (rw [p_scan_f (show p_hitW (nv_cf I 15) T (x - y) u G = false from by unfold p_hitW; rw [show decide (¬ p_nc (nv_cf I 15) T G < 1) = false from decide_eq_false (fun q => q h106)]; rfl), nI_1]
                 exact ih (u + 1) r _ J1 (by omega) hJ1 h1 g1 g2)
              | (rw [p_scan_f (show p_hitW (nv_cf I 15) T (x - y) u G = false from by unfold p_hitW; rw [show decide (p_wat (nv_cf I 15) (nI u) = x - y) = false from decide_eq_false h121, Bool.and_false]), nI_1]
                 exact ih (u + 1) r _ J1 (by omega) hJ1 h1 g1 g2)
              | (rw [p_scan_t (show p_hitW (nv_cf I 15) T (x - y) u G = true from by unfold p_hitW; rw [Bool.and_eq_true]; exact ⟨decide_eq_true h106, decide_eq_true h121⟩), nI_1, if_pos h126]
                 exact ih (u + 1) (r.1 + 1, nI u) _ J1 (by omega) hJ1 h1 g1 g2)
              | (rw [p_scan_t (show p_hitW (nv_cf I 15) T (x - y) u G = true from by unfold p_hitW; rw [Bool.and_eq_true]; exact ⟨decide_eq_true h106, decide_eq_true h121⟩), nI_1, if_neg h126]
                 exact ih (u + 1) (r.1 + 1, r.2) _ J1 (by omega) hJ1 h1 g1 g2)
          · refine ev_iload dX9_wreck_129 rfl ?_
            refine ev_goto (tgt := 136) dX9_wreck_131 (by decide) ?_
            refine ev_istore dX9_wreck_136 (Nat.le_of_ble_eq_true rfl) rfl ?_
            refine ev_iincm (m := 1) dX9_wreck_138 kc_1 rfl (Nat.le_of_ble_eq_true rfl) rfl ?_
            refine ev_iincm (m := 1) dX9_wreck_141 kc_1 rfl (Nat.le_of_ble_eq_true rfl) rfl ?_
            refine ev_goto (tgt := 80) dX9_wreck_144 (by decide) ?_
            first
              | (rw [p_scan_f (show p_hitW (nv_cf I 15) T (x - y) u G = false from by unfold p_hitW; rw [show decide (¬ p_nc (nv_cf I 15) T G < 1) = false from decide_eq_false (fun q => q h106)]; rfl), nI_1]
                 exact ih (u + 1) r _ J1 (by omega) hJ1 h1 g1 g2)
              | (rw [p_scan_f (show p_hitW (nv_cf I 15) T (x - y) u G = false from by unfold p_hitW; rw [show decide (p_wat (nv_cf I 15) (nI u) = x - y) = false from decide_eq_false h121, Bool.and_false]), nI_1]
                 exact ih (u + 1) r _ J1 (by omega) hJ1 h1 g1 g2)
              | (rw [p_scan_t (show p_hitW (nv_cf I 15) T (x - y) u G = true from by unfold p_hitW; rw [Bool.and_eq_true]; exact ⟨decide_eq_true h106, decide_eq_true h121⟩), nI_1, if_pos h126]
                 exact ih (u + 1) (r.1 + 1, nI u) _ J1 (by omega) hJ1 h1 g1 g2)
              | (rw [p_scan_t (show p_hitW (nv_cf I 15) T (x - y) u G = true from by unfold p_hitW; rw [Bool.and_eq_true]; exact ⟨decide_eq_true h106, decide_eq_true h121⟩), nI_1, if_neg h126]
                 exact ih (u + 1) (r.1 + 1, r.2) _ J1 (by omega) hJ1 h1 g1 g2)
theorem x_wreck (hW : nv_W I b N T S) (x y n w : Int32) : nw_cI l g 4 mX9_wreck [.ref (nw_a g 0), .int x, .int y, .int n, .int w] I (fun r J => r = (if b then (if nv_in x 0 99 && (nv_in y 1 99 && (nv_in n 1 100 && nv_in w 0 1)) then (if w = 0 then (p_scan (nv_cf I 15) T S (p_hitW (nv_cf I 15) T (x - y)) n.toNatClampNeg (nv_fl I 25 0).toNatClampNeg (nv_fl I 25) (0, -1000000)).1 else (p_scan (nv_cf I 15) T S (p_hitW (nv_cf I 15) T (x - y)) n.toNatClampNeg (nv_fl I 25 0).toNatClampNeg (nv_fl I 25) (0, -1000000)).2) else -1000001) else -1000002) ∧ nv_fr I J 31 6) := by
  obtain ⟨hb, hCk, hor⟩ := id hW
  obtain ⟨hN, hT, hS, hN2, hT3, hS6⟩ := id hCk
  have hN' : I 15 2 = nI N := (cf3 I 15).symm.trans hN
  have hT' : I 15 3 = nI T := (cf4 I 15).symm.trans hT
  have hS' : I 15 4 = nI S := (cf5 I 15).symm.trans hS
  refine ⟨(Nat.le_of_ble_eq_true rfl), ?_⟩
  refine ev_aload_n (i := 0) dX9_wreck_0 rfl rfl ?_
  refine ev_getI fX9_149 dX9_wreck_1 rfl rfl (by decide) ?_
  rw [hb]
  refine ev_if_ne (tgt := 10) dX9_wreck_4 (by decide) (fun h4 => ?_) (fun h4 => ?_)
  · refine ev_iload_n (i := 1) dX9_wreck_10 rfl rfl ?_
    refine ev_iconst (v := 0) dX9_wreck_11 kc_0 ?_
    refine ev_bipush (v := 99) dX9_wreck_12 kb_99 ?_
    refine s_dSz (As := [_, _, _]) (c_within _ _ _) (Nat.le_of_ble_eq_true rfl) lX9_75 kX9_within sX9_within dX9_wreck_14 rfl rfl (Nat.le_of_ble_eq_true rfl) ?_
    refine s_ifZ_eq (tgt := 50) dX9_wreck_17 (by decide) (fun h17 => ?_) (fun h17 => ?_)
    · refine ev_ldc qX9_79 dX9_wreck_50 ?_
      exact s_retI dX9_wreck_52 (by
      first
        | (have eb : b = false := nw_bi_0.mp h4
           subst eb
           exact ⟨rfl, nv_fr.refl _ _ _⟩)
        | (have eb : b = true := by cases b; exact absurd rfl h4; rfl
           subst eb
           refine ⟨?_, nv_fr.refl _ _ _⟩
           simp_all; done))
    · refine ev_iload_n (i := 2) dX9_wreck_20 rfl rfl ?_
      refine ev_iconst (v := 1) dX9_wreck_21 kc_1 ?_
      refine ev_bipush (v := 99) dX9_wreck_22 kb_99 ?_
      refine s_dSz (As := [_, _, _]) (c_within _ _ _) (Nat.le_of_ble_eq_true rfl) lX9_75 kX9_within sX9_within dX9_wreck_24 rfl rfl (Nat.le_of_ble_eq_true rfl) ?_
      refine s_ifZ_eq (tgt := 50) dX9_wreck_27 (by decide) (fun h27 => ?_) (fun h27 => ?_)
      · refine ev_ldc qX9_79 dX9_wreck_50 ?_
        exact s_retI dX9_wreck_52 (by
      first
        | (have eb : b = false := nw_bi_0.mp h4
           subst eb
           exact ⟨rfl, nv_fr.refl _ _ _⟩)
        | (have eb : b = true := by cases b; exact absurd rfl h4; rfl
           subst eb
           refine ⟨?_, nv_fr.refl _ _ _⟩
           simp_all; done))
      · refine ev_iload_n (i := 3) dX9_wreck_30 rfl rfl ?_
        refine ev_iconst (v := 1) dX9_wreck_31 kc_1 ?_
        refine ev_bipush (v := 100) dX9_wreck_32 kb_100 ?_
        refine s_dSz (As := [_, _, _]) (c_within _ _ _) (Nat.le_of_ble_eq_true rfl) lX9_75 kX9_within sX9_within dX9_wreck_34 rfl rfl (Nat.le_of_ble_eq_true rfl) ?_
        refine s_ifZ_eq (tgt := 50) dX9_wreck_37 (by decide) (fun h37 => ?_) (fun h37 => ?_)
        · refine ev_ldc qX9_79 dX9_wreck_50 ?_
          exact s_retI dX9_wreck_52 (by
      first
        | (have eb : b = false := nw_bi_0.mp h4
           subst eb
           exact ⟨rfl, nv_fr.refl _ _ _⟩)
        | (have eb : b = true := by cases b; exact absurd rfl h4; rfl
           subst eb
           refine ⟨?_, nv_fr.refl _ _ _⟩
           simp_all; done))
        · refine ev_iload dX9_wreck_40 rfl ?_
          refine ev_iconst (v := 0) dX9_wreck_42 kc_0 ?_
          refine ev_iconst (v := 1) dX9_wreck_43 kc_1 ?_
          refine s_dSz (As := [_, _, _]) (c_within _ _ _) (Nat.le_of_ble_eq_true rfl) lX9_75 kX9_within sX9_within dX9_wreck_44 rfl rfl (Nat.le_of_ble_eq_true rfl) ?_
          refine s_ifZ_ne (tgt := 53) dX9_wreck_47 (by decide) (fun h47 => ?_) (fun h47 => ?_)
          · have eb : b = true := by cases b; exact absurd rfl h4; rfl
            subst eb
            obtain ⟨-, h0, h0T, hk, hF, hinj, ⟨v, hv, hv2⟩, hlaw, hH⟩ := hW.sea (Or.inr (Or.inr (Or.inr rfl)))
            obtain ⟨m, -, hn2, rfl⟩ := nv_in_n (a := 1) (c := 100) h37 (by decide) (by decide)
            have em : (nI m).toNatClampNeg = m := nI_clamp (by omega)
            refine ev_iconst (v := 0) dX9_wreck_53 kc_0 ?_
            refine ev_istore dX9_wreck_54 (Nat.le_of_ble_eq_true rfl) rfl ?_
            refine ev_ldc qX9_249 dX9_wreck_56 ?_
            refine ev_istore dX9_wreck_58 (Nat.le_of_ble_eq_true rfl) rfl ?_
            refine ev_aload_n (i := 0) dX9_wreck_60 rfl rfl ?_
            refine ev_getR fX9_40 dX9_wreck_61 rfl rfl (by decide) ?_
            refine ev_aload_n (i := 0) dX9_wreck_64 rfl rfl ?_
            refine ev_getR fX9_36 dX9_wreck_65 rfl rfl (by decide) ?_
            refine s_callVv (As := [_]) (c_scBecome nw_sc31 nw_sc25 (by omega)) (Nat.le_of_ble_eq_true rfl) lX9_143 kX8_become vX8_become dX9_wreck_68 rfl rfl rfl (by decide) rfl (Nat.le_of_ble_eq_true rfl) (fun J1 h1 => ?_)
            refine ev_aload_n (i := 0) dX9_wreck_71 rfl rfl ?_
            refine ev_getR fX9_36 dX9_wreck_72 rfl rfl (by decide) ?_
            refine ev_getI fX9_157 dX9_wreck_75 rfl rfl (by decide) ?_
            rw [show J1 25 0 = nI v from by rw [h1.2 25 (by omega)]; exact (fl0 I 25).symm.trans hv2]
            refine ev_istore dX9_wreck_78 (Nat.le_of_ble_eq_true rfl) rfl ?_
            rw [if_pos rfl, if_pos (by simp_all), em, hv2, nI_clamp (by omega)]
            exact l_wreck hW hn2 hv2 hv m v (0, -1000000) _ J1 rfl h1.2 h1.1 hF hv2
          · refine ev_ldc qX9_79 dX9_wreck_50 ?_
            exact s_retI dX9_wreck_52 (by
      first
        | (have eb : b = false := nw_bi_0.mp h4
           subst eb
           exact ⟨rfl, nv_fr.refl _ _ _⟩)
        | (have eb : b = true := by cases b; exact absurd rfl h4; rfl
           subst eb
           refine ⟨?_, nv_fr.refl _ _ _⟩
           simp_all; done))
  · refine ev_ldc qX9_156 dX9_wreck_7 ?_
    exact s_retI dX9_wreck_9 (by
      first
        | (have eb : b = false := nw_bi_0.mp h4
           subst eb
           exact ⟨rfl, nv_fr.refl _ _ _⟩)
        | (have eb : b = true := by cases b; exact absurd rfl h4; rfl
           subst eb
           refine ⟨?_, nv_fr.refl _ _ _⟩
           simp_all; done))
def p_draw (x : Int64) : Int64 := x * 16807 - x * 16807 / 2147483647 * 2147483647
def p_dk (x : Int64) : Int32 := 1 + (x - x / 5 * 5).toInt32
def p_dh (x : Int64) : Int32 := (x / 5 - x / 5 / 31 * 31).toInt32
def p_seas (C : Nat → Int32) (T S : Nat) : Nat → Int64 → (Nat → Int32) → (Nat → Int32)
  | 0, _, F => F
  | n + 1, x, F => p_seas C T S n (p_draw x) (p_come C T S (p_dk (p_draw x)) (p_dep C (F 0) + nv_lift (p_dk (p_draw x)) (p_dh (p_draw x))) F)
theorem p_come_fok {C : Nat → Int32} {T S : Nat} {k w : Int32} (hT : T ≤ 3) (h6 : S ≤ 6) {F : Nat → Int32} (h : nv_fok F S) : nv_fok (p_come C T S k w F) S := fun p hp => by
  obtain ⟨s, h1, h2⟩ := p_tow_fok (C := C) (k := k) (w := w) h6 T 0 F (by omega) h p hp
  refine ⟨s, h1, ?_⟩
  unfold p_come
  rw [pk_un (by omega)]
  exact h2
theorem l_season {n : Nat} {w y : Int32} (hW : nv_W I true N T S) (hn : n ≤ 100) : ∀ (m u : Nat) (x : Int64) (G : Nat → Int32) (J : nw_Me) (z7 z8 : Option Value), u + m = n → nv_fr I J 31 6 → nv_fl J 31 = G → nv_fok G S → nw_S l g 3 mX9_season 61 [some (.ref (nw_a g 0)), some (.int (nI n)), some (.int y), some (.int w), some (.long x), none, some (.int (nI u)), z7, z8] [] J (nw_qI (fun a J' => a = nI (p_cnt (p_isf (p_seas (nv_cf I 15) T S m x G) (if w = 0 then 1 else 2)) S 0) ∧ nv_fr I J' 31 6)) := by
  obtain ⟨hb, hCk, hor⟩ := id hW
  obtain ⟨hN, hT, hS, hN2, hT3, hS6⟩ := id hCk
  have hN' : I 15 2 = nI N := (cf3 I 15).symm.trans hN
  have hT' : I 15 3 = nI T := (cf4 I 15).symm.trans hT
  have hS' : I 15 4 = nI S := (cf5 I 15).symm.trans hS
  obtain ⟨-, h0, -⟩ := hW.sea (Or.inr (Or.inr (Or.inr rfl)))
  intro m
  induction m with
  | zero =>
    intro u x G J z7 z8 hu hJ hG hGo
    refine ev_iload dX9_season_61 rfl ?_
    refine ev_iload_n (i := 1) dX9_season_63 rfl rfl ?_
    refine ev_icmp_ge (tgt := 145) dX9_season_64 (by decide) (fun h64 => ?_) (fun h64 => ?_)
    · refine ev_aload_n (i := 0) dX9_season_145 rfl rfl ?_
      refine ev_getR fX9_40 dX9_season_146 rfl rfl (by decide) ?_
      refine ev_aload_n (i := 0) dX9_season_149 rfl rfl ?_
      refine ev_getR fX9_26 dX9_season_150 rfl rfl (by decide) ?_
      refine ev_iload_n (i := 3) dX9_season_153 rfl rfl ?_
      refine ev_if_ne (tgt := 161) dX9_season_154 (by decide) (fun h154 => ?_) (fun h154 => ?_)
      · refine ev_iconst (v := 2) dX9_season_161 kc_2 ?_
        refine s_dVi (As := [_, _]) (c_howMany nw_sc31 nw_ch15 (by rw [hJ.cf (by omega)]; exact hS) hS6 _) (Nat.le_of_ble_eq_true rfl) lX9_237 kX8_howMany vX8_howMany dX9_season_162 rfl rfl rfl (by decide) rfl (Nat.le_of_ble_eq_true rfl) ?_
        exact s_retI dX9_season_165 ⟨by rw [hG]; first | (rw [if_pos h154]; rfl) | (rw [if_neg h154]; rfl), hJ⟩
      · refine ev_iconst (v := 1) dX9_season_157 kc_1 ?_
        refine ev_goto (tgt := 162) dX9_season_158 (by decide) ?_
        refine s_dVi (As := [_, _]) (c_howMany nw_sc31 nw_ch15 (by rw [hJ.cf (by omega)]; exact hS) hS6 _) (Nat.le_of_ble_eq_true rfl) lX9_237 kX8_howMany vX8_howMany dX9_season_162 rfl rfl rfl (by decide) rfl (Nat.le_of_ble_eq_true rfl) ?_
        exact s_retI dX9_season_165 ⟨by rw [hG]; first | (rw [if_pos h154]; rfl) | (rw [if_neg h154]; rfl), hJ⟩
    · exact absurd (nI_le (by omega) (by omega)) h64
  | succ m ih =>
    intro u x G J z7 z8 hu hJ hG hGo
    refine ev_iload dX9_season_61 rfl ?_
    refine ev_iload_n (i := 1) dX9_season_63 rfl rfl ?_
    refine ev_icmp_ge (tgt := 145) dX9_season_64 (by decide) (fun h64 => ?_) (fun h64 => ?_)
    · exact absurd h64 (nI_ge (by omega) (by omega))
    · refine ev_lload dX9_season_67 rfl ?_
      refine ev_ldc2 qX9_285 dX9_season_69 ?_
      refine ev_lmul dX9_season_72 ?_
      refine ev_ldc2 qX9_287 dX9_season_73 ?_
      refine ev_lrem dX9_season_76 (by decide) ?_
      refine ev_lstore dX9_season_77 (Nat.le_of_ble_eq_true rfl) rfl ?_
      refine ev_iconst (v := 1) dX9_season_79 kc_1 ?_
      refine ev_lload dX9_season_80 rfl ?_
      refine ev_ldc2 qX9_289 dX9_season_82 ?_
      refine ev_lrem dX9_season_85 (by decide) ?_
      refine ev_l2i dX9_season_86 ?_
      refine ev_iadd dX9_season_87 ?_
      refine ev_istore dX9_season_88 (Nat.le_of_ble_eq_true rfl) rfl ?_
      refine ev_lload dX9_season_90 rfl ?_
      refine ev_ldc2 qX9_289 dX9_season_92 ?_
      refine ev_ldiv dX9_season_95 (by decide) ?_
      refine ev_ldc2 qX9_291 dX9_season_96 ?_
      refine ev_lrem dX9_season_99 (by decide) ?_
      refine ev_l2i dX9_season_100 ?_
      refine ev_istore dX9_season_101 (Nat.le_of_ble_eq_true rfl) rfl ?_
      refine ev_aload_n (i := 0) dX9_season_103 rfl rfl ?_
      refine ev_getR fX9_40 dX9_season_104 rfl rfl (by decide) ?_
      refine ev_aload_n (i := 0) dX9_season_107 rfl rfl ?_
      refine ev_getR fX9_26 dX9_season_108 rfl rfl (by decide) ?_
      refine ev_iload dX9_season_111 rfl ?_
      refine ev_aload_n (i := 0) dX9_season_113 rfl rfl ?_
      refine ev_getR fX9_26 dX9_season_114 rfl rfl (by decide) ?_
      refine ev_aload_n (i := 0) dX9_season_117 rfl rfl ?_
      refine ev_getR fX9_40 dX9_season_118 rfl rfl (by decide) ?_
      refine ev_getI fX9_157 dX9_season_121 rfl rfl (by decide) ?_
      refine s_dVi (As := [_]) (c_depthIn nw_ch15 _) (Nat.le_of_ble_eq_true rfl) lX9_293 kX2_depthIn vX2_depthIn dX9_season_124 rfl rfl rfl (by decide) rfl (Nat.le_of_ble_eq_true rfl) ?_
      refine ev_iload dX9_season_127 rfl ?_
      refine ev_iload dX9_season_129 rfl ?_
      refine s_dSi (As := [_, _]) (c_lift _ _) (Nat.le_of_ble_eq_true rfl) lX9_296 kX2_liftOf sX2_liftOf dX9_season_131 rfl rfl (Nat.le_of_ble_eq_true rfl) ?_
      refine ev_iadd dX9_season_134 ?_
      refine s_callVi (As := [_, _, _]) (c_comeIn (T := T) (S := S) nw_sc31 nw_ch15 (by omega) (by rw [hJ.cf (by omega)]; exact hT) hT3 (by rw [hJ.cf (by omega)]; exact hS) hS6 (by rw [hG]; exact hGo) _ _) (Nat.le_of_ble_eq_true rfl) lX9_299 kX8_comeIn vX8_comeIn dX9_season_135 rfl rfl rfl (by decide) rfl (Nat.le_of_ble_eq_true rfl) (fun c J1 h1 => ?_)
      rw [hJ.cf (by omega), hG, show J 31 0 = G 0 from (fl0 J 31).symm.trans (by rw [hG])] at h1
      refine ev_pop dX9_season_138 rfl ?_
      refine ev_iincm (m := 1) dX9_season_139 kc_1 rfl (Nat.le_of_ble_eq_true rfl) rfl ?_
      refine ev_goto (tgt := 61) dX9_season_142 (by decide) ?_
      rw [nI_1]
      exact ih (u + 1) _ _ J1 _ _ (by omega) (hJ.trans h1.2.2) h1.2.1 (p_come_fok hT3 hS6 hGo)
theorem x_season (hW : nv_W I b N T S) (n y w : Int32) : nw_cI l g 3 mX9_season [.ref (nw_a g 0), .int n, .int y, .int w] I (fun r J => r = (if b then (if nv_in n 0 100 && (nv_in y 1 999999 && nv_in w 0 1) then nI (p_cnt (p_isf (p_seas (nv_cf I 15) T S n.toNatClampNeg y.toInt64 (nv_fl I 25)) (if w = 0 then 1 else 2)) S 0) else -1000001) else -1000002) ∧ nv_fr I J 31 6) := by
  obtain ⟨hb, hCk, hor⟩ := id hW
  obtain ⟨hN, hT, hS, hN2, hT3, hS6⟩ := id hCk
  have hN' : I 15 2 = nI N := (cf3 I 15).symm.trans hN
  have hT' : I 15 3 = nI T := (cf4 I 15).symm.trans hT
  have hS' : I 15 4 = nI S := (cf5 I 15).symm.trans hS
  refine ⟨(Nat.le_of_ble_eq_true rfl), ?_⟩
  refine ev_aload_n (i := 0) dX9_season_0 rfl rfl ?_
  refine ev_getI fX9_149 dX9_season_1 rfl rfl (by decide) ?_
  rw [hb]
  refine ev_if_ne (tgt := 10) dX9_season_4 (by decide) (fun h4 => ?_) (fun h4 => ?_)
  · refine ev_iload_n (i := 1) dX9_season_10 rfl rfl ?_
    refine ev_iconst (v := 0) dX9_season_11 kc_0 ?_
    refine ev_bipush (v := 100) dX9_season_12 kb_100 ?_
    refine s_dSz (As := [_, _, _]) (c_within _ _ _) (Nat.le_of_ble_eq_true rfl) lX9_75 kX9_within sX9_within dX9_season_14 rfl rfl (Nat.le_of_ble_eq_true rfl) ?_
    refine s_ifZ_eq (tgt := 40) dX9_season_17 (by decide) (fun h17 => ?_) (fun h17 => ?_)
    · refine ev_ldc qX9_79 dX9_season_40 ?_
      exact s_retI dX9_season_42 (by
      first
        | (have eb : b = false := nw_bi_0.mp h4
           subst eb
           exact ⟨rfl, nv_fr.refl _ _ _⟩)
        | (have eb : b = true := by cases b; exact absurd rfl h4; rfl
           subst eb
           refine ⟨?_, nv_fr.refl _ _ _⟩
           simp_all; done))
    · refine ev_iload_n (i := 2) dX9_season_20 rfl rfl ?_
      refine ev_iconst (v := 1) dX9_season_21 kc_1 ?_
      refine ev_ldcw qX9_284 dX9_season_22 ?_
      refine s_dSz (As := [_, _, _]) (c_within _ _ _) (Nat.le_of_ble_eq_true rfl) lX9_75 kX9_within sX9_within dX9_season_25 rfl rfl (Nat.le_of_ble_eq_true rfl) ?_
      refine s_ifZ_eq (tgt := 40) dX9_season_28 (by decide) (fun h28 => ?_) (fun h28 => ?_)
      · refine ev_ldc qX9_79 dX9_season_40 ?_
        exact s_retI dX9_season_42 (by
      first
        | (have eb : b = false := nw_bi_0.mp h4
           subst eb
           exact ⟨rfl, nv_fr.refl _ _ _⟩)
        | (have eb : b = true := by cases b; exact absurd rfl h4; rfl
           subst eb
           refine ⟨?_, nv_fr.refl _ _ _⟩
           simp_all; done))
      · refine ev_iload_n (i := 3) dX9_season_31 rfl rfl ?_
        refine ev_iconst (v := 0) dX9_season_32 kc_0 ?_
        refine ev_iconst (v := 1) dX9_season_33 kc_1 ?_
        refine s_dSz (As := [_, _, _]) (c_within _ _ _) (Nat.le_of_ble_eq_true rfl) lX9_75 kX9_within sX9_within dX9_season_34 rfl rfl (Nat.le_of_ble_eq_true rfl) ?_
        refine s_ifZ_ne (tgt := 43) dX9_season_37 (by decide) (fun h37 => ?_) (fun h37 => ?_)
        · have eb : b = true := by cases b; exact absurd rfl h4; rfl
          subst eb
          obtain ⟨-, h0, h0T, hk, hF, hinj, ⟨v, hv, hv2⟩, hlaw, hH⟩ := hW.sea (Or.inr (Or.inr (Or.inr rfl)))
          obtain ⟨m, -, hn2, rfl⟩ := nv_in_n (a := 0) (c := 100) h17 (by decide) (by decide)
          have em : (nI m).toNatClampNeg = m := nI_clamp (by omega)
          refine ev_aload_n (i := 0) dX9_season_43 rfl rfl ?_
          refine ev_getR fX9_40 dX9_season_44 rfl rfl (by decide) ?_
          refine ev_aload_n (i := 0) dX9_season_47 rfl rfl ?_
          refine ev_getR fX9_36 dX9_season_48 rfl rfl (by decide) ?_
          refine s_callVv (As := [_]) (c_scBecome nw_sc31 nw_sc25 (by omega)) (Nat.le_of_ble_eq_true rfl) lX9_143 kX8_become vX8_become dX9_season_51 rfl rfl rfl (by decide) rfl (Nat.le_of_ble_eq_true rfl) (fun J1 h1 => ?_)
          refine ev_iload_n (i := 2) dX9_season_54 rfl rfl ?_
          refine ev_i2l dX9_season_55 ?_
          refine ev_lstore dX9_season_56 (Nat.le_of_ble_eq_true rfl) rfl ?_
          refine ev_iconst (v := 0) dX9_season_58 kc_0 ?_
          refine ev_istore dX9_season_59 (Nat.le_of_ble_eq_true rfl) rfl ?_
          rw [if_pos rfl, if_pos (by simp_all), em]
          exact l_season hW hn2 m 0 _ _ J1 _ _ (by omega) h1.2 h1.1 hF
        · refine ev_ldc qX9_79 dX9_season_40 ?_
          exact s_retI dX9_season_42 (by
      first
        | (have eb : b = false := nw_bi_0.mp h4
           subst eb
           exact ⟨rfl, nv_fr.refl _ _ _⟩)
        | (have eb : b = true := by cases b; exact absurd rfl h4; rfl
           subst eb
           refine ⟨?_, nv_fr.refl _ _ _⟩
           simp_all; done))
  · refine ev_ldc qX9_156 dX9_season_7 ?_
    exact s_retI dX9_season_9 (by
      first
        | (have eb : b = false := nw_bi_0.mp h4
           subst eb
           exact ⟨rfl, nv_fr.refl _ _ _⟩)
        | (have eb : b = true := by cases b; exact absurd rfl h4; rfl
           subst eb
           refine ⟨?_, nv_fr.refl _ _ _⟩
           simp_all; done))
theorem x_order (hW : nv_W I b N T S) (n k : Int32) : nw_cI l g 4 mX9_order [.ref (nw_a g 0), .int n, .int k] I (fun r J => (∀ q, ¬ (183 ≤ q ∧ q ≤ 191) → J q = I q) ∧ ((b = false ∧ r = -1000002) ∨ (b = true ∧ (nv_in n 1 60 && nv_in k (-1) (nI S - 1)) = false ∧ r = -1000001) ∨ (b = true ∧ nv_in n 1 60 = true ∧ nv_in k (-1) (nI S - 1) = true ∧ ∃ P, (∀ p, p < S → P p = nI p) ∧ r = (if k < 0 then (o_srch (fun P => o_phi (I 19) (nv_fl I 25) P (fun t => (p_hear (nv_cf I 15) (nv_fl I 25 1) t n.toNatClampNeg (nv_fl I 25 0).toNatClampNeg (nv_fl I 25 (2 + t)) 0 (I (185 + t))).1) (fun t => (p_hear (nv_cf I 15) (nv_fl I 25 1) t n.toNatClampNeg (nv_fl I 25 0).toNatClampNeg (nv_fl I 25 (2 + t)) 0 (I (185 + t))).2) S 0 (fun _ => 0)) S 720 P (-1) (I 191)).1 + nI (p_cnt (p_isf (nv_fl I 25) 1) S 0) else (o_srch (fun P => o_phi (I 19) (nv_fl I 25) P (fun t => (p_hear (nv_cf I 15) (nv_fl I 25 1) t n.toNatClampNeg (nv_fl I 25 0).toNatClampNeg (nv_fl I 25 (2 + t)) 0 (I (185 + t))).1) (fun t => (p_hear (nv_cf I 15) (nv_fl I 25 1) t n.toNatClampNeg (nv_fl I 25 0).toNatClampNeg (nv_fl I 25 (2 + t)) 0 (I (185 + t))).2) S 0 (fun _ => 0)) S 720 P (-1) (I 191)).2 k.toNatClampNeg)))) := by
  obtain ⟨hb, hCk, hor⟩ := id hW
  obtain ⟨hN, hT, hS, hN2, hT3, hS6⟩ := id hCk
  have hN' : I 15 2 = nI N := (cf3 I 15).symm.trans hN
  have hT' : I 15 3 = nI T := (cf4 I 15).symm.trans hT
  have hS' : I 15 4 = nI S := (cf5 I 15).symm.trans hS
  refine ⟨(Nat.le_of_ble_eq_true rfl), ?_⟩
  refine ev_aload_n (i := 0) dX9_order_0 rfl rfl ?_
  refine ev_getI fX9_149 dX9_order_1 rfl rfl (by decide) ?_
  rw [hb]
  refine ev_if_ne (tgt := 10) dX9_order_4 (by decide) (fun h4 => ?_) (fun h4 => ?_)
  · refine ev_iload_n (i := 1) dX9_order_10 rfl rfl ?_
    refine ev_iconst (v := 1) dX9_order_11 kc_1 ?_
    refine ev_bipush (v := 60) dX9_order_12 kb_60 ?_
    refine s_dSz (As := [_, _, _]) (c_within _ _ _) (Nat.le_of_ble_eq_true rfl) lX9_75 kX9_within sX9_within dX9_order_14 rfl rfl (Nat.le_of_ble_eq_true rfl) ?_
    refine s_ifZ_eq (tgt := 37) dX9_order_17 (by decide) (fun h17 => ?_) (fun h17 => ?_)
    · refine ev_ldc qX9_79 dX9_order_37 ?_
      exact s_retI dX9_order_39 (by
      first
        | (have eb : b = false := nw_bi_0.mp h4
           exact ⟨fun _ _ => rfl, Or.inl ⟨eb, rfl⟩⟩)
        | (have eb : b = true := by cases b; exact absurd rfl h4; rfl
           refine ⟨fun _ _ => rfl, Or.inr (Or.inl ⟨eb, ?_, rfl⟩)⟩
           simp_all; done)
        | (refine ⟨hfr, Or.inr (Or.inr ⟨rfl, h17, h34, P, hP, ?_⟩)⟩
           rw [em, hv2, ev]
           first
             | (rw [if_neg h72, ekk, h2b]; done)
             | (rw [if_pos h72, h2a, eF2]; done)))
    · refine ev_iload_n (i := 2) dX9_order_20 rfl rfl ?_
      refine ev_iconst (v := (-1)) dX9_order_21 kc_m1 ?_
      refine ev_aload_n (i := 0) dX9_order_22 rfl rfl ?_
      refine ev_getR fX9_26 dX9_order_23 rfl rfl (by decide) ?_
      refine ev_getI fX9_250 dX9_order_26 rfl rfl (by decide) ?_
      rw [hS']
      refine ev_iconst (v := 1) dX9_order_29 kc_1 ?_
      refine ev_isub dX9_order_30 ?_
      refine s_dSz (As := [_, _, _]) (c_within _ _ _) (Nat.le_of_ble_eq_true rfl) lX9_75 kX9_within sX9_within dX9_order_31 rfl rfl (Nat.le_of_ble_eq_true rfl) ?_
      refine s_ifZ_ne (tgt := 40) dX9_order_34 (by decide) (fun h34 => ?_) (fun h34 => ?_)
      · have eb : b = true := by cases b; exact absurd rfl h4; rfl
        subst eb
        obtain ⟨-, h0, h0T, hk, hF, hinj, ⟨v, hv, hv2⟩, hlaw, hH⟩ := hW.sea (Or.inr (Or.inr (Or.inr rfl)))
        obtain ⟨m, -, hn2, rfl⟩ := nv_in_n (a := 1) (c := 60) h17 (by decide) (by decide)
        have em : (nI m).toNatClampNeg = m := nI_clamp (by omega)
        have ev : (nI v).toNatClampNeg = v := nI_clamp (by omega)
        refine ev_aload_n (i := 0) dX9_order_40 rfl rfl ?_
        refine ev_getR fX9_53 dX9_order_41 rfl rfl (by decide) ?_
        refine ev_aload_n (i := 0) dX9_order_44 rfl rfl ?_
        refine ev_getR fX9_26 dX9_order_45 rfl rfl (by decide) ?_
        refine ev_aload_n (i := 0) dX9_order_48 rfl rfl ?_
        refine ev_getR fX9_36 dX9_order_49 rfl rfl (by decide) ?_
        refine ev_iload_n (i := 1) dX9_order_52 rfl rfl ?_
        refine s_callVv (As := [_, _, _]) (c_listen hCk h0 hv2 (by omega)) (Nat.le_of_ble_eq_true rfl) lX9_253 kX5_listen vX5_listen dX9_order_53 rfl rfl rfl (by decide) rfl (Nat.le_of_ble_eq_true rfl) (fun J1 h1 => ?_)
        have eF : nv_fl J1 25 = nv_fl I 25 := nv_fl_ext (fun q q1 q2 => h1.2 q (by omega))
        refine ev_aload_n (i := 0) dX9_order_56 rfl rfl ?_
        refine ev_getR fX9_53 dX9_order_57 rfl rfl (by decide) ?_
        refine ev_aload_n (i := 0) dX9_order_60 rfl rfl ?_
        refine ev_getR fX9_26 dX9_order_61 rfl rfl (by decide) ?_
        refine ev_aload_n (i := 0) dX9_order_64 rfl rfl ?_
        refine ev_getR fX9_36 dX9_order_65 rfl rfl (by decide) ?_
        refine s_callVv (As := [_, _]) (c_search (T := T) (S := S) (H := fun t => (p_hear (nv_cf I 15) (nv_fl I 25 1) t m v (nv_fl I 25 (2 + t)) 0 (I (185 + t))).1) (f := fun t => (p_hear (nv_cf I 15) (nv_fl I 25 1) t m v (nv_fl I 25 (2 + t)) 0 (I (185 + t))).2) (by rw [h1.2 15 (by omega)]; exact hT') hT3 (by rw [h1.2 15 (by omega)]; exact hS') hS6 (by rw [eF]; exact hH) (fun t ht => p_hear_le _ _ _ _ _ (by omega)) (fun t ht => (h1.1 t ht).1) (fun t ht i hi => by rw [(h1.1 t ht).2])) (Nat.le_of_ble_eq_true rfl) lX9_257 kX5_search vX5_search dX9_order_68 rfl rfl rfl (by decide) rfl (Nat.le_of_ble_eq_true rfl) (fun J2 h2 => ?_)
        rw [eF, h1.2 19 (by omega), h1.2 191 (by omega)] at h2 <;> skip
        obtain ⟨P, hP, h2a, h2b, h2f⟩ := h2
        have hfr : ∀ q, ¬ (183 ≤ q ∧ q ≤ 191) → J2 q = I q := fun q hq => (h2f q (by omega) (by omega) (by omega) (by omega)).trans (h1.2 q (by omega))
        have eF2 : nv_fl J2 25 = nv_fl I 25 := nv_fl_ext (fun q q1 q2 => hfr q (by omega))
        have eC2 : nv_cf J2 15 = nv_cf I 15 := nv_cf_ext (fun q q1 q2 => hfr q (by omega))
        refine ev_iload_n (i := 2) dX9_order_71 rfl rfl ?_
        refine ev_if_lt (tgt := 87) dX9_order_72 (by decide) (fun h72 => ?_) (fun h72 => ?_)
        · refine ev_aload_n (i := 0) dX9_order_87 rfl rfl ?_
          refine ev_getR fX9_53 dX9_order_88 rfl rfl (by decide) ?_
          refine ev_getI fX9_264 dX9_order_91 rfl rfl (by decide) ?_
          refine ev_aload_n (i := 0) dX9_order_94 rfl rfl ?_
          refine ev_getR fX9_36 dX9_order_95 rfl rfl (by decide) ?_
          refine ev_aload_n (i := 0) dX9_order_98 rfl rfl ?_
          refine ev_getR fX9_26 dX9_order_99 rfl rfl (by decide) ?_
          refine ev_iconst (v := 1) dX9_order_102 kc_1 ?_
          refine s_dVi (As := [_, _]) (c_howMany nw_sc25 nw_ch15 (by rw [eC2]; exact hS) hS6 _) (Nat.le_of_ble_eq_true rfl) lX9_237 kX8_howMany vX8_howMany dX9_order_103 rfl rfl rfl (by decide) rfl (Nat.le_of_ble_eq_true rfl) ?_
          refine ev_iadd dX9_order_106 ?_
          exact s_retI dX9_order_107 (by
      first
        | (have eb : b = false := nw_bi_0.mp h4
           exact ⟨fun _ _ => rfl, Or.inl ⟨eb, rfl⟩⟩)
        | (have eb : b = true := by cases b; exact absurd rfl h4; rfl
           refine ⟨fun _ _ => rfl, Or.inr (Or.inl ⟨eb, ?_, rfl⟩)⟩
           simp_all; done)
        | (refine ⟨hfr, Or.inr (Or.inr ⟨rfl, h17, h34, P, hP, ?_⟩)⟩
           rw [em, hv2, ev]
           first
             | (rw [if_neg h72, ekk, h2b]; done)
             | (rw [if_pos h72, h2a, eF2]; done)))
        · obtain ⟨kk, hkk, rfl⟩ : ∃ kk, kk < S ∧ k = nI kk := nv_in_S (by omega) (by
            simp only [nv_in, Bool.and_eq_true, decide_eq_true_eq] at h34 ⊢
            exact ⟨h72, h34.2⟩)
          have ekk : (nI kk).toNatClampNeg = kk := nI_clamp (by omega)
          refine ev_aload_n (i := 0) dX9_order_75 rfl rfl ?_
          refine ev_getR fX9_53 dX9_order_76 rfl rfl (by decide) ?_
          refine ev_getR fX9_261 dX9_order_79 rfl rfl (by decide) ?_
          refine ev_iload_n (i := 2) dX9_order_82 rfl rfl ?_
          refine ev_ialdN dX9_order_83 rfl (show kk < 6 by omega) (by decide) ?_
          refine ev_goto (tgt := 107) dX9_order_84 (by decide) ?_
          exact s_retI dX9_order_107 (by
      first
        | (have eb : b = false := nw_bi_0.mp h4
           exact ⟨fun _ _ => rfl, Or.inl ⟨eb, rfl⟩⟩)
        | (have eb : b = true := by cases b; exact absurd rfl h4; rfl
           refine ⟨fun _ _ => rfl, Or.inr (Or.inl ⟨eb, ?_, rfl⟩)⟩
           simp_all; done)
        | (refine ⟨hfr, Or.inr (Or.inr ⟨rfl, h17, h34, P, hP, ?_⟩)⟩
           rw [em, hv2, ev]
           first
             | (rw [if_neg h72, ekk, h2b]; done)
             | (rw [if_pos h72, h2a, eF2]; done)))
      · refine ev_ldc qX9_79 dX9_order_37 ?_
        exact s_retI dX9_order_39 (by
      first
        | (have eb : b = false := nw_bi_0.mp h4
           exact ⟨fun _ _ => rfl, Or.inl ⟨eb, rfl⟩⟩)
        | (have eb : b = true := by cases b; exact absurd rfl h4; rfl
           refine ⟨fun _ _ => rfl, Or.inr (Or.inl ⟨eb, ?_, rfl⟩)⟩
           simp_all; done)
        | (refine ⟨hfr, Or.inr (Or.inr ⟨rfl, h17, h34, P, hP, ?_⟩)⟩
           rw [em, hv2, ev]
           first
             | (rw [if_neg h72, ekk, h2b]; done)
             | (rw [if_pos h72, h2a, eF2]; done)))
  · refine ev_ldc qX9_156 dX9_order_7 ?_
    exact s_retI dX9_order_9 (by
      first
        | (have eb : b = false := nw_bi_0.mp h4
           exact ⟨fun _ _ => rfl, Or.inl ⟨eb, rfl⟩⟩)
        | (have eb : b = true := by cases b; exact absurd rfl h4; rfl
           refine ⟨fun _ _ => rfl, Or.inr (Or.inl ⟨eb, ?_, rfl⟩)⟩
           simp_all; done)
        | (refine ⟨hfr, Or.inr (Or.inr ⟨rfl, h17, h34, P, hP, ?_⟩)⟩
           rw [em, hv2, ev]
           first
             | (rw [if_neg h72, ekk, h2b]; done)
             | (rw [if_pos h72, h2a, eF2]; done)))
end
