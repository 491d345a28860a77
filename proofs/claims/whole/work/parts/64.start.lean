section
variable {l : Launch} {g : nw_G} {nm : String}
theorem iv_new {K : nw_Me} (p0 : ∀ i, K 0 i = 0) (p3 : ∀ r, r < 8 → K 3 r = -1) (p13 : ∀ i, K 13 i = 0) (p15 : ∀ i, K 15 i = 0) (p25 : K 25 0 = 0) (p37 : ∀ i, K 37 i = 0) (p192 : ∀ i, K 192 i = 0) (p195 : K 195 2 = 0) (p207 : K 207 2 = 0) (q0 : ∀ i, K 219 i = 0) (q1 : ∀ r, r < 8 → K 220 r = -1) (q6 : ∀ i, K 225 i = 0) (q7 : ∀ i, K 226 i = 0) (q10 : ∀ i, K 229 i = 0) : iv K := by
  have hcok : nv_cok (nv_cf K 15) 0 0 0 := ⟨by rw [cf3, p15]; exact nI_0.symm, by rw [cf4, p15]; exact nI_0.symm, by rw [cf5, p15]; exact nI_0.symm, by decide, by decide, by decide⟩
  have h25 : nv_fl K 25 0 = 0 := by rw [fl0]; exact p25
  refine ⟨false, 0, 0, 0, [], ⟨⟨p0 10, hcok, Or.inr ⟨rfl, rfl, rfl, rfl⟩⟩, ⟨q6 0, ⟨hcok, fun i hi => ?_⟩, fun i hi => ?_, Or.inr ⟨rfl, rfl, rfl, rfl⟩⟩, ⟨0, by decide, by rw [p37]; exact nI_0.symm, by rw [p37]; exact nI_0.symm, by decide, fun i F hF => by simp at hF⟩, nm_acts_nil (q0 14), fun G hG => by simp at hG, fun _ => ⟨rfl, q7 1, h25⟩⟩, fun r hr => Or.inl ⟨p3 r hr, by rw [q1 r hr]; decide⟩, ⟨0, by decide, by rw [p13]; exact nI_0.symm, by rw [q0]; exact nI_0.symm, fun i hi => absurd hi (Nat.not_lt_zero i)⟩, ⟨by rw [p0, q0], by rw [p0, q0]⟩, ⟨0, by decide, by rw [p192]; exact nI_0.symm, by rw [q0]; exact nI_0.symm, fun i hi => absurd hi (Nat.not_lt_zero i)⟩, fun k hk => ⟨false, ?_, by rw [q10]; rfl, fun h => absurd h (by decide)⟩⟩
  · rw [q6]
    unfold nl_c at hi
    obtain ⟨j, rfl⟩ : ∃ j, i = 1 + j := ⟨i - 1, by omega⟩
    rw [cf_f K 15 (by omega), p15]
  · unfold nl_f at hi
    obtain rfl : i = 0 := by omega
    rw [q7, h25]
  · rcases (show k = 0 ∨ k = 1 by omega) with rfl | rfl
    · exact p195
    · exact p207
set_option maxRecDepth 100000 in
set_option maxHeartbeats 4000000 in
theorem l_start {I : nw_Me} (hL : nw_L g ≤ 384) : nw_Ev l g 10 (mL nm) 0 [some (.ref (nw_sc g)), none, none, none] [] [] I 237 3448 (nw_qZ (fun b _ => b = true)) := by
  refine xv_new (sh := []) (n := 0) (N := 13) (fs := nw_f8) (kc := 236) (ks := 3435) rfl (show Cond.classLink RL 7 RX9 ∈ nw_gw from tb_in (i := 14) (by decide +kernel)) (ci := 8) rfl (tb_in (i := 15) (by decide +kernel)) (kX9_init.2.1) dL_law_0 (by decide) df8 ?_
  refine ev_dup dL_law_3 rfl ?_
  refine xv_callI (sh := []) (sh' := nw_SH.take 219) (kc1 := 218) (ks1 := 1799) (kc := 18) (ks := 1636) (k_wave.deep (d1 := 9) (Nat.le_of_ble_eq_true rfl)) rfl lL_9 kX9_init iX9_init dL_law_4 rfl (Nat.le_of_ble_eq_true rfl) (Nat.le_of_ble_eq_true rfl) ?_
  rintro J ⟨p0, p3, p13, p15, p25, p37, p192, p195, p207⟩
  refine ev_astore_n (i := 1) dL_law_7 rfl (Nat.le_of_ble_eq_true rfl) rfl ?_
  refine xv_new (n := 219) (N := 29) (fs := nw_f9) (kc := 17) (ks := 1607) (by decide +kernel) (show Cond.classLink RL 10 RX10 ∈ nw_gw from tb_in (i := 799) (by decide +kernel)) (ci := 9) rfl (tb_in (i := 800) (by decide +kernel)) (kX10_init.2.1) dL_law_8 (by decide) df9 ?_
  refine ev_dup dL_law_11 rfl ?_
  refine xv_callI (sh' := nw_SH) (kc1 := 17) (ks1 := 1607) (kc := 0) (ks := 0) ((k_model (n := 219) (by decide +kernel)).deep (d1 := 9) (Nat.le_of_ble_eq_true rfl)) (by decide +kernel) lL_12 kX10_init iX10_init dL_law_12 rfl (Nat.le_of_ble_eq_true rfl) (Nat.le_of_ble_eq_true rfl) ?_
  rintro K ⟨q0, q1, q6, q7, q10, e⟩
  have f : ∀ a, a < 219 → K a = J a := fun a ha => (e a ha).trans (nw_z_ne (by omega))
  refine ev_astore_n (i := 2) dL_law_15 rfl (Nat.le_of_ble_eq_true rfl) rfl ?_
  refine ev_iconst (v := 0) dL_law_16 kc_0 ?_
  refine ev_istore_n (i := 3) dL_law_17 rfl (Nat.le_of_ble_eq_true rfl) rfl ?_
  refine l_law hL (nw_L g + 1) 0 K (by omega) (by omega) (iv_new (fun i => ?_) (fun r hr => ?_) (fun i => ?_) (fun i => ?_) ?_ (fun i => ?_) (fun i => ?_) ?_ ?_ (fun i => ?_) q1 q6 q7 q10)
  · rw [f 0 (by omega), p0, nw_z_self]
  · rw [f 3 (by omega)]; exact p3 r hr
  · rw [f 13 (by omega)]; exact p13 i
  · rw [f 15 (by omega)]; exact p15 i
  · rw [f 25 (by omega)]; exact p25
  · rw [f 37 (by omega)]; exact p37 i
  · rw [f 192 (by omega)]; exact p192 i
  · rw [f 195 (by omega)]; exact p195
  · rw [f 207 (by omega)]; exact p207
  · rw [q0 i, nw_z_self]
end
-- the start
theorem nw_len {args : Array Value} {first s : State} {o : Option Outcome} {idx : List Nat} {t : Term} {v : Value} (h : (Term.length t).eval args first o idx s = some v) : ∃ a cell, t.eval args first o idx s = some (.ref a) ∧ s.arrayAt? a = some cell ∧ cell.slots.size < 2147483648 := by
  simp only [Term.eval, Option.bind_eq_bind] at h
  cases ht : t.eval args first o idx s with
  | none => simp [ht] at h
  | some x =>
    cases x <;> simp [ht] at h
    case ref a =>
      obtain ⟨cell, hcell, h⟩ := Option.bind_eq_some_iff.mp h
      by_cases hn : cell.slots.size < 2147483648
      · exact ⟨a, cell, rfl, hcell, hn⟩
      · rw [if_neg hn] at h; cases h
theorem nw_tab {args : Array Value} {s : State} {tm : Term} {N : Nat} {f : Nat → Int32} (hN : N < 2 ^ 31) (harr : (Cond.arrayOf tm .int).before args s = true) (hlen : (Cond.eq (.length tm) (.int (nI N))).before args s = true) (hel : ∀ j : Nat, j < N → (Cond.eq (.elem tm (.int (nI j))) (.int (f j))).before args s = true) : ∃ t : Nat, tm.eval args s none [] s = some (.ref t) ∧ va_X t N f s s.heap ∧ t < s.heap.size := by
  have hl := va_eqt hlen
  obtain ⟨t, ht, cell, hcell, hof, hkn, -, hsz, hv, -⟩ := va_Tof (A := fun _ => False) (f := fun j => .int (f j)) hN harr hl (fun j hj => va_eqt (hel j hj)) (fun _ _ h => h)
  obtain ⟨a, cell2, h1, h2, h3⟩ := nw_len hl
  cases ht.symm.trans h1
  cases hcell.symm.trans (State.arrayAt?_spec h2).1
  exact ⟨t, ht, ⟨cell, hcell, hof, hkn, (nI_eq h3 hN).mp hsz, hv⟩, (Array.getElem?_eq_some_iff.mp hcell).1⟩
theorem nw_ne_in : ∀ w ∈ nw_ne, w ∈ lw_tbl := by
  show ∀ w ∈ [Cond.methodLinkNest RX9 18 yX6_init "NinthWave", Cond.methodLinkNest RX9 25 yX2_init "NinthWave", Cond.methodLinkNest RX9 35 yX8_init "NinthWave", Cond.methodLinkNest RX0 15 yX8_init "NinthWave", Cond.methodLinkNest RX9 52 yX5_init "NinthWave", Cond.methodLinkNest RX9 59 yX1_init "NinthWave", Cond.methodLinkNest RX9 70 yX3_init "NinthWave", Cond.methodLinkNest RX3 9 yX2_init "NinthWave", Cond.methodLinkNest RX3 18 yX8_init "NinthWave", Cond.methodLinkNest RX8 65 yX9_calls "NinthWave", Cond.methodLinkNest RX5 52 yX9_calls "NinthWave"], w ∈ lw_tbl
  exact List.forall_mem_cons.mpr ⟨tl_in (i := 43) (by decide +kernel), List.forall_mem_cons.mpr ⟨tl_in (i := 69) (by decide +kernel), List.forall_mem_cons.mpr ⟨tl_in (i := 127) (by decide +kernel), List.forall_mem_cons.mpr ⟨tl_in (i := 174) (by decide +kernel), List.forall_mem_cons.mpr ⟨tl_in (i := 188) (by decide +kernel), List.forall_mem_cons.mpr ⟨tl_in (i := 216) (by decide +kernel), List.forall_mem_cons.mpr ⟨tl_in (i := 244) (by decide +kernel), List.forall_mem_cons.mpr ⟨tl_in (i := 249) (by decide +kernel), List.forall_mem_cons.mpr ⟨tl_in (i := 251) (by decide +kernel), List.forall_mem_cons.mpr ⟨tl_in (i := 527) (by decide +kernel), List.forall_mem_cons.mpr ⟨tl_in (i := 649) (by decide +kernel), fun _ h => absurd h List.not_mem_nil⟩⟩⟩⟩⟩⟩⟩⟩⟩⟩⟩
