section
variable {l : Launch} {g : nw_G} {I : nw_Me}
theorem st_ship (h : iv I) (x1 x2 : Int32) : nw_cI l g 2 mX9_ship [.ref (nw_a g 0), .int x1, .int x2] I (fun r J => nw_cI l g 2 mX10_ship [.ref (nw_a g 219), .int x1, .int x2] J (fun r' K => r = r' ∧ iv K)) := by
  obtain ⟨b, N, T, S, L, hw, hr, ht, hs, ha, hi⟩ := id h
  refine (x_ship hw.1 x1 x2).mono (fun r J hJ => ?_)
  obtain ⟨e1, rfl⟩ := hJ
  refine (m_ship hw.2.1 x1 x2).mono (fun r' K hK => ?_)
  obtain ⟨e2, rfl⟩ := hK
  exact ⟨e1.trans e2.symm, h⟩
theorem st_tower (h : iv I) (x1 x2 : Int32) : nw_cI l g 2 mX9_tower [.ref (nw_a g 0), .int x1, .int x2] I (fun r J => nw_cI l g 2 mX10_tower [.ref (nw_a g 219), .int x1, .int x2] J (fun r' K => r = r' ∧ iv K)) := by
  obtain ⟨b, N, T, S, L, hw, hr, ht, hs, ha, hi⟩ := id h
  refine (x_tower hw.1 x1 x2).mono (fun r J hJ => ?_)
  obtain ⟨e1, rfl⟩ := hJ
  refine (m_tower hw.2.1 x1 x2).mono (fun r' K hK => ?_)
  obtain ⟨e2, rfl⟩ := hK
  exact ⟨e1.trans e2.symm, h⟩
theorem st_wave (h : iv I) (x1 x2 : Int32) : nw_cI l g 3 mX9_wave [.ref (nw_a g 0), .int x1, .int x2] I (fun r J => nw_cI l g 4 mX10_wave [.ref (nw_a g 219), .int x1, .int x2] J (fun r' K => r = r' ∧ iv K)) := by
  obtain ⟨b, N, T, S, L, hw, hr, ht, hs, ha, hi⟩ := id h
  refine (x_wave hw.1 x1 x2).mono (fun r J hJ => ?_)
  obtain ⟨e1, rfl⟩ := hJ
  refine (m_wave hw.2.1 x1 x2).mono (fun r' K hK => ?_)
  obtain ⟨e2, rfl⟩ := hK
  exact ⟨e1.trans e2.symm, h⟩
theorem st_called (h : iv I) (x1 x2 : Int32) : nw_cI l g 2 mX9_called [.ref (nw_a g 0), .int x1, .int x2] I (fun r J => nw_cI l g 2 mX10_called [.ref (nw_a g 219), .int x1, .int x2] J (fun r' K => r = r' ∧ iv K)) := by
  obtain ⟨b, N, T, S, L, hw, hr, ht, hs, ha, hi⟩ := id h
  refine (x_called hw.1 x1 x2).mono (fun r J hJ => ?_)
  obtain ⟨e1, rfl⟩ := hJ
  refine (m_called hw.2.1 x1 x2).mono (fun r' K hK => ?_)
  obtain ⟨e2, rfl⟩ := hK
  exact ⟨e1.trans e2.symm, h⟩
theorem st_fit (h : iv I) (x1 x2 : Int32) : nw_cI l g 3 mX9_fit [.ref (nw_a g 0), .int x1, .int x2] I (fun r J => nw_cI l g 4 mX10_fit [.ref (nw_a g 219), .int x1, .int x2] J (fun r' K => r = r' ∧ iv K)) := by
  obtain ⟨b, N, T, S, L, hw, hr, ht, hs, ha, hi⟩ := id h
  refine (x_fit hw.1 x1 x2).mono (fun r J hJ => ?_)
  obtain ⟨e1, rfl⟩ := hJ
  refine (m_fit hw.2.1 x1 x2).mono (fun r' K hK => ?_)
  obtain ⟨e2, rfl⟩ := hK
  exact ⟨e1.trans e2.symm, h⟩
theorem st_highest (h : iv I) (x1 x2 : Int32) : nw_cI l g 3 mX9_highest [.ref (nw_a g 0), .int x1, .int x2] I (fun r J => nw_cI l g 4 mX10_highest [.ref (nw_a g 219), .int x1, .int x2] J (fun r' K => r = r' ∧ iv K)) := by
  obtain ⟨b, N, T, S, L, hw, hr, ht, hs, ha, hi⟩ := id h
  refine (x_highest hw.1 x1 x2).mono (fun r J hJ => ?_)
  obtain ⟨e1, rfl⟩ := hJ
  refine (m_highest hw.2.1 x1 x2).mono (fun r' K hK => ?_)
  obtain ⟨e2, rfl⟩ := hK
  exact ⟨e1.trans e2.symm, h⟩
theorem st_kind (h : iv I) (x1 : Int32) : nw_cI l g 2 mX9_kind [.ref (nw_a g 0), .int x1] I (fun r J => nw_cI l g 2 mX10_kind [.ref (nw_a g 219), .int x1] J (fun r' K => r = r' ∧ iv K)) := by
  obtain ⟨b, N, T, S, L, hw, hr, ht, hs, ha, hi⟩ := id h
  refine (x_kind hw.1 x1).mono (fun r J hJ => ?_)
  obtain ⟨e1, rfl⟩ := hJ
  refine (m_kind hw.2.1 x1).mono (fun r' K hK => ?_)
  obtain ⟨e2, rfl⟩ := hK
  exact ⟨e1.trans e2.symm, h⟩
theorem st_fault (h : iv I) : nw_cI l g 0 mX9_fault [.ref (nw_a g 0)] I (fun r J => nw_cI l g 0 mX10_fault [.ref (nw_a g 219)] J (fun r' K => r = r' ∧ iv K)) := by
  obtain ⟨b, N, T, S, L, hw, hr, ht, hs, ha, hi⟩ := id h
  refine x_fault.mono (fun r J hJ => ?_)
  obtain ⟨e1, rfl⟩ := hJ
  refine m_fault.mono (fun r' K hK => ?_)
  obtain ⟨e2, rfl⟩ := hK
  exact ⟨by rw [e1, e2]; exact hs.1, h⟩
theorem st_status (h : iv I) : nw_cI l g 0 mX9_status [.ref (nw_a g 0)] I (fun r J => nw_cI l g 0 mX10_status [.ref (nw_a g 219)] J (fun r' K => r = r' ∧ iv K)) := by
  obtain ⟨b, N, T, S, L, hw, hr, ht, hs, ha, hi⟩ := id h
  refine x_status.mono (fun r J hJ => ?_)
  obtain ⟨e1, rfl⟩ := hJ
  refine m_status.mono (fun r' K hK => ?_)
  obtain ⟨e2, rfl⟩ := hK
  exact ⟨by rw [e1, e2]; exact hs.2, h⟩
theorem st_trace (h : iv I) (x1 : Int32) : nw_cI l g 1 mX9_trace [.ref (nw_a g 0), .int x1] I (fun r J => nw_cI l g 1 mX10_trace [.ref (nw_a g 219), .int x1] J (fun r' K => r = r' ∧ iv K)) := by
  obtain ⟨b, N, T, S, L, hw, hr, ht, hs, ha, hi⟩ := id h
  obtain ⟨t, t1, t2, t3, t4⟩ := ha
  refine (x_trace t2 t1 x1).mono (fun r J hJ => ?_)
  obtain ⟨e1, rfl⟩ := hJ
  refine (m_trace t3 t1 x1).mono (fun r' K hK => ?_)
  obtain ⟨e2, rfl⟩ := hK
  refine ⟨?_, h⟩
  rw [e1, e2]
  by_cases hx : nv_in x1 0 (nI t - 1) = true
  · rw [if_pos hx, if_pos hx]
    obtain ⟨s, s1, rfl⟩ := nv_in_S (by omega) hx
    rw [nI_clamp (by omega)]
    exact t4 s s1
  · rw [if_neg hx, if_neg hx]
theorem st_ahead (h : iv I) (x1 x2 : Int32) : nw_cI l g 6 mX9_ahead [.ref (nw_a g 0), .int x1, .int x2] I (fun r J => nw_cI l g 5 mX10_ahead [.ref (nw_a g 219), .int x1, .int x2] J (fun r' K => r = r' ∧ iv K)) := by
  obtain ⟨b, N, T, S, L, hw, hr, ht, hs, ha, hi⟩ := id h
  refine (x_ahead hw.1 x1 x2).mono (fun r J hJ => ?_)
  obtain ⟨e1, fJ⟩ := hJ
  refine (m_ahead (hw.2.1.ext (fJ 225 (by omega)) (fJ 226 (by omega))) x1 x2).mono (fun r' K hK => ?_)
  obtain ⟨e2, fK⟩ := hK
  exact ⟨e1.trans e2.symm, h.q (fun k a1 a2 a3 a4 => (fK k (by omega)).trans (fJ k (by omega)))⟩
theorem st_shipAhead (h : iv I) (x1 x2 x3 : Int32) : nw_cI l g 6 mX9_shipAhead [.ref (nw_a g 0), .int x1, .int x2, .int x3] I (fun r J => nw_cI l g 5 mX10_shipAhead [.ref (nw_a g 219), .int x1, .int x2, .int x3] J (fun r' K => r = r' ∧ iv K)) := by
  obtain ⟨b, N, T, S, L, hw, hr, ht, hs, ha, hi⟩ := id h
  refine (x_shipAhead hw.1 x1 x2 x3).mono (fun r J hJ => ?_)
  obtain ⟨e1, fJ⟩ := hJ
  refine (m_shipAhead (hw.2.1.ext (fJ 225 (by omega)) (fJ 226 (by omega))) x1 x2 x3).mono (fun r' K hK => ?_)
  obtain ⟨e2, fK⟩ := hK
  exact ⟨e1.trans e2.symm, h.q (fun k a1 a2 a3 a4 => (fK k (by omega)).trans (fJ k (by omega)))⟩
theorem st_towerAhead (h : iv I) (x1 x2 : Int32) : nw_cI l g 6 mX9_towerAhead [.ref (nw_a g 0), .int x1, .int x2] I (fun r J => nw_cI l g 5 mX10_towerAhead [.ref (nw_a g 219), .int x1, .int x2] J (fun r' K => r = r' ∧ iv K)) := by
  obtain ⟨b, N, T, S, L, hw, hr, ht, hs, ha, hi⟩ := id h
  refine (x_towerAhead hw.1 x1 x2).mono (fun r J hJ => ?_)
  obtain ⟨e1, fJ⟩ := hJ
  refine (m_towerAhead (hw.2.1.ext (fJ 225 (by omega)) (fJ 226 (by omega))) x1 x2).mono (fun r' K hK => ?_)
  obtain ⟨e2, fK⟩ := hK
  exact ⟨e1.trans e2.symm, h.q (fun k a1 a2 a3 a4 => (fK k (by omega)).trans (fJ k (by omega)))⟩
theorem st_laws (h : iv I) (x1 x2 : Int32) : nw_cI l g 5 mX9_laws [.ref (nw_a g 0), .int x1, .int x2] I (fun r J => nw_cI l g 5 mX10_laws [.ref (nw_a g 219), .int x1, .int x2] J (fun r' K => r = r' ∧ iv K)) := by
  obtain ⟨b, N, T, S, L, hw, hr, ht, hs, ha, hi⟩ := id h
  refine (x_laws hw.1 x1 x2).mono (fun r J hJ => ?_)
  obtain ⟨e1, fJ⟩ := hJ
  refine (m_laws (hw.2.1.ext (fJ 225 (by omega)) (fJ 226 (by omega))) x1 x2).mono (fun r' K hK => ?_)
  obtain ⟨e2, fK⟩ := hK
  exact ⟨e1.trans e2.symm, h.q (fun k a1 a2 a3 a4 => (fK k (by omega)).trans (fJ k (by omega)))⟩
theorem st_bribe (h : iv I) (x1 x2 : Int32) : nw_cI l g 5 mX9_bribe [.ref (nw_a g 0), .int x1, .int x2] I (fun r J => nw_cI l g 5 mX10_bribe [.ref (nw_a g 219), .int x1, .int x2] J (fun r' K => r = r' ∧ iv K)) := by
  obtain ⟨b, N, T, S, L, hw, hr, ht, hs, ha, hi⟩ := id h
  refine (x_bribe hw.1 x1 x2).mono (fun r J hJ => ?_)
  obtain ⟨e1, fJ⟩ := hJ
  refine (m_bribe (hw.2.1.ext (fJ 225 (by omega)) (fJ 226 (by omega))) x1 x2).mono (fun r' K hK => ?_)
  obtain ⟨e2, fK⟩ := hK
  exact ⟨e1.trans e2.symm, h.q (fun k a1 a2 a3 a4 => (fK k (by omega)).trans (fJ k (by omega)))⟩
theorem st_heed (h : iv I) (x1 : Int32) : nw_cI l g 5 mX9_heed [.ref (nw_a g 0), .int x1] I (fun r J => nw_cI l g 5 mX10_heed [.ref (nw_a g 219), .int x1] J (fun r' K => r = r' ∧ iv K)) := by
  obtain ⟨b, N, T, S, L, hw, hr, ht, hs, ha, hi⟩ := id h
  refine (x_heed hw.1 x1).mono (fun r J hJ => ?_)
  obtain ⟨e1, fJ⟩ := hJ
  refine (m_heed (hw.2.1.ext (fJ 225 (by omega)) (fJ 226 (by omega))) x1).mono (fun r' K hK => ?_)
  obtain ⟨e2, fK⟩ := hK
  exact ⟨e1.trans e2.symm, h.q (fun k a1 a2 a3 a4 => (fK k (by omega)).trans (fJ k (by omega)))⟩
theorem st_agreed (h : iv I) (x1 x2 : Int32) : nw_cI l g 4 mX9_agreed [.ref (nw_a g 0), .int x1, .int x2] I (fun r J => nw_cI l g 5 mX10_agreed [.ref (nw_a g 219), .int x1, .int x2] J (fun r' K => r = r' ∧ iv K)) := by
  obtain ⟨b, N, T, S, L, hw, hr, ht, hs, ha, hi⟩ := id h
  refine (x_agreed hw.1 x1 x2).mono (fun r J hJ => ?_)
  obtain ⟨e1, fJ⟩ := hJ
  refine (m_agreed (hw.2.1.ext (fJ 225 (by omega)) (fJ 226 (by omega))) x1 x2).mono (fun r' K hK => ?_)
  obtain ⟨e2, fK⟩ := hK
  exact ⟨e1.trans e2.symm, h.q (fun k a1 a2 a3 a4 => (fK k (by omega)).trans (fJ k (by omega)))⟩
theorem st_wreck (h : iv I) (x1 x2 x3 x4 : Int32) : nw_cI l g 4 mX9_wreck [.ref (nw_a g 0), .int x1, .int x2, .int x3, .int x4] I (fun r J => nw_cI l g 5 mX10_wreck [.ref (nw_a g 219), .int x1, .int x2, .int x3, .int x4] J (fun r' K => r = r' ∧ iv K)) := by
  obtain ⟨b, N, T, S, L, hw, hr, ht, hs, ha, hi⟩ := id h
  refine (x_wreck hw.1 x1 x2 x3 x4).mono (fun r J hJ => ?_)
  obtain ⟨e1, fJ⟩ := hJ
  refine (m_wreck (hw.2.1.ext (fJ 225 (by omega)) (fJ 226 (by omega))) x1 x2 x3 x4).mono (fun r' K hK => ?_)
  obtain ⟨e2, fK⟩ := hK
  exact ⟨e1.trans e2.symm, h.q (fun k a1 a2 a3 a4 => (fK k (by omega)).trans (fJ k (by omega)))⟩
theorem st_season (h : iv I) (x1 x2 x3 : Int32) : nw_cI l g 3 mX9_season [.ref (nw_a g 0), .int x1, .int x2, .int x3] I (fun r J => nw_cI l g 4 mX10_season [.ref (nw_a g 219), .int x1, .int x2, .int x3] J (fun r' K => r = r' ∧ iv K)) := by
  obtain ⟨b, N, T, S, L, hw, hr, ht, hs, ha, hi⟩ := id h
  refine (x_season hw.1 x1 x2 x3).mono (fun r J hJ => ?_)
  obtain ⟨e1, fJ⟩ := hJ
  refine (m_season (hw.2.1.ext (fJ 225 (by omega)) (fJ 226 (by omega))) x1 x2 x3).mono (fun r' K hK => ?_)
  obtain ⟨e2, fK⟩ := hK
  exact ⟨e1.trans e2.symm, h.q (fun k a1 a2 a3 a4 => (fK k (by omega)).trans (fJ k (by omega)))⟩
theorem st_count (h : iv I) (x1 : Int32) : nw_cI l g 2 mX9_count [.ref (nw_a g 0), .int x1] I (fun r J => nw_cI l g 1 mX10_count [.ref (nw_a g 219), .int x1] J (fun r' K => r = r' ∧ iv K)) := by
  obtain ⟨b, N, T, S, L, hw, hr, ht, hs, ha, hi⟩ := id h
  obtain ⟨n, n1, n2, n3, -⟩ := ht
  obtain ⟨j, j1, j2, j3, j4, j5⟩ := hw.2.2.1
  have hv : ∃ v, v ≤ 999 ∧ nv_fl I 25 0 = nI v := by
    rcases hw.1.2.2 with ⟨-, -, -, -, q⟩ | ⟨q, -⟩
    · exact q.2.2.1
    · exact ⟨0, by decide, by rw [nI_0]; exact (hw.2.2.2.2.2 q).2.2⟩
  obtain ⟨v, -, hv⟩ := hv
  refine (x_count hw.1 n2 j3 hv x1).mono (fun r J hJ => ?_)
  obtain ⟨e1, rfl⟩ := hJ
  have hZ : ∀ r, r < 8 → decide (J 220 r < 0) = decide (J 3 r = -1) := fun r hr8 => by
    rcases hr r hr8 with ⟨q1, q2⟩ | ⟨m, m1, m2, m3, m4, m5, m6⟩
    · rw [decide_eq_true q1, decide_eq_true q2]
    · rw [m4, decide_eq_false m5, decide_eq_false]
      rw [m2]
      exact fun q => nI_pos (n := m) (by omega) (by rw [q]; decide)
  refine (m_count hw.2.1 (n := n) (m := L.length) (v := v) (Z := fun r => decide (J 3 r = -1)) hZ n3 hw.2.2.2.1.1 hv (fun q => (hw.2.2.2.2.2 q).2.1) x1).mono (fun r' K hK => ?_)
  obtain ⟨e2, fK⟩ := hK
  exact ⟨e1.trans e2.symm, h.q (fun k a1 a2 a3 a4 => fK k (by omega))⟩
theorem st_as (h : iv I) (x1 x2 : Int32) : nw_cI l g 2 mX9_as [.ref (nw_a g 0), .int x1, .int x2] I (fun r J => nw_cI l g 2 mX10_as [.ref (nw_a g 219), .int x1, .int x2] J (fun r' K => r = r' ∧ iv K)) := by
  obtain ⟨b, N, T, S, L, hw, hr, ht, hs, ha, hi⟩ := id h
  refine (x_as hw.1 x1 x2).mono (fun r J hJ => ?_)
  obtain ⟨e1, eJ⟩ := hJ
  refine (m_as (hw.2.1.ext (J := J) (by rw [eJ]; split <;> (try split) <;> first | rfl | exact nw_up_ne (by decide)) (by rw [eJ]; split <;> (try split) <;> first | rfl | exact nw_up_ne (by decide))) x1 x2).mono (fun r' K hK => ?_)
  obtain ⟨e2, eK⟩ := hK
  refine ⟨e1.trans e2.symm, ?_⟩
  rw [eK, eJ]
  by_cases c1 : (nv_in x1 0 (nI N - 1) && nv_in x2 0 5) = true
  · rw [if_pos c1, if_pos c1]
    by_cases c2 : nv_isAr 6 (nv_cf I 15 (6 + x1.toNatClampNeg)) x2 = true
    · rw [if_pos c2, if_pos c2]
      exact h.fd 0
    · rw [if_neg c2, if_neg c2]
      exact h.fd 3
  · rw [if_neg c1, if_neg c1]
    exact h
end
