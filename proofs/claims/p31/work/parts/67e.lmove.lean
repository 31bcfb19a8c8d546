/-! the law's numbers follow the class's: awards, complaints, contracts -/
section LU
variable {M T : MS}
set_option maxRecDepth 100000 in
theorem LR.gvS (h : LR M T) (hM : MI M) {j b : Nat} (hj : j < 4) (hjl : j % 2 < M 8 (j / 2)) (hj3 : j / 2 < M 3 0) (hb4 : b < 4) (htp : m_tp M (8 * ml j + b) = true) : LR (mu (mu (mu (mu M 17 (M 16 0) (ml j)) 18 (M 16 0) b) 19 (M 16 0) (M 1 0)) 16 0 (M 16 0 + 1)) (mu (mu T 7 (T 11 4) (j + 4 * b + 16 * T 11 0)) 11 4 (T 11 4 + 1)) := by
  obtain ⟨M2, eM⟩ : ∃ M2 : MS, M2 = mu (mu (mu (mu M 17 (M 16 0) (ml j)) 18 (M 16 0) b) 19 (M 16 0) (M 1 0)) 16 0 (M 16 0 + 1) := ⟨_, rfl⟩
  obtain ⟨T2, eT⟩ : ∃ T2 : MS, T2 = mu (mu T 7 (T 11 4) (j + 4 * b + 16 * T 11 0)) 11 4 (T 11 4 + 1) := ⟨_, rfl⟩
  rw [← eM, ← eT]
  have h0 := h
  obtain ⟨hg, hp, ht, hl, hb, hs, ha, hc, hd, hw, hz⟩ := h
  obtain ⟨g0, g1, g2, g3, g4, g5, g6⟩ := hg
  refine ⟨?_, ?_, ?_, ?_, ?_, ?_, ?_, ?_, ?_, ?_, ?_⟩
  · rw [eM, eT]; exact ⟨by simp [mu, g0, g1, g3, g4, g5, g6], by simp [mu, g0, g1, g3, g4, g5, g6], by simp [mu, g2], by simp [mu, g0, g1, g3, g4, g5, g6], by simp [mu, g0, g1, g3, g4, g5, g6], by simp [mu, g0, g1, g3, g4, g5, g6], by simp [mu, g0, g1, g3, g4, g5, g6]⟩
  · exact hp.c (show M2 2 = M 2 by rw [eM]; funext k9; simp [mu]) (show T2 0 = T 0 by rw [eT]; funext k9; simp [mu])
  · exact ht.c (show M2 3 = M 3 by rw [eM]; funext k9; simp [mu]) (show M2 4 = M 4 by rw [eM]; funext k9; simp [mu]) (show M2 5 = M 5 by rw [eM]; funext k9; simp [mu]) (show M2 6 = M 6 by rw [eM]; funext k9; simp [mu]) (show M2 7 = M 7 by rw [eM]; funext k9; simp [mu]) (show T2 1 = T 1 by rw [eT]; funext k9; simp [mu])
  · exact hl.c (show M2 3 = M 3 by rw [eM]; funext k9; simp [mu]) (show M2 8 = M 8 by rw [eM]; funext k9; simp [mu]) (show M2 9 = M 9 by rw [eM]; funext k9; simp [mu]) (show T2 2 = T 2 by rw [eT]; funext k9; simp [mu])
  · exact hb.c (show M2 8 = M 8 by rw [eM]; funext k9; simp [mu]) (show M2 10 = M 10 by rw [eM]; funext k9; simp [mu]) (show M2 12 = M 12 by rw [eM]; funext k9; simp [mu]) (show M2 15 = M 15 by rw [eM]; funext k9; simp [mu]) (show T2 3 = T 3 by rw [eT]; funext k9; simp [mu]) (show T2 4 = T 4 by rw [eT]; funext k9; simp [mu])
  · exact hs.c (show M2 1 = M 1 by rw [eM]; funext k9; simp [mu]) (show M2 3 = M 3 by rw [eM]; funext k9; simp [mu]) (show M2 4 = M 4 by rw [eM]; funext k9; simp [mu]) (show M2 10 = M 10 by rw [eM]; funext k9; simp [mu]) (show M2 11 = M 11 by rw [eM]; funext k9; simp [mu]) (show M2 13 = M 13 by rw [eM]; funext k9; simp [mu]) (show M2 14 = M 14 by rw [eM]; funext k9; simp [mu]) (show T2 1 = T 1 by rw [eT]; funext k9; simp [mu]) (show T2 3 = T 3 by rw [eT]; funext k9; simp [mu]) (show T2 5 = T 5 by rw [eT]; funext k9; simp [mu]) (show T2 6 = T 6 by rw [eT]; funext k9; simp [mu]) (by rw [eT]; simp [mu]) (by rw [eT]; simp [mu])
  · intro k hk
    have eo : ∀ t, m_op M2 t = m_op M t := m_op_c (show M2 1 = M 1 by rw [eM]; funext k9; simp [mu]) (show M2 4 = M 4 by rw [eM]; funext k9; simp [mu])
    have q1 : M2 1 = M 1 := by rw [eM]; funext k9; simp [mu]
    have q3 : M2 3 = M 3 := by rw [eM]; funext k9; simp [mu]
    have q8 : M2 8 = M 8 := by rw [eM]; funext k9; simp [mu]
    have q10 : M2 10 = M 10 := by rw [eM]; funext k9; simp [mu]
    have hk2 : k < M 16 0 + 1 := by rw [eM] at hk; simpa [mu] using hk
    by_cases e : k = M 16 0
    · subst e
      have z := hz.2.1 (M 16 0) (Nat.le_refl _)
      have t7 : T2 7 (M 16 0) = j + 4 * b + 16 * M 1 0 := by rw [eT]; simp [mu, g4, g0]
      have e17 : M2 17 (M 16 0) = ml j := by rw [eM]; simp [mu]
      have e18 : M2 18 (M 16 0) = b := by rw [eM]; simp [mu]
      have e19 : M2 19 (M 16 0) = M 1 0 := by rw [eM]; simp [mu]
      have e20 : M2 20 (M 16 0) = 0 := by rw [eM]; simp [mu, z.1]
      have e21 : M2 21 (M 16 0) = 0 := by rw [eM]; simp [mu, z.2]
      have t4 : T2 7 (M 16 0) % 4 = j := by omega
      have o1 : m_op M (j / 2) = true := by
        have := m_tp_op htp
        rw [show (8 * ml j + b) / 8 / 3 = j / 2 by show (8 * (3 * (j / 2) + j % 2) + b) / 8 / 3 = j / 2; omega] at this
        exact this
      rw [t4, e17, e18, e19, e20, e21, eo, q1, q3, q8, q10]
      exact ⟨rfl, by omega, hb4, hj3, hjl, o1, m_tp_10 htp, Nat.le_refl _⟩
    · have e2 : ¬ k = T 11 4 := by omega
      have e17 : M2 17 k = M 17 k := by rw [eM]; simp [mu, e, e2]
      have e18 : M2 18 k = M 18 k := by rw [eM]; simp [mu, e, e2]
      have e19 : M2 19 k = M 19 k := by rw [eM]; simp [mu, e, e2]
      have e20 : M2 20 k = M 20 k := by rw [eM]; simp [mu, e, e2]
      have e21 : M2 21 k = M 21 k := by rw [eM]; simp [mu, e, e2]
      have t7 : T2 7 k = T 7 k := by rw [eT]; simp [mu, e, e2]
      rw [t7, e17, e18, e19, e20, e21, eo, q1, q3, q8, q10]
      exact ha k (by omega)
  · exact hc.c (show M2 1 = M 1 by rw [eM]; funext k9; simp [mu]) (by rw [eM]; simp [mu]) (show M2 22 = M 22 by rw [eM]; funext k9; simp [mu]) (show M2 23 = M 23 by rw [eM]; funext k9; simp [mu]) (show M2 24 = M 24 by rw [eM]; funext k9; simp [mu]) (show M2 25 = M 25 by rw [eM]; funext k9; simp [mu]) (show M2 26 = M 26 by rw [eM]; funext k9; simp [mu]) (show M2 27 = M 27 by rw [eM]; funext k9; simp [mu]) (show M2 28 = M 28 by rw [eM]; funext k9; simp [mu]) (show T2 8 = T 8 by rw [eT]; funext k9; simp [mu])
  · exact hd.c (by rw [eM]; simp [mu]) (show M2 29 = M 29 by rw [eM]; funext k9; simp [mu]) (show M2 30 = M 30 by rw [eM]; funext k9; simp [mu]) (show M2 31 = M 31 by rw [eM]; funext k9; simp [mu]) (show T2 9 = T 9 by rw [eT]; funext k9; simp [mu])
  · exact hw.c (show M2 32 = M 32 by rw [eM]; funext k9; simp [mu]) (show T2 10 = T 10 by rw [eT]; funext k9; simp [mu])
  · exact hz.c (by rw [eM]; simp [mu]) (show M2 20 = M 20 by rw [eM]; funext k9; simp [mu]) (show M2 21 = M 21 by rw [eM]; funext k9; simp [mu]) (show M2 22 = M 22 by rw [eM]; funext k9; simp [mu]) (show M2 26 = M 26 by rw [eM]; funext k9; simp [mu]) (show M2 27 = M 27 by rw [eM]; funext k9; simp [mu]) (show M2 28 = M 28 by rw [eM]; funext k9; simp [mu]) (show M2 29 = M 29 by rw [eM]; funext k9; simp [mu]) (show M2 31 = M 31 by rw [eM]; funext k9; simp [mu])
theorem LR.rk4 (h : LR M T) {j p b : Nat} (e : m_rk M (ml j) p = some b) : b < 4 := by
  obtain ⟨h1, h2, -⟩ := m_rk_lt e
  rcases Nat.lt_or_ge b 4 with q | q
  · exact q
  · rw [h.no4 q h1] at h2
    exact absurd h2 (by decide)
theorem LR.gv (h : LR M T) (hM : MI M) {j : Nat} (hj : j < 4) (hjl : j % 2 < M 8 (j / 2)) (hj3 : j / 2 < M 3 0) : LR (m_gv M (ml j)) (t_gv T j) ∧ t_gvr T j = m_gvr M (ml j) := by
  have e := h.best0 hM hj hj3
  unfold m_gv t_gv m_gvr t_gvr
  rcases e2 : m_rk M (ml j) 0 with _ | b
  · rw [e2] at e
    rw [e]
    exact ⟨h, rfl⟩
  · rw [e2] at e
    rw [e]
    have hb := h.rk4 e2
    have := h.gvS hM hj hjl hj3 hb (m_rk_lt e2).2.1
    refine ⟨?_, ?_⟩
    · show LR _ (mu (mu T 7 (T 11 4) (j + 4 * ((4 * j + b) % 4) + 16 * T 11 0)) 11 4 (T 11 4 + 1))
      rw [show (4 * j + b) % 4 = b by omega]
      exact this
    · show nI (T 11 4) = nI (M 16 0)
      rw [h.1.2.2.2.2.1]
set_option maxRecDepth 100000 in
theorem LR.complainS (h : LR M T) (hM : MI M) {a b z : Nat} (ha16 : a < M 16 0) (hb4 : b < 4) (hz3 : z < 3) : LR (mu (mu (mu (mu M 23 (M 22 0) a) 24 (M 22 0) b) 25 (M 22 0) z) 22 0 (M 22 0 + 1)) (mu (mu T 8 (T 11 5) (a + 32 * b + 128 * z)) 11 5 (T 11 5 + 1)) := by
  obtain ⟨M2, eM⟩ : ∃ M2 : MS, M2 = mu (mu (mu (mu M 23 (M 22 0) a) 24 (M 22 0) b) 25 (M 22 0) z) 22 0 (M 22 0 + 1) := ⟨_, rfl⟩
  obtain ⟨T2, eT⟩ : ∃ T2 : MS, T2 = mu (mu T 8 (T 11 5) (a + 32 * b + 128 * z)) 11 5 (T 11 5 + 1) := ⟨_, rfl⟩
  rw [← eM, ← eT]
  have h0 := h
  obtain ⟨hg, hp, ht, hl, hb, hs, ha, hc, hd, hw, hz⟩ := h
  obtain ⟨g0, g1, g2, g3, g4, g5, g6⟩ := hg
  refine ⟨?_, ?_, ?_, ?_, ?_, ?_, ?_, ?_, ?_, ?_, ?_⟩
  · rw [eM, eT]; exact ⟨by simp [mu, g0, g1, g3, g4, g5, g6], by simp [mu, g0, g1, g3, g4, g5, g6], by simp [mu, g2], by simp [mu, g0, g1, g3, g4, g5, g6], by simp [mu, g0, g1, g3, g4, g5, g6], by simp [mu, g0, g1, g3, g4, g5, g6], by simp [mu, g0, g1, g3, g4, g5, g6]⟩
  · exact hp.c (show M2 2 = M 2 by rw [eM]; funext k9; simp [mu]) (show T2 0 = T 0 by rw [eT]; funext k9; simp [mu])
  · exact ht.c (show M2 3 = M 3 by rw [eM]; funext k9; simp [mu]) (show M2 4 = M 4 by rw [eM]; funext k9; simp [mu]) (show M2 5 = M 5 by rw [eM]; funext k9; simp [mu]) (show M2 6 = M 6 by rw [eM]; funext k9; simp [mu]) (show M2 7 = M 7 by rw [eM]; funext k9; simp [mu]) (show T2 1 = T 1 by rw [eT]; funext k9; simp [mu])
  · exact hl.c (show M2 3 = M 3 by rw [eM]; funext k9; simp [mu]) (show M2 8 = M 8 by rw [eM]; funext k9; simp [mu]) (show M2 9 = M 9 by rw [eM]; funext k9; simp [mu]) (show T2 2 = T 2 by rw [eT]; funext k9; simp [mu])
  · exact hb.c (show M2 8 = M 8 by rw [eM]; funext k9; simp [mu]) (show M2 10 = M 10 by rw [eM]; funext k9; simp [mu]) (show M2 12 = M 12 by rw [eM]; funext k9; simp [mu]) (show M2 15 = M 15 by rw [eM]; funext k9; simp [mu]) (show T2 3 = T 3 by rw [eT]; funext k9; simp [mu]) (show T2 4 = T 4 by rw [eT]; funext k9; simp [mu])
  · exact hs.c (show M2 1 = M 1 by rw [eM]; funext k9; simp [mu]) (show M2 3 = M 3 by rw [eM]; funext k9; simp [mu]) (show M2 4 = M 4 by rw [eM]; funext k9; simp [mu]) (show M2 10 = M 10 by rw [eM]; funext k9; simp [mu]) (show M2 11 = M 11 by rw [eM]; funext k9; simp [mu]) (show M2 13 = M 13 by rw [eM]; funext k9; simp [mu]) (show M2 14 = M 14 by rw [eM]; funext k9; simp [mu]) (show T2 1 = T 1 by rw [eT]; funext k9; simp [mu]) (show T2 3 = T 3 by rw [eT]; funext k9; simp [mu]) (show T2 5 = T 5 by rw [eT]; funext k9; simp [mu]) (show T2 6 = T 6 by rw [eT]; funext k9; simp [mu]) (by rw [eT]; simp [mu]) (by rw [eT]; simp [mu])
  · exact ha.c (show M2 1 = M 1 by rw [eM]; funext k9; simp [mu]) (show M2 3 = M 3 by rw [eM]; funext k9; simp [mu]) (show M2 4 = M 4 by rw [eM]; funext k9; simp [mu]) (show M2 8 = M 8 by rw [eM]; funext k9; simp [mu]) (show M2 10 = M 10 by rw [eM]; funext k9; simp [mu]) (show M2 16 = M 16 by rw [eM]; funext k9; simp [mu]) (show M2 17 = M 17 by rw [eM]; funext k9; simp [mu]) (show M2 18 = M 18 by rw [eM]; funext k9; simp [mu]) (show M2 19 = M 19 by rw [eM]; funext k9; simp [mu]) (show M2 20 = M 20 by rw [eM]; funext k9; simp [mu]) (show M2 21 = M 21 by rw [eM]; funext k9; simp [mu]) (show T2 7 = T 7 by rw [eT]; funext k9; simp [mu])
  · intro k hk
    have q1 : M2 1 = M 1 := by rw [eM]; funext k9; simp [mu]
    have q16 : M2 16 = M 16 := by rw [eM]; funext k9; simp [mu]
    have hk2 : k < M 22 0 + 1 := by rw [eM] at hk; simpa [mu] using hk
    by_cases e : k = M 22 0
    · subst e
      obtain ⟨z1, z2, z3⟩ := hz.1 (M 22 0) (Nat.le_refl _)
      have t8 : T2 8 (M 22 0) = a + 32 * b + 128 * z := by rw [eT]; simp [mu, g5]
      have e23 : M2 23 (M 22 0) = a := by rw [eM]; simp [mu]
      have e24 : M2 24 (M 22 0) = b := by rw [eM]; simp [mu]
      have e25 : M2 25 (M 22 0) = z := by rw [eM]; simp [mu]
      have e26 : M2 26 (M 22 0) = 0 := by rw [eM]; simp [mu, z1]
      have e27 : M2 27 (M 22 0) = 0 := by rw [eM]; simp [mu, z2]
      have e28 : M2 28 (M 22 0) = 0 := by rw [eM]; simp [mu, z3]
      rw [t8, e23, e24, e25, e26, e27, e28, q1, q16]
      exact ⟨by simp, ha16, hb4, hz3, Nat.zero_le _⟩
    · have e2 : ¬ k = T 11 5 := by omega
      have e23 : M2 23 k = M 23 k := by rw [eM]; simp [mu, e, e2]
      have e24 : M2 24 k = M 24 k := by rw [eM]; simp [mu, e, e2]
      have e25 : M2 25 k = M 25 k := by rw [eM]; simp [mu, e, e2]
      have e26 : M2 26 k = M 26 k := by rw [eM]; simp [mu, e, e2]
      have e27 : M2 27 k = M 27 k := by rw [eM]; simp [mu, e, e2]
      have e28 : M2 28 k = M 28 k := by rw [eM]; simp [mu, e, e2]
      have t8 : T2 8 k = T 8 k := by rw [eT]; simp [mu, e, e2]
      rw [t8, e23, e24, e25, e26, e27, e28, q1, q16]
      exact hc k (by omega)
  · exact hd.c (by rw [eM]; simp [mu]) (show M2 29 = M 29 by rw [eM]; funext k9; simp [mu]) (show M2 30 = M 30 by rw [eM]; funext k9; simp [mu]) (show M2 31 = M 31 by rw [eM]; funext k9; simp [mu]) (show T2 9 = T 9 by rw [eT]; funext k9; simp [mu])
  · exact hw.c (show M2 32 = M 32 by rw [eM]; funext k9; simp [mu]) (show T2 10 = T 10 by rw [eT]; funext k9; simp [mu])
  · have q22 : M2 22 0 = M 22 0 + 1 := by rw [eM]; simp [mu]
    have q16 : M2 16 = M 16 := by rw [eM]; funext k9; simp [mu]
    have q20 : M2 20 = M 20 := by rw [eM]; funext k9; simp [mu]
    have q21 : M2 21 = M 21 := by rw [eM]; funext k9; simp [mu]
    have q26 : M2 26 = M 26 := by rw [eM]; funext k9; simp [mu]
    have q27 : M2 27 = M 27 := by rw [eM]; funext k9; simp [mu]
    have q28 : M2 28 = M 28 := by rw [eM]; funext k9; simp [mu]
    have q29 : M2 29 = M 29 := by rw [eM]; funext k9; simp [mu]
    have q31 : M2 31 = M 31 := by rw [eM]; funext k9; simp [mu]
    simp only [LRz, q22, q16, q20, q21, q26, q27, q28, q29, q31]
    exact ⟨fun c hc9 => hz.1 c (by omega), hz.2⟩
set_option maxRecDepth 100000 in
theorem LR.dismissS (h : LR M T) (hM : MI M) (h16 : M 16 0 ≤ 32) {c : Nat} (hc22 : c < M 22 0) (ho : M 26 c = 0) : LR (mu (mu M 26 c 2) 27 c (M 1 0)) (mu T 8 c (T 8 c % 4096 + 1024 + 4096 * T 11 0)) := by
  obtain ⟨M2, eM⟩ : ∃ M2 : MS, M2 = mu (mu M 26 c 2) 27 c (M 1 0) := ⟨_, rfl⟩
  obtain ⟨T2, eT⟩ : ∃ T2 : MS, T2 = mu T 8 c (T 8 c % 4096 + 1024 + 4096 * T 11 0) := ⟨_, rfl⟩
  rw [← eM, ← eT]
  have h0 := h
  obtain ⟨hg, hp, ht, hl, hb, hs, ha, hc, hd, hw, hz⟩ := h
  obtain ⟨g0, g1, g2, g3, g4, g5, g6⟩ := hg
  refine ⟨?_, ?_, ?_, ?_, ?_, ?_, ?_, ?_, ?_, ?_, ?_⟩
  · rw [eM, eT]; exact ⟨by simp [mu, g0, g1, g3, g4, g5, g6], by simp [mu, g0, g1, g3, g4, g5, g6], by simp [mu, g2], by simp [mu, g0, g1, g3, g4, g5, g6], by simp [mu, g0, g1, g3, g4, g5, g6], by simp [mu, g0, g1, g3, g4, g5, g6], by simp [mu, g0, g1, g3, g4, g5, g6]⟩
  · exact hp.c (show M2 2 = M 2 by rw [eM]; funext k9; simp [mu]) (show T2 0 = T 0 by rw [eT]; funext k9; simp [mu])
  · exact ht.c (show M2 3 = M 3 by rw [eM]; funext k9; simp [mu]) (show M2 4 = M 4 by rw [eM]; funext k9; simp [mu]) (show M2 5 = M 5 by rw [eM]; funext k9; simp [mu]) (show M2 6 = M 6 by rw [eM]; funext k9; simp [mu]) (show M2 7 = M 7 by rw [eM]; funext k9; simp [mu]) (show T2 1 = T 1 by rw [eT]; funext k9; simp [mu])
  · exact hl.c (show M2 3 = M 3 by rw [eM]; funext k9; simp [mu]) (show M2 8 = M 8 by rw [eM]; funext k9; simp [mu]) (show M2 9 = M 9 by rw [eM]; funext k9; simp [mu]) (show T2 2 = T 2 by rw [eT]; funext k9; simp [mu])
  · exact hb.c (show M2 8 = M 8 by rw [eM]; funext k9; simp [mu]) (show M2 10 = M 10 by rw [eM]; funext k9; simp [mu]) (show M2 12 = M 12 by rw [eM]; funext k9; simp [mu]) (show M2 15 = M 15 by rw [eM]; funext k9; simp [mu]) (show T2 3 = T 3 by rw [eT]; funext k9; simp [mu]) (show T2 4 = T 4 by rw [eT]; funext k9; simp [mu])
  · exact hs.c (show M2 1 = M 1 by rw [eM]; funext k9; simp [mu]) (show M2 3 = M 3 by rw [eM]; funext k9; simp [mu]) (show M2 4 = M 4 by rw [eM]; funext k9; simp [mu]) (show M2 10 = M 10 by rw [eM]; funext k9; simp [mu]) (show M2 11 = M 11 by rw [eM]; funext k9; simp [mu]) (show M2 13 = M 13 by rw [eM]; funext k9; simp [mu]) (show M2 14 = M 14 by rw [eM]; funext k9; simp [mu]) (show T2 1 = T 1 by rw [eT]; funext k9; simp [mu]) (show T2 3 = T 3 by rw [eT]; funext k9; simp [mu]) (show T2 5 = T 5 by rw [eT]; funext k9; simp [mu]) (show T2 6 = T 6 by rw [eT]; funext k9; simp [mu]) (by rw [eT]; simp [mu]) (by rw [eT]; simp [mu])
  · exact ha.c (show M2 1 = M 1 by rw [eM]; funext k9; simp [mu]) (show M2 3 = M 3 by rw [eM]; funext k9; simp [mu]) (show M2 4 = M 4 by rw [eM]; funext k9; simp [mu]) (show M2 8 = M 8 by rw [eM]; funext k9; simp [mu]) (show M2 10 = M 10 by rw [eM]; funext k9; simp [mu]) (show M2 16 = M 16 by rw [eM]; funext k9; simp [mu]) (show M2 17 = M 17 by rw [eM]; funext k9; simp [mu]) (show M2 18 = M 18 by rw [eM]; funext k9; simp [mu]) (show M2 19 = M 19 by rw [eM]; funext k9; simp [mu]) (show M2 20 = M 20 by rw [eM]; funext k9; simp [mu]) (show M2 21 = M 21 by rw [eM]; funext k9; simp [mu]) (show T2 7 = T 7 by rw [eT]; funext k9; simp [mu])
  · intro k hk
    have q1 : M2 1 = M 1 := by rw [eM]; funext k9; simp [mu]
    have q16 : M2 16 = M 16 := by rw [eM]; funext k9; simp [mu]
    have hk2 : k < M 22 0 := by rw [eM] at hk; simpa [mu] using hk
    obtain ⟨c1, c2, c3, c4, c5⟩ := hc k hk2
    by_cases e : k = c
    · subst e
      have hv := (h0.cp hM h16 hc22).2.2.2.2.2.2.1
      have t8 : T2 8 k = T 8 k % 4096 + 1024 + 4096 * M 1 0 := by rw [eT]; simp [mu, g0]
      have e23 : M2 23 k = M 23 k := by rw [eM]; simp [mu]
      have e24 : M2 24 k = M 24 k := by rw [eM]; simp [mu]
      have e25 : M2 25 k = M 25 k := by rw [eM]; simp [mu]
      have e26 : M2 26 k = 2 := by rw [eM]; simp [mu]
      have e27 : M2 27 k = M 1 0 := by rw [eM]; simp [mu]
      have e28 : M2 28 k = M 28 k := by rw [eM]; simp [mu]
      rw [t8, e23, e24, e25, e26, e27, e28, q1, q16, if_pos rfl]
      exact ⟨by omega, c2, c3, c4, Nat.le_refl _⟩
    · have e9 := e
      have e23 : M2 23 k = M 23 k := by rw [eM]; simp [mu, e]
      have e24 : M2 24 k = M 24 k := by rw [eM]; simp [mu, e]
      have e25 : M2 25 k = M 25 k := by rw [eM]; simp [mu, e]
      have e26 : M2 26 k = M 26 k := by rw [eM]; simp [mu, e]
      have e27 : M2 27 k = M 27 k := by rw [eM]; simp [mu, e]
      have e28 : M2 28 k = M 28 k := by rw [eM]; simp [mu, e]
      have t8 : T2 8 k = T 8 k := by rw [eT]; simp [mu, e]
      rw [t8, e23, e24, e25, e26, e27, e28, q1, q16]
      exact ⟨c1, c2, c3, c4, c5⟩
  · exact hd.c (by rw [eM]; simp [mu]) (show M2 29 = M 29 by rw [eM]; funext k9; simp [mu]) (show M2 30 = M 30 by rw [eM]; funext k9; simp [mu]) (show M2 31 = M 31 by rw [eM]; funext k9; simp [mu]) (show T2 9 = T 9 by rw [eT]; funext k9; simp [mu])
  · exact hw.c (show M2 32 = M 32 by rw [eM]; funext k9; simp [mu]) (show T2 10 = T 10 by rw [eT]; funext k9; simp [mu])
  · have q16 : M2 16 = M 16 := by rw [eM]; funext k9; simp [mu]
    have q20 : M2 20 = M 20 := by rw [eM]; funext k9; simp [mu]
    have q21 : M2 21 = M 21 := by rw [eM]; funext k9; simp [mu]
    have q22 : M2 22 = M 22 := by rw [eM]; funext k9; simp [mu]
    have q28 : M2 28 = M 28 := by rw [eM]; funext k9; simp [mu]
    have q29 : M2 29 = M 29 := by rw [eM]; funext k9; simp [mu]
    have q31 : M2 31 = M 31 := by rw [eM]; funext k9; simp [mu]
    have q22b : M2 22 = M 22 := q22
    refine ⟨fun k hk => ?_, ?_⟩
    · rw [q22] at hk
      have e : ¬ k = c := by omega
      have e26 : M2 26 k = M 26 k := by rw [eM]; simp [mu, e]
      have e27 : M2 27 k = M 27 k := by rw [eM]; simp [mu, e]
      rw [e26, e27, q28]
      exact hz.1 k hk
    · rw [q16, q20, q21, q29, q31]
      exact hz.2
set_option maxRecDepth 100000 in
theorem LR.appealS (h : LR M T) (hM : MI M) (h16 : M 16 0 ≤ 32) {c : Nat} (hc22 : c < M 22 0) : LR (mu (mu M 26 c 0) 28 c 1) (mu T 8 c (T 8 c % 512 + 2048)) := by
  obtain ⟨M2, eM⟩ : ∃ M2 : MS, M2 = mu (mu M 26 c 0) 28 c 1 := ⟨_, rfl⟩
  obtain ⟨T2, eT⟩ : ∃ T2 : MS, T2 = mu T 8 c (T 8 c % 512 + 2048) := ⟨_, rfl⟩
  rw [← eM, ← eT]
  have h0 := h
  obtain ⟨hg, hp, ht, hl, hb, hs, ha, hc, hd, hw, hz⟩ := h
  obtain ⟨g0, g1, g2, g3, g4, g5, g6⟩ := hg
  refine ⟨?_, ?_, ?_, ?_, ?_, ?_, ?_, ?_, ?_, ?_, ?_⟩
  · rw [eM, eT]; exact ⟨by simp [mu, g0, g1, g3, g4, g5, g6], by simp [mu, g0, g1, g3, g4, g5, g6], by simp [mu, g2], by simp [mu, g0, g1, g3, g4, g5, g6], by simp [mu, g0, g1, g3, g4, g5, g6], by simp [mu, g0, g1, g3, g4, g5, g6], by simp [mu, g0, g1, g3, g4, g5, g6]⟩
  · exact hp.c (show M2 2 = M 2 by rw [eM]; funext k9; simp [mu]) (show T2 0 = T 0 by rw [eT]; funext k9; simp [mu])
  · exact ht.c (show M2 3 = M 3 by rw [eM]; funext k9; simp [mu]) (show M2 4 = M 4 by rw [eM]; funext k9; simp [mu]) (show M2 5 = M 5 by rw [eM]; funext k9; simp [mu]) (show M2 6 = M 6 by rw [eM]; funext k9; simp [mu]) (show M2 7 = M 7 by rw [eM]; funext k9; simp [mu]) (show T2 1 = T 1 by rw [eT]; funext k9; simp [mu])
  · exact hl.c (show M2 3 = M 3 by rw [eM]; funext k9; simp [mu]) (show M2 8 = M 8 by rw [eM]; funext k9; simp [mu]) (show M2 9 = M 9 by rw [eM]; funext k9; simp [mu]) (show T2 2 = T 2 by rw [eT]; funext k9; simp [mu])
  · exact hb.c (show M2 8 = M 8 by rw [eM]; funext k9; simp [mu]) (show M2 10 = M 10 by rw [eM]; funext k9; simp [mu]) (show M2 12 = M 12 by rw [eM]; funext k9; simp [mu]) (show M2 15 = M 15 by rw [eM]; funext k9; simp [mu]) (show T2 3 = T 3 by rw [eT]; funext k9; simp [mu]) (show T2 4 = T 4 by rw [eT]; funext k9; simp [mu])
  · exact hs.c (show M2 1 = M 1 by rw [eM]; funext k9; simp [mu]) (show M2 3 = M 3 by rw [eM]; funext k9; simp [mu]) (show M2 4 = M 4 by rw [eM]; funext k9; simp [mu]) (show M2 10 = M 10 by rw [eM]; funext k9; simp [mu]) (show M2 11 = M 11 by rw [eM]; funext k9; simp [mu]) (show M2 13 = M 13 by rw [eM]; funext k9; simp [mu]) (show M2 14 = M 14 by rw [eM]; funext k9; simp [mu]) (show T2 1 = T 1 by rw [eT]; funext k9; simp [mu]) (show T2 3 = T 3 by rw [eT]; funext k9; simp [mu]) (show T2 5 = T 5 by rw [eT]; funext k9; simp [mu]) (show T2 6 = T 6 by rw [eT]; funext k9; simp [mu]) (by rw [eT]; simp [mu]) (by rw [eT]; simp [mu])
  · exact ha.c (show M2 1 = M 1 by rw [eM]; funext k9; simp [mu]) (show M2 3 = M 3 by rw [eM]; funext k9; simp [mu]) (show M2 4 = M 4 by rw [eM]; funext k9; simp [mu]) (show M2 8 = M 8 by rw [eM]; funext k9; simp [mu]) (show M2 10 = M 10 by rw [eM]; funext k9; simp [mu]) (show M2 16 = M 16 by rw [eM]; funext k9; simp [mu]) (show M2 17 = M 17 by rw [eM]; funext k9; simp [mu]) (show M2 18 = M 18 by rw [eM]; funext k9; simp [mu]) (show M2 19 = M 19 by rw [eM]; funext k9; simp [mu]) (show M2 20 = M 20 by rw [eM]; funext k9; simp [mu]) (show M2 21 = M 21 by rw [eM]; funext k9; simp [mu]) (show T2 7 = T 7 by rw [eT]; funext k9; simp [mu])
  · intro k hk
    have q1 : M2 1 = M 1 := by rw [eM]; funext k9; simp [mu]
    have q16 : M2 16 = M 16 := by rw [eM]; funext k9; simp [mu]
    have hk2 : k < M 22 0 := by rw [eM] at hk; simpa [mu] using hk
    obtain ⟨c1, c2, c3, c4, c5⟩ := hc k hk2
    by_cases e : k = c
    · subst e
      have hv := (h0.cp hM h16 hc22).2.2.2.2.2.2.2
      have t8 : T2 8 k = T 8 k % 512 + 2048 := by rw [eT]; simp [mu]
      have e23 : M2 23 k = M 23 k := by rw [eM]; simp [mu]
      have e24 : M2 24 k = M 24 k := by rw [eM]; simp [mu]
      have e25 : M2 25 k = M 25 k := by rw [eM]; simp [mu]
      have e26 : M2 26 k = 0 := by rw [eM]; simp [mu]
      have e27 : M2 27 k = M 27 k := by rw [eM]; simp [mu]
      have e28 : M2 28 k = 1 := by rw [eM]; simp [mu]
      rw [t8, e23, e24, e25, e26, e27, e28, q1, q16, if_neg (by decide)]
      exact ⟨by omega, c2, c3, c4, c5⟩
    · have e9 := e
      have e23 : M2 23 k = M 23 k := by rw [eM]; simp [mu, e]
      have e24 : M2 24 k = M 24 k := by rw [eM]; simp [mu, e]
      have e25 : M2 25 k = M 25 k := by rw [eM]; simp [mu, e]
      have e26 : M2 26 k = M 26 k := by rw [eM]; simp [mu, e]
      have e27 : M2 27 k = M 27 k := by rw [eM]; simp [mu, e]
      have e28 : M2 28 k = M 28 k := by rw [eM]; simp [mu, e]
      have t8 : T2 8 k = T 8 k := by rw [eT]; simp [mu, e]
      rw [t8, e23, e24, e25, e26, e27, e28, q1, q16]
      exact ⟨c1, c2, c3, c4, c5⟩
  · exact hd.c (by rw [eM]; simp [mu]) (show M2 29 = M 29 by rw [eM]; funext k9; simp [mu]) (show M2 30 = M 30 by rw [eM]; funext k9; simp [mu]) (show M2 31 = M 31 by rw [eM]; funext k9; simp [mu]) (show T2 9 = T 9 by rw [eT]; funext k9; simp [mu])
  · exact hw.c (show M2 32 = M 32 by rw [eM]; funext k9; simp [mu]) (show T2 10 = T 10 by rw [eT]; funext k9; simp [mu])
  · have q16 : M2 16 = M 16 := by rw [eM]; funext k9; simp [mu]
    have q20 : M2 20 = M 20 := by rw [eM]; funext k9; simp [mu]
    have q21 : M2 21 = M 21 := by rw [eM]; funext k9; simp [mu]
    have q22 : M2 22 = M 22 := by rw [eM]; funext k9; simp [mu]
    have q27 : M2 27 = M 27 := by rw [eM]; funext k9; simp [mu]
    have q29 : M2 29 = M 29 := by rw [eM]; funext k9; simp [mu]
    have q31 : M2 31 = M 31 := by rw [eM]; funext k9; simp [mu]
    refine ⟨fun k hk => ?_, ?_⟩
    · rw [q22] at hk
      have e : ¬ k = c := by omega
      have e26 : M2 26 k = M 26 k := by rw [eM]; simp [mu, e]
      have e28 : M2 28 k = M 28 k := by rw [eM]; simp [mu, e]
      rw [e26, e28, q27]
      exact hz.1 k hk
    · rw [q16, q20, q21, q29, q31]
      exact hz.2
set_option maxRecDepth 100000 in
theorem LR.signS (h : LR M T) (hM : MI M) {a : Nat} (ha16 : a < M 16 0) (h21 : M 21 a = 0) : LR (mu (mu (mu M 30 (M 29 0) a) 29 0 (M 29 0 + 1)) 21 a (M 29 0 + 1)) (mu (mu (mu T 9 (T 11 6) a) 11 6 (T 11 6 + 1)) 7 a (T 7 a + 131072 * (T 11 6 + 1))) := by
  obtain ⟨M2, eM⟩ : ∃ M2 : MS, M2 = mu (mu (mu M 30 (M 29 0) a) 29 0 (M 29 0 + 1)) 21 a (M 29 0 + 1) := ⟨_, rfl⟩
  obtain ⟨T2, eT⟩ : ∃ T2 : MS, T2 = mu (mu (mu T 9 (T 11 6) a) 11 6 (T 11 6 + 1)) 7 a (T 7 a + 131072 * (T 11 6 + 1)) := ⟨_, rfl⟩
  rw [← eM, ← eT]
  have h0 := h
  obtain ⟨hg, hp, ht, hl, hb, hs, ha, hc, hd, hw, hz⟩ := h
  obtain ⟨g0, g1, g2, g3, g4, g5, g6⟩ := hg
  refine ⟨?_, ?_, ?_, ?_, ?_, ?_, ?_, ?_, ?_, ?_, ?_⟩
  · rw [eM, eT]; exact ⟨by simp [mu, g0, g1, g3, g4, g5, g6], by simp [mu, g0, g1, g3, g4, g5, g6], by simp [mu, g2], by simp [mu, g0, g1, g3, g4, g5, g6], by simp [mu, g0, g1, g3, g4, g5, g6], by simp [mu, g0, g1, g3, g4, g5, g6], by simp [mu, g0, g1, g3, g4, g5, g6]⟩
  · exact hp.c (show M2 2 = M 2 by rw [eM]; funext k9; simp [mu]) (show T2 0 = T 0 by rw [eT]; funext k9; simp [mu])
  · exact ht.c (show M2 3 = M 3 by rw [eM]; funext k9; simp [mu]) (show M2 4 = M 4 by rw [eM]; funext k9; simp [mu]) (show M2 5 = M 5 by rw [eM]; funext k9; simp [mu]) (show M2 6 = M 6 by rw [eM]; funext k9; simp [mu]) (show M2 7 = M 7 by rw [eM]; funext k9; simp [mu]) (show T2 1 = T 1 by rw [eT]; funext k9; simp [mu])
  · exact hl.c (show M2 3 = M 3 by rw [eM]; funext k9; simp [mu]) (show M2 8 = M 8 by rw [eM]; funext k9; simp [mu]) (show M2 9 = M 9 by rw [eM]; funext k9; simp [mu]) (show T2 2 = T 2 by rw [eT]; funext k9; simp [mu])
  · exact hb.c (show M2 8 = M 8 by rw [eM]; funext k9; simp [mu]) (show M2 10 = M 10 by rw [eM]; funext k9; simp [mu]) (show M2 12 = M 12 by rw [eM]; funext k9; simp [mu]) (show M2 15 = M 15 by rw [eM]; funext k9; simp [mu]) (show T2 3 = T 3 by rw [eT]; funext k9; simp [mu]) (show T2 4 = T 4 by rw [eT]; funext k9; simp [mu])
  · exact hs.c (show M2 1 = M 1 by rw [eM]; funext k9; simp [mu]) (show M2 3 = M 3 by rw [eM]; funext k9; simp [mu]) (show M2 4 = M 4 by rw [eM]; funext k9; simp [mu]) (show M2 10 = M 10 by rw [eM]; funext k9; simp [mu]) (show M2 11 = M 11 by rw [eM]; funext k9; simp [mu]) (show M2 13 = M 13 by rw [eM]; funext k9; simp [mu]) (show M2 14 = M 14 by rw [eM]; funext k9; simp [mu]) (show T2 1 = T 1 by rw [eT]; funext k9; simp [mu]) (show T2 3 = T 3 by rw [eT]; funext k9; simp [mu]) (show T2 5 = T 5 by rw [eT]; funext k9; simp [mu]) (show T2 6 = T 6 by rw [eT]; funext k9; simp [mu]) (by rw [eT]; simp [mu]) (by rw [eT]; simp [mu])
  · intro k hk
    have eo : ∀ t, m_op M2 t = m_op M t := m_op_c (show M2 1 = M 1 by rw [eM]; funext k9; simp [mu]) (show M2 4 = M 4 by rw [eM]; funext k9; simp [mu])
    have q1 : M2 1 = M 1 := by rw [eM]; funext k9; simp [mu]
    have q3 : M2 3 = M 3 := by rw [eM]; funext k9; simp [mu]
    have q8 : M2 8 = M 8 := by rw [eM]; funext k9; simp [mu]
    have q10 : M2 10 = M 10 := by rw [eM]; funext k9; simp [mu]
    have hk2 : k < M 16 0 := by rw [eM] at hk; simpa [mu] using hk
    obtain ⟨c1, c2, c3, c4, c5, c6, c7, c8⟩ := ha k hk2
    by_cases e : k = a
    · subst e
      obtain ⟨n1, en⟩ : ∃ n1, n1 = M 29 0 + 1 := ⟨_, rfl⟩
      have t7 : T2 7 k = T 7 k + 131072 * n1 := by rw [eT, en]; simp [mu, g6]
      have e17 : M2 17 k = M 17 k := by rw [eM]; simp [mu]
      have e18 : M2 18 k = M 18 k := by rw [eM]; simp [mu]
      have e19 : M2 19 k = M 19 k := by rw [eM]; simp [mu]
      have e20 : M2 20 k = M 20 k := by rw [eM]; simp [mu]
      have e21 : M2 21 k = n1 := by rw [eM, en]; simp [mu]
      clear en
      have t4 : T2 7 k % 4 = T 7 k % 4 := by omega
      rw [t4, e17, e18, e19, e20, e21, eo, q1, q3, q8, q10]
      exact ⟨c1, by omega, c3, c4, c5, c6, c7, c8⟩
    · have e9 := e
      have e17 : M2 17 k = M 17 k := by rw [eM]; simp [mu, e]
      have e18 : M2 18 k = M 18 k := by rw [eM]; simp [mu, e]
      have e19 : M2 19 k = M 19 k := by rw [eM]; simp [mu, e]
      have e20 : M2 20 k = M 20 k := by rw [eM]; simp [mu, e]
      have e21 : M2 21 k = M 21 k := by rw [eM]; simp [mu, e]
      have t7 : T2 7 k = T 7 k := by rw [eT]; simp [mu, e]
      rw [t7, e17, e18, e19, e20, e21, eo, q1, q3, q8, q10]
      exact ⟨c1, c2, c3, c4, c5, c6, c7, c8⟩
  · exact hc.c (show M2 1 = M 1 by rw [eM]; funext k9; simp [mu]) (by rw [eM]; simp [mu]) (show M2 22 = M 22 by rw [eM]; funext k9; simp [mu]) (show M2 23 = M 23 by rw [eM]; funext k9; simp [mu]) (show M2 24 = M 24 by rw [eM]; funext k9; simp [mu]) (show M2 25 = M 25 by rw [eM]; funext k9; simp [mu]) (show M2 26 = M 26 by rw [eM]; funext k9; simp [mu]) (show M2 27 = M 27 by rw [eM]; funext k9; simp [mu]) (show M2 28 = M 28 by rw [eM]; funext k9; simp [mu]) (show T2 8 = T 8 by rw [eT]; funext k9; simp [mu])
  · intro k hk
    have q16 : M2 16 = M 16 := by rw [eM]; funext k9; simp [mu]
    have q31 : M2 31 = M 31 := by rw [eM]; funext k9; simp [mu]
    have hk2 : k < M 29 0 + 1 := by rw [eM] at hk; simpa [mu] using hk
    by_cases e : k = M 29 0
    · subst e
      have t9 : T2 9 (M 29 0) = a := by rw [eT]; simp [mu, g6]
      have e30 : M2 30 (M 29 0) = a := by rw [eM]; simp [mu]
      have z := hz.2.2 (M 29 0) (Nat.le_refl _)
      rw [t9, e30, q31, q16, z]
      exact ⟨rfl, ha16⟩
    · have e2 : ¬ k = T 11 6 := by omega
      have t9 : T2 9 k = T 9 k := by rw [eT]; simp [mu, e2]
      have e30 : M2 30 k = M 30 k := by rw [eM]; simp [mu, e]
      rw [t9, e30, q31, q16]
      exact hd k (by omega)
  · exact hw.c (show M2 32 = M 32 by rw [eM]; funext k9; simp [mu]) (show T2 10 = T 10 by rw [eT]; funext k9; simp [mu])
  · have q16 : M2 16 = M 16 := by rw [eM]; funext k9; simp [mu]
    have q20 : M2 20 = M 20 := by rw [eM]; funext k9; simp [mu]
    have q22 : M2 22 = M 22 := by rw [eM]; funext k9; simp [mu]
    have q26 : M2 26 = M 26 := by rw [eM]; funext k9; simp [mu]
    have q27 : M2 27 = M 27 := by rw [eM]; funext k9; simp [mu]
    have q28 : M2 28 = M 28 := by rw [eM]; funext k9; simp [mu]
    have q31 : M2 31 = M 31 := by rw [eM]; funext k9; simp [mu]
    have q29 : M2 29 0 = M 29 0 + 1 := by rw [eM]; simp [mu]
    refine ⟨by rw [q22, q26, q27, q28]; exact hz.1, fun k hk => ?_, fun k hk => ?_⟩
    · rw [q16] at hk
      have e : ¬ k = a := by omega
      have e21 : M2 21 k = M 21 k := by rw [eM]; simp [mu, e]
      rw [q20, e21]
      exact hz.2.1 k hk
    · rw [q29] at hk
      rw [q31]
      exact hz.2.2 k (by omega)
set_option maxRecDepth 100000 in
theorem LR.callS (h : LR M T) (hM : MI M) {c s : Nat} (hc29 : c < M 29 0) : LR (mu M 31 c (M 31 c + s)) (mu T 9 c (T 9 c + 32 * s)) := by
  obtain ⟨M2, eM⟩ : ∃ M2 : MS, M2 = mu M 31 c (M 31 c + s) := ⟨_, rfl⟩
  obtain ⟨T2, eT⟩ : ∃ T2 : MS, T2 = mu T 9 c (T 9 c + 32 * s) := ⟨_, rfl⟩
  rw [← eM, ← eT]
  have h0 := h
  obtain ⟨hg, hp, ht, hl, hb, hs, ha, hc, hd, hw, hz⟩ := h
  obtain ⟨g0, g1, g2, g3, g4, g5, g6⟩ := hg
  refine ⟨?_, ?_, ?_, ?_, ?_, ?_, ?_, ?_, ?_, ?_, ?_⟩
  · rw [eM, eT]; exact ⟨by simp [mu, g0, g1, g3, g4, g5, g6], by simp [mu, g0, g1, g3, g4, g5, g6], by simp [mu, g2], by simp [mu, g0, g1, g3, g4, g5, g6], by simp [mu, g0, g1, g3, g4, g5, g6], by simp [mu, g0, g1, g3, g4, g5, g6], by simp [mu, g0, g1, g3, g4, g5, g6]⟩
  · exact hp.c (show M2 2 = M 2 by rw [eM]; funext k9; simp [mu]) (show T2 0 = T 0 by rw [eT]; funext k9; simp [mu])
  · exact ht.c (show M2 3 = M 3 by rw [eM]; funext k9; simp [mu]) (show M2 4 = M 4 by rw [eM]; funext k9; simp [mu]) (show M2 5 = M 5 by rw [eM]; funext k9; simp [mu]) (show M2 6 = M 6 by rw [eM]; funext k9; simp [mu]) (show M2 7 = M 7 by rw [eM]; funext k9; simp [mu]) (show T2 1 = T 1 by rw [eT]; funext k9; simp [mu])
  · exact hl.c (show M2 3 = M 3 by rw [eM]; funext k9; simp [mu]) (show M2 8 = M 8 by rw [eM]; funext k9; simp [mu]) (show M2 9 = M 9 by rw [eM]; funext k9; simp [mu]) (show T2 2 = T 2 by rw [eT]; funext k9; simp [mu])
  · exact hb.c (show M2 8 = M 8 by rw [eM]; funext k9; simp [mu]) (show M2 10 = M 10 by rw [eM]; funext k9; simp [mu]) (show M2 12 = M 12 by rw [eM]; funext k9; simp [mu]) (show M2 15 = M 15 by rw [eM]; funext k9; simp [mu]) (show T2 3 = T 3 by rw [eT]; funext k9; simp [mu]) (show T2 4 = T 4 by rw [eT]; funext k9; simp [mu])
  · exact hs.c (show M2 1 = M 1 by rw [eM]; funext k9; simp [mu]) (show M2 3 = M 3 by rw [eM]; funext k9; simp [mu]) (show M2 4 = M 4 by rw [eM]; funext k9; simp [mu]) (show M2 10 = M 10 by rw [eM]; funext k9; simp [mu]) (show M2 11 = M 11 by rw [eM]; funext k9; simp [mu]) (show M2 13 = M 13 by rw [eM]; funext k9; simp [mu]) (show M2 14 = M 14 by rw [eM]; funext k9; simp [mu]) (show T2 1 = T 1 by rw [eT]; funext k9; simp [mu]) (show T2 3 = T 3 by rw [eT]; funext k9; simp [mu]) (show T2 5 = T 5 by rw [eT]; funext k9; simp [mu]) (show T2 6 = T 6 by rw [eT]; funext k9; simp [mu]) (by rw [eT]; simp [mu]) (by rw [eT]; simp [mu])
  · exact ha.c (show M2 1 = M 1 by rw [eM]; funext k9; simp [mu]) (show M2 3 = M 3 by rw [eM]; funext k9; simp [mu]) (show M2 4 = M 4 by rw [eM]; funext k9; simp [mu]) (show M2 8 = M 8 by rw [eM]; funext k9; simp [mu]) (show M2 10 = M 10 by rw [eM]; funext k9; simp [mu]) (show M2 16 = M 16 by rw [eM]; funext k9; simp [mu]) (show M2 17 = M 17 by rw [eM]; funext k9; simp [mu]) (show M2 18 = M 18 by rw [eM]; funext k9; simp [mu]) (show M2 19 = M 19 by rw [eM]; funext k9; simp [mu]) (show M2 20 = M 20 by rw [eM]; funext k9; simp [mu]) (show M2 21 = M 21 by rw [eM]; funext k9; simp [mu]) (show T2 7 = T 7 by rw [eT]; funext k9; simp [mu])
  · exact hc.c (show M2 1 = M 1 by rw [eM]; funext k9; simp [mu]) (by rw [eM]; simp [mu]) (show M2 22 = M 22 by rw [eM]; funext k9; simp [mu]) (show M2 23 = M 23 by rw [eM]; funext k9; simp [mu]) (show M2 24 = M 24 by rw [eM]; funext k9; simp [mu]) (show M2 25 = M 25 by rw [eM]; funext k9; simp [mu]) (show M2 26 = M 26 by rw [eM]; funext k9; simp [mu]) (show M2 27 = M 27 by rw [eM]; funext k9; simp [mu]) (show M2 28 = M 28 by rw [eM]; funext k9; simp [mu]) (show T2 8 = T 8 by rw [eT]; funext k9; simp [mu])
  · intro k hk
    have q16 : M2 16 = M 16 := by rw [eM]; funext k9; simp [mu]
    have q30 : M2 30 = M 30 := by rw [eM]; funext k9; simp [mu]
    have hk2 : k < M 29 0 := by rw [eM] at hk; simpa [mu] using hk
    obtain ⟨d1, d2⟩ := hd k hk2
    by_cases e : k = c
    · subst e
      have t9 : T2 9 k = T 9 k + 32 * s := by rw [eT]; simp [mu]
      have e31 : M2 31 k = M 31 k + s := by rw [eM]; simp [mu]
      rw [t9, e31, q30, q16]
      exact ⟨by omega, d2⟩
    · have t9 : T2 9 k = T 9 k := by rw [eT]; simp [mu, e]
      have e31 : M2 31 k = M 31 k := by rw [eM]; simp [mu, e]
      rw [t9, e31, q30, q16]
      exact ⟨d1, d2⟩
  · exact hw.c (show M2 32 = M 32 by rw [eM]; funext k9; simp [mu]) (show T2 10 = T 10 by rw [eT]; funext k9; simp [mu])
  · have q16 : M2 16 = M 16 := by rw [eM]; funext k9; simp [mu]
    have q20 : M2 20 = M 20 := by rw [eM]; funext k9; simp [mu]
    have q21 : M2 21 = M 21 := by rw [eM]; funext k9; simp [mu]
    have q22 : M2 22 = M 22 := by rw [eM]; funext k9; simp [mu]
    have q26 : M2 26 = M 26 := by rw [eM]; funext k9; simp [mu]
    have q27 : M2 27 = M 27 := by rw [eM]; funext k9; simp [mu]
    have q28 : M2 28 = M 28 := by rw [eM]; funext k9; simp [mu]
    have q29 : M2 29 = M 29 := by rw [eM]; funext k9; simp [mu]
    refine ⟨by rw [q22, q26, q27, q28]; exact hz.1, by rw [q16, q20, q21]; exact hz.2.1, fun k hk => ?_⟩
    rw [q29] at hk
    have e : ¬ k = c := by omega
    have e31 : M2 31 k = M 31 k := by rw [eM]; simp [mu, e]
    rw [e31]
    exact hz.2.2 k hk
set_option maxRecDepth 100000 in
theorem LR.paperS (h : LR M T) (hM : MI M) {i v : Nat} : LR (mu M 2 i v) (mu T 0 i v) := by
  obtain ⟨M2, eM⟩ : ∃ M2 : MS, M2 = mu M 2 i v := ⟨_, rfl⟩
  obtain ⟨T2, eT⟩ : ∃ T2 : MS, T2 = mu T 0 i v := ⟨_, rfl⟩
  rw [← eM, ← eT]
  have h0 := h
  obtain ⟨hg, hp, ht, hl, hb, hs, ha, hc, hd, hw, hz⟩ := h
  obtain ⟨g0, g1, g2, g3, g4, g5, g6⟩ := hg
  refine ⟨?_, ?_, ?_, ?_, ?_, ?_, ?_, ?_, ?_, ?_, ?_⟩
  · rw [eM, eT]; exact ⟨by simp [mu, g0, g1, g3, g4, g5, g6], by simp [mu, g0, g1, g3, g4, g5, g6], by simp [mu, g2], by simp [mu, g0, g1, g3, g4, g5, g6], by simp [mu, g0, g1, g3, g4, g5, g6], by simp [mu, g0, g1, g3, g4, g5, g6], by simp [mu, g0, g1, g3, g4, g5, g6]⟩
  · intro k hk
    by_cases e : k = i
    · subst e
      rw [eM, eT]; simp [mu]
    · have e2 : M2 2 k = M 2 k := by rw [eM]; simp [mu, e]
      have t0 : T2 0 k = T 0 k := by rw [eT]; simp [mu, e]
      rw [e2, t0]
      exact hp k hk
  · exact ht.c (show M2 3 = M 3 by rw [eM]; funext k9; simp [mu]) (show M2 4 = M 4 by rw [eM]; funext k9; simp [mu]) (show M2 5 = M 5 by rw [eM]; funext k9; simp [mu]) (show M2 6 = M 6 by rw [eM]; funext k9; simp [mu]) (show M2 7 = M 7 by rw [eM]; funext k9; simp [mu]) (show T2 1 = T 1 by rw [eT]; funext k9; simp [mu])
  · exact hl.c (show M2 3 = M 3 by rw [eM]; funext k9; simp [mu]) (show M2 8 = M 8 by rw [eM]; funext k9; simp [mu]) (show M2 9 = M 9 by rw [eM]; funext k9; simp [mu]) (show T2 2 = T 2 by rw [eT]; funext k9; simp [mu])
  · exact hb.c (show M2 8 = M 8 by rw [eM]; funext k9; simp [mu]) (show M2 10 = M 10 by rw [eM]; funext k9; simp [mu]) (show M2 12 = M 12 by rw [eM]; funext k9; simp [mu]) (show M2 15 = M 15 by rw [eM]; funext k9; simp [mu]) (show T2 3 = T 3 by rw [eT]; funext k9; simp [mu]) (show T2 4 = T 4 by rw [eT]; funext k9; simp [mu])
  · exact hs.c (show M2 1 = M 1 by rw [eM]; funext k9; simp [mu]) (show M2 3 = M 3 by rw [eM]; funext k9; simp [mu]) (show M2 4 = M 4 by rw [eM]; funext k9; simp [mu]) (show M2 10 = M 10 by rw [eM]; funext k9; simp [mu]) (show M2 11 = M 11 by rw [eM]; funext k9; simp [mu]) (show M2 13 = M 13 by rw [eM]; funext k9; simp [mu]) (show M2 14 = M 14 by rw [eM]; funext k9; simp [mu]) (show T2 1 = T 1 by rw [eT]; funext k9; simp [mu]) (show T2 3 = T 3 by rw [eT]; funext k9; simp [mu]) (show T2 5 = T 5 by rw [eT]; funext k9; simp [mu]) (show T2 6 = T 6 by rw [eT]; funext k9; simp [mu]) (by rw [eT]; simp [mu]) (by rw [eT]; simp [mu])
  · exact ha.c (show M2 1 = M 1 by rw [eM]; funext k9; simp [mu]) (show M2 3 = M 3 by rw [eM]; funext k9; simp [mu]) (show M2 4 = M 4 by rw [eM]; funext k9; simp [mu]) (show M2 8 = M 8 by rw [eM]; funext k9; simp [mu]) (show M2 10 = M 10 by rw [eM]; funext k9; simp [mu]) (show M2 16 = M 16 by rw [eM]; funext k9; simp [mu]) (show M2 17 = M 17 by rw [eM]; funext k9; simp [mu]) (show M2 18 = M 18 by rw [eM]; funext k9; simp [mu]) (show M2 19 = M 19 by rw [eM]; funext k9; simp [mu]) (show M2 20 = M 20 by rw [eM]; funext k9; simp [mu]) (show M2 21 = M 21 by rw [eM]; funext k9; simp [mu]) (show T2 7 = T 7 by rw [eT]; funext k9; simp [mu])
  · exact hc.c (show M2 1 = M 1 by rw [eM]; funext k9; simp [mu]) (by rw [eM]; simp [mu]) (show M2 22 = M 22 by rw [eM]; funext k9; simp [mu]) (show M2 23 = M 23 by rw [eM]; funext k9; simp [mu]) (show M2 24 = M 24 by rw [eM]; funext k9; simp [mu]) (show M2 25 = M 25 by rw [eM]; funext k9; simp [mu]) (show M2 26 = M 26 by rw [eM]; funext k9; simp [mu]) (show M2 27 = M 27 by rw [eM]; funext k9; simp [mu]) (show M2 28 = M 28 by rw [eM]; funext k9; simp [mu]) (show T2 8 = T 8 by rw [eT]; funext k9; simp [mu])
  · exact hd.c (by rw [eM]; simp [mu]) (show M2 29 = M 29 by rw [eM]; funext k9; simp [mu]) (show M2 30 = M 30 by rw [eM]; funext k9; simp [mu]) (show M2 31 = M 31 by rw [eM]; funext k9; simp [mu]) (show T2 9 = T 9 by rw [eT]; funext k9; simp [mu])
  · exact hw.c (show M2 32 = M 32 by rw [eM]; funext k9; simp [mu]) (show T2 10 = T 10 by rw [eT]; funext k9; simp [mu])
  · exact hz.c (by rw [eM]; simp [mu]) (show M2 20 = M 20 by rw [eM]; funext k9; simp [mu]) (show M2 21 = M 21 by rw [eM]; funext k9; simp [mu]) (show M2 22 = M 22 by rw [eM]; funext k9; simp [mu]) (show M2 26 = M 26 by rw [eM]; funext k9; simp [mu]) (show M2 27 = M 27 by rw [eM]; funext k9; simp [mu]) (show M2 28 = M 28 by rw [eM]; funext k9; simp [mu]) (show M2 29 = M 29 by rw [eM]; funext k9; simp [mu]) (show M2 31 = M 31 by rw [eM]; funext k9; simp [mu])
end LU
