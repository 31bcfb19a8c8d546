/-! the law's numbers follow the class's: tenders, lots, bids -/
section LX
variable {M T : MS}
set_option maxRecDepth 100000 in
theorem LR.tenderS (h : LR M T) (hM : MI M) {c q w z : Nat} (h2 : M 3 0 < 2) (hc9 : c ≤ 1000) (hq9 : q ≤ 63) (hw9 : w ≤ 100) : LR (mu (mu (mu (mu (mu M 4 (M 3 0) c) 5 (M 3 0) q) 6 (M 3 0) w) 7 (M 3 0) z) 3 0 (M 3 0 + 1)) (mu (mu T 1 (T 11 1) (c + 1024 * q + 65536 * w + 8388608 * z)) 11 1 (T 11 1 + 1)) := by
  obtain ⟨M2, eM⟩ : ∃ M2 : MS, M2 = mu (mu (mu (mu (mu M 4 (M 3 0) c) 5 (M 3 0) q) 6 (M 3 0) w) 7 (M 3 0) z) 3 0 (M 3 0 + 1) := ⟨_, rfl⟩
  obtain ⟨T2, eT⟩ : ∃ T2 : MS, T2 = mu (mu T 1 (T 11 1) (c + 1024 * q + 65536 * w + 8388608 * z)) 11 1 (T 11 1 + 1) := ⟨_, rfl⟩
  rw [← eM, ← eT]
  have h0 := h
  obtain ⟨hg, hp, ht, hl, hb, hs, ha, hc, hd, hw, hz⟩ := h
  obtain ⟨g0, g1, g2, g3, g4, g5, g6⟩ := hg
  refine ⟨?_, ?_, ?_, ?_, ?_, ?_, ?_, ?_, ?_, ?_, ?_⟩
  · rw [eM, eT]; exact ⟨by simp [mu, g0, g1, g3, g4, g5, g6], by simp [mu, g0, g1, g3, g4, g5, g6], by simp [mu]; omega, by simp [mu, g0, g1, g3, g4, g5, g6], by simp [mu, g0, g1, g3, g4, g5, g6], by simp [mu, g0, g1, g3, g4, g5, g6], by simp [mu, g0, g1, g3, g4, g5, g6]⟩
  · exact hp.c (show M2 2 = M 2 by rw [eM]; funext k9; simp [mu]) (show T2 0 = T 0 by rw [eT]; funext k9; simp [mu])
  · intro k hk
    have hk2 : k < M 3 0 + 1 := by rw [eM] at hk; simpa [mu] using hk
    by_cases e : k = M 3 0
    · subst e
      rw [eM, eT]; simp [mu, g1]
    · have e9 : ¬ k = T 11 1 := by omega
      have e4 : M2 4 k = M 4 k := by rw [eM]; simp [mu, e, e9]
      have e5 : M2 5 k = M 5 k := by rw [eM]; simp [mu, e, e9]
      have e6 : M2 6 k = M 6 k := by rw [eM]; simp [mu, e, e9]
      have e7 : M2 7 k = M 7 k := by rw [eM]; simp [mu, e, e9]
      have t1 : T2 1 k = T 1 k := by rw [eT]; simp [mu, e, e9]
      rw [t1, e4, e5, e6, e7]
      exact ht k (by omega)
  · have q8 : M2 8 = M 8 := by rw [eM]; funext k9; simp [mu]
    have q9 : M2 9 = M 9 := by rw [eM]; funext k9; simp [mu]
    have q2 : T2 2 = T 2 := by rw [eT]; funext k9; simp [mu]
    have q3 : M2 3 0 = M 3 0 + 1 := by rw [eM]; simp [mu]
    simp only [LRl, q8, q9, q2, q3]
    exact ⟨hl.1, hl.2.1, fun t h9 => hl.2.2 t (by omega)⟩
  · exact hb.c (show M2 8 = M 8 by rw [eM]; funext k9; simp [mu]) (show M2 10 = M 10 by rw [eM]; funext k9; simp [mu]) (show M2 12 = M 12 by rw [eM]; funext k9; simp [mu]) (show M2 15 = M 15 by rw [eM]; funext k9; simp [mu]) (show T2 3 = T 3 by rw [eT]; funext k9; simp [mu]) (show T2 4 = T 4 by rw [eT]; funext k9; simp [mu])
  · have q3 : M2 3 0 = M 3 0 + 1 := by rw [eM]; simp [mu]
    have q1 : M2 1 = M 1 := by rw [eM]; funext k9; simp [mu]
    have q10 : M2 10 = M 10 := by rw [eM]; funext k9; simp [mu]
    have q11 : M2 11 = M 11 := by rw [eM]; funext k9; simp [mu]
    have q13 : M2 13 = M 13 := by rw [eM]; funext k9; simp [mu]
    have q14 : M2 14 = M 14 := by rw [eM]; funext k9; simp [mu]
    have r3 : T2 3 = T 3 := by rw [eT]; funext k9; simp [mu]
    have r5 : T2 5 = T 5 := by rw [eT]; funext k9; simp [mu]
    have r6 : T2 6 = T 6 := by rw [eT]; funext k9; simp [mu]
    have r110 : T2 11 0 = T 11 0 := by rw [eT]; simp [mu]
    have r113 : T2 11 3 = T 11 3 := by rw [eT]; simp [mu]
    have eo : ∀ t, t ≠ M 3 0 → m_op M2 t = m_op M t := fun t h9 => by
      have x : M2 4 t = M 4 t := by rw [eM]; simp [mu, h9]
      unfold m_op; rw [x, q1]
    have et : ∀ t, t ≠ M 3 0 → t_op T2 t = t_op T t := fun t h9 => by
      have h8 : ¬ t = T 11 1 := by omega
      have x : T2 1 t = T 1 t := by rw [eT]; simp [mu, h8]
      unfold t_op; rw [x, r110]
    obtain ⟨s1, s2, s3, s4, s5⟩ := hs
    have n10 : ∀ q, q / 8 = M 3 0 → q < 16 → M 10 (mq q) = 0 := fun q e hq => by
      have h8 := hl.2.2 (q / 8) (by omega)
      have := hb.2.2.2 (3 * (q / 8) + q / 4 % 2) (q % 4) (by omega) (by rw [show (3 * (q / 8) + q / 4 % 2) / 3 = q / 8 by omega, h8]; exact Nat.zero_le _)
      exact this
    have k2 : ∀ q, q < 16 → t_tk T2 q = m_tp M2 (mq q) := fun q hq => by
      by_cases e : q / 8 = M 3 0
      · have z := n10 q e hq
        have z3 : T 3 q = 0 := (hb.1 q hq).2.1 z
        rw [m_tp_no (by rw [q10]; exact z)]
        unfold t_tk
        rw [r113, t_tkf_no (T := T2) (T 11 3) (fun k hk e2 => by
          rw [r6] at e2
          have := (s5 k hk).2.2.2.1
          rw [e2] at this
          omega), r3, z3]
        simp
      · have x : m_tp M2 (mq q) = m_tp M (mq q) := by
          unfold m_tp
          rw [mq_d, eo _ e, q10, q13, q14]
        rw [x, ← (s1 q hq).1]
        unfold t_tk
        rw [r113]
        exact t_tkf_c (et _ e) (by rw [r3]) (by rw [r5]) _ (fun k _ => by rw [r6])
    have k3 : ∀ q, t_qu T2 q = t_qu T q := fun q => by unfold t_qu; rw [r113]; exact t_quf_c (by rw [r3]) _ (fun k _ => by rw [r6])
    refine ⟨fun q hq => ⟨k2 q hq, fun h1 => by rw [k3, q11]; rw [q10] at h1; exact (s1 q hq).2 h1⟩, fun q hq ho h3 h1 => ?_, fun q hq ho => ?_, fun q hq => by rw [r5]; exact s4 q hq, fun k hk => ?_⟩
    · rw [q10] at h1
      have e : q / 8 ≠ M 3 0 := fun e => by have := n10 q e hq; omega
      rw [eo _ e] at ho
      rw [q13, r5, r6, r113]
      exact s2 q hq ho (by omega) h1
    · rw [r5, q13, q14]
      refine s3 q hq ?_
      by_cases e : q / 8 = M 3 0
      · exact Or.inl (by omega)
      · rw [eo _ e, q3] at ho
        rcases ho with ho | ho
        · exact Or.inl (by omega)
        · exact Or.inr ho
    · rw [r113] at hk
      rw [r6, q10, q3]
      obtain ⟨a1, a2, a3, a4, a5, a6⟩ := s5 k hk
      rw [eo _ (by omega)]
      exact ⟨a1, a2, a3, by omega, a5, a6⟩
  · intro k hk
    have hk2 : k < M 16 0 := by rw [eM] at hk; simpa [mu] using hk
    obtain ⟨c1, c2, c3, c4, c5, c6, c7, c8⟩ := ha k hk2
    have q1 : M2 1 = M 1 := by rw [eM]; funext k9; simp [mu]
    have q8 : M2 8 = M 8 := by rw [eM]; funext k9; simp [mu]
    have q10 : M2 10 = M 10 := by rw [eM]; funext k9; simp [mu]
    have q3 : M2 3 0 = M 3 0 + 1 := by rw [eM]; simp [mu]
    have e17 : M2 17 k = M 17 k := by rw [eM]; simp [mu]
    have e18 : M2 18 k = M 18 k := by rw [eM]; simp [mu]
    have e19 : M2 19 k = M 19 k := by rw [eM]; simp [mu]
    have e20 : M2 20 k = M 20 k := by rw [eM]; simp [mu]
    have e21 : M2 21 k = M 21 k := by rw [eM]; simp [mu]
    have t7 : T2 7 k = T 7 k := by rw [eT]; simp [mu]
    have x : M2 4 (T 7 k % 4 / 2) = M 4 (T 7 k % 4 / 2) := by
      have h9 : ¬ T 7 k % 4 / 2 = M 3 0 := by omega
      rw [eM]; simp [mu, h9]
    have eo : m_op M2 (T 7 k % 4 / 2) = m_op M (T 7 k % 4 / 2) := by unfold m_op; rw [x, q1]
    rw [t7, e17, e18, e19, e20, e21, eo, q1, q3, q8, q10]
    exact ⟨c1, c2, c3, by omega, c5, c6, c7, c8⟩
  · exact hc.c (show M2 1 = M 1 by rw [eM]; funext k9; simp [mu]) (by rw [eM]; simp [mu]) (show M2 22 = M 22 by rw [eM]; funext k9; simp [mu]) (show M2 23 = M 23 by rw [eM]; funext k9; simp [mu]) (show M2 24 = M 24 by rw [eM]; funext k9; simp [mu]) (show M2 25 = M 25 by rw [eM]; funext k9; simp [mu]) (show M2 26 = M 26 by rw [eM]; funext k9; simp [mu]) (show M2 27 = M 27 by rw [eM]; funext k9; simp [mu]) (show M2 28 = M 28 by rw [eM]; funext k9; simp [mu]) (show T2 8 = T 8 by rw [eT]; funext k9; simp [mu])
  · exact hd.c (by rw [eM]; simp [mu]) (show M2 29 = M 29 by rw [eM]; funext k9; simp [mu]) (show M2 30 = M 30 by rw [eM]; funext k9; simp [mu]) (show M2 31 = M 31 by rw [eM]; funext k9; simp [mu]) (show T2 9 = T 9 by rw [eT]; funext k9; simp [mu])
  · exact hw.c (show M2 32 = M 32 by rw [eM]; funext k9; simp [mu]) (show T2 10 = T 10 by rw [eT]; funext k9; simp [mu])
  · exact hz.c (by rw [eM]; simp [mu]) (show M2 20 = M 20 by rw [eM]; funext k9; simp [mu]) (show M2 21 = M 21 by rw [eM]; funext k9; simp [mu]) (show M2 22 = M 22 by rw [eM]; funext k9; simp [mu]) (show M2 26 = M 26 by rw [eM]; funext k9; simp [mu]) (show M2 27 = M 27 by rw [eM]; funext k9; simp [mu]) (show M2 28 = M 28 by rw [eM]; funext k9; simp [mu]) (show M2 29 = M 29 by rw [eM]; funext k9; simp [mu]) (show M2 31 = M 31 by rw [eM]; funext k9; simp [mu])
set_option maxRecDepth 100000 in
theorem LR.lotS (h : LR M T) (hM : MI M) {t d : Nat} (ht3 : t < M 3 0) (h8 : M 8 t < 2) : LR (mu (mu M 9 (3 * t + M 8 t) d) 8 t (M 8 t + 1)) (mu T 2 (2 * t + M 8 t) (d + 1)) := by
  obtain ⟨M2, eM⟩ : ∃ M2 : MS, M2 = mu (mu M 9 (3 * t + M 8 t) d) 8 t (M 8 t + 1) := ⟨_, rfl⟩
  obtain ⟨T2, eT⟩ : ∃ T2 : MS, T2 = mu T 2 (2 * t + M 8 t) (d + 1) := ⟨_, rfl⟩
  rw [← eM, ← eT]
  have h0 := h
  obtain ⟨hg, hp, ht, hl, hb, hs, ha, hc, hd, hw, hz⟩ := h
  obtain ⟨g0, g1, g2, g3, g4, g5, g6⟩ := hg
  refine ⟨?_, ?_, ?_, ?_, ?_, ?_, ?_, ?_, ?_, ?_, ?_⟩
  · rw [eM, eT]; exact ⟨by simp [mu, g0, g1, g3, g4, g5, g6], by simp [mu, g0, g1, g3, g4, g5, g6], by simp [mu, g2], by simp [mu, g0, g1, g3, g4, g5, g6], by simp [mu, g0, g1, g3, g4, g5, g6], by simp [mu, g0, g1, g3, g4, g5, g6], by simp [mu, g0, g1, g3, g4, g5, g6]⟩
  · exact hp.c (show M2 2 = M 2 by rw [eM]; funext k9; simp [mu]) (show T2 0 = T 0 by rw [eT]; funext k9; simp [mu])
  · exact ht.c (show M2 3 = M 3 by rw [eM]; funext k9; simp [mu]) (show M2 4 = M 4 by rw [eM]; funext k9; simp [mu]) (show M2 5 = M 5 by rw [eM]; funext k9; simp [mu]) (show M2 6 = M 6 by rw [eM]; funext k9; simp [mu]) (show M2 7 = M 7 by rw [eM]; funext k9; simp [mu]) (show T2 1 = T 1 by rw [eT]; funext k9; simp [mu])
  · have q3 : M2 3 = M 3 := by rw [eM]; funext k9; simp [mu]
    refine ⟨fun j hj => ?_, fun k hk => ?_, fun k hk => ?_⟩
    · by_cases e : j = 2 * t + M 8 t
      · have x2 : T2 2 j = d + 1 := by rw [eT, e]; simp [mu]
        have x1 : j / 2 = t := by omega
        have x3 : M2 8 (j / 2) = M 8 t + 1 := by rw [x1, eM]; simp [mu]
        have x4 : M2 9 (ml j) = d := by
          rw [show ml j = 3 * t + M 8 t by show 3 * (j / 2) + j % 2 = _; omega, eM]; simp [mu]
        rw [x2, x3, x4, if_pos (by omega)]
      · have x2 : T2 2 j = T 2 j := by rw [eT]; simp [mu, e]
        have y := hl.1 j hj
        by_cases e3 : j / 2 = t
        · have x3 : M2 8 (j / 2) = M 8 t + 1 := by rw [e3, eM]; simp [mu]
          have x4 : M2 9 (ml j) = M 9 (ml j) := by
            have h9 : ¬ ml j = 3 * t + M 8 t := by show ¬ 3 * (j / 2) + j % 2 = _; omega
            rw [eM]; simp [mu] at h9 ⊢; intro q; exact absurd q h9
          rw [x2, x3, x4, y, e3]
          by_cases c : j % 2 < M 8 t
          · rw [if_pos c, if_pos (by omega)]
          · rw [if_neg c, if_neg (by omega)]
        · have x3 : M2 8 (j / 2) = M 8 (j / 2) := by rw [eM]; simp [mu, e3]
          have x4 : M2 9 (ml j) = M 9 (ml j) := by
            have h9 : ¬ ml j = 3 * t + M 8 t := by show ¬ 3 * (j / 2) + j % 2 = _; omega
            rw [eM]; simp [mu] at h9 ⊢; intro q; exact absurd q h9
          rw [x2, x3, x4, y]
    · by_cases e : k = t
      · have x : M2 8 k = M 8 t + 1 := by rw [eM, e]; simp [mu]
        omega
      · have x : M2 8 k = M 8 k := by rw [eM]; simp [mu, e]
        rw [x]; exact hl.2.1 k hk
    · rw [q3] at hk
      have e : ¬ k = t := by omega
      have x : M2 8 k = M 8 k := by rw [eM]; simp [mu, e]
      rw [x]; exact hl.2.2 k hk
  · have m8 : ∀ k, M 8 k ≤ M2 8 k := fun k => by
      by_cases e : k = t
      · have x : M2 8 k = M 8 t + 1 := by rw [eM, e]; simp [mu]
        rw [x, e]; omega
      · have x : M2 8 k = M 8 k := by rw [eM]; simp [mu, e]
        omega
    have q10 : M2 10 = M 10 := by rw [eM]; funext k9; simp [mu]
    have q12 : M2 12 = M 12 := by rw [eM]; funext k9; simp [mu]
    have q15 : M2 15 = M 15 := by rw [eM]; funext k9; simp [mu]
    have r3 : T2 3 = T 3 := by rw [eT]; funext k9; simp [mu]
    have r4 : T2 4 = T 4 := by rw [eT]; funext k9; simp [mu]
    simp only [LRb, q10, q12, q15, r3, r4]
    exact ⟨hb.1, hb.2.1, hb.2.2.1, fun g b h9 h7 => hb.2.2.2 g b h9 (Nat.le_trans (m8 _) h7)⟩
  · exact hs.c (show M2 1 = M 1 by rw [eM]; funext k9; simp [mu]) (show M2 3 = M 3 by rw [eM]; funext k9; simp [mu]) (show M2 4 = M 4 by rw [eM]; funext k9; simp [mu]) (show M2 10 = M 10 by rw [eM]; funext k9; simp [mu]) (show M2 11 = M 11 by rw [eM]; funext k9; simp [mu]) (show M2 13 = M 13 by rw [eM]; funext k9; simp [mu]) (show M2 14 = M 14 by rw [eM]; funext k9; simp [mu]) (show T2 1 = T 1 by rw [eT]; funext k9; simp [mu]) (show T2 3 = T 3 by rw [eT]; funext k9; simp [mu]) (show T2 5 = T 5 by rw [eT]; funext k9; simp [mu]) (show T2 6 = T 6 by rw [eT]; funext k9; simp [mu]) (by rw [eT]; simp [mu]) (by rw [eT]; simp [mu])
  · intro k hk
    have hk2 : k < M 16 0 := by rw [eM] at hk; simpa [mu] using hk
    obtain ⟨c1, c2, c3, c4, c5, c6, c7, c8⟩ := ha k hk2
    have eo : ∀ t, m_op M2 t = m_op M t := m_op_c (show M2 1 = M 1 by rw [eM]; funext k9; simp [mu]) (show M2 4 = M 4 by rw [eM]; funext k9; simp [mu])
    have q1 : M2 1 = M 1 := by rw [eM]; funext k9; simp [mu]
    have q3 : M2 3 = M 3 := by rw [eM]; funext k9; simp [mu]
    have q10 : M2 10 = M 10 := by rw [eM]; funext k9; simp [mu]
    have e17 : M2 17 k = M 17 k := by rw [eM]; simp [mu]
    have e18 : M2 18 k = M 18 k := by rw [eM]; simp [mu]
    have e19 : M2 19 k = M 19 k := by rw [eM]; simp [mu]
    have e20 : M2 20 k = M 20 k := by rw [eM]; simp [mu]
    have e21 : M2 21 k = M 21 k := by rw [eM]; simp [mu]
    have t7 : T2 7 k = T 7 k := by rw [eT]; simp [mu]
    have m8 : M 8 (T 7 k % 4 / 2) ≤ M2 8 (T 7 k % 4 / 2) := by
      by_cases e : T 7 k % 4 / 2 = t
      · have x : M2 8 (T 7 k % 4 / 2) = M 8 t + 1 := by rw [eM, e]; simp [mu]
        rw [x, e]; omega
      · have x : M2 8 (T 7 k % 4 / 2) = M 8 (T 7 k % 4 / 2) := by rw [eM]; simp [mu, e]
        omega
    rw [t7, e17, e18, e19, e20, e21, eo, q1, q3, q10]
    exact ⟨c1, c2, c3, c4, by omega, c6, c7, c8⟩
  · exact hc.c (show M2 1 = M 1 by rw [eM]; funext k9; simp [mu]) (by rw [eM]; simp [mu]) (show M2 22 = M 22 by rw [eM]; funext k9; simp [mu]) (show M2 23 = M 23 by rw [eM]; funext k9; simp [mu]) (show M2 24 = M 24 by rw [eM]; funext k9; simp [mu]) (show M2 25 = M 25 by rw [eM]; funext k9; simp [mu]) (show M2 26 = M 26 by rw [eM]; funext k9; simp [mu]) (show M2 27 = M 27 by rw [eM]; funext k9; simp [mu]) (show M2 28 = M 28 by rw [eM]; funext k9; simp [mu]) (show T2 8 = T 8 by rw [eT]; funext k9; simp [mu])
  · exact hd.c (by rw [eM]; simp [mu]) (show M2 29 = M 29 by rw [eM]; funext k9; simp [mu]) (show M2 30 = M 30 by rw [eM]; funext k9; simp [mu]) (show M2 31 = M 31 by rw [eM]; funext k9; simp [mu]) (show T2 9 = T 9 by rw [eT]; funext k9; simp [mu])
  · exact hw.c (show M2 32 = M 32 by rw [eM]; funext k9; simp [mu]) (show T2 10 = T 10 by rw [eT]; funext k9; simp [mu])
  · exact hz.c (by rw [eM]; simp [mu]) (show M2 20 = M 20 by rw [eM]; funext k9; simp [mu]) (show M2 21 = M 21 by rw [eM]; funext k9; simp [mu]) (show M2 22 = M 22 by rw [eM]; funext k9; simp [mu]) (show M2 26 = M 26 by rw [eM]; funext k9; simp [mu]) (show M2 27 = M 27 by rw [eM]; funext k9; simp [mu]) (show M2 28 = M 28 by rw [eM]; funext k9; simp [mu]) (show M2 29 = M 29 by rw [eM]; funext k9; simp [mu]) (show M2 31 = M 31 by rw [eM]; funext k9; simp [mu])
theorem LRs.sealed (hs : LRs M T) {q : Nat} (hq : m_op M (q / 8) = false) : ∀ k, k < T 11 3 → T 6 k / 4 % 16 ≠ q := fun k hk e => by
  have := (hs.2.2.2.2 k hk).2.2.2.2.1
  rw [e, hq] at this
  exact absurd this (by decide)
set_option maxRecDepth 100000 in
theorem LR.bidS (h : LR M T) (hM : MI M) {x pr qu : Nat} (hx16 : x < 16) (hx3 : x / 8 < M 3 0) (hxl : x / 4 % 2 < M 8 (x / 8)) (hop : m_op M (x / 8) = false) (hp9 : 0 < pr) (hp1 : pr ≤ 100000) : LR (mu (mu (mu (mu M 10 (mq x) pr) 11 (mq x) qu) 12 (mq x) (M 15 0)) 15 0 (M 15 0 + 1)) (mu (mu (mu T 3 x (pr + 1048576 * qu)) 11 2 (T 11 2 + 1)) 4 x (T 11 2 + 1)) := by
  obtain ⟨M2, eM⟩ : ∃ M2 : MS, M2 = mu (mu (mu (mu M 10 (mq x) pr) 11 (mq x) qu) 12 (mq x) (M 15 0)) 15 0 (M 15 0 + 1) := ⟨_, rfl⟩
  obtain ⟨T2, eT⟩ : ∃ T2 : MS, T2 = mu (mu (mu T 3 x (pr + 1048576 * qu)) 11 2 (T 11 2 + 1)) 4 x (T 11 2 + 1) := ⟨_, rfl⟩
  rw [← eM, ← eT]
  have h0 := h
  obtain ⟨hg, hp, ht, hl, hb, hs, ha, hc, hd, hw, hz⟩ := h
  obtain ⟨g0, g1, g2, g3, g4, g5, g6⟩ := hg
  refine ⟨?_, ?_, ?_, ?_, ?_, ?_, ?_, ?_, ?_, ?_, ?_⟩
  · rw [eM, eT]; exact ⟨by simp [mu, g0, g1, g3, g4, g5, g6], by simp [mu, g0, g1, g3, g4, g5, g6], by simp [mu, g2], by simp [mu, g0, g1, g3, g4, g5, g6], by simp [mu, g0, g1, g3, g4, g5, g6], by simp [mu, g0, g1, g3, g4, g5, g6], by simp [mu, g0, g1, g3, g4, g5, g6]⟩
  · exact hp.c (show M2 2 = M 2 by rw [eM]; funext k9; simp [mu]) (show T2 0 = T 0 by rw [eT]; funext k9; simp [mu])
  · exact ht.c (show M2 3 = M 3 by rw [eM]; funext k9; simp [mu]) (show M2 4 = M 4 by rw [eM]; funext k9; simp [mu]) (show M2 5 = M 5 by rw [eM]; funext k9; simp [mu]) (show M2 6 = M 6 by rw [eM]; funext k9; simp [mu]) (show M2 7 = M 7 by rw [eM]; funext k9; simp [mu]) (show T2 1 = T 1 by rw [eT]; funext k9; simp [mu])
  · exact hl.c (show M2 3 = M 3 by rw [eM]; funext k9; simp [mu]) (show M2 8 = M 8 by rw [eM]; funext k9; simp [mu]) (show M2 9 = M 9 by rw [eM]; funext k9; simp [mu]) (show T2 2 = T 2 by rw [eT]; funext k9; simp [mu])
  · have q8 : M2 8 = M 8 := by rw [eM]; funext k9; simp [mu]
    have q15 : M2 15 0 = M 15 0 + 1 := by rw [eM]; simp [mu]
    have z : ∀ q, q ≠ x → M2 10 (mq q) = M 10 (mq q) ∧ M2 12 (mq q) = M 12 (mq q) ∧ T2 3 q = T 3 q ∧ T2 4 q = T 4 q := fun q e => by
      have h9 : ¬ mq q = mq x := fun z => e (mq_inj z)
      refine ⟨?_, ?_, ?_, ?_⟩
      · rw [eM]; simp [mu] at h9 ⊢; intro z; exact absurd z h9
      · rw [eM]; simp [mu] at h9 ⊢; intro z; exact absurd z h9
      · rw [eT]; simp [mu, e]
      · rw [eT]; simp [mu, e]
    have y : M2 10 (mq x) = pr ∧ M2 12 (mq x) = M 15 0 ∧ T2 3 x = pr + 1048576 * qu ∧ T2 4 x = M 15 0 + 1 := by
      refine ⟨?_, ?_, ?_, ?_⟩
      · rw [eM]; simp [mu]
      · rw [eM]; simp [mu]
      · rw [eT]; simp [mu]
      · rw [eT]; simp [mu, g3]
    have zz : ∀ i, (∀ q, q < 16 → mq q ≠ i) → M2 10 i = M 10 i := fun i hi => by
      have h9 : ¬ i = mq x := fun z => hi x hx16 z.symm
      rw [eM]; simp [mu] at h9 ⊢; intro z; exact absurd z h9
    refine ⟨fun q hq => ?_, fun q r hq hr h1 h2 h3 => ?_, fun g b h4 h8 => ?_, fun g b h8 h9 => ?_⟩
    · by_cases e : q = x
      · subst e
        obtain ⟨y1, y2, y3, y4⟩ := y
        rw [y1, y2, y3, y4, q15]
        exact ⟨by omega, fun h => by omega, fun _ => ⟨rfl, by omega⟩⟩
      · obtain ⟨z1, z2, z3, z4⟩ := z q e
        rw [z1, z2, z3, z4, q15]
        have := hb.1 q hq
        exact ⟨this.1, this.2.1, fun h => ⟨(this.2.2 h).1, by have := (this.2.2 h).2; omega⟩⟩
    · by_cases e : q = x
      · by_cases e2 : r = x
        · rw [e, e2]
        · exfalso
          subst e
          obtain ⟨z1, z2, z3, z4⟩ := z r e2
          rw [y.2.1, z2] at h3
          rw [z1] at h2
          have := ((hb.1 r hr).2.2 h2).2
          omega
      · by_cases e2 : r = x
        · exfalso
          subst e2
          obtain ⟨z1, z2, z3, z4⟩ := z q e
          rw [y.2.1, z2] at h3
          rw [z1] at h1
          have := ((hb.1 q hq).2.2 h1).2
          omega
        · obtain ⟨z1, z2, z3, z4⟩ := z q e
          obtain ⟨w1, w2, w3, w4⟩ := z r e2
          rw [z1] at h1
          rw [w1] at h2
          rw [z2, w2] at h3
          exact hb.2.1 q r hq hr h1 h2 h3
    · rw [zz _ (fun q hq e => by
        have : 8 * (3 * (q / 8) + q / 4 % 2) + q % 4 = 8 * g + b := e
        omega)]
      exact hb.2.2.1 g b h4 h8
    · rw [q8] at h9
      by_cases e : 8 * g + b = mq x
      · exfalso
        have e2 : 8 * g + b = 8 * (3 * (x / 8) + x / 4 % 2) + x % 4 := e
        have e3 : g = 3 * (x / 8) + x / 4 % 2 := by omega
        have e4 : g / 3 = x / 8 := by omega
        have e5 : g % 3 = x / 4 % 2 := by omega
        rw [e4, e5] at h9
        omega
      · have x10 : M2 10 (8 * g + b) = M 10 (8 * g + b) := by
          rw [eM]; simp [mu] at e ⊢; intro z; exact absurd z e
        rw [x10]
        exact hb.2.2.2 g b h8 h9
  · have eo : ∀ t, m_op M2 t = m_op M t := m_op_c (show M2 1 = M 1 by rw [eM]; funext k9; simp [mu]) (show M2 4 = M 4 by rw [eM]; funext k9; simp [mu])
    have q3 : M2 3 = M 3 := by rw [eM]; funext k9; simp [mu]
    have q13 : M2 13 = M 13 := by rw [eM]; funext k9; simp [mu]
    have q14 : M2 14 = M 14 := by rw [eM]; funext k9; simp [mu]
    have r1 : T2 1 = T 1 := by rw [eT]; funext k9; simp [mu]
    have r5 : T2 5 = T 5 := by rw [eT]; funext k9; simp [mu]
    have r6 : T2 6 = T 6 := by rw [eT]; funext k9; simp [mu]
    have r110 : T2 11 0 = T 11 0 := by rw [eT]; simp [mu]
    have r113 : T2 11 3 = T 11 3 := by rw [eT]; simp [mu]
    have et : ∀ t, t_op T2 t = t_op T t := fun t => by unfold t_op; rw [r1, r110]
    have nv := hs.sealed hop
    have hs0 := hs
    obtain ⟨s1, s2, s3, s4, s5⟩ := hs
    have z10 : ∀ q, q ≠ x → M2 10 (mq q) = M 10 (mq q) := fun q e => by
      have h9 : ¬ mq q = mq x := fun z => e (mq_inj z)
      rw [eM]; simp [mu] at h9 ⊢; intro z; exact absurd z h9
    have z3 : ∀ q, q ≠ x → T2 3 q = T 3 q := fun q e => by rw [eT]; simp [mu, e]
    have QU : 0 < M2 10 (mq x) → T2 3 x / 1048576 = M2 11 (mq x) := fun _ => by
      have y3 : T2 3 x = pr + 1048576 * qu := by rw [eT]; simp [mu]
      have y4 : M2 11 (mq x) = qu := by rw [eM]; simp [mu]
      omega
    have Z11 : ∀ q, q ≠ x → M2 11 (mq q) = M 11 (mq q) := fun q e => by
      have h9 : ¬ mq q = mq x := fun z => e (mq_inj z)
      rw [eM]; simp [mu] at h9 ⊢; intro z; exact absurd z h9
    refine ⟨fun q hq => ?_, fun q hq ho h3 h1 => ?_, fun q hq ho => ?_, fun q hq => by rw [r5]; exact s4 q hq, fun k hk => ?_⟩
    · by_cases e : q = x
      · subst e
        refine ⟨?_, fun h1 => ?_⟩
        · have o2 : m_op M2 (mq q / 8 / 3) = false := by rw [mq_d, eo, hop]
          rw [m_tp_cl o2]
          unfold t_tk
          rw [r113, t_tkf_no (T := T2) (T 11 3) (fun k hk => by rw [r6]; exact nv k hk), et, h0.opn hM hx3, hop]
          simp
        · unfold t_qu
          rw [r113, t_quf_no (T := T2) (T 11 3) (fun k hk => by rw [r6]; exact nv k hk)]
          exact QU h1
      · obtain ⟨a1, a2⟩ := s1 q hq
        rw [z10 q e]
        refine ⟨?_, fun h1 => ?_⟩
        · have x2 : m_tp M2 (mq q) = m_tp M (mq q) := by
            unfold m_tp
            rw [eo, q13, q14, z10 q e]
          rw [x2, ← a1]
          unfold t_tk
          rw [r113]
          exact t_tkf_c (et _) (z3 q e) (by rw [r5]) _ (fun k _ => by rw [r6])
        · have x11 : M2 11 (mq q) = M 11 (mq q) := Z11 q e
          rw [x11, ← a2 h1]
          unfold t_qu
          rw [r113]
          exact t_quf_c (z3 q e) _ (fun k _ => by rw [r6])
    · rw [eo] at ho
      rw [q3] at h3
      have e : q ≠ x := fun e => by subst e; rw [hop] at ho; exact absurd ho (by decide)
      rw [z10 q e] at h1
      rw [q13, r5, r6, r113]
      exact s2 q hq ho h3 h1
    · rw [eo, q3] at ho
      rw [r5, q13, q14]
      exact s3 q hq ho
    · rw [r113] at hk
      rw [r6, q3, eo, z10 _ (nv k hk)]
      exact s5 k hk
  · intro k hk
    have hk2 : k < M 16 0 := by rw [eM] at hk; simpa [mu] using hk
    obtain ⟨c1, c2, c3, c4, c5, c6, c7, c8⟩ := ha k hk2
    have eo : ∀ t, m_op M2 t = m_op M t := m_op_c (show M2 1 = M 1 by rw [eM]; funext k9; simp [mu]) (show M2 4 = M 4 by rw [eM]; funext k9; simp [mu])
    have q1 : M2 1 = M 1 := by rw [eM]; funext k9; simp [mu]
    have q3 : M2 3 = M 3 := by rw [eM]; funext k9; simp [mu]
    have q8 : M2 8 = M 8 := by rw [eM]; funext k9; simp [mu]
    have e17 : M2 17 k = M 17 k := by rw [eM]; simp [mu]
    have e18 : M2 18 k = M 18 k := by rw [eM]; simp [mu]
    have e19 : M2 19 k = M 19 k := by rw [eM]; simp [mu]
    have e20 : M2 20 k = M 20 k := by rw [eM]; simp [mu]
    have e21 : M2 21 k = M 21 k := by rw [eM]; simp [mu]
    have t7 : T2 7 k = T 7 k := by rw [eT]; simp [mu]
    obtain ⟨b1, b2, b3, b4⟩ := h0.bo hM hk2
    have b0 : t_bo T k ≠ x := fun e => by
      have : t_bo T k / 8 = T 7 k % 4 / 2 := by omega
      rw [← this, e, hop] at c6
      exact absurd c6 (by decide)
    have q10 : M2 10 (8 * M 17 k + M 18 k) = M 10 (8 * M 17 k + M 18 k) := by
      rw [← b1]
      have h9 : ¬ mq (t_bo T k) = mq x := fun z => b0 (mq_inj z)
      rw [eM]; simp [mu] at h9 ⊢; intro z; exact absurd z h9
    rw [t7, e17, e18, e19, e20, e21, eo, q1, q3, q8, q10]
    exact ⟨c1, c2, c3, c4, c5, c6, c7, c8⟩
  · exact hc.c (show M2 1 = M 1 by rw [eM]; funext k9; simp [mu]) (by rw [eM]; simp [mu]) (show M2 22 = M 22 by rw [eM]; funext k9; simp [mu]) (show M2 23 = M 23 by rw [eM]; funext k9; simp [mu]) (show M2 24 = M 24 by rw [eM]; funext k9; simp [mu]) (show M2 25 = M 25 by rw [eM]; funext k9; simp [mu]) (show M2 26 = M 26 by rw [eM]; funext k9; simp [mu]) (show M2 27 = M 27 by rw [eM]; funext k9; simp [mu]) (show M2 28 = M 28 by rw [eM]; funext k9; simp [mu]) (show T2 8 = T 8 by rw [eT]; funext k9; simp [mu])
  · exact hd.c (by rw [eM]; simp [mu]) (show M2 29 = M 29 by rw [eM]; funext k9; simp [mu]) (show M2 30 = M 30 by rw [eM]; funext k9; simp [mu]) (show M2 31 = M 31 by rw [eM]; funext k9; simp [mu]) (show T2 9 = T 9 by rw [eT]; funext k9; simp [mu])
  · exact hw.c (show M2 32 = M 32 by rw [eM]; funext k9; simp [mu]) (show T2 10 = T 10 by rw [eT]; funext k9; simp [mu])
  · exact hz.c (by rw [eM]; simp [mu]) (show M2 20 = M 20 by rw [eM]; funext k9; simp [mu]) (show M2 21 = M 21 by rw [eM]; funext k9; simp [mu]) (show M2 22 = M 22 by rw [eM]; funext k9; simp [mu]) (show M2 26 = M 26 by rw [eM]; funext k9; simp [mu]) (show M2 27 = M 27 by rw [eM]; funext k9; simp [mu]) (show M2 28 = M 28 by rw [eM]; funext k9; simp [mu]) (show M2 29 = M 29 by rw [eM]; funext k9; simp [mu]) (show M2 31 = M 31 by rw [eM]; funext k9; simp [mu])
set_option maxRecDepth 100000 in
theorem LR.withdrawS (h : LR M T) (hM : MI M) {x : Nat} (hx16 : x < 16) (hx3 : x / 8 < M 3 0) (hop : m_op M (x / 8) = false) : LR (mu M 10 (mq x) 0) (mu T 3 x 0) := by
  obtain ⟨M2, eM⟩ : ∃ M2 : MS, M2 = mu M 10 (mq x) 0 := ⟨_, rfl⟩
  obtain ⟨T2, eT⟩ : ∃ T2 : MS, T2 = mu T 3 x 0 := ⟨_, rfl⟩
  rw [← eM, ← eT]
  have h0 := h
  obtain ⟨hg, hp, ht, hl, hb, hs, ha, hc, hd, hw, hz⟩ := h
  obtain ⟨g0, g1, g2, g3, g4, g5, g6⟩ := hg
  refine ⟨?_, ?_, ?_, ?_, ?_, ?_, ?_, ?_, ?_, ?_, ?_⟩
  · rw [eM, eT]; exact ⟨by simp [mu, g0, g1, g3, g4, g5, g6], by simp [mu, g0, g1, g3, g4, g5, g6], by simp [mu, g2], by simp [mu, g0, g1, g3, g4, g5, g6], by simp [mu, g0, g1, g3, g4, g5, g6], by simp [mu, g0, g1, g3, g4, g5, g6], by simp [mu, g0, g1, g3, g4, g5, g6]⟩
  · exact hp.c (show M2 2 = M 2 by rw [eM]; funext k9; simp [mu]) (show T2 0 = T 0 by rw [eT]; funext k9; simp [mu])
  · exact ht.c (show M2 3 = M 3 by rw [eM]; funext k9; simp [mu]) (show M2 4 = M 4 by rw [eM]; funext k9; simp [mu]) (show M2 5 = M 5 by rw [eM]; funext k9; simp [mu]) (show M2 6 = M 6 by rw [eM]; funext k9; simp [mu]) (show M2 7 = M 7 by rw [eM]; funext k9; simp [mu]) (show T2 1 = T 1 by rw [eT]; funext k9; simp [mu])
  · exact hl.c (show M2 3 = M 3 by rw [eM]; funext k9; simp [mu]) (show M2 8 = M 8 by rw [eM]; funext k9; simp [mu]) (show M2 9 = M 9 by rw [eM]; funext k9; simp [mu]) (show T2 2 = T 2 by rw [eT]; funext k9; simp [mu])
  · have q8 : M2 8 = M 8 := by rw [eM]; funext k9; simp [mu]
    have q12 : M2 12 = M 12 := by rw [eM]; funext k9; simp [mu]
    have q15 : M2 15 = M 15 := by rw [eM]; funext k9; simp [mu]
    have r4 : T2 4 = T 4 := by rw [eT]; funext k9; simp [mu]
    have z : ∀ q, q ≠ x → M2 10 (mq q) = M 10 (mq q) ∧ T2 3 q = T 3 q := fun q e => by
      have h9 : ¬ mq q = mq x := fun z => e (mq_inj z)
      refine ⟨?_, ?_⟩
      · rw [eM]; simp [mu] at h9 ⊢; intro z; exact absurd z h9
      · rw [eT]; simp [mu, e]
    have y : M2 10 (mq x) = 0 ∧ T2 3 x = 0 := by
      refine ⟨?_, ?_⟩
      · rw [eM]; simp [mu]
      · rw [eT]; simp [mu]
    have le : ∀ i, M2 10 i ≤ M 10 i := fun i => by
      by_cases e : i = mq x
      · rw [e, y.1]; exact Nat.zero_le _
      · have : M2 10 i = M 10 i := by
          rw [eM]; simp [mu] at e ⊢; intro z; exact absurd z e
        omega
    rw [LRb, q8, q12, q15, r4]
    refine ⟨fun q hq => ?_, fun q r hq hr h1 h2 h3 => hb.2.1 q r hq hr (by have := le (mq q); omega) (by have := le (mq r); omega) h3, fun g b h4 h8 => by have := le (8 * g + b); have := hb.2.2.1 g b h4 h8; omega, fun g b h8 h9 => by have := le (8 * g + b); have := hb.2.2.2 g b h8 h9; omega⟩
    by_cases e : q = x
    · subst e
      rw [y.1, y.2]
      exact ⟨rfl, fun _ => rfl, fun h => by omega⟩
    · obtain ⟨z1, z3⟩ := z q e
      rw [z1, z3]
      exact hb.1 q hq
  · have eo : ∀ t, m_op M2 t = m_op M t := m_op_c (show M2 1 = M 1 by rw [eM]; funext k9; simp [mu]) (show M2 4 = M 4 by rw [eM]; funext k9; simp [mu])
    have q3 : M2 3 = M 3 := by rw [eM]; funext k9; simp [mu]
    have q13 : M2 13 = M 13 := by rw [eM]; funext k9; simp [mu]
    have q14 : M2 14 = M 14 := by rw [eM]; funext k9; simp [mu]
    have r1 : T2 1 = T 1 := by rw [eT]; funext k9; simp [mu]
    have r5 : T2 5 = T 5 := by rw [eT]; funext k9; simp [mu]
    have r6 : T2 6 = T 6 := by rw [eT]; funext k9; simp [mu]
    have r110 : T2 11 0 = T 11 0 := by rw [eT]; simp [mu]
    have r113 : T2 11 3 = T 11 3 := by rw [eT]; simp [mu]
    have et : ∀ t, t_op T2 t = t_op T t := fun t => by unfold t_op; rw [r1, r110]
    have nv := hs.sealed hop
    have hs0 := hs
    obtain ⟨s1, s2, s3, s4, s5⟩ := hs
    have z10 : ∀ q, q ≠ x → M2 10 (mq q) = M 10 (mq q) := fun q e => by
      have h9 : ¬ mq q = mq x := fun z => e (mq_inj z)
      rw [eM]; simp [mu] at h9 ⊢; intro z; exact absurd z h9
    have z3 : ∀ q, q ≠ x → T2 3 q = T 3 q := fun q e => by rw [eT]; simp [mu, e]
    have Z11 : ∀ q, q ≠ x → M2 11 (mq q) = M 11 (mq q) := fun q _ => by rw [eM]; simp [mu]
    refine ⟨fun q hq => ?_, fun q hq ho h3 h1 => ?_, fun q hq ho => ?_, fun q hq => by rw [r5]; exact s4 q hq, fun k hk => ?_⟩
    · by_cases e : q = x
      · subst e
        refine ⟨?_, fun h1 => ?_⟩
        · have o2 : m_op M2 (mq q / 8 / 3) = false := by rw [mq_d, eo, hop]
          rw [m_tp_cl o2]
          unfold t_tk
          rw [r113, t_tkf_no (T := T2) (T 11 3) (fun k hk => by rw [r6]; exact nv k hk), et, h0.opn hM hx3, hop]
          simp
        · unfold t_qu
          rw [r113, t_quf_no (T := T2) (T 11 3) (fun k hk => by rw [r6]; exact nv k hk)]
          exact absurd (by rw [eM]; simp [mu]) (Nat.ne_of_gt h1)
      · obtain ⟨a1, a2⟩ := s1 q hq
        rw [z10 q e]
        refine ⟨?_, fun h1 => ?_⟩
        · have x2 : m_tp M2 (mq q) = m_tp M (mq q) := by
            unfold m_tp
            rw [eo, q13, q14, z10 q e]
          rw [x2, ← a1]
          unfold t_tk
          rw [r113]
          exact t_tkf_c (et _) (z3 q e) (by rw [r5]) _ (fun k _ => by rw [r6])
        · have x11 : M2 11 (mq q) = M 11 (mq q) := Z11 q e
          rw [x11, ← a2 h1]
          unfold t_qu
          rw [r113]
          exact t_quf_c (z3 q e) _ (fun k _ => by rw [r6])
    · rw [eo] at ho
      rw [q3] at h3
      have e : q ≠ x := fun e => by subst e; rw [hop] at ho; exact absurd ho (by decide)
      rw [z10 q e] at h1
      rw [q13, r5, r6, r113]
      exact s2 q hq ho h3 h1
    · rw [eo, q3] at ho
      rw [r5, q13, q14]
      exact s3 q hq ho
    · rw [r113] at hk
      rw [r6, q3, eo, z10 _ (nv k hk)]
      exact s5 k hk
  · intro k hk
    have hk2 : k < M 16 0 := by rw [eM] at hk; simpa [mu] using hk
    obtain ⟨c1, c2, c3, c4, c5, c6, c7, c8⟩ := ha k hk2
    have eo : ∀ t, m_op M2 t = m_op M t := m_op_c (show M2 1 = M 1 by rw [eM]; funext k9; simp [mu]) (show M2 4 = M 4 by rw [eM]; funext k9; simp [mu])
    have q1 : M2 1 = M 1 := by rw [eM]; funext k9; simp [mu]
    have q3 : M2 3 = M 3 := by rw [eM]; funext k9; simp [mu]
    have q8 : M2 8 = M 8 := by rw [eM]; funext k9; simp [mu]
    have e17 : M2 17 k = M 17 k := by rw [eM]; simp [mu]
    have e18 : M2 18 k = M 18 k := by rw [eM]; simp [mu]
    have e19 : M2 19 k = M 19 k := by rw [eM]; simp [mu]
    have e20 : M2 20 k = M 20 k := by rw [eM]; simp [mu]
    have e21 : M2 21 k = M 21 k := by rw [eM]; simp [mu]
    have t7 : T2 7 k = T 7 k := by rw [eT]; simp [mu]
    obtain ⟨b1, b2, b3, b4⟩ := h0.bo hM hk2
    have b0 : t_bo T k ≠ x := fun e => by
      have : t_bo T k / 8 = T 7 k % 4 / 2 := by omega
      rw [← this, e, hop] at c6
      exact absurd c6 (by decide)
    have q10 : M2 10 (8 * M 17 k + M 18 k) = M 10 (8 * M 17 k + M 18 k) := by
      rw [← b1]
      have h9 : ¬ mq (t_bo T k) = mq x := fun z => b0 (mq_inj z)
      rw [eM]; simp [mu] at h9 ⊢; intro z; exact absurd z h9
    rw [t7, e17, e18, e19, e20, e21, eo, q1, q3, q8, q10]
    exact ⟨c1, c2, c3, c4, c5, c6, c7, c8⟩
  · exact hc.c (show M2 1 = M 1 by rw [eM]; funext k9; simp [mu]) (by rw [eM]; simp [mu]) (show M2 22 = M 22 by rw [eM]; funext k9; simp [mu]) (show M2 23 = M 23 by rw [eM]; funext k9; simp [mu]) (show M2 24 = M 24 by rw [eM]; funext k9; simp [mu]) (show M2 25 = M 25 by rw [eM]; funext k9; simp [mu]) (show M2 26 = M 26 by rw [eM]; funext k9; simp [mu]) (show M2 27 = M 27 by rw [eM]; funext k9; simp [mu]) (show M2 28 = M 28 by rw [eM]; funext k9; simp [mu]) (show T2 8 = T 8 by rw [eT]; funext k9; simp [mu])
  · exact hd.c (by rw [eM]; simp [mu]) (show M2 29 = M 29 by rw [eM]; funext k9; simp [mu]) (show M2 30 = M 30 by rw [eM]; funext k9; simp [mu]) (show M2 31 = M 31 by rw [eM]; funext k9; simp [mu]) (show T2 9 = T 9 by rw [eT]; funext k9; simp [mu])
  · exact hw.c (show M2 32 = M 32 by rw [eM]; funext k9; simp [mu]) (show T2 10 = T 10 by rw [eT]; funext k9; simp [mu])
  · exact hz.c (by rw [eM]; simp [mu]) (show M2 20 = M 20 by rw [eM]; funext k9; simp [mu]) (show M2 21 = M 21 by rw [eM]; funext k9; simp [mu]) (show M2 22 = M 22 by rw [eM]; funext k9; simp [mu]) (show M2 26 = M 26 by rw [eM]; funext k9; simp [mu]) (show M2 27 = M 27 by rw [eM]; funext k9; simp [mu]) (show M2 28 = M 28 by rw [eM]; funext k9; simp [mu]) (show M2 29 = M 29 by rw [eM]; funext k9; simp [mu]) (show M2 31 = M 31 by rw [eM]; funext k9; simp [mu])
end LX
