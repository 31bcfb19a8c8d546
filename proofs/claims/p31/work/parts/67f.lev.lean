/-! the law's numbers follow the class's: what is upheld, what lapses -/
section LV
variable {M T M2 T2 : MS}
/-- one more event: a bid is out for good (0), has another quality (1), is in (2) -/
theorem LRs.ev (hs : LRs M T) {kd q0 qv : Nat} (hkd : kd < 3) (hq0 : q0 < 16) (hqv : qv ≤ 100) (hqz : kd ≠ 1 → qv = 0) (h3 : q0 / 8 < M 3 0) (hop : m_op M (q0 / 8) = true) (h10 : 0 < M 10 (mq q0)) (h14 : kd = 2 → M 14 (mq q0) = 0)
    (e1 : M2 1 = M 1) (e3 : M2 3 = M 3) (e4 : M2 4 = M 4) (e10 : M2 10 = M 10)
    (e11 : ∀ z, M2 11 z = if kd = 1 ∧ z = mq q0 then qv else M 11 z) (e13 : ∀ z, M2 13 z = if kd = 2 ∧ z = mq q0 then 0 else M 13 z) (e14 : ∀ z, M2 14 z = if kd = 0 ∧ z = mq q0 then 1 else M 14 z)
    (f1 : T2 1 = T 1) (f3 : T2 3 = T 3) (f5 : T2 5 = T 5) (f110 : T2 11 0 = T 11 0) (f113 : T2 11 3 = T 11 3 + 1) (f6n : T2 6 (T 11 3) = kd + 4 * q0 + 64 * qv) (f6 : ∀ k, k < T 11 3 → T2 6 k = T 6 k) : LRs M2 T2 := by
  have v4 : T2 6 (T 11 3) % 4 = kd := by omega
  have v16 : T2 6 (T 11 3) / 4 % 16 = q0 := by omega
  have v64 : T2 6 (T 11 3) / 64 = qv := by omega
  have k1 : ∀ t, t_op T2 t = t_op T t := fun t => by unfold t_op; rw [f1, f110]
  have k5 : ∀ t, m_op M2 t = m_op M t := m_op_c e1 e4
  have ktk : ∀ q, t_tk T2 q = if q0 = q ∧ kd ≠ 1 then decide (kd = 2) else t_tk T q := fun q => by
    unfold t_tk
    rw [f113, t_tkf, v4, v16, t_tkf_c (k1 _) (by rw [f3]) (by rw [f5]) _ f6]
  have kqu : ∀ q, t_qu T2 q = if q0 = q ∧ kd = 1 then qv else t_qu T q := fun q => by
    unfold t_qu
    rw [f113, t_quf, v4, v16, v64, t_quf_c (by rw [f3]) _ f6]
  have ne : ∀ q, q0 ≠ q → mq q ≠ mq q0 := fun q hq e => hq (mq_inj e).symm
  obtain ⟨s1, s2, s3, s4, s5⟩ := hs
  refine ⟨fun q hq => ?_, fun q hq ho h3q h1 => ?_, fun q hq ho => ?_, fun q hq => by rw [f5]; exact s4 q hq, fun k hk => ?_⟩
  · obtain ⟨a1, a2⟩ := s1 q hq
    rw [e10]
    refine ⟨?_, fun hm => ?_⟩
    · rw [ktk q]
      by_cases c : q0 = q
      · subst c
        rcases (show kd = 0 ∨ kd = 1 ∨ kd = 2 by omega) with rfl | rfl | rfl
        · have x14 : M2 14 (mq q0) = 1 := by rw [e14, if_pos ⟨rfl, rfl⟩]
          rw [if_pos ⟨rfl, by decide⟩]
          unfold m_tp
          rw [x14]
          simp
        · have x13 : M2 13 (mq q0) = M 13 (mq q0) := by rw [e13, if_neg (fun z => absurd z.1 (by decide))]
          have x14 : M2 14 (mq q0) = M 14 (mq q0) := by rw [e14, if_neg (fun z => absurd z.1 (by decide))]
          rw [if_neg (fun z => z.2 rfl), a1]
          unfold m_tp
          rw [x13, x14, k5, e10]
        · have x13 : M2 13 (mq q0) = 0 := by rw [e13, if_pos ⟨rfl, rfl⟩]
          have x14 : M2 14 (mq q0) = 0 := by rw [e14, if_neg (fun z => absurd z.1 (by decide)), h14 rfl]
          rw [if_pos ⟨rfl, by decide⟩]
          unfold m_tp
          rw [x13, x14, k5, e10, mq_d, hop]
          simp [h10]
      · have x13 : M2 13 (mq q) = M 13 (mq q) := by rw [e13, if_neg (fun z => ne q c z.2)]
        have x14 : M2 14 (mq q) = M 14 (mq q) := by rw [e14, if_neg (fun z => ne q c z.2)]
        rw [if_neg (fun z => c z.1), a1]
        unfold m_tp
        rw [x13, x14, k5, e10]
    · rw [kqu q, e11]
      by_cases c : q0 = q
      · subst c
        by_cases c1 : kd = 1
        · rw [if_pos ⟨rfl, c1⟩, if_pos ⟨c1, rfl⟩]
        · rw [if_neg (fun z => c1 z.2), if_neg (fun z => c1 z.1), a2 hm]
      · rw [if_neg (fun z => c z.1), if_neg (fun z => ne q c z.2), a2 hm]
  · rw [k5] at ho
    rw [e3] at h3q
    rw [e10] at h1
    have b := s2 q hq ho h3q h1
    rw [e13, f5, f113]
    by_cases c : kd = 2 ∧ q0 = q
    · obtain ⟨rfl, rfl⟩ := c
      rw [if_pos ⟨rfl, rfl⟩]
      refine ⟨fun z => absurd rfl z, fun z => ?_⟩
      have := z.2 (T 11 3) (by omega)
      have z0 := hqz (by decide)
      exact absurd (by rw [f6n, z0]; rfl) this
    · rw [if_neg (fun z => c ⟨z.1, (mq_inj z.2).symm⟩), b]
      constructor
      · rintro ⟨z1, z2⟩
        refine ⟨z1, fun k hk => ?_⟩
        by_cases e : k = T 11 3
        · rw [e, f6n]
          intro z3
          exact c ⟨by omega, by omega⟩
        · rw [f6 k (by omega)]
          exact z2 k (by omega)
      · rintro ⟨z1, z2⟩
        exact ⟨z1, fun k hk => by rw [← f6 k hk]; exact z2 k (by omega)⟩
  · rw [k5, e3] at ho
    obtain ⟨b1, b2, b3⟩ := s3 q hq ho
    have c : q0 ≠ q := fun e => by
      subst e
      rcases ho with z | z
      · omega
      · rw [hop] at z; exact absurd z (by decide)
    rw [f5, e13, if_neg (fun z => ne q c z.2), e14, if_neg (fun z => ne q c z.2)]
    exact ⟨b1, b2, b3⟩
  · rw [f113] at hk
    rw [e3, e10]
    by_cases e : k = T 11 3
    · subst e
      rw [v4, v16, v64, k5]
      exact ⟨hkd, hqv, hqz, h3, hop, h10⟩
    · rw [f6 k (by omega), k5]
      exact s5 k (by omega)
/-- the events' numbers, the awards' -/
theorem LR.q0 (h : LR M T) (hM : MI M) {a : Nat} (ha : a < M 16 0) : t_bo T a / 8 < M 3 0 ∧ m_op M (t_bo T a / 8) = true ∧ 0 < M 10 (mq (t_bo T a)) := by
  obtain ⟨b1, b2, b3, -⟩ := h.bo hM ha
  obtain ⟨-, -, -, c4, -, c6, c7, -⟩ := h.2.2.2.2.2.2.1 a ha
  have e : t_bo T a / 8 = T 7 a % 4 / 2 := by omega
  rw [e, b1]
  exact ⟨c4, c6, c7⟩
set_option maxRecDepth 100000 in
theorem LR.lapS (h : LR M T) (hM : MI M) {a : Nat} (ha16 : a < M 16 0) (hv : M 20 a = 0) : LR (mu (mu (mu M 20 a 1) 32 (M 18 a) (M 32 (M 18 a) + M 9 (M 17 a))) 14 (8 * M 17 a + M 18 a) 1) (mu (mu (mu (mu T 7 a (T 7 a + 65536)) 10 (M 18 a) (T 10 (M 18 a) + M 9 (M 17 a))) 6 (T 11 3) (4 * t_bo T a)) 11 3 (T 11 3 + 1)) := by
  obtain ⟨M2, eM⟩ : ∃ M2 : MS, M2 = mu (mu (mu M 20 a 1) 32 (M 18 a) (M 32 (M 18 a) + M 9 (M 17 a))) 14 (8 * M 17 a + M 18 a) 1 := ⟨_, rfl⟩
  obtain ⟨T2, eT⟩ : ∃ T2 : MS, T2 = mu (mu (mu (mu T 7 a (T 7 a + 65536)) 10 (M 18 a) (T 10 (M 18 a) + M 9 (M 17 a))) 6 (T 11 3) (4 * t_bo T a)) 11 3 (T 11 3 + 1) := ⟨_, rfl⟩
  rw [← eM, ← eT]
  have h0 := h
  obtain ⟨hg, hp, ht, hl, hb, hs, ha, hc, hd, hw, hz⟩ := h
  obtain ⟨g0, g1, g2, g3, g4, g5, g6⟩ := hg
  refine ⟨?_, ?_, ?_, ?_, ?_, ?_, ?_, ?_, ?_, ?_, ?_⟩
  · rw [eM, eT]; exact ⟨by simp [mu, g0, g1, g3, g4, g5, g6], by simp [mu, g0, g1, g3, g4, g5, g6], by simp [mu, g2], by simp [mu, g0, g1, g3, g4, g5, g6], by simp [mu, g0, g1, g3, g4, g5, g6], by simp [mu, g0, g1, g3, g4, g5, g6], by simp [mu, g0, g1, g3, g4, g5, g6]⟩
  · exact hp.c (show M2 2 = M 2 by rw [eM]; funext k9; simp [mu]) (show T2 0 = T 0 by rw [eT]; funext k9; simp [mu])
  · exact ht.c (show M2 3 = M 3 by rw [eM]; funext k9; simp [mu]) (show M2 4 = M 4 by rw [eM]; funext k9; simp [mu]) (show M2 5 = M 5 by rw [eM]; funext k9; simp [mu]) (show M2 6 = M 6 by rw [eM]; funext k9; simp [mu]) (show M2 7 = M 7 by rw [eM]; funext k9; simp [mu]) (show T2 1 = T 1 by rw [eT]; funext k9; simp [mu])
  · exact hl.c (show M2 3 = M 3 by rw [eM]; funext k9; simp [mu]) (show M2 8 = M 8 by rw [eM]; funext k9; simp [mu]) (show M2 9 = M 9 by rw [eM]; funext k9; simp [mu]) (show T2 2 = T 2 by rw [eT]; funext k9; simp [mu])
  · exact hb.c (show M2 8 = M 8 by rw [eM]; funext k9; simp [mu]) (show M2 10 = M 10 by rw [eM]; funext k9; simp [mu]) (show M2 12 = M 12 by rw [eM]; funext k9; simp [mu]) (show M2 15 = M 15 by rw [eM]; funext k9; simp [mu]) (show T2 3 = T 3 by rw [eT]; funext k9; simp [mu]) (show T2 4 = T 4 by rw [eT]; funext k9; simp [mu])
  · obtain ⟨b1, b2, b3, b4⟩ := h0.bo hM ha16
    obtain ⟨d1, d2, d3⟩ := h0.q0 hM ha16
    exact hs.ev (kd := 0) (q0 := t_bo T a) (qv := 0) (by decide) b2 (by decide) (fun _ => rfl) d1 d2 d3 (fun e => absurd e (by decide)) (show M2 1 = M 1 by rw [eM]; funext k9; simp [mu]) (show M2 3 = M 3 by rw [eM]; funext k9; simp [mu]) (show M2 4 = M 4 by rw [eM]; funext k9; simp [mu]) (show M2 10 = M 10 by rw [eM]; funext k9; simp [mu]) (fun z => by rw [eM]; simp [mu]) (fun z => by rw [eM]; simp [mu]) (fun z => by rw [eM, b1]; simp [mu]) (show T2 1 = T 1 by rw [eT]; funext k9; simp [mu]) (show T2 3 = T 3 by rw [eT]; funext k9; simp [mu]) (show T2 5 = T 5 by rw [eT]; funext k9; simp [mu]) (by rw [eT]; simp [mu]) (by rw [eT]; simp [mu]) (by rw [eT]; simp [mu]) (fun k hk => by rw [eT]; simp [mu, Nat.ne_of_lt hk])
  · intro k hk
    have eo : ∀ t, m_op M2 t = m_op M t := m_op_c (show M2 1 = M 1 by rw [eM]; funext k9; simp [mu]) (show M2 4 = M 4 by rw [eM]; funext k9; simp [mu])
    have q1 : M2 1 = M 1 := by rw [eM]; funext k9; simp [mu]
    have q3 : M2 3 = M 3 := by rw [eM]; funext k9; simp [mu]
    have q8 : M2 8 = M 8 := by rw [eM]; funext k9; simp [mu]
    have q10 : M2 10 = M 10 := by rw [eM]; funext k9; simp [mu]
    have hk2 : k < M 16 0 := by rw [eM] at hk; simpa [mu] using hk
    obtain ⟨c1, c2, c3, c4, c5, c6, c7, c8⟩ := ha k hk2
    by_cases e : k = a
    · subst e
      have t7 : T2 7 k = T 7 k + 65536 := by rw [eT]; simp [mu]
      have e17 : M2 17 k = M 17 k := by rw [eM]; simp [mu]
      have e18 : M2 18 k = M 18 k := by rw [eM]; simp [mu]
      have e19 : M2 19 k = M 19 k := by rw [eM]; simp [mu]
      have e20 : M2 20 k = 1 := by rw [eM]; simp [mu]
      have e21 : M2 21 k = M 21 k := by rw [eM]; simp [mu]
      have t4 : T2 7 k % 4 = T 7 k % 4 := by omega
      rw [t4, e17, e18, e19, e20, e21, eo, q1, q3, q8, q10]
      exact ⟨c1, by omega, c3, c4, c5, c6, c7, c8⟩
    · have e9 := e
      have e17 : M2 17 k = M 17 k := by rw [eM]; simp [mu, e]
      have e18 : M2 18 k = M 18 k := by rw [eM]; simp [mu, e]
      have e19 : M2 19 k = M 19 k := by rw [eM]; simp [mu, e]
      have e20 : M2 20 k = M 20 k := by rw [eM]; simp [mu, e]
      have e21 : M2 21 k = M 21 k := by rw [eM]; simp [mu, e]
      have t7 : T2 7 k = T 7 k := by rw [eT]; simp [mu, e]
      rw [t7, e17, e18, e19, e20, e21, eo, q1, q3, q8, q10]
      exact ⟨c1, c2, c3, c4, c5, c6, c7, c8⟩
  · exact hc.c (show M2 1 = M 1 by rw [eM]; funext k9; simp [mu]) (by rw [eM]; simp [mu]) (show M2 22 = M 22 by rw [eM]; funext k9; simp [mu]) (show M2 23 = M 23 by rw [eM]; funext k9; simp [mu]) (show M2 24 = M 24 by rw [eM]; funext k9; simp [mu]) (show M2 25 = M 25 by rw [eM]; funext k9; simp [mu]) (show M2 26 = M 26 by rw [eM]; funext k9; simp [mu]) (show M2 27 = M 27 by rw [eM]; funext k9; simp [mu]) (show M2 28 = M 28 by rw [eM]; funext k9; simp [mu]) (show T2 8 = T 8 by rw [eT]; funext k9; simp [mu])
  · exact hd.c (by rw [eM]; simp [mu]) (show M2 29 = M 29 by rw [eM]; funext k9; simp [mu]) (show M2 30 = M 30 by rw [eM]; funext k9; simp [mu]) (show M2 31 = M 31 by rw [eM]; funext k9; simp [mu]) (show T2 9 = T 9 by rw [eT]; funext k9; simp [mu])
  · intro k hk
    have c3 := (ha a ha16).2.2.1
    by_cases e : k = M 18 a
    · subst e
      have := hw (M 18 a) hk
      rw [eM, eT]; simp [mu, this]
    · have e32 : M2 32 k = M 32 k := by rw [eM]; simp [mu, e]
      have t10 : T2 10 k = T 10 k := by rw [eT]; simp [mu, e]
      rw [e32, t10]
      exact hw k hk
  · have q16 : M2 16 = M 16 := by rw [eM]; funext k9; simp [mu]
    have q21 : M2 21 = M 21 := by rw [eM]; funext k9; simp [mu]
    have q22 : M2 22 = M 22 := by rw [eM]; funext k9; simp [mu]
    have q26 : M2 26 = M 26 := by rw [eM]; funext k9; simp [mu]
    have q27 : M2 27 = M 27 := by rw [eM]; funext k9; simp [mu]
    have q28 : M2 28 = M 28 := by rw [eM]; funext k9; simp [mu]
    have q29 : M2 29 = M 29 := by rw [eM]; funext k9; simp [mu]
    have q31 : M2 31 = M 31 := by rw [eM]; funext k9; simp [mu]
    refine ⟨by rw [q22, q26, q27, q28]; exact hz.1, fun k hk => ?_, by rw [q29, q31]; exact hz.2.2⟩
    rw [q16] at hk
    have e : ¬ k = a := by omega
    have e20 : M2 20 k = M 20 k := by rw [eM]; simp [mu, e]
    rw [e20, q21]
    exact hz.2.1 k hk
/-- what the law does when a complaint is upheld, but for the new award -/
def t_moo (T : MS) (a c : Nat) : Nat → MS
  | 0 => T
  | k + 1 => if t_moo T a c k 8 k % 32 = a ∧ t_moo T a c k 8 k / 512 % 4 = 0 then mu (t_moo T a c k) 8 k (t_moo T a c k 8 k + (if k = c then 512 else 1536)) else t_moo T a c k
theorem t_moo_nf (T : MS) (a c : Nat) {f : Nat} (h : f ≠ 8) : ∀ n, t_moo T a c n f = T f
  | 0 => rfl
  | n + 1 => by
    rw [t_moo]
    split
    · rw [mu_nf _ h]; exact t_moo_nf T a c h n
    · exact t_moo_nf T a c h n
theorem t_moo_8 (T : MS) (a c : Nat) : ∀ n k, t_moo T a c n 8 k = if k < n ∧ T 8 k % 32 = a ∧ T 8 k / 512 % 4 = 0 then T 8 k + (if k = c then 512 else 1536) else T 8 k
  | 0, k => by rw [if_neg (fun z => absurd z.1 (Nat.not_lt_zero k))]; rfl
  | n + 1, k => by
    have i := t_moo_8 T a c n
    have in8 : t_moo T a c n 8 n = T 8 n := by rw [i n, if_neg (fun z => absurd z.1 (Nat.lt_irrefl n))]
    rw [t_moo, in8]
    by_cases e : k = n
    · subst e
      clear i
      generalize (if k = c then 512 else 1536) = v
      by_cases q : T 8 k % 32 = a ∧ T 8 k / 512 % 4 = 0
      · rw [if_pos q, mu_eq, if_pos ⟨by omega, q⟩]
      · rw [if_neg q, in8, if_neg (fun z => q z.2)]
    · have e2 : ∀ v, mu (t_moo T a c n) 8 n v 8 k = t_moo T a c n 8 k := fun v => mu_gg (fun z => e z.2)
      have ik := i k
      clear i
      generalize (if k = c then 512 else 1536) = v at ik ⊢
      have e3 : (if T 8 n % 32 = a ∧ T 8 n / 512 % 4 = 0 then mu (t_moo T a c n) 8 n (T 8 n + if n = c then 512 else 1536) else t_moo T a c n) 8 k = t_moo T a c n 8 k := by
        split
        · exact e2 _
        · rfl
      rw [e3, ik]
      by_cases q2 : k < n ∧ T 8 k % 32 = a ∧ T 8 k / 512 % 4 = 0
      · rw [if_pos q2, if_pos ⟨by omega, q2.2⟩]
      · rw [if_neg q2, if_neg (fun z => q2 ⟨by omega, z.2⟩)]
theorem LR.upS (h : LR M T) (hM : MI M) (h16 : M 16 0 ≤ 32) {c q0 qv qx : Nat} (hc22 : c < M 22 0) (ho : M 26 c = 0) (hv : M 20 (M 23 c) = 0) (hqx : qx ≤ 100) (hq : qv = if M 25 c = 1 then qx else 0) (hq0 : q0 = if M 25 c < 2 then t_bo T (M 23 c) else 4 * (T 7 (M 23 c) % 4) + M 24 c) (h13 : M 25 c = 2 → M 13 (8 * M 17 (M 23 c) + M 24 c) ≠ 0 ∧ 0 < M 10 (8 * M 17 (M 23 c) + M 24 c)) (hX : ∀ z, z < 144 → M 13 z = 0 ∨ M 14 z = 0) : LR (m_up2 M c qx) (mu (t_moo (mu (mu T 6 (T 11 3) (M 25 c + 4 * q0 + 64 * qv)) 11 3 (T 11 3 + 1)) (M 23 c) c (T 11 5)) 7 (M 23 c) (T 7 (M 23 c) + 65536)) := by
  obtain ⟨M2, eM⟩ : ∃ M2 : MS, M2 = m_up2 M c qx := ⟨_, rfl⟩
  obtain ⟨T2, eT⟩ : ∃ T2 : MS, T2 = mu (t_moo (mu (mu T 6 (T 11 3) (M 25 c + 4 * q0 + 64 * qv)) 11 3 (T 11 3 + 1)) (M 23 c) c (T 11 5)) 7 (M 23 c) (T 7 (M 23 c) + 65536) := ⟨_, rfl⟩
  rw [← eM, ← eT]
  have h0 := h
  obtain ⟨hg, hp, ht, hl, hb, hs, ha, hc, hd, hw, hz⟩ := h
  obtain ⟨g0, g1, g2, g3, g4, g5, g6⟩ := hg
  obtain ⟨c1, c2, c3, c4, c5⟩ := hc c hc22
  have m : ∀ f, f ≠ 11 ∧ f ≠ 13 ∧ f ≠ 14 ∧ f ≠ 26 ∧ f ≠ 20 → M2 f = M f := fun f hf => by rw [eM]; exact m_up2_nf M c qx hf
  have tf : ∀ f, f ≠ 6 ∧ f ≠ 7 ∧ f ≠ 8 ∧ f ≠ 11 → T2 f = T f := fun f hf => by rw [eT, mu_nf _ hf.2.1, t_moo_nf _ _ _ hf.2.2.1, mu_nf _ hf.2.2.2, mu_nf _ hf.1]
  have t11 : ∀ i, i ≠ 3 → T2 11 i = T 11 i := fun i hi => by
    rw [eT, mu_nf _ (by decide), t_moo_nf _ _ _ (by decide)]
    simp [mu, hi]
  have t113 : T2 11 3 = T 11 3 + 1 := by
    rw [eT, mu_nf _ (by decide), t_moo_nf _ _ _ (by decide)]
    simp [mu]
  have t6n : T2 6 (T 11 3) = M 25 c + 4 * q0 + 64 * qv := by
    rw [eT, mu_nf _ (by decide), t_moo_nf _ _ _ (by decide)]
    simp [mu]
  have t6 : ∀ k, k < T 11 3 → T2 6 k = T 6 k := fun k hk => by
    rw [eT, mu_nf _ (by decide), t_moo_nf _ _ _ (by decide)]
    have e9 : ¬ k = T 11 3 := by omega
    simp [mu, e9]
  have t8 : ∀ k, T2 8 k = if k < T 11 5 ∧ T 8 k % 32 = M 23 c ∧ T 8 k / 512 % 4 = 0 then T 8 k + (if k = c then 512 else 1536) else T 8 k := fun k => by
    rw [eT, mu_nf _ (by decide), t_moo_8]
    rfl
  have t7a : T2 7 (M 23 c) = T 7 (M 23 c) + 65536 := by rw [eT, mu_eq]
  have t7 : ∀ k, k ≠ M 23 c → T2 7 k = T 7 k := fun k hk => by
    rw [eT, mu_gg (fun z => hk z.2), t_moo_nf _ _ _ (by decide)]
    rfl
  have e20a : M2 20 (M 23 c) = 1 := by
    rw [eM]
    unfold m_up2
    rw [m_mof_nf _ _ (by decide)]
    unfold m_up1
    rw [mu_eq]
  have e20 : ∀ k, k ≠ M 23 c → M2 20 k = M 20 k := fun k hk => by
    rw [eM]
    unfold m_up2
    rw [m_mof_nf _ _ (by decide)]
    unfold m_up1
    rw [mu_gg (fun z => hk z.2), mu_nf _ (by decide), m_up0_nf _ _ _ (by decide)]
  have e26 : ∀ k, M2 26 k = if k = c then 1 else if k < M 22 0 ∧ M 23 k = M 23 c ∧ M 26 k = 0 then 3 else M 26 k := fun k => by
    rw [eM, up2_26 hc22, mUp_at]
  have e0 : ∀ f, f ≠ 26 → f ≠ 20 → M2 f = m_up0 M c qx f := fun f h26 h20 => by
    rw [eM]
    unfold m_up2
    rw [m_mof_nf _ _ h26]
    unfold m_up1
    rw [mu_nf _ h20, mu_nf _ h26]
  obtain ⟨b1, b2, b3, b4⟩ := h0.bo hM c2
  obtain ⟨d1, d2, d3⟩ := h0.q0 hM c2
  have A := ha (M 23 c) c2
  have e17 : M 17 (M 23 c) = 3 * (T 7 (M 23 c) % 4 / 2) + T 7 (M 23 c) % 4 % 2 := A.1
  have hm0 : M 25 c < 2 → mq q0 = 8 * M 17 (M 23 c) + M 18 (M 23 c) := fun e => by rw [hq0, if_pos e, b1]
  have hm2 : M 25 c = 2 → mq q0 = 8 * M 17 (M 23 c) + M 24 c := fun e => by
    rw [hq0, if_neg (by omega), mq_at c3, A.1]
  have q16 : q0 < 16 := by
    rw [hq0]
    split
    · exact b2
    · omega
  have q8 : q0 / 8 = T 7 (M 23 c) % 4 / 2 := by
    rw [hq0]
    split
    · omega
    · omega
  have eo : ∀ t, m_op M2 t = m_op M t := m_op_c (m 1 (by decide)) (m 4 (by decide))
  refine ⟨?_, hp.c (m 2 (by decide)) (tf 0 (by decide)), ht.c (m 3 (by decide)) (m 4 (by decide)) (m 5 (by decide)) (m 6 (by decide)) (m 7 (by decide)) (tf 1 (by decide)), hl.c (m 3 (by decide)) (m 8 (by decide)) (m 9 (by decide)) (tf 2 (by decide)), hb.c (m 8 (by decide)) (m 10 (by decide)) (m 12 (by decide)) (m 15 (by decide)) (tf 3 (by decide)) (tf 4 (by decide)), ?_, ?_, ?_, hd.c (by rw [m 16 (by decide)]; exact Nat.le_refl _) (m 29 (by decide)) (m 30 (by decide)) (m 31 (by decide)) (tf 9 (by decide)), hw.c (m 32 (by decide)) (tf 10 (by decide)), ?_⟩
  · rw [LRg, t11 0 (by decide), t11 1 (by decide), t11 2 (by decide), t11 4 (by decide), t11 5 (by decide), t11 6 (by decide), m 1 (by decide), m 3 (by decide), m 15 (by decide), m 16 (by decide), m 22 (by decide), m 29 (by decide)]
    exact ⟨g0, g1, g2, g3, g4, g5, g6⟩
  · refine hs.ev (kd := M 25 c) (q0 := q0) (qv := qv) c4 q16 (by rw [hq]; split <;> omega) (fun e => by rw [hq, if_neg e]) (by rw [q8]; exact A.2.2.2.1) (by rw [q8]; exact A.2.2.2.2.2.1) ?_ ?_ (m 1 (by decide)) (m 3 (by decide)) (m 4 (by decide)) (m 10 (by decide)) (fun z => ?_) (fun z => ?_) (fun z => ?_) (tf 1 (by decide)) (tf 3 (by decide)) (tf 5 (by decide)) (t11 0 (by decide)) t113 t6n t6
    · rcases Nat.lt_or_ge (M 25 c) 2 with e | e
      · rw [hm0 e, ← b1]; exact d3
      · rw [hm2 (by omega)]; exact (h13 (by omega)).2
    · intro e
      rw [hm2 e]
      have h17 : M 17 (M 23 c) ≤ 17 := hM 17 _
      rcases hX (8 * M 17 (M 23 c) + M 24 c) (by omega) with z | z
      · exact absurd z (h13 e).1
      · exact z
    · rw [e0 11 (by decide) (by decide)]
      unfold m_up0
      by_cases k0 : M 25 c = 0
      · rw [if_pos k0, if_neg (fun q => by omega), mu_nf _ (by decide)]
      · rw [if_neg k0]
        by_cases k1 : M 25 c = 1
        · rw [if_pos k1, ← hm0 (by omega), hq, if_pos k1]
          by_cases e : z = mq q0
          · rw [e, mu_eq, if_pos ⟨k1, rfl⟩]
          · rw [mu_gg (fun q => e q.2), if_neg (fun q => e q.2)]
        · rw [if_neg k1, if_neg (fun q => k1 q.1), mu_nf _ (by decide)]
    · rw [e0 13 (by decide) (by decide)]
      unfold m_up0
      by_cases k0 : M 25 c = 0
      · rw [if_pos k0, if_neg (fun q => by omega), mu_nf _ (by decide)]
      · rw [if_neg k0]
        by_cases k1 : M 25 c = 1
        · rw [if_pos k1, if_neg (fun q => by omega), mu_nf _ (by decide)]
        · rw [if_neg k1, ← hm2 (by omega)]
          by_cases e : z = mq q0
          · rw [e, mu_eq, if_pos ⟨by omega, rfl⟩]
          · rw [mu_gg (fun q => e q.2), if_neg (fun q => e q.2)]
    · rw [e0 14 (by decide) (by decide)]
      unfold m_up0
      by_cases k0 : M 25 c = 0
      · rw [if_pos k0, ← hm0 (by omega)]
        by_cases e : z = mq q0
        · rw [e, mu_eq, if_pos ⟨k0, rfl⟩]
        · rw [mu_gg (fun q => e q.2), if_neg (show ¬ (M 25 c = 0 ∧ z = mq q0) from fun q => e q.2)]
      · rw [if_neg k0, if_neg (show ¬ (M 25 c = 0 ∧ z = mq q0) from fun q => k0 q.1)]
        by_cases k1 : M 25 c = 1
        · rw [if_pos k1, mu_nf _ (by decide)]
        · rw [if_neg k1, mu_nf _ (by decide)]
  · intro k hk
    rw [m 16 (by decide)] at hk
    obtain ⟨a1, a2, a3, a4, a5, a6, a7, a8⟩ := ha k hk
    rw [m 17 (by decide), m 18 (by decide), m 19 (by decide), m 21 (by decide), m 3 (by decide), m 8 (by decide), m 10 (by decide), m 1 (by decide), eo]
    by_cases e : k = M 23 c
    · subst e
      have x4 : T2 7 (M 23 c) % 4 = T 7 (M 23 c) % 4 := by omega
      rw [x4, e20a]
      exact ⟨a1, by omega, a3, a4, a5, a6, a7, a8⟩
    · rw [t7 k e, e20 k e]
      exact ⟨a1, a2, a3, a4, a5, a6, a7, a8⟩
  · intro k hk
    rw [m 22 (by decide)] at hk
    obtain ⟨a1, a2, a3, a4, a5⟩ := hc k hk
    obtain ⟨p1, -, -, p4, -⟩ := h0.cp hM h16 hk
    rw [m 23 (by decide), m 24 (by decide), m 25 (by decide), m 27 (by decide), m 28 (by decide), m 16 (by decide), m 1 (by decide), t8, e26, p1, p4, g5]
    refine ⟨?_, a2, a3, a4, a5⟩
    by_cases e : k = c
    · have ho2 : M 26 k = 0 := by rw [e]; exact ho
      have hP : k < M 22 0 ∧ M 23 k = M 23 c ∧ M 26 k = 0 := ⟨hk, by rw [e], ho2⟩
      simp only [if_pos hP, if_pos e]
      rw [if_neg (show ¬ (1 : Nat) = 2 by decide)]
      rw [ho2, if_neg (show ¬ (0 : Nat) = 2 by decide)] at a1
      omega
    · by_cases e2 : M 23 k = M 23 c ∧ M 26 k = 0
      · have hP : k < M 22 0 ∧ M 23 k = M 23 c ∧ M 26 k = 0 := ⟨hk, e2⟩
        simp only [if_pos hP, if_neg e]
        rw [if_neg (show ¬ (3 : Nat) = 2 by decide)]
        rw [e2.2, if_neg (show ¬ (0 : Nat) = 2 by decide)] at a1
        omega
      · have hP : ¬ (k < M 22 0 ∧ M 23 k = M 23 c ∧ M 26 k = 0) := fun z => e2 z.2
        simp only [if_neg hP, if_neg e]
        exact a1
  · refine ⟨fun k hk => ?_, fun k hk => ?_, by rw [m 29 (by decide), m 31 (by decide)]; exact hz.2.2⟩
    · rw [m 22 (by decide)] at hk
      rw [e26, if_neg (by omega), if_neg (fun z => by omega), m 27 (by decide), m 28 (by decide)]
      exact hz.1 k hk
    · rw [m 16 (by decide)] at hk
      rw [e20 k (by omega), m 21 (by decide)]
      exact hz.2.1 k hk
end LV
