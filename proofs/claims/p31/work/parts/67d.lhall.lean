/-! awards, complaints, contracts: the law's numbers beside the class's -/
section LH
variable {M T M2 T2 : MS}
theorem t_tkf_c {q : Nat} (h1 : t_op T2 (q / 8) = t_op T (q / 8)) (h3 : T2 3 q = T 3 q) (h5 : T2 5 q = T 5 q) : ∀ n, (∀ k, k < n → T2 6 k = T 6 k) → t_tkf T2 q n = t_tkf T q n
  | 0, _ => by rw [t_tkf, t_tkf, h1, h3, h5]
  | n + 1, h => by rw [t_tkf, t_tkf, t_tkf_c h1 h3 h5 n (fun k hk => h k (by omega)), h n (by omega)]
theorem t_quf_c {q : Nat} (h3 : T2 3 q = T 3 q) : ∀ n, (∀ k, k < n → T2 6 k = T 6 k) → t_quf T2 q n = t_quf T q n
  | 0, _ => by rw [t_quf, t_quf, h3]
  | n + 1, h => by rw [t_quf, t_quf, t_quf_c h3 n (fun k hk => h k (by omega)), h n (by omega)]
theorem t_tkf_no {q : Nat} : ∀ n, (∀ k, k < n → T 6 k / 4 % 16 ≠ q) → t_tkf T q n = (t_op T (q / 8) && decide (0 < T 3 q) && decide (T 5 q = 0))
  | 0, _ => rfl
  | n + 1, h => by rw [t_tkf, if_neg (fun e => h n (by omega) e.1), t_tkf_no n (fun k hk => h k (by omega))]
theorem t_quf_no {q : Nat} : ∀ n, (∀ k, k < n → T 6 k / 4 % 16 ≠ q) → t_quf T q n = T 3 q / 1048576
  | 0, _ => rfl
  | n + 1, h => by rw [t_quf, if_neg (fun e => h n (by omega) e.1), t_quf_no n (fun k hk => h k (by omega))]
theorem m_op_c (e1 : M2 1 = M 1) (e4 : M2 4 = M 4) (t : Nat) : m_op M2 t = m_op M t := by
  unfold m_op
  rw [e1, e4]
theorem m_tp_c (e1 : M2 1 = M 1) (e4 : M2 4 = M 4) (e10 : M2 10 = M 10) (e13 : M2 13 = M 13) (e14 : M2 14 = M 14) (a : Nat) : m_tp M2 a = m_tp M a := by
  unfold m_tp
  rw [m_op_c e1 e4, e10, e13, e14]
theorem m_tp_no {a : Nat} (h : M 10 a = 0) : m_tp M a = false := by
  rw [← Bool.not_eq_true]
  intro q
  have := m_tp_10 q
  omega
theorem m_tp_cl {a : Nat} (h : m_op M (a / 8 / 3) = false) : m_tp M a = false := by
  rw [← Bool.not_eq_true]
  intro q
  have := m_tp_op q
  rw [h] at this
  exact absurd this (by decide)
theorem mq_d (q : Nat) : mq q / 8 / 3 = q / 8 := by
  show (8 * (3 * (q / 8) + q / 4 % 2) + q % 4) / 8 / 3 = q / 8
  omega
theorem mq_inj {q r : Nat} (h : mq q = mq r) : q = r := by
  have h2 : 8 * (3 * (q / 8) + q / 4 % 2) + q % 4 = 8 * (3 * (r / 8) + r / 4 % 2) + r % 4 := h
  omega
theorem LRp.c (h : LRp M T) (e2 : M2 2 = M 2) (f0 : T2 0 = T 0) : LRp M2 T2 := by
  simp only [LRp, e2, f0]; exact h
theorem LRt.c (h : LRt M T) (e3 : M2 3 = M 3) (e4 : M2 4 = M 4) (e5 : M2 5 = M 5) (e6 : M2 6 = M 6) (e7 : M2 7 = M 7) (f1 : T2 1 = T 1) : LRt M2 T2 := by
  simp only [LRt, e3, e4, e5, e6, e7, f1]; exact h
theorem LRl.c (h : LRl M T) (e3 : M2 3 = M 3) (e8 : M2 8 = M 8) (e9 : M2 9 = M 9) (f2 : T2 2 = T 2) : LRl M2 T2 := by
  simp only [LRl, e3, e8, e9, f2]; exact h
theorem LRb.c (h : LRb M T) (e8 : M2 8 = M 8) (e10 : M2 10 = M 10) (e12 : M2 12 = M 12) (e15 : M2 15 = M 15) (f3 : T2 3 = T 3) (f4 : T2 4 = T 4) : LRb M2 T2 := by
  simp only [LRb, e8, e10, e12, e15, f3, f4]; exact h
theorem LRs.c (h : LRs M T) (e1 : M2 1 = M 1) (e3 : M2 3 = M 3) (e4 : M2 4 = M 4) (e10 : M2 10 = M 10) (e11 : M2 11 = M 11) (e13 : M2 13 = M 13) (e14 : M2 14 = M 14) (f1 : T2 1 = T 1) (f3 : T2 3 = T 3) (f5 : T2 5 = T 5) (f6 : T2 6 = T 6) (f110 : T2 11 0 = T 11 0) (f113 : T2 11 3 = T 11 3) : LRs M2 T2 := by
  have k1 : ∀ t, t_op T2 t = t_op T t := fun t => by unfold t_op; rw [f1, f110]
  have k2 : ∀ q, t_tk T2 q = t_tk T q := fun q => by unfold t_tk; rw [f113]; exact t_tkf_c (k1 _) (by rw [f3]) (by rw [f5]) _ (fun k _ => by rw [f6])
  have k3 : ∀ q, t_qu T2 q = t_qu T q := fun q => by unfold t_qu; rw [f113]; exact t_quf_c (by rw [f3]) _ (fun k _ => by rw [f6])
  have k4 : ∀ a, m_tp M2 a = m_tp M a := m_tp_c e1 e4 e10 e13 e14
  have k5 : ∀ t, m_op M2 t = m_op M t := m_op_c e1 e4
  simp only [LRs, k2, k3, k4, k5, e3, e10, e11, e13, e14, f5, f6, f113]; exact h
theorem LRa.c (h : LRa M T) (e1 : M2 1 = M 1) (e3 : M2 3 = M 3) (e4 : M2 4 = M 4) (e8 : M2 8 = M 8) (e10 : M2 10 = M 10) (e16 : M2 16 = M 16) (e17 : M2 17 = M 17) (e18 : M2 18 = M 18) (e19 : M2 19 = M 19) (e20 : M2 20 = M 20) (e21 : M2 21 = M 21) (f7 : T2 7 = T 7) : LRa M2 T2 := by
  have k5 : ∀ t, m_op M2 t = m_op M t := m_op_c e1 e4
  simp only [LRa, k5, e1, e3, e8, e10, e16, e17, e18, e19, e20, e21, f7]; exact h
theorem LRc.c (h : LRc M T) (e1 : M2 1 = M 1) (e16 : M 16 0 ≤ M2 16 0) (e22 : M2 22 = M 22) (e23 : M2 23 = M 23) (e24 : M2 24 = M 24) (e25 : M2 25 = M 25) (e26 : M2 26 = M 26) (e27 : M2 27 = M 27) (e28 : M2 28 = M 28) (f8 : T2 8 = T 8) : LRc M2 T2 := by
  simp only [LRc, e1, e22, e23, e24, e25, e26, e27, e28, f8]
  intro k hk
  obtain ⟨a1, a2, a3⟩ := h k hk
  exact ⟨a1, by omega, a3⟩
theorem LRd.c (h : LRd M T) (e16 : M 16 0 ≤ M2 16 0) (e29 : M2 29 = M 29) (e30 : M2 30 = M 30) (e31 : M2 31 = M 31) (f9 : T2 9 = T 9) : LRd M2 T2 := by
  simp only [LRd, e29, e30, e31, f9]
  intro k hk
  obtain ⟨a1, a2⟩ := h k hk
  exact ⟨a1, by omega⟩
theorem LRw.c (h : LRw M T) (e32 : M2 32 = M 32) (f10 : T2 10 = T 10) : LRw M2 T2 := by
  simp only [LRw, e32, f10]; exact h
theorem LRz.c (h : LRz M) (e16 : M 16 0 ≤ M2 16 0) (e20 : M2 20 = M 20) (e21 : M2 21 = M 21) (e22 : M2 22 = M 22) (e26 : M2 26 = M 26) (e27 : M2 27 = M 27) (e28 : M2 28 = M 28) (e29 : M2 29 = M 29) (e31 : M2 31 = M 31) : LRz M2 := by
  simp only [LRz, e20, e21, e22, e26, e27, e28, e29, e31]
  exact ⟨h.1, fun a ha => h.2.1 a (by omega), h.2.2⟩
/-! what an award's, a complaint's number holds -/
theorem LR.aw (h : LR M T) (hM : MI M) {a : Nat} (ha : a < M 16 0) : T 7 a / 4 % 4 = M 18 a ∧ T 7 a / 16 % 4096 = M 19 a ∧ T 7 a / 65536 % 2 = M 20 a ∧ T 7 a / 131072 = M 21 a ∧ M 17 a / 3 = T 7 a % 4 / 2 ∧ M 20 a ≤ 1 := by
  obtain ⟨h1, h2, h3, -⟩ := h.2.2.2.2.2.2.1 a ha
  have h19 : M 19 a ≤ 2000 := hM 19 a
  have h20 : M 20 a ≤ 1 := hM 20 a
  have h17 : M 17 a = 3 * (T 7 a % 4 / 2) + T 7 a % 4 % 2 := h1
  omega
theorem LR.gn (h : LR M T) (hM : MI M) {a : Nat} (ha : a < M 16 0) : t_gn T a = decide (M 20 a ≠ 0) := by
  obtain ⟨-, -, h3, -, -, h6⟩ := h.aw hM ha
  unfold t_gn
  rw [h3]
  by_cases c : M 20 a = 0
  · rw [c]; rfl
  · rw [show M 20 a = 1 by omega]; rfl
theorem LR.su (h : LR M T) (hM : MI M) {a : Nat} (ha : a < M 16 0) : t_su T a = m_su M a := by
  obtain ⟨-, h2, -, -, h5, -⟩ := h.aw hM ha
  have h6 := (h.2.2.2.2.2.2.1 a ha).2.2.2.1
  unfold t_su m_su
  rw [h2, h5, h.sdn hM h6]
theorem LR.cp (h : LR M T) (hM : MI M) (h16 : M 16 0 ≤ 32) {k : Nat} (hk : k < M 22 0) : T 8 k % 32 = M 23 k ∧ T 8 k / 32 % 4 = M 24 k ∧ T 8 k / 128 % 4 = M 25 k ∧ T 8 k / 512 % 4 = M 26 k ∧ T 8 k / 2048 % 2 = M 28 k ∧ T 8 k / 4096 = (if M 26 k = 2 then M 27 k else 0) ∧ T 8 k % 4096 = M 23 k + 32 * M 24 k + 128 * M 25 k + 512 * M 26 k + 2048 * M 28 k ∧ T 8 k % 512 = M 23 k + 32 * M 24 k + 128 * M 25 k := by
  obtain ⟨h1, h2, h3, h4, -⟩ := h.2.2.2.2.2.2.2.1 k hk
  have h26 : M 26 k ≤ 3 := hM 26 k
  have h28 : M 28 k ≤ 1 := hM 28 k
  generalize (if M 26 k = 2 then M 27 k else 0) = z at h1 ⊢
  omega
theorem LR.oof (h : LR M T) (hM : MI M) (h16 : M 16 0 ≤ 32) (a : Nat) : ∀ n, n ≤ M 22 0 → t_oof T a n = m_oof M a n
  | 0, _ => rfl
  | n + 1, hn => by
    obtain ⟨h1, -, -, h4, -⟩ := h.cp hM h16 (k := n) (by omega)
    rw [t_oof, m_oof, h.oof hM h16 a n (by omega), h1, h4]
theorem LR.oo (h : LR M T) (hM : MI M) (h16 : M 16 0 ≤ 32) (a : Nat) : t_oo T a = m_oo M a := by
  unfold t_oo m_oo
  rw [h.1.2.2.2.2.2.1, h.oof hM h16 a _ (Nat.le_refl _)]
theorem LR.se (h : LR M T) (hM : MI M) (h16 : M 16 0 ≤ 32) {a : Nat} (ha : a < M 16 0) : t_se T a = m_fn M a := by
  unfold t_se m_fn
  rw [h.gn hM ha, h.oo hM h16, h.su hM ha, h.1.1]
  by_cases c : M 20 a = 0 <;> simp [c]
theorem t_stf_some {j : Nat} : ∀ n a, t_stf T j n = some a → a < n ∧ T 7 a % 4 = j ∧ t_gn T a = false
  | 0, a, h => by cases h
  | n + 1, a, h => by
    rw [t_stf] at h
    rcases e : t_stf T j n with _ | b
    · rw [e] at h
      by_cases c : T 7 n % 4 = j ∧ t_gn T n = false
      · have h2 : (if T 7 n % 4 = j ∧ t_gn T n = false then some n else none) = some a := h
        rw [if_pos c] at h2
        obtain rfl := Option.some.inj h2
        exact ⟨by omega, c⟩
      · have h2 : (if T 7 n % 4 = j ∧ t_gn T n = false then some n else none) = some a := h
        rw [if_neg c] at h2; cases h2
    · rw [e] at h
      obtain rfl : b = a := Option.some.inj h
      have := t_stf_some n b e
      exact ⟨by omega, this.2⟩
theorem t_stf_none {j : Nat} : ∀ n, t_stf T j n = none → ∀ a, a < n → ¬ (T 7 a % 4 = j ∧ t_gn T a = false)
  | 0, _, a, ha => by omega
  | n + 1, h, a, ha => by
    rw [t_stf] at h
    rcases e : t_stf T j n with _ | b
    · rw [e] at h
      have h2 : (if T 7 n % 4 = j ∧ t_gn T n = false then some n else none) = none := h
      by_cases c : T 7 n % 4 = j ∧ t_gn T n = false
      · rw [if_pos c] at h2; cases h2
      · by_cases e2 : a = n
        · rw [e2]; exact c
        · exact t_stf_none n e a (by omega)
    · rw [e] at h; cases h
theorem m_aff_none {g : Nat} : ∀ n, m_aff M g n = none → ∀ a, a < n → ¬ (M 17 a = g ∧ M 20 a = 0)
  | 0, _, a, ha => by omega
  | n + 1, h, a, ha => by
    rw [m_aff] at h
    by_cases c : M 17 n = g ∧ M 20 n = 0
    · rw [if_pos c] at h; cases h
    · rw [if_neg c] at h
      by_cases e : a = n
      · rw [e]; exact c
      · exact m_aff_none n h a (by omega)
theorem ml_inj {i j : Nat} (h : ml i = ml j) : i = j := by
  have h2 : 3 * (i / 2) + i % 2 = 3 * (j / 2) + j % 2 := h
  omega
theorem LR.st (h : LR M T) (hM : MI M) (hU : ∀ a b, a < M 16 0 → b < M 16 0 → M 20 a = 0 → M 20 b = 0 → M 17 a = M 17 b → a = b) {j : Nat} (hj : j < 4) : t_st T j = m_af M (ml j) := by
  have key : ∀ a, a < M 16 0 → ((T 7 a % 4 = j ∧ t_gn T a = false) ↔ (M 17 a = ml j ∧ M 20 a = 0)) := fun a ha => by
    have e1 := (h.2.2.2.2.2.2.1 a ha).1
    rw [h.gn hM ha, e1]
    constructor
    · rintro ⟨q1, q2⟩
      exact ⟨by rw [q1], by simpa using q2⟩
    · rintro ⟨q1, q2⟩
      exact ⟨ml_inj q1, by rw [q2]; rfl⟩
  unfold t_st m_af
  rw [h.1.2.2.2.2.1]
  rcases e : t_stf T j (M 16 0) with _ | a
  · rcases e2 : m_aff M (ml j) (M 16 0) with _ | b
    · rfl
    · obtain ⟨b1, b2⟩ := m_aff_lt M (ml j) _ b e2
      exact absurd ((key b b1).mpr b2) (t_stf_none _ e b b1)
  · obtain ⟨a1, a2⟩ := t_stf_some _ a e
    have a3 := (key a a1).mp a2
    rcases e2 : m_aff M (ml j) (M 16 0) with _ | b
    · exact absurd a3 (m_aff_none _ e2 a a1)
    · obtain ⟨b1, b2⟩ := m_aff_lt M (ml j) _ b e2
      rw [hU a b a1 b1 a3.2 b2.2 (a3.1.trans b2.1.symm)]
theorem LR.bo (h : LR M T) (hM : MI M) {a : Nat} (ha : a < M 16 0) : mq (t_bo T a) = 8 * M 17 a + M 18 a ∧ t_bo T a < 16 ∧ t_bo T a / 4 = T 7 a % 4 ∧ t_bo T a % 4 = M 18 a := by
  obtain ⟨h1, -⟩ := h.aw hM ha
  obtain ⟨h2, -, h3, -⟩ := h.2.2.2.2.2.2.1 a ha
  have h17 : M 17 a = 3 * (T 7 a % 4 / 2) + T 7 a % 4 % 2 := h2
  refine ⟨?_, ?_, ?_, ?_⟩
  · show 8 * (3 * ((4 * (T 7 a % 4) + T 7 a / 4 % 4) / 8) + (4 * (T 7 a % 4) + T 7 a / 4 % 4) / 4 % 2) + (4 * (T 7 a % 4) + T 7 a / 4 % 4) % 4 = _
    omega
  · show 4 * (T 7 a % 4) + T 7 a / 4 % 4 < 16
    omega
  · show (4 * (T 7 a % 4) + T 7 a / 4 % 4) / 4 = _
    omega
  · show (4 * (T 7 a % 4) + T 7 a / 4 % 4) % 4 = _
    omega
end LH
