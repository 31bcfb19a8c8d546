/-! days: what opens, what lapses -/
/-- a bidder lacks one of the first n papers on the day of opening -/
def t_lk (T : MS) (q : Nat) : Nat → Bool
  | 0 => false
  | k + 1 => t_lk T q k || (decide (T 1 (q / 8) / 2 ^ (10 + k) % 2 = 1) && decide (T 0 (6 * (q % 4) + k) ≤ T 11 0))
def t_okf (T : MS) (q : Nat) : Nat → MS
  | 0 => T
  | k + 1 => if t_okf T q k 1 (q / 8) / 2 ^ (10 + k) % 2 = 1 ∧ t_okf T q k 0 (6 * (q % 4) + k) ≤ t_okf T q k 11 0 then mu (t_okf T q k) 5 q 1 else t_okf T q k
def t_oqf (T : MS) : Nat → MS
  | 0 => T
  | q + 1 => if q / 8 < t_oqf T q 11 1 ∧ t_oqf T q 1 (q / 8) % 1024 = t_oqf T q 11 0 then t_okf (t_oqf T q) q 6 else t_oqf T q
def t_d0 (T : MS) : MS := t_oqf (mu T 11 0 (T 11 0 + 1)) 16
abbrev t_lpc (T : MS) (a : Nat) : Prop := T 7 a / 131072 = 0 ∧ t_se T a = true ∧ t_su T a + 30 ≤ T 11 0
def t_lpm (T : MS) (a : Nat) : MS := mu (mu (mu (mu T 7 a (T 7 a + 65536)) 10 (T 7 a / 4 % 4) (T 10 (T 7 a / 4 % 4) + (T 2 (T 7 a % 4) - 1))) 6 (T 11 3) (4 * t_bo T a)) 11 3 (T 11 3 + 1)
def t_lp1 (T : MS) (a : Nat) : MS := t_gv (t_lpm T a) (T 7 a % 4)
def t_lpf (T : MS) : Nat → MS
  | 0 => T
  | a + 1 => if t_lpc (t_lpf T a) a then t_lp1 (t_lpf T a) a else t_lpf T a
def t_lpn (T : MS) : Nat → Nat
  | 0 => 0
  | a + 1 => t_lpn T a + (if t_lpc (t_lpf T a) a then 1 else 0)
def t_dy (T : MS) : MS := t_lpf (t_d0 T) (t_d0 T 11 4)
def t_dyf (T : MS) : Nat → MS
  | 0 => T
  | k + 1 => t_dy (t_dyf T k)
def t_dyn (T : MS) : Nat → Nat
  | 0 => 0
  | k + 1 => t_dyn T k + t_lpn (t_d0 (t_dyf T k)) (t_d0 (t_dyf T k) 11 4)
section LD
variable {M T : MS}
theorem t_okf_eq (q : Nat) : ∀ n, t_okf T q n = if t_lk T q n = true then mu T 5 q 1 else T
  | 0 => rfl
  | n + 1 => by
    have i := t_okf_eq q n
    rw [t_okf, t_lk, i]
    by_cases c : t_lk T q n = true
    · have e1 : ∀ f, f ≠ 5 → mu T 5 q 1 f = T f := fun f hf => mu_nf _ hf
      rw [if_pos c, e1 1 (by decide), e1 0 (by decide), e1 11 (by decide), mu_mu, c, Bool.true_or, if_pos (show true = true from rfl)]
      split <;> rfl
    · have c2 : t_lk T q n = false := by simpa using c
      rw [if_neg c, c2]
      by_cases c3 : T 1 (q / 8) / 2 ^ (10 + n) % 2 = 1 ∧ T 0 (6 * (q % 4) + n) ≤ T 11 0
      · rw [if_pos c3, if_pos (by simp [c3])]
      · rw [if_neg c3, if_neg (by simpa using c3)]
theorem t_oqf_nf {f : Nat} (hf : f ≠ 5) : ∀ n, t_oqf T n f = T f
  | 0 => rfl
  | n + 1 => by
    rw [t_oqf]
    split
    · rw [t_okf_eq]
      split
      · rw [mu_nf _ hf]; exact t_oqf_nf hf n
      · exact t_oqf_nf hf n
    · exact t_oqf_nf hf n
theorem t_lk_c {T2 : MS} (e1 : T2 1 = T 1) (e0 : T2 0 = T 0) (e11 : T2 11 = T 11) (q : Nat) : ∀ n, t_lk T2 q n = t_lk T q n
  | 0 => rfl
  | n + 1 => by rw [t_lk, t_lk, t_lk_c e1 e0 e11 q n, e1, e0, e11]
theorem t_oqf_5 : ∀ n r, t_oqf T n 5 r = if r < n ∧ r / 8 < T 11 1 ∧ T 1 (r / 8) % 1024 = T 11 0 ∧ t_lk T r 6 = true then 1 else T 5 r
  | 0, r => by rw [if_neg (fun z => absurd z.1 (Nat.not_lt_zero r))]; rfl
  | n + 1, r => by
    have i := t_oqf_5 n
    have n1 := t_oqf_nf (T := T) (f := 1) (by decide) n
    have n0 := t_oqf_nf (T := T) (f := 0) (by decide) n
    have n11 := t_oqf_nf (T := T) (f := 11) (by decide) n
    rw [t_oqf, n1, n11, t_okf_eq, t_lk_c n1 n0 n11]
    by_cases e : r = n
    · subst e
      have i0 : t_oqf T r 5 r = T 5 r := by rw [i r, if_neg (fun z => absurd z.1 (Nat.lt_irrefl r))]
      by_cases c : r / 8 < T 11 1 ∧ T 1 (r / 8) % 1024 = T 11 0
      · rw [if_pos c]
        by_cases c2 : t_lk T r 6 = true
        · rw [if_pos c2, mu_eq, if_pos ⟨by omega, c.1, c.2, c2⟩]
        · rw [if_neg c2, if_neg (fun z => c2 z.2.2.2), i0]
      · rw [if_neg c, if_neg (fun z => c ⟨z.2.1, z.2.2.1⟩), i0]
    · have e2 : (if t_lk T n 6 = true then mu (t_oqf T n) 5 n 1 else t_oqf T n) 5 r = t_oqf T n 5 r := by
        split
        · exact mu_gg (fun z => e z.2)
        · rfl
      have e3 : (if n / 8 < T 11 1 ∧ T 1 (n / 8) % 1024 = T 11 0 then if t_lk T n 6 = true then mu (t_oqf T n) 5 n 1 else t_oqf T n else t_oqf T n) 5 r = t_oqf T n 5 r := by
        split
        · exact e2
        · rfl
      rw [e3, i r]
      by_cases c : r < n ∧ r / 8 < T 11 1 ∧ T 1 (r / 8) % 1024 = T 11 0 ∧ t_lk T r 6 = true
      · rw [if_pos c, if_pos ⟨by omega, c.2⟩]
      · rw [if_neg c, if_neg (fun z => c ⟨by omega, z.2⟩)]
/-! the reference's opening, told for each bid -/
theorem m_hp_c {M2 : MS} (e2 : M2 2 = M 2) (e4 : M2 4 = M 4) (e5 : M2 5 = M 5) (b t : Nat) : ∀ n, m_hp M2 b t n = m_hp M b t n
  | 0 => rfl
  | n + 1 => by rw [m_hp, m_hp, m_hp_c e2 e4 e5 b t n, e2, e4, e5]
theorem m_opb_13 (t k : Nat) : ∀ n z, m_opb M t k n 13 z = if 8 * (3 * t + k) ≤ z ∧ z < 8 * (3 * t + k) + n then (if m_hp M (z - 8 * (3 * t + k)) t 6 = true then 0 else 1) else M 13 z
  | 0, z => by rw [if_neg (by omega)]; rfl
  | n + 1, z => by
    have i := m_opb_13 t k n
    have eh : m_hp (m_opb M t k n) n t 6 = m_hp M n t 6 := m_hp_c (m_opb_8 M t k (by decide) n) (m_opb_8 M t k (by decide) n) (m_opb_8 M t k (by decide) n) n t 6
    rw [m_opb, eh]
    by_cases e : z = 8 * (3 * t + k) + n
    · subst e
      rw [mu_eq, if_pos (show 8 * (3 * t + k) ≤ 8 * (3 * t + k) + n ∧ 8 * (3 * t + k) + n < 8 * (3 * t + k) + (n + 1) by omega), show 8 * (3 * t + k) + n - 8 * (3 * t + k) = n by omega]
    · rw [mu_gg (fun q => e q.2), i z]
      generalize (if m_hp M (z - 8 * (3 * t + k)) t 6 = true then 0 else 1) = v
      by_cases c : 8 * (3 * t + k) ≤ z ∧ z < 8 * (3 * t + k) + n
      · rw [if_pos c, if_pos (by omega)]
      · rw [if_neg c, if_neg (by omega)]
theorem m_opl_13 (t : Nat) : ∀ n z, m_opl M t n 13 z = if 24 * t ≤ z ∧ z < 24 * t + 8 * n then (if m_hp M (z % 8) t 6 = true then 0 else 1) else M 13 z
  | 0, z => by rw [if_neg (by omega)]; rfl
  | n + 1, z => by
    have i := m_opl_13 t n z
    have eh : ∀ b, m_hp (m_opl M t n) b t 6 = m_hp M b t 6 := fun b => m_hp_c (m_opl_8 M t (by decide) n) (m_opl_8 M t (by decide) n) (m_opl_8 M t (by decide) n) b t 6
    rw [m_opl, m_opb_13, eh, i]
    by_cases c : 8 * (3 * t + n) ≤ z ∧ z < 8 * (3 * t + n) + 8
    · rw [if_pos c, if_pos (show 24 * t ≤ z ∧ z < 24 * t + 8 * (n + 1) by omega), show z - 8 * (3 * t + n) = z % 8 by omega]
    · rw [if_neg c]
      generalize (if m_hp M (z % 8) t 6 = true then 0 else 1) = v
      by_cases c2 : 24 * t ≤ z ∧ z < 24 * t + 8 * n
      · rw [if_pos c2, if_pos (by omega)]
      · rw [if_neg c2, if_neg (by omega)]
theorem m_opt_13 (h8 : ∀ t, M 8 t ≤ 3) : ∀ n z, m_opt M n 13 z = if z / 24 < n ∧ M 4 (z / 24) = M 1 0 ∧ z % 24 < 8 * M 8 (z / 24) then (if m_hp M (z % 8) (z / 24) 6 = true then 0 else 1) else M 13 z
  | 0, z => by rw [if_neg (fun q => absurd q.1 (Nat.not_lt_zero _))]; rfl
  | n + 1, z => by
    have i := m_opt_13 h8 n z
    have k4 := m_opt_nf M (f := 4) (by decide) n
    have k1 := m_opt_nf M (f := 1) (by decide) n
    have k8 := m_opt_nf M (f := 8) (by decide) n
    have eh : ∀ b, m_hp (m_opt M n) b n 6 = m_hp M b n 6 := fun b => m_hp_c (m_opt_nf M (by decide) n) (m_opt_nf M (by decide) n) (m_opt_nf M (by decide) n) b n 6
    have hn := h8 n
    rw [m_opt, k4, k1, k8]
    by_cases c : M 4 n = M 1 0
    · rw [if_pos c, m_opl_13, eh, i]
      by_cases e : z / 24 = n
      · rw [e]
        generalize (if m_hp M (z % 8) n 6 = true then 0 else 1) = v
        by_cases c2 : z % 24 < 8 * M 8 n
        · rw [if_pos (show 24 * n ≤ z ∧ z < 24 * n + 8 * M 8 n by omega), if_pos (show n < n + 1 ∧ M 4 n = M 1 0 ∧ z % 24 < 8 * M 8 n from ⟨by omega, c, c2⟩)]
        · rw [if_neg (show ¬ (24 * n ≤ z ∧ z < 24 * n + 8 * M 8 n) by omega), if_neg (show ¬ (n < n ∧ M 4 n = M 1 0 ∧ z % 24 < 8 * M 8 n) from fun q => absurd q.1 (by omega)), if_neg (show ¬ (n < n + 1 ∧ M 4 n = M 1 0 ∧ z % 24 < 8 * M 8 n) from fun q => c2 q.2.2)]
      · rw [if_neg (show ¬ (24 * n ≤ z ∧ z < 24 * n + 8 * M 8 n) by omega)]
        generalize (if m_hp M (z % 8) (z / 24) 6 = true then 0 else 1) = v
        by_cases c2 : z / 24 < n ∧ M 4 (z / 24) = M 1 0 ∧ z % 24 < 8 * M 8 (z / 24)
        · rw [if_pos c2, if_pos ⟨by omega, c2.2⟩]
        · rw [if_neg c2, if_neg (fun q => c2 ⟨by omega, q.2⟩)]
    · rw [if_neg c, i]
      generalize (if m_hp M (z % 8) (z / 24) 6 = true then 0 else 1) = v
      by_cases c2 : z / 24 < n ∧ M 4 (z / 24) = M 1 0 ∧ z % 24 < 8 * M 8 (z / 24)
      · rw [if_pos c2, if_pos ⟨by omega, c2.2⟩]
      · rw [if_neg c2, if_neg (fun q => c2 ⟨by
          by_cases e : z / 24 = n
          · rw [e] at q; exact absurd q.2.1 c
          · omega, q.2⟩)]
theorem LR.lkf (h : LR M T) (hM : MI M) {q : Nat} (hq : q < 16) (h3 : q / 8 < M 3 0) (hd : M 4 (q / 8) = T 11 0) : ∀ n, n ≤ 6 → t_lk T q n = !m_hp M (q % 4) (q / 8) n
  | 0, _ => rfl
  | n + 1, hn => by
    have e1 := h.2.2.1 (q / 8) h3
    have h4 : M 4 (q / 8) ≤ 1000 := hM 4 _
    have h5 : M 5 (q / 8) ≤ 63 := hM 5 _
    have e0 := h.2.1 (6 * (q % 4) + n) (by omega)
    have eb : T 1 (q / 8) / 2 ^ (10 + n) % 2 = M 5 (q / 8) / 2 ^ n % 2 := by
      rcases (show n = 0 ∨ n = 1 ∨ n = 2 ∨ n = 3 ∨ n = 4 ∨ n = 5 by omega) with rfl | rfl | rfl | rfl | rfl | rfl <;> simp only [Nat.reduceAdd, Nat.reducePow] <;> omega
    rw [t_lk, m_hp, h.lkf hM hq h3 hd n (by omega), eb, e0, hd]
    have h2 : M 5 (q / 8) / 2 ^ n % 2 < 2 := Nat.mod_lt _ (by decide)
    generalize m_hp M (q % 4) (q / 8) n = B
    generalize M 5 (q / 8) / 2 ^ n % 2 = x at h2
    by_cases c : M 2 (6 * (q % 4) + n) ≤ T 11 0
    · rcases (show x = 0 ∨ x = 1 by omega) with rfl | rfl <;> cases B <;> simp [c] <;> omega
    · rcases (show x = 0 ∨ x = 1 by omega) with rfl | rfl <;> cases B <;> simp [c] <;> omega
/-- a new day, and what opens on it -/
theorem LR.day0 (h : LR M T) (hM : MI M) : LR (m_dy0 M) (t_d0 T) := by
  obtain ⟨M2, eM⟩ : ∃ M2 : MS, M2 = m_dy0 M := ⟨_, rfl⟩
  obtain ⟨T2, eT⟩ : ∃ T2 : MS, T2 = t_d0 T := ⟨_, rfl⟩
  rw [← eM, ← eT]
  have h0 := h
  obtain ⟨hg, hp, ht, hl, hb, hs, ha, hc, hd, hw, hz⟩ := h
  obtain ⟨g0, g1, g2, g3, g4, g5, g6⟩ := hg
  have m : ∀ f, f ≠ 1 → f ≠ 13 → M2 f = M f := fun f hf h13 => by
    rw [eM]
    unfold m_dy0
    rw [m_opt_nf _ h13, mu_nf _ hf]
  have m1 : M2 1 0 = M 1 0 + 1 := by rw [eM, m_dy0_1]
  have tf : ∀ f, f ≠ 5 → f ≠ 11 → T2 f = T f := fun f h5 h11 => by
    rw [eT]
    unfold t_d0
    rw [t_oqf_nf h5, mu_nf _ h11]
  have t11 : ∀ i, i ≠ 0 → T2 11 i = T 11 i := fun i hi => by
    rw [eT]
    unfold t_d0
    rw [t_oqf_nf (by decide)]
    simp [mu, hi]
  have t110 : T2 11 0 = M 1 0 + 1 := by
    rw [eT]
    unfold t_d0
    rw [t_oqf_nf (by decide)]
    simp [mu, g0]
  have h8 : ∀ t, M 8 t ≤ 3 := fun t => hM 8 t
  have x5 : ∀ r, r < 16 → T2 5 r = if r / 8 < M 3 0 ∧ M 4 (r / 8) = M 1 0 + 1 ∧ m_hp M (r % 4) (r / 8) 6 = false then 1 else T 5 r := fun r hr => by
    rw [eT]
    unfold t_d0
    rw [t_oqf_5]
    have w1 : mu T 11 0 (T 11 0 + 1) 11 1 = M 3 0 := by simp [mu, g1]
    have w2 : mu T 11 0 (T 11 0 + 1) 11 0 = M 1 0 + 1 := by simp [mu, g0]
    have w3 : mu T 11 0 (T 11 0 + 1) 1 = T 1 := mu_nf _ (by decide)
    have w5 : mu T 11 0 (T 11 0 + 1) 5 = T 5 := mu_nf _ (by decide)
    rw [w1, w2, w3, w5]
    by_cases c1 : r / 8 < M 3 0
    · have e1 := ht (r / 8) c1
      have h4 : M 4 (r / 8) ≤ 1000 := hM 4 _
      have e4 : T 1 (r / 8) % 1024 = M 4 (r / 8) := by omega
      rw [e4]
      by_cases c2 : M 4 (r / 8) = M 1 0 + 1
      · have ek : t_lk (mu T 11 0 (T 11 0 + 1)) r 6 = !m_hp M (r % 4) (r / 8) 6 := by
          have hh : LR (mu M 1 0 (M 1 0 + 1)) (mu T 11 0 (T 11 0 + 1)) → True := fun _ => trivial
          have k : ∀ n, n ≤ 6 → t_lk (mu T 11 0 (T 11 0 + 1)) r n = !m_hp M (r % 4) (r / 8) n := by
            intro n
            induction n with
            | zero => intro _; rfl
            | succ n ih =>
              intro hn
              have e0 := hp (6 * (r % 4) + n) (by omega)
              have h5 : M 5 (r / 8) ≤ 63 := hM 5 _
              have eb : T 1 (r / 8) / 2 ^ (10 + n) % 2 = M 5 (r / 8) / 2 ^ n % 2 := by
                rcases (show n = 0 ∨ n = 1 ∨ n = 2 ∨ n = 3 ∨ n = 4 ∨ n = 5 by omega) with rfl | rfl | rfl | rfl | rfl | rfl <;> simp only [Nat.reduceAdd, Nat.reducePow] <;> omega
              have w0 : mu T 11 0 (T 11 0 + 1) 0 = T 0 := mu_nf _ (by decide)
              rw [t_lk, m_hp, ih (by omega), w3, w0, w2, eb, e0, c2]
              have h2 : M 5 (r / 8) / 2 ^ n % 2 < 2 := Nat.mod_lt _ (by decide)
              generalize m_hp M (r % 4) (r / 8) n = B
              generalize M 5 (r / 8) / 2 ^ n % 2 = x at h2
              by_cases c : M 2 (6 * (r % 4) + n) ≤ M 1 0 + 1
              · have c9 : ¬ M 1 0 + 1 < M 2 (6 * (r % 4) + n) := by omega
                rcases (show x = 0 ∨ x = 1 by omega) with rfl | rfl <;> cases B <;> simp [c, c9]
              · have c9 : M 1 0 + 1 < M 2 (6 * (r % 4) + n) := by omega
                rcases (show x = 0 ∨ x = 1 by omega) with rfl | rfl <;> cases B <;> simp [c, c9]
          exact k 6 (by decide)
        rw [ek]
        by_cases c3 : m_hp M (r % 4) (r / 8) 6 = true
        · rw [c3, if_neg (fun z => absurd z.2.2.2 (by decide)), if_neg (fun z => absurd z.2.2 (by decide))]
        · have c4 : m_hp M (r % 4) (r / 8) 6 = false := by simpa using c3
          rw [c4, if_pos ⟨hr, c1, c2, rfl⟩, if_pos ⟨c1, c2, rfl⟩]
      · rw [if_neg (fun z => c2 z.2.2.1), if_neg (fun z => c2 z.2.1)]
    · rw [if_neg (fun z => c1 z.2.1), if_neg (fun z => c1 z.1)]
  have x13 : ∀ q, q < 16 → M2 13 (mq q) = if q / 8 < M 3 0 ∧ M 4 (q / 8) = M 1 0 + 1 ∧ q / 4 % 2 < M 8 (q / 8) then (if m_hp M (q % 4) (q / 8) 6 = true then 0 else 1) else M 13 (mq q) := fun q hq => by
    have e1 : mq q / 24 = q / 8 := by
      show (8 * (3 * (q / 8) + q / 4 % 2) + q % 4) / 24 = q / 8
      omega
    have e2 : mq q % 24 = 8 * (q / 4 % 2) + q % 4 := by
      show (8 * (3 * (q / 8) + q / 4 % 2) + q % 4) % 24 = _
      omega
    have e3 : mq q % 8 = q % 4 := by
      show (8 * (3 * (q / 8) + q / 4 % 2) + q % 4) % 8 = _
      omega
    have w : ∀ f, f ≠ 1 → mu M 1 0 (M 1 0 + 1) f = M f := fun f hf => mu_nf _ hf
    have w1 : mu M 1 0 (M 1 0 + 1) 1 0 = M 1 0 + 1 := mu_eq _ _ _ _
    rw [eM]
    unfold m_dy0
    rw [m_opt_13 (by rw [w 8 (by decide)]; exact h8), e1, e2, e3, w 4 (by decide), w 8 (by decide), w 13 (by decide), w1, m_hp_c (M := M) (w 2 (by decide)) (w 4 (by decide)) (w 5 (by decide))]
    by_cases c : q / 8 < M 3 0 ∧ M 4 (q / 8) = M 1 0 + 1 ∧ q / 4 % 2 < M 8 (q / 8)
    · rw [if_pos c, if_pos ⟨c.1, c.2.1, by omega⟩]
    · rw [if_neg c, if_neg (fun z => c ⟨z.1, z.2.1, by omega⟩)]
  have op0 : ∀ t, m_op M t = true → m_op M2 t = true := fun t z => by
    unfold m_op at z ⊢
    rw [m 4 (by decide) (by decide), m1]
    rw [decide_eq_true_eq] at z ⊢
    omega
  have op1 : ∀ t, m_op M2 t = true → m_op M t = false → M 4 t = M 1 0 + 1 := fun t z y => by
    unfold m_op at z y
    rw [m 4 (by decide) (by decide), m1, decide_eq_true_eq] at z
    rw [decide_eq_false_iff_not] at y
    omega
  have op2 : ∀ t, m_op M t = true → M 4 t ≠ M 1 0 + 1 := fun t z => by
    unfold m_op at z
    rw [decide_eq_true_eq] at z
    omega
  have lot : ∀ q, q < 16 → 0 < M 10 (mq q) → q / 4 % 2 < M 8 (q / 8) ∧ q / 8 < M 3 0 := fun q hq h1 => by
    have y := hb.2.2.2 (3 * (q / 8) + q / 4 % 2) (q % 4) (by omega)
    have y2 := hl.2.2 (q / 8)
    rw [show (3 * (q / 8) + q / 4 % 2) / 3 = q / 8 by omega, show (3 * (q / 8) + q / 4 % 2) % 3 = q / 4 % 2 by omega] at y
    have y3 : 8 * (3 * (q / 8) + q / 4 % 2) + q % 4 = mq q := rfl
    rw [y3] at y
    omega
  have eto : ∀ t, t < M 3 0 → t_op T2 t = m_op M2 t := fun t h9 => by
    have e1 := ht t h9
    have h4 : M 4 t ≤ 1000 := hM 4 _
    have e4 : T 1 t % 1024 = M 4 t := by omega
    unfold t_op m_op
    rw [tf 1 (by decide) (by decide), e4, t110, m 4 (by decide) (by decide), m1]
  have hs0 := hs
  obtain ⟨s1, s2, s3, s4, s5⟩ := hs
  refine ⟨?_, hp.c (m 2 (by decide) (by decide)) (tf 0 (by decide) (by decide)), ht.c (m 3 (by decide) (by decide)) (m 4 (by decide) (by decide)) (m 5 (by decide) (by decide)) (m 6 (by decide) (by decide)) (m 7 (by decide) (by decide)) (tf 1 (by decide) (by decide)), hl.c (m 3 (by decide) (by decide)) (m 8 (by decide) (by decide)) (m 9 (by decide) (by decide)) (tf 2 (by decide) (by decide)), hb.c (m 8 (by decide) (by decide)) (m 10 (by decide) (by decide)) (m 12 (by decide) (by decide)) (m 15 (by decide) (by decide)) (tf 3 (by decide) (by decide)) (tf 4 (by decide) (by decide)), ?_, ?_, ?_, hd.c (by rw [m 16 (by decide) (by decide)]; exact Nat.le_refl _) (m 29 (by decide) (by decide)) (m 30 (by decide) (by decide)) (m 31 (by decide) (by decide)) (tf 9 (by decide) (by decide)), hw.c (m 32 (by decide) (by decide)) (tf 10 (by decide) (by decide)), hz.c (by rw [m 16 (by decide) (by decide)]; exact Nat.le_refl _) (m 20 (by decide) (by decide)) (m 21 (by decide) (by decide)) (m 22 (by decide) (by decide)) (m 26 (by decide) (by decide)) (m 27 (by decide) (by decide)) (m 28 (by decide) (by decide)) (m 29 (by decide) (by decide)) (m 31 (by decide) (by decide))⟩
  · rw [LRg, t110, t11 1 (by decide), t11 2 (by decide), t11 4 (by decide), t11 5 (by decide), t11 6 (by decide), m1, m 3 (by decide) (by decide), m 15 (by decide) (by decide), m 16 (by decide) (by decide), m 22 (by decide) (by decide), m 29 (by decide) (by decide)]
    exact ⟨rfl, g1, g2, g3, g4, g5, g6⟩
  · have q10 := m 10 (by decide) (by decide)
    have q11 := m 11 (by decide) (by decide)
    have q14 := m 14 (by decide) (by decide)
    have q3 := m 3 (by decide) (by decide)
    have r3 := tf 3 (by decide) (by decide)
    have r6 := tf 6 (by decide) (by decide)
    have r113 := t11 3 (by decide)
    refine ⟨fun q hq => ⟨?_, fun h1 => ?_⟩, fun q hq ho h3 h1 => ?_, fun q hq ho => ?_, fun q hq => ?_, fun k hk => ?_⟩
    · obtain ⟨a1, a2⟩ := s1 q hq
      by_cases h1 : 0 < M 10 (mq q)
      · obtain ⟨l1, l2⟩ := lot q hq h1
        have b1 := (h0.b0 hq).mpr h1
        by_cases c : m_op M (q / 8) = true
        · have z5 : T2 5 q = T 5 q := by rw [x5 q hq, if_neg (fun z => op2 _ c z.2.1)]
          have z13 : M2 13 (mq q) = M 13 (mq q) := by rw [x13 q hq, if_neg (fun z => op2 _ c z.2.1)]
          have zt : t_tk T2 q = t_tk T q := by
            unfold t_tk
            rw [r113]
            exact t_tkf_c (by rw [eto _ l2, op0 _ c, h0.opn hM l2, c]) (by rw [r3]) z5 _ (fun k _ => by rw [r6])
          rw [zt, a1]
          unfold m_tp
          rw [mq_d, c, op0 _ c, q10, z13, q14]
        · have c2 : m_op M (q / 8) = false := by simpa using c
          obtain ⟨y5, y13, y14⟩ := s3 q hq (Or.inr c2)
          have nv := hs0.sealed c2
          unfold t_tk
          rw [r113, t_tkf_no (T := T2) (T 11 3) (fun k hk => by rw [r6]; exact nv k hk), eto _ l2, r3]
          by_cases c3 : m_op M2 (q / 8) = true
          · have d := op1 _ c3 c2
            have z5 : T2 5 q = if m_hp M (q % 4) (q / 8) 6 = false then 1 else 0 := by
              rw [x5 q hq, y5]
              by_cases c4 : m_hp M (q % 4) (q / 8) 6 = false
              · rw [if_pos ⟨l2, d, c4⟩, if_pos c4]
              · rw [if_neg (fun z => c4 z.2.2), if_neg c4]
            have z13 : M2 13 (mq q) = if m_hp M (q % 4) (q / 8) 6 = true then 0 else 1 := by rw [x13 q hq, if_pos ⟨l2, d, l1⟩]
            unfold m_tp
            rw [mq_d, c3, q10, z13, q14, y14, z5]
            rcases m_hp M (q % 4) (q / 8) 6 <;> simp [b1, h1]
          · have c4 : m_op M2 (q / 8) = false := by simpa using c3
            rw [m_tp_cl (by rw [mq_d]; exact c4), c4]
            simp
      · have h2 : M 10 (mq q) = 0 := by omega
        rw [m_tp_no (by rw [q10]; exact h2)]
        have z3 : T 3 q = 0 := (hb.1 q hq).2.1 h2
        have nv : ∀ k, k < T 11 3 → T 6 k / 4 % 16 ≠ q := fun k hk e => by
          have := (s5 k hk).2.2.2.2.2
          rw [e] at this
          omega
        unfold t_tk
        rw [r113, t_tkf_no (T := T2) (T 11 3) (fun k hk => by rw [r6]; exact nv k hk), r3, z3]
        simp
    · rw [q10] at h1
      rw [q11, ← (s1 q hq).2 h1]
      unfold t_qu
      rw [r113]
      exact t_quf_c (by rw [r3]) _ (fun k _ => by rw [r6])
    · rw [q10] at h1
      obtain ⟨l1, l2⟩ := lot q hq h1
      rw [r113, r6]
      by_cases c : m_op M (q / 8) = true
      · rw [x5 q hq, if_neg (fun z => op2 _ c z.2.1), x13 q hq, if_neg (fun z => op2 _ c z.2.1)]
        exact s2 q hq c l2 h1
      · have c2 : m_op M (q / 8) = false := by simpa using c
        obtain ⟨y5, y13, y14⟩ := s3 q hq (Or.inr c2)
        have nv := hs0.sealed c2
        have d := op1 _ ho c2
        rw [x13 q hq, if_pos ⟨l2, d, l1⟩, x5 q hq, y5]
        have nv2 : ∀ k, k < T 11 3 → T 6 k ≠ 2 + 4 * q := fun k hk e => nv k hk (by omega)
        rcases c4 : m_hp M (q % 4) (q / 8) 6 with _ | _
        · rw [if_pos (show q / 8 < M 3 0 ∧ M 4 (q / 8) = M 1 0 + 1 ∧ false = false from ⟨l2, d, rfl⟩), if_neg (show ¬ (false = true) by decide)]
          exact ⟨fun _ => ⟨rfl, nv2⟩, fun _ => by decide⟩
        · rw [if_neg (show ¬ (q / 8 < M 3 0 ∧ M 4 (q / 8) = M 1 0 + 1 ∧ true = false) from fun z => absurd z.2.2 (by decide)), if_pos (show true = true from rfl)]
          exact ⟨fun z => absurd rfl z, fun z => absurd z.1 (by decide)⟩
    · rw [q3] at ho
      have ho2 : M 3 0 ≤ q / 8 ∨ m_op M (q / 8) = false := by
        rcases ho with z | z
        · exact Or.inl z
        · right
          rw [← Bool.not_eq_true]
          intro y
          rw [op0 _ y] at z
          exact absurd z (by decide)
      obtain ⟨y5, y13, y14⟩ := s3 q hq ho2
      have nd : ¬ (q / 8 < M 3 0 ∧ M 4 (q / 8) = M 1 0 + 1) := fun z => by
        rcases ho with y | y
        · omega
        · unfold m_op at y
          rw [m 4 (by decide) (by decide), m1, decide_eq_false_iff_not] at y
          omega
      rw [x5 q hq, if_neg (fun z => nd ⟨z.1, z.2.1⟩), x13 q hq, if_neg (fun z => nd ⟨z.1, z.2.1⟩), q14]
      exact ⟨y5, y13, y14⟩
    · rw [x5 q hq]
      have := s4 q hq
      split <;> omega
    · rw [r113] at hk
      obtain ⟨a1, a2, a3, a4, a5, a6⟩ := s5 k hk
      rw [r6, q3, q10]
      exact ⟨a1, a2, a3, a4, op0 _ a5, a6⟩
  · intro k hk
    rw [m 16 (by decide) (by decide)] at hk
    obtain ⟨c1, c2, c3, c4, c5, c6, c7, c8⟩ := ha k hk
    rw [tf 7 (by decide) (by decide), m 17 (by decide) (by decide), m 18 (by decide) (by decide), m 19 (by decide) (by decide), m 20 (by decide) (by decide), m 21 (by decide) (by decide), m 3 (by decide) (by decide), m 8 (by decide) (by decide), m 10 (by decide) (by decide), m1]
    exact ⟨c1, c2, c3, c4, c5, op0 _ c6, c7, by omega⟩
  · intro k hk
    rw [m 22 (by decide) (by decide)] at hk
    obtain ⟨c1, c2, c3, c4, c5⟩ := hc k hk
    rw [tf 8 (by decide) (by decide), m 23 (by decide) (by decide), m 24 (by decide) (by decide), m 25 (by decide) (by decide), m 26 (by decide) (by decide), m 27 (by decide) (by decide), m 28 (by decide) (by decide), m 16 (by decide) (by decide), m1]
    exact ⟨c1, c2, c3, c4, by omega⟩
end LD
