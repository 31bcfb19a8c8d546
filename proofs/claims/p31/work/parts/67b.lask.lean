/-! the law's numbers beside the class's: what they tell -/
theorem isIx_nn {a n : Nat} (ha : a < 2 ^ 31) (hn : n < 2 ^ 31) : isIx (nI a) n = decide (a < n) := by
  by_cases h : a < n
  · rw [isIx_nI hn h, decide_eq_true h]
  · rw [decide_eq_false h, ← Bool.not_eq_true]
    intro q
    obtain ⟨j, hj, e⟩ := isIx_of hn q
    have := (nI_eq ha (by omega)).mp e
    omega
theorem isIx_neg {x : Int32} {n : Nat} (hn : n < 2 ^ 31) (hx : x < 0) : isIx x n = false := by
  rw [← Bool.not_eq_true]
  intro q
  obtain ⟨j, hj, e⟩ := isIx_of hn q
  subst e
  exact nI_nlt (Nat.zero_le j) (by omega) hx
theorem i_in_nn {a lo hi : Nat} (ha : a < 2 ^ 31) (hh : hi < 2 ^ 31) (hl : lo < 2 ^ 31) : i_in (nI a) (nI lo) (nI hi) = decide (lo ≤ a ∧ a ≤ hi) := by
  by_cases h : lo ≤ a ∧ a ≤ hi
  · rw [i_in_nI hh h.1 h.2, decide_eq_true h]
  · rw [decide_eq_false h, ← Bool.not_eq_true]
    intro q
    obtain ⟨j, h1, h2, e⟩ := i_in_of hh q hl
    have := (nI_eq ha (by omega)).mp e
    subst this
    exact h ⟨h1, h2⟩
theorem i_in_neg {x : Int32} {lo hi : Nat} (hx : x < 0) (hh : hi < 2 ^ 31) (hl : lo < 2 ^ 31) : i_in x (nI lo) (nI hi) = false := by
  rw [← Bool.not_eq_true]
  intro q
  obtain ⟨j, h1, h2, e⟩ := i_in_of hh q hl
  subst e
  exact nI_nlt (Nat.zero_le j) (by omega) hx
section LA
variable {M T : MS}
theorem LR.opn (h : LR M T) (hM : MI M) {t : Nat} (ht : t < M 3 0) : t_op T t = m_op M t := by
  have h1 := h.2.2.1 t ht
  have h4 : M 4 t ≤ 1000 := hM 4 t
  have e : T 1 t % 1024 = M 4 t := by omega
  unfold t_op m_op
  rw [e, h.1.1]
theorem LR.wen (h : LR M T) (hM : MI M) {t : Nat} (ht : t < M 3 0) : t_we T t = M 6 t := by
  have h1 := h.2.2.1 t ht
  have h4 : M 4 t ≤ 1000 := hM 4 t
  have h5 : M 5 t ≤ 63 := hM 5 t
  have h6 : M 6 t ≤ 100 := hM 6 t
  unfold t_we
  omega
theorem LR.sdn (h : LR M T) (hM : MI M) {t : Nat} (ht : t < M 3 0) : T 1 t / 8388608 = M 7 t := by
  have h1 := h.2.2.1 t ht
  have h4 : M 4 t ≤ 1000 := hM 4 t
  have h5 : M 5 t ≤ 63 := hM 5 t
  have h6 : M 6 t ≤ 100 := hM 6 t
  omega
theorem LR.lot3 (h : LR M T) {j : Nat} (hj : T 2 j ≠ 0) (h4 : j < 4) : j % 2 < M 8 (j / 2) ∧ j / 2 < M 3 0 ∧ T 2 j = M 9 (ml j) + 1 := by
  have e := h.2.2.2.1.1 j h4
  have h8 := h.2.2.2.1.2.2 (j / 2)
  by_cases c : j % 2 < M 8 (j / 2)
  · rw [if_pos c] at e
    exact ⟨c, by omega, e⟩
  · rw [if_neg c] at e
    exact absurd e hj
theorem LR.lotB (h : LR M T) (hM : MI M) {j : Nat} (hj : j < 4) : m_isLot M (nI (j / 2)) (nI (j % 2)) = decide (T 2 j ≠ 0) := by
  have h3 : M 3 0 ≤ 2 := h.1.2.2.1
  have e2 := h.2.2.2.1.1 j hj
  have h8 := h.2.2.2.1.2.2 (j / 2)
  have h82 : M 8 (j / 2) ≤ 3 := hM 8 _
  unfold m_isLot
  rw [nI_clamp (by omega), isIx_nn (by omega) (by omega), isIx_nn (by omega) (by omega), e2]
  by_cases c : j % 2 < M 8 (j / 2)
  · have h9 : j / 2 < M 3 0 := by omega
    rw [if_pos c, decide_eq_true c, decide_eq_true h9]
    simp
  · rw [if_neg c, decide_eq_false c]
    simp
theorem m_lt_n {j : Nat} (hj : j < 4) : m_lt (nI (j / 2)) (nI (j % 2)) = ml j := by
  unfold m_lt
  rw [nI_clamp (by omega), nI_clamp (by omega)]
theorem m_at_n {b j : Nat} (hj : j < 4) (hb : b < 8) : m_at (nI b) (nI (j / 2)) (nI (j % 2)) = 8 * ml j + b := by
  unfold m_at
  rw [nI_clamp (by omega), nI_clamp (by omega), nI_clamp (by omega)]
theorem mq_at {b j : Nat} (hb : b < 4) : mq (4 * j + b) = 8 * ml j + b := by
  show 8 * (3 * ((4 * j + b) / 8) + (4 * j + b) / 4 % 2) + (4 * j + b) % 4 = 8 * (3 * (j / 2) + j % 2) + b
  omega
theorem LR.tk (h : LR M T) {q : Nat} (hq : q < 16) : t_tk T q = m_tp M (mq q) := (h.2.2.2.2.2.1.1 q hq).1
theorem LR.qu (h : LR M T) {q : Nat} (hq : q < 16) (h1 : 0 < M 10 (mq q)) : t_qu T q = M 11 (mq q) := (h.2.2.2.2.2.1.1 q hq).2 h1
theorem LR.pr (h : LR M T) {q : Nat} (hq : q < 16) : t_pr T q = M 10 (mq q) := (h.2.2.2.2.1.1 q hq).1
theorem LR.b0 (h : LR M T) {q : Nat} (hq : q < 16) : 0 < T 3 q ↔ 0 < M 10 (mq q) := by
  have h1 := h.2.2.2.2.1.1 q hq
  omega
theorem m_tp_10 {a : Nat} (h : m_tp M a = true) : 0 < M 10 a := by
  simp only [m_tp, Bool.and_eq_true, decide_eq_true_eq] at h
  exact h.1.1.2
theorem m_tp_op {a : Nat} (h : m_tp M a = true) : m_op M (a / 8 / 3) = true := by
  simp only [m_tp, Bool.and_eq_true, decide_eq_true_eq] at h
  exact h.1.1.1
theorem LR.no4 (h : LR M T) {g b : Nat} (h4 : 4 ≤ b) (h8 : b < 8) : m_tp M (8 * g + b) = false := by
  have e := h.2.2.2.2.1.2.2.1 g b h4 h8
  rw [← Bool.not_eq_true]
  intro q
  have := m_tp_10 q
  omega
/-- the least price of those that take part -/
def lsg (M : MS) (g z : Nat) : Nat → Nat
  | 0 => z
  | b + 1 => if m_tp M (8 * g + b) = true ∧ M 10 (8 * g + b) < lsg M g z b then M 10 (8 * g + b) else lsg M g z b
theorem m_lst_g (a : Nat) : ∀ n, m_lst M a n = lsg M (a / 8) (M 10 a) n
  | 0 => rfl
  | n + 1 => by rw [m_lst, lsg, m_lst_g a n]
theorem lsg_min {g z y : Nat} (h : z ≤ y) : ∀ n, lsg M g z n = if z ≤ lsg M g y n then z else lsg M g y n
  | 0 => by
    show z = if z ≤ y then z else y
    rw [if_pos h]
  | n + 1 => by
    have i := lsg_min (g := g) h n
    rw [lsg, lsg]
    by_cases c : m_tp M (8 * g + n) = true
    · simp only [c, true_and]
      by_cases c1 : M 10 (8 * g + n) < lsg M g z n <;> by_cases c2 : M 10 (8 * g + n) < lsg M g y n <;> by_cases c3 : z ≤ lsg M g y n <;> simp only [c1, c2, c3, if_true, if_false] at i ⊢ <;> (try split) <;> omega
    · simp only [c, false_and, if_false]
      exact i
theorem lsg_tk {g z b : Nat} (hb : m_tp M (8 * g + b) = true) : ∀ n, b < n → lsg M g z n ≤ M 10 (8 * g + b)
  | 0, h => by omega
  | n + 1, h => by
    rw [lsg]
    by_cases e : b = n
    · subst e
      split
      · exact Nat.le_refl _
      · next c =>
        have c2 : ¬ M 10 (8 * g + b) < lsg M g z b := fun c3 => c ⟨hb, c3⟩
        omega
    · have i := lsg_tk (z := z) hb n (by omega)
      split <;> omega
theorem lsg_no {g z k : Nat} (h : ∀ b, k ≤ b → b < 8 → m_tp M (8 * g + b) = false) : ∀ n, k ≤ n → n ≤ 8 → lsg M g z n = lsg M g z k
  | 0, h1, _ => by
    obtain rfl : k = 0 := by omega
    rfl
  | n + 1, h1, h2 => by
    by_cases e : k = n + 1
    · rw [e]
    · have i := lsg_no (z := z) h n (by omega) (by omega)
      rw [lsg, if_neg (fun c => by rw [h n (by omega) (by omega)] at c; exact absurd c.1 (by decide))]
      exact i
theorem LR.lsf (h : LR M T) {q : Nat} (hq : q < 16) : ∀ n, n ≤ 4 → t_lsf T q n = lsg M (ml (q / 4)) 1048576 n
  | 0, _ => rfl
  | n + 1, hn => by
    have i := h.lsf hq n (by omega)
    have e : mq (q / 4 * 4 + n) = 8 * ml (q / 4) + n := by
      have := mq_at (j := q / 4) (b := n) (by omega)
      rw [← this, Nat.mul_comm]
    rw [t_lsf, lsg, i, h.tk (by omega), h.pr (by omega), e]
theorem LR.po (h : LR M T) (hM : MI M) {q : Nat} (hq : q < 16) (ht : m_tp M (mq q) = true) (h3 : q / 8 < M 3 0) : t_po T q = m_sc M (mq q) := by
  have e0 : mq q = 8 * ml (q / 4) + q % 4 := by
    show 8 * (3 * (q / 8) + q / 4 % 2) + q % 4 = 8 * (3 * (q / 4 / 2) + q / 4 % 2) + q % 4
    omega
  have e1 : mq q / 8 = ml (q / 4) := by
    rw [e0]
    omega
  have e2 : mq q / 8 / 3 = q / 8 := by
    rw [e1]
    show (3 * (q / 4 / 2) + q / 4 % 2) / 3 = q / 8
    omega
  have e3 : t_lsf T q 4 = m_lst M (mq q) 8 := by
    have h10 : M 10 (mq q) ≤ 100000 := hM 10 _
    rw [h.lsf hq 4 (by omega), m_lst_g, e1, lsg_no (k := 4) (fun b h4 h8 => h.no4 h4 h8) 8 (by omega) (by omega), lsg_min (z := M 10 (mq q)) (y := 1048576) (by omega)]
    have h5 : lsg M (ml (q / 4)) 1048576 4 ≤ M 10 (mq q) := by
      rw [e0]
      exact lsg_tk (by rw [← e0]; exact ht) 4 (by omega)
    split <;> omega
  unfold t_po m_sc
  rw [e3, e2, h.pr hq, h.wen hM h3, h.qu hq (m_tp_10 ht)]
end LA
