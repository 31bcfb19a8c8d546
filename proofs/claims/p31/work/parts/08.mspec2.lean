/-! the reference's calls: which exception (k), what answer (r), what it is then (g) -/
theorem nI_nem1 {n : Nat} (h : n < 2 ^ 31) : ¬ nI n = (-1) := by
  intro q
  have h1 := nI_toInt h
  rw [q] at h1
  have h2 : (-1 : Int32).toInt = -1 := by decide
  omega
theorem i_in_of {x : Int32} {a b : Nat} (hb : b < 2 ^ 31) (h : i_in x (nI a) (nI b) = true) (ha : a < 2 ^ 31 := by omega) : ∃ j : Nat, a ≤ j ∧ j ≤ b ∧ x = nI j := by
  simp only [i_in, Bool.and_eq_true, Bool.not_eq_true', decide_eq_false_iff_not] at h
  obtain ⟨h1, h2⟩ := h
  have h0 : ¬ x < 0 := by
    intro q
    apply h1
    rw [Int32.lt_iff_toInt_lt] at q ⊢
    rw [nI_toInt ha]
    have : (0 : Int32).toInt = 0 := by decide
    omega
  obtain ⟨j, hj, rfl⟩ := nI_of h0
  refine ⟨j, ?_, ?_, rfl⟩
  · exact Nat.not_lt.mp fun q => h1 ((nI_ltI hj ha).mpr q)
  · exact Nat.not_lt.mp fun q => h2 ((nI_ltI hb hj).mpr q)
theorem i_in_nI {j a b : Nat} (hb : b < 2 ^ 31) (h1 : a ≤ j) (h2 : j ≤ b) : i_in (nI j) (nI a) (nI b) = true := by
  simp only [i_in, Bool.and_eq_true, Bool.not_eq_true', decide_eq_false_iff_not]
  exact ⟨nI_nlt h1 (by omega), nI_nlt h2 hb⟩
theorem m_isLot_of {M : MS} (hM : MI M) {x y : Int32} (h : m_isLot M x y = true) : ∃ t k : Nat, t < M 3 0 ∧ k < M 8 t ∧ x = nI t ∧ y = nI k := by
  have h3 : M 3 0 ≤ 6 := hM 3 0
  simp only [m_isLot, Bool.and_eq_true] at h
  obtain ⟨h1, h2⟩ := h
  obtain ⟨t, ht, rfl⟩ := isIx_of (by omega) h1
  rw [nI_clamp (by omega)] at h2
  have h8 : M 8 t ≤ 3 := hM 8 t
  obtain ⟨k, hk, rfl⟩ := isIx_of (by omega) h2
  exact ⟨t, k, ht, hk, rfl, rfl⟩
theorem m_isLot_nI {M : MS} (hM : MI M) {t k : Nat} (ht : t < M 3 0) (hk : k < M 8 t) : m_isLot M (nI t) (nI k) = true := by
  have h3 : M 3 0 ≤ 6 := hM 3 0
  have h8 : M 8 t ≤ 3 := hM 8 t
  rw [m_isLot, nI_clamp (by omega), isIx_nI (by omega) ht, isIx_nI (by omega) hk]
  rfl
theorem mu_mu (M : MS) (f i v w : Nat) : mu (mu M f i v) f i w = mu M f i w := by
  funext g j
  unfold mu
  by_cases h : g = f ∧ j = i
  · rw [if_pos h, if_pos h]
  · rw [if_neg h, if_neg h, if_neg h]
theorem mu_gg {M : MS} {f i v g j : Nat} (h : ¬ (g = f ∧ j = i)) : mu M f i v g j = M g j := if_neg h
theorem mu_self (M : MS) (f i : Nat) : mu M f i (M f i) = M := by
  funext g j
  unfold mu
  by_cases h : g = f ∧ j = i
  · rw [if_pos h, h.1, h.2]
  · rw [if_neg h]
/-! opening -/
def m_opb (M : MS) (t k : Nat) : Nat → MS
  | 0 => M
  | b + 1 => mu (m_opb M t k b) 13 (8 * (3 * t + k) + b) (if m_hp (m_opb M t k b) b t 6 = true then 0 else 1)
def m_opl (M : MS) (t : Nat) : Nat → MS
  | 0 => M
  | k + 1 => m_opb (m_opl M t k) t k 8
theorem MI_opb {M : MS} (h : MI M) (t k : Nat) : ∀ b, MI (m_opb M t k b)
  | 0 => h
  | b + 1 => MI_mu (MI_opb h t k b) (by split <;> decide)
theorem MI_opl {M : MS} (h : MI M) (t : Nat) : ∀ k, MI (m_opl M t k)
  | 0 => h
  | k + 1 => MI_opb (MI_opl h t k) t k 8
theorem m_opb_8 (M : MS) (t k : Nat) {f : Nat} (hf : f ≠ 13) : ∀ b, m_opb M t k b f = M f
  | 0 => rfl
  | b + 1 => by
    rw [m_opb, mu_nf _ hf]
    exact m_opb_8 M t k hf b
theorem m_opl_8 (M : MS) (t : Nat) {f : Nat} (hf : f ≠ 13) : ∀ b, m_opl M t b f = M f
  | 0 => rfl
  | b + 1 => by
    rw [m_opl, m_opb_8 _ _ _ hf]
    exact m_opl_8 M t hf b
/-! awards anew, lapses, days -/
def m_gv (M : MS) (lot : Nat) : MS := match m_rk M lot 0 with
  | none => M
  | some b => mu (mu (mu (mu M 17 (M 16 0) lot) 18 (M 16 0) b) 19 (M 16 0) (M 1 0)) 16 0 (M 16 0 + 1)
def m_gvr (M : MS) (lot : Nat) : Int32 := match m_rk M lot 0 with
  | none => -1
  | some _ => nI (M 16 0)
theorem m_rk_lt {M : MS} {lot place b : Nat} (h : m_rk M lot place = some b) : b < 8 ∧ m_tp M (8 * lot + b) = true ∧ m_ah M lot b 8 = place := m_rkf_lt M lot place 8 b h
theorem MI_gv {M : MS} (h : MI M) {lot : Nat} (hl : lot < 18) (ha : M 16 0 < 60) : MI (m_gv M lot) := by
  unfold m_gv
  split
  · exact h
  · next b hb =>
    have h1 := (m_rk_lt hb).1
    have h2 : M 1 0 ≤ 2000 := h 1 0
    exact MI_mu (MI_mu (MI_mu (MI_mu h (by show lot ≤ 17; omega)) (by show b ≤ 7; omega)) (by show M 1 0 ≤ 2000; omega)) (by show M 16 0 + 1 ≤ 60; omega)
theorem m_gv_nf (M : MS) (lot : Nat) {f : Nat} (h : f ≠ 16 ∧ f ≠ 17 ∧ f ≠ 18 ∧ f ≠ 19) : m_gv M lot f = M f := by
  unfold m_gv
  cases m_rk M lot 0 with
  | none => rfl
  | some b => show mu (mu (mu (mu M 17 (M 16 0) lot) 18 (M 16 0) b) 19 (M 16 0) (M 1 0)) 16 0 (M 16 0 + 1) f = M f; rw [mu_nf _ h.1, mu_nf _ h.2.2.2, mu_nf _ h.2.2.1, mu_nf _ h.2.1]
def m_lp1 (M : MS) (a : Nat) : MS := m_gv (mu (mu (mu M 20 a 1) 32 (M 18 a) (M 32 (M 18 a) + M 9 (M 17 a))) 14 (8 * M 17 a + M 18 a) 1) (M 17 a)
def m_lpc (M : MS) (a : Nat) : Bool := decide (M 16 0 < 60) && decide (M 21 a = 0) && m_fn M a && decide (m_su M a + 30 ≤ M 1 0)
def m_lpf (M : MS) : Nat → MS
  | 0 => M
  | a + 1 => if m_lpc (m_lpf M a) a = true then m_lp1 (m_lpf M a) a else m_lpf M a
def m_lpn (M : MS) : Nat → Nat
  | 0 => 0
  | a + 1 => m_lpn M a + (if m_lpc (m_lpf M a) a = true then 1 else 0)
def m_lp (M : MS) : MS := m_lpf M (M 16 0)
theorem m_lpn_le (M : MS) : ∀ a, m_lpn M a ≤ a
  | 0 => Nat.le_refl _
  | a + 1 => by
    have := m_lpn_le M a
    rw [m_lpn]
    split <;> omega
/-- what lapses need of the start: what was lost so far is small -/
def m_lost (M : MS) (z : Nat) : Prop := ∀ b, M 32 b ≤ z
theorem m_lp1_nf (M : MS) (a : Nat) {f : Nat} (h : f ≠ 14 ∧ f ≠ 16 ∧ f ≠ 17 ∧ f ≠ 18 ∧ f ≠ 19 ∧ f ≠ 20 ∧ f ≠ 32) : m_lp1 M a f = M f := by
  obtain ⟨h14, h16, h17, h18, h19, h20, h32⟩ := h
  unfold m_lp1
  rw [m_gv_nf _ _ ⟨h16, h17, h18, h19⟩, mu_nf _ h14, mu_nf _ h32, mu_nf _ h20]
theorem m_lp1_lost {M : MS} (h : MI M) (a : Nat) {z : Nat} (hz : m_lost M z) : m_lost (m_lp1 M a) (z + 10000) := by
  intro b
  have h9 : M 9 (M 17 a) ≤ 10000 := h 9 _
  have h1 : m_lp1 M a 32 b = mu (mu M 20 a 1) 32 (M 18 a) (M 32 (M 18 a) + M 9 (M 17 a)) 32 b := by
    unfold m_lp1
    rw [m_gv_nf _ _ (by decide), mu_nf _ (by decide)]
  rw [h1]
  by_cases q : b = M 18 a
  · rw [q, mu_eq]
    have := hz (M 18 a)
    omega
  · rw [mu_gg (fun z => q z.2), mu_nf _ (by decide)]
    have := hz b
    omega
theorem MI_lp1 {M : MS} (h : MI M) {a : Nat} (ha : M 16 0 < 60) {z : Nat} (hz : m_lost M z) (hz2 : z + 10000 ≤ 1200000000 := by omega) : MI (m_lp1 M a) := by
  have h9 : M 9 (M 17 a) ≤ 10000 := h 9 _
  have h17 : M 17 a ≤ 17 := h 17 _
  have h18 := hz (M 18 a)
  unfold m_lp1
  refine MI_gv (MI_mu (MI_mu (MI_mu h (by decide)) (by show _ ≤ 1200000000; omega)) (by decide)) (by omega) ?_
  rw [mu_nf _ (by decide), mu_nf _ (by decide), mu_nf _ (by decide)]
  exact ha
theorem m_lpf_inv {M : MS} (h : MI M) {z : Nat} (hz : m_lost M z) : ∀ a, z + 10000 * a ≤ 1200000000 → MI (m_lpf M a) ∧ m_lost (m_lpf M a) (z + 10000 * a)
  | 0, _ => ⟨h, by simpa [m_lpf] using hz⟩
  | a + 1, h2 => by
    obtain ⟨i1, i2⟩ := m_lpf_inv h hz a (by omega)
    rw [m_lpf]
    split
    · next q =>
      have q1 : m_lpf M a 16 0 < 60 := by
        simp only [m_lpc, Bool.and_eq_true, decide_eq_true_eq] at q
        exact q.1.1.1
      have hz3 : z + 10000 * a + 10000 ≤ 1200000000 := Nat.le_trans (Nat.le_of_eq (by rw [Nat.mul_succ, Nat.add_assoc])) h2
      refine ⟨MI_lp1 i1 q1 i2 hz3, ?_⟩
      have := m_lp1_lost i1 a i2
      rw [show z + 10000 * (a + 1) = z + 10000 * a + 10000 by omega]
      exact this
    · exact ⟨i1, fun b => by have := i2 b; omega⟩
theorem m_lpf_nf (M : MS) {f : Nat} (h : f ≠ 14 ∧ f ≠ 16 ∧ f ≠ 17 ∧ f ≠ 18 ∧ f ≠ 19 ∧ f ≠ 20 ∧ f ≠ 32) : ∀ a, m_lpf M a f = M f
  | 0 => rfl
  | a + 1 => by
    rw [m_lpf]
    split
    · rw [m_lp1_nf _ _ h]; exact m_lpf_nf M h a
    · exact m_lpf_nf M h a
def m_opt (M : MS) : Nat → MS
  | 0 => M
  | t + 1 => if m_opt M t 4 t = m_opt M t 1 0 then m_opl (m_opt M t) t (m_opt M t 8 t) else m_opt M t
theorem m_opt_nf (M : MS) {f : Nat} (hf : f ≠ 13) : ∀ t, m_opt M t f = M f
  | 0 => rfl
  | t + 1 => by
    rw [m_opt]
    split
    · rw [m_opl_8 _ _ hf]; exact m_opt_nf M hf t
    · exact m_opt_nf M hf t
theorem MI_opt {M : MS} (h : MI M) : ∀ t, MI (m_opt M t)
  | 0 => h
  | t + 1 => by
    rw [m_opt]
    split
    · exact MI_opl (MI_opt h t) t _
    · exact MI_opt h t
def m_dy0 (M : MS) : MS := m_opt (mu M 1 0 (M 1 0 + 1)) (M 3 0)
def m_dy (M : MS) : MS := m_lp (m_dy0 M)
def m_dyf (M : MS) : Nat → MS
  | 0 => M
  | k + 1 => m_dy (m_dyf M k)
def m_dyn (M : MS) : Nat → Nat
  | 0 => 0
  | k + 1 => m_dyn M k + m_lpn (m_dy0 (m_dyf M k)) (m_dy0 (m_dyf M k) 16 0)
/-- what days need: what was lost is bounded by the days -/
def m_LB (M : MS) : Prop := m_lost M (M 1 0 * 600000)
theorem m_dy0_1 (M : MS) : m_dy0 M 1 0 = M 1 0 + 1 := by
  unfold m_dy0
  rw [m_opt_nf _ (by decide), mu_eq]
theorem MI_dy0 {M : MS} (h : MI M) (h1 : M 1 0 < 2000) : MI (m_dy0 M) := MI_opt (MI_mu h (by show M 1 0 + 1 ≤ 2000; omega)) _
theorem m_dy0_32 (M : MS) : m_dy0 M 32 = M 32 := by
  unfold m_dy0
  rw [m_opt_nf _ (by decide), mu_nf _ (by decide)]
theorem m_dy_inv {M : MS} (h : MI M) (h1 : M 1 0 < 2000) (hz : m_LB M) : MI (m_dy M) ∧ m_LB (m_dy M) ∧ m_dy M 1 0 = M 1 0 + 1 := by
  have i0 := MI_dy0 h h1
  have i16 : m_dy0 M 16 0 ≤ 60 := i0 16 0
  have hz2 : m_lost (m_dy0 M) (M 1 0 * 600000) := by
    intro b
    rw [m_dy0_32]
    exact hz b
  obtain ⟨j1, j2⟩ := m_lpf_inv i0 hz2 (m_dy0 M 16 0) (by omega)
  have e1 : m_dy M 1 0 = M 1 0 + 1 := by
    unfold m_dy m_lp
    rw [m_lpf_nf _ (by decide), m_dy0_1]
  refine ⟨j1, ?_, e1⟩
  intro b
  rw [e1]
  have := j2 b
  show m_lpf (m_dy0 M) (m_dy0 M 16 0) 32 b ≤ _
  omega
theorem m_dyf_inv {M : MS} (h : MI M) (hz : m_LB M) : ∀ k, M 1 0 + k ≤ 2000 → MI (m_dyf M k) ∧ m_LB (m_dyf M k) ∧ m_dyf M k 1 0 = M 1 0 + k
  | 0, _ => ⟨h, hz, rfl⟩
  | k + 1, h2 => by
    obtain ⟨i1, i2, i3⟩ := m_dyf_inv h hz k (by omega)
    have := m_dy_inv i1 (by omega) i2
    rw [i3] at this
    exact this
theorem m_dyn_le {M : MS} (h : MI M) (hz : m_LB M) : ∀ k, M 1 0 + k ≤ 2000 → m_dyn M k ≤ 60 * k
  | 0, _ => Nat.le_refl _
  | k + 1, h2 => by
    have i := m_dyf_inv h hz k (by omega)
    have i0 := MI_dy0 i.1 (by omega)
    have i16 : m_dy0 (m_dyf M k) 16 0 ≤ 60 := i0 16 0
    have := m_dyn_le h hz k (by omega)
    have h3 := m_lpn_le (m_dy0 (m_dyf M k)) (m_dy0 (m_dyf M k) 16 0)
    rw [m_dyn]
    omega
