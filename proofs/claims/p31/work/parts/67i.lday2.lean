/-! days: what lapses, and how often -/
def LTb (T : MS) : Prop := ∀ f i, T f i ≤ lcap f
theorem LTb_mu {T : MS} (h : LTb T) {f i v : Nat} (hv : v ≤ lcap f) : LTb (mu T f i v) := by
  intro g j
  by_cases q : g = f ∧ j = i
  · rw [show mu T f i v g j = v from if_pos q, q.1]; exact hv
  · rw [show mu T f i v g j = T g j from if_neg q]; exact h g j
/-- one award stands in a lot at most -/
def UQ (M : MS) : Prop := ∀ a b, a < M 16 0 → b < M 16 0 → M 20 a = 0 → M 20 b = 0 → M 17 a = M 17 b → a = b
/-- since the day d0 (k days ago) c j awards of lot j lapsed: none of them younger than 30 days -/
def DI (d0 A0 E0 k : Nat) (M T : MS) : Prop := UQ M ∧ ∃ c : Nat → Nat, M 16 0 ≤ A0 + (c 0 + c 1 + c 2 + c 3) ∧ T 11 3 = E0 + (c 0 + c 1 + c 2 + c 3) ∧ ∀ j, j < 4 → 30 * c j ≤ k + 29 ∧ (1 ≤ c j → ∀ a, a < M 16 0 → M 17 a = ml j → M 20 a = 0 → d0 + 1 + 30 * c j ≤ M 19 a + 30)
section LE
variable {M T : MS} {d0 A0 E0 k : Nat}
theorem DI.start (h : UQ M) : DI d0 (M 16 0) (T 11 3) 0 M T := ⟨h, fun _ => 0, Nat.le_refl _, rfl, fun j _ => ⟨Nat.zero_le _, fun q => absurd q (show ¬ 1 ≤ 0 by decide)⟩⟩
theorem DI.bd (h : DI d0 A0 E0 k M T) (hk : k ≤ 40) : M 16 0 ≤ A0 + 8 ∧ T 11 3 ≤ E0 + 8 := by
  obtain ⟨-, c, h1, h2, h3⟩ := h
  have c0 := (h3 0 (by decide)).1
  have c1 := (h3 1 (by decide)).1
  have c2 := (h3 2 (by decide)).1
  have c3 := (h3 3 (by decide)).1
  omega
theorem m_dy0_nf {f : Nat} (h1 : f ≠ 1) (h13 : f ≠ 13) : m_dy0 M f = M f := by
  unfold m_dy0
  rw [m_opt_nf _ h13, mu_nf _ h1]
theorem t_d0_nf {f : Nat} (h5 : f ≠ 5) (h11 : f ≠ 11) : t_d0 T f = T f := by
  unfold t_d0
  rw [t_oqf_nf h5, mu_nf _ h11]
theorem t_d0_11 {i : Nat} (hi : i ≠ 0) : t_d0 T 11 i = T 11 i := by
  unfold t_d0
  rw [t_oqf_nf (by decide)]
  simp [mu, hi]
theorem DI.day (h : DI d0 A0 E0 k M T) : DI d0 A0 E0 (k + 1) (m_dy0 M) (t_d0 T) := by
  obtain ⟨h0, c, h1, h2, h3⟩ := h
  unfold DI UQ
  rw [m_dy0_nf (by decide) (by decide), m_dy0_nf (f := 17) (by decide) (by decide), m_dy0_nf (f := 19) (by decide) (by decide), m_dy0_nf (f := 20) (by decide) (by decide), t_d0_11 (by decide)]
  exact ⟨h0, c, h1, h2, fun j hj => ⟨by have := (h3 j hj).1; omega, (h3 j hj).2⟩⟩
theorem t_gv_nf (T : MS) (j : Nat) {f : Nat} (h7 : f ≠ 7) (h11 : f ≠ 11) : t_gv T j f = T f := by
  unfold t_gv
  rcases t_best T j 0 with _ | b
  · rfl
  · show mu (mu T 7 (T 11 4) (j + 4 * (b % 4) + 16 * T 11 0)) 11 4 (T 11 4 + 1) f = T f
    rw [mu_nf _ h11, mu_nf _ h7]
theorem t_gv_11 (T : MS) (j : Nat) {i : Nat} (hi : i ≠ 4) : t_gv T j 11 i = T 11 i := by
  unfold t_gv
  rcases t_best T j 0 with _ | b
  · rfl
  · show mu (mu T 7 (T 11 4) (j + 4 * (b % 4) + 16 * T 11 0)) 11 4 (T 11 4 + 1) 11 i = T 11 i
    simp [mu, hi]
theorem LTb_gv (h : LTb T) {j : Nat} (hj : j < 4) (h4 : T 11 4 < 2000) : LTb (t_gv T j) := by
  have h0 : T 11 0 ≤ 2000 := h 11 0
  unfold t_gv
  split
  · exact h
  · exact LTb_mu (LTb_mu h (by show _ ≤ 16777215; omega)) (by show _ ≤ 2000; omega)
/-- what a lapse does to the awards -/
theorem lp1_aw (hz : LRz M) {a : Nat} (ha : a < M 16 0) : (∀ x, x < M 16 0 → m_lp1 M a 17 x = M 17 x ∧ m_lp1 M a 19 x = M 19 x ∧ m_lp1 M a 20 x = if x = a then 1 else M 20 x) ∧ (m_lp1 M a 16 0 = M 16 0 ∨ m_lp1 M a 16 0 = M 16 0 + 1 ∧ m_lp1 M a 17 (M 16 0) = M 17 a ∧ m_lp1 M a 19 (M 16 0) = M 1 0) := by
  obtain ⟨X, eX⟩ : ∃ X : MS, X = mu (mu (mu M 20 a 1) 32 (M 18 a) (M 32 (M 18 a) + M 9 (M 17 a))) 14 (8 * M 17 a + M 18 a) 1 := ⟨_, rfl⟩
  have x16 : X 16 0 = M 16 0 := by rw [eX]; simp [mu]
  have x17 : ∀ x, X 17 x = M 17 x := fun x => by rw [eX]; simp [mu]
  have x19 : ∀ x, X 19 x = M 19 x := fun x => by rw [eX]; simp [mu]
  have x20 : ∀ x, X 20 x = if x = a then 1 else M 20 x := fun x => by rw [eX]; simp [mu]
  have x1 : X 1 0 = M 1 0 := by rw [eX]; simp [mu]
  have e : m_lp1 M a = m_gv X (M 17 a) := by rw [eX]; rfl
  rw [e]
  unfold m_gv
  rcases m_rk X (M 17 a) 0 with _ | b
  · exact ⟨fun x _ => ⟨x17 x, x19 x, x20 x⟩, Or.inl x16⟩
  · refine ⟨fun x hx => ?_, Or.inr ?_⟩
    · have hne : ¬ x = X 16 0 := by omega
      have hne2 : ¬ x = M 16 0 := by omega
      refine ⟨?_, ?_, ?_⟩
      · simp [mu, hne, hne2, x17, x16]
      · simp [mu, hne, hne2, x19, x16]
      · simp [mu, x20]
    · refine ⟨?_, ?_, ?_⟩
      · simp [mu, x16]
      · simp [mu, x16]
      · simp [mu, x16, x1]
theorem DI.lapse (h : DI d0 A0 E0 k M T) (hR : LR M T) (hd : M 1 0 = d0 + k) (hk : 1 ≤ k) {a : Nat} (ha : a < M 16 0) (hv : M 20 a = 0) (hs : m_su M a + 30 ≤ M 1 0) : DI d0 A0 E0 k (m_lp1 M a) (t_lp1 T a) := by
  obtain ⟨h0, c, h1, h2, h3⟩ := h
  obtain ⟨w1, w2⟩ := lp1_aw hR.2.2.2.2.2.2.2.2.2.2 ha
  have e17 : M 17 a = ml (T 7 a % 4) := (hR.2.2.2.2.2.2.1 a ha).1
  obtain ⟨j, ej⟩ : ∃ j, j = T 7 a % 4 := ⟨_, rfl⟩
  rw [← ej] at e17
  have hj : j < 4 := by omega
  have hsu : M 19 a + 30 ≤ M 1 0 := by
    unfold m_su at hs
    omega
  have cj := h3 j hj
  have c30 : 30 * (c j + 1) ≤ k + 29 := by
    by_cases q : 1 ≤ c j
    · have := cj.2 q a ha e17 hv
      omega
    · omega
  have t3 : t_lp1 T a 11 3 = T 11 3 + 1 := by
    unfold t_lp1
    rw [t_gv_11 _ _ (by decide)]
    unfold t_lpm
    rw [mu_eq]
  -- a standing award behind the lapse
  have key : ∀ x, x < m_lp1 M a 16 0 → m_lp1 M a 20 x = 0 → (x < M 16 0 ∧ x ≠ a ∧ M 20 x = 0 ∧ m_lp1 M a 17 x = M 17 x ∧ m_lp1 M a 19 x = M 19 x) ∨ (x = M 16 0 ∧ m_lp1 M a 17 x = ml j ∧ m_lp1 M a 19 x = M 1 0) := fun x hx h20 => by
    rcases Nat.lt_or_ge x (M 16 0) with q | q
    · obtain ⟨y1, y2, y3⟩ := w1 x q
      rw [y3] at h20
      by_cases e : x = a
      · rw [if_pos e] at h20; exact absurd h20 (by decide)
      · rw [if_neg e] at h20
        exact Or.inl ⟨q, e, h20, y1, y2⟩
    · rcases w2 with y | ⟨y1, y2, y3⟩
      · omega
      · have e : x = M 16 0 := by omega
        subst e
        exact Or.inr ⟨rfl, by rw [y2, e17], y3⟩
  refine ⟨fun x y hx hy h20 g20 e => ?_, fun i => if i = j then c i + 1 else c i, ?_, ?_, fun i hi => ⟨?_, fun hc x hx hl h20 => ?_⟩⟩
  · rcases key x hx h20 with ⟨a1, a2, a3, a4, -⟩ | ⟨a1, a2, -⟩ <;> rcases key y hy g20 with ⟨b1, b2, b3, b4, -⟩ | ⟨b1, b2, -⟩
    · exact h0 x y a1 b1 a3 b3 (by rw [← a4, ← b4]; exact e)
    · exact absurd (h0 x a a1 ha a3 hv (by rw [← a4, e, b2, e17])) a2
    · exact absurd (h0 y a b1 ha b3 hv (by rw [← b4, ← e, a2, e17])) b2
    · omega
  · have s16 : m_lp1 M a 16 0 ≤ M 16 0 + 1 := by
      rcases w2 with y | ⟨y, -⟩ <;> omega
    rcases (show j = 0 ∨ j = 1 ∨ j = 2 ∨ j = 3 by omega) with q | q | q | q <;> simp [q] <;> omega
  · rw [t3]
    rcases (show j = 0 ∨ j = 1 ∨ j = 2 ∨ j = 3 by omega) with q | q | q | q <;> simp [q] <;> omega
  · show 30 * (if i = j then c i + 1 else c i) ≤ k + 29
    split
    · next q => rw [q]; exact c30
    · exact (h3 i hi).1
  · have hc2 : 1 ≤ (if i = j then c i + 1 else c i) := hc
    show d0 + 1 + 30 * (if i = j then c i + 1 else c i) ≤ _
    rcases key x hx h20 with ⟨a1, a2, a3, a4, a5⟩ | ⟨a1, a2, a3⟩
    · by_cases q : i = j
      · subst q
        exact absurd (h0 x a a1 ha a3 hv (by rw [← a4, hl, e17])) a2
      · rw [if_neg q] at hc2 ⊢
        rw [a5]
        exact (h3 i hi).2 hc2 x a1 (by rw [← a4, hl]) a3
    · have q : i = j := ml_inj (by rw [← hl, a2])
      subst q
      rw [if_pos rfl, a3]
      omega
theorem LR.lpc (h : LR M T) (hM : MI M) (h16 : M 16 0 ≤ 32) {a : Nat} (ha : a < M 16 0) : t_lpc T a ↔ m_lpc M a = true := by
  obtain ⟨-, -, -, e21, -⟩ := h.aw hM ha
  unfold t_lpc m_lpc
  rw [e21, h.se hM h16 ha, h.su hM ha, h.1.1]
  simp only [Bool.and_eq_true, decide_eq_true_eq]
  exact ⟨fun q => ⟨⟨⟨by omega, q.1⟩, q.2.1⟩, q.2.2⟩, fun q => ⟨q.1.1.2, q.1.2, q.2⟩⟩
theorem LR.lpm (h : LR M T) (hM : MI M) {a : Nat} (ha : a < M 16 0) (hv : M 20 a = 0) : LR (mu (mu (mu M 20 a 1) 32 (M 18 a) (M 32 (M 18 a) + M 9 (M 17 a))) 14 (8 * M 17 a + M 18 a) 1) (t_lpm T a) := by
  obtain ⟨e18, -⟩ := h.aw hM ha
  obtain ⟨c1, -, -, -, c5, -⟩ := h.2.2.2.2.2.2.1 a ha
  have e2 := h.2.2.2.1.1 (T 7 a % 4) (by omega)
  rw [if_pos c5, ← c1] at e2
  unfold t_lpm
  rw [e18, e2, Nat.add_sub_cancel]
  exact h.lapS hM ha hv
theorem LTb_lpm (h : LTb T) (hR : LR M T) (hM : MI M) {a : Nat} (ha : a < M 16 0) (hv : M 20 a = 0) (hM32 : M 32 (M 18 a) + M 9 (M 17 a) ≤ 1200000000) (h3 : T 11 3 < 2000) : LTb (t_lpm T a) := by
  obtain ⟨e18, -⟩ := hR.aw hM ha
  obtain ⟨c1, c2, c3, -, c5, -⟩ := hR.2.2.2.2.2.2.1 a ha
  have e2 := hR.2.2.2.1.1 (T 7 a % 4) (by omega)
  rw [if_pos c5, ← c1] at e2
  have e10 := hR.2.2.2.2.2.2.2.2.2.1 (M 18 a) c3
  have h19 : M 19 a ≤ 2000 := hM 19 a
  have h21 : M 21 a ≤ 60 := hM 21 a
  obtain ⟨-, b2, -⟩ := hR.bo hM ha
  unfold t_lpm
  rw [e18, e2, Nat.add_sub_cancel, e10]
  refine LTb_mu (LTb_mu (LTb_mu (LTb_mu h ?_) ?_) ?_) ?_
  · show _ ≤ 16777215
    omega
  · exact hM32
  · show _ ≤ 8191
    omega
  · show _ ≤ 2000
    omega
theorem MI_lpm {z : Nat} (hM : MI M) {a : Nat} (hz : m_lost M z) (hz2 : z + 10000 ≤ 1200000000) : MI (mu (mu (mu M 20 a 1) 32 (M 18 a) (M 32 (M 18 a) + M 9 (M 17 a))) 14 (8 * M 17 a + M 18 a) 1) := by
  have h9 : M 9 (M 17 a) ≤ 10000 := hM 9 _
  have h32 := hz (M 18 a)
  exact MI_mu (MI_mu (MI_mu hM (by decide)) (by show _ ≤ 1200000000; omega)) (by decide)
/-- the awards of a day, one after the other -/
theorem lap_ind (h : LR M T) (hM : MI M) (hB : LTb T) {z : Nat} (hz : m_lost M z) (hz2 : z + 610000 ≤ 1200000000) (hd : M 1 0 = d0 + k) (hk1 : 1 ≤ k) (hk2 : k ≤ 40) (hA : A0 ≤ 24) (hE : E0 ≤ 1000) (D : DI d0 A0 E0 k M T) : ∀ a, a ≤ M 16 0 → LR (m_lpf M a) (t_lpf T a) ∧ LTb (t_lpf T a) ∧ DI d0 A0 E0 k (m_lpf M a) (t_lpf T a) ∧ m_lpn M a = t_lpn T a ∧ M 16 0 ≤ m_lpf M a 16 0 ∧ m_lpf M a 16 0 ≤ 32
  | 0, _ => ⟨h, hB, D, rfl, Nat.le_refl _, by have := (D.bd hk2).1; show M 16 0 ≤ 32; omega⟩
  | a + 1, hn => by
    have h60 : M 16 0 ≤ 60 := hM 16 0
    obtain ⟨r1, r2, r3, r4, r5, r6⟩ := lap_ind h hM hB hz hz2 hd hk1 hk2 hA hE D a (by omega)
    obtain ⟨m1, m2⟩ := m_lpf_inv hM hz a (by omega)
    have e1 : m_lpf M a 1 0 = d0 + k := by rw [m_lpf_nf M (by decide), hd]
    have iff := r1.lpc m1 r6 (a := a) (by omega)
    by_cases c : m_lpc (m_lpf M a) a = true
    · have c2 := iff.mpr c
      have c3 := c
      simp only [m_lpc, m_fn, Bool.and_eq_true, decide_eq_true_eq] at c3
      obtain ⟨⟨⟨q16, q21⟩, ⟨⟨q20, qoo⟩, qsu⟩⟩, q30⟩ := c3
      have ha : a < m_lpf M a 16 0 := by omega
      have D2 := r3.lapse r1 e1 hk1 ha q20 q30
      obtain ⟨s1, s2⟩ := D2.bd hk2
      have e17 := r1.2.2.2.2.2.2.1 a ha
      have L1 := r1.lpm m1 ha q20
      have M1 := MI_lpm (a := a) m1 m2 (by omega)
      have h9 : m_lpf M a 9 (m_lpf M a 17 a) ≤ 10000 := m1 9 _
      have h32 := m2 (m_lpf M a 18 a)
      have B1 := LTb_lpm r2 r1 m1 ha q20 (by omega) (by have := (r3.bd hk2).2; omega)
      have x3 : (mu (mu (mu (m_lpf M a) 20 a 1) 32 (m_lpf M a 18 a) (m_lpf M a 32 (m_lpf M a 18 a) + m_lpf M a 9 (m_lpf M a 17 a))) 14 (8 * m_lpf M a 17 a + m_lpf M a 18 a) 1) 3 = m_lpf M a 3 := by rw [mu_nf _ (by decide), mu_nf _ (by decide), mu_nf _ (by decide)]
      have x8 : (mu (mu (mu (m_lpf M a) 20 a 1) 32 (m_lpf M a 18 a) (m_lpf M a 32 (m_lpf M a 18 a) + m_lpf M a 9 (m_lpf M a 17 a))) 14 (8 * m_lpf M a 17 a + m_lpf M a 18 a) 1) 8 = m_lpf M a 8 := by rw [mu_nf _ (by decide), mu_nf _ (by decide), mu_nf _ (by decide)]
      have L2 := (L1.gv M1 (j := t_lpf T a 7 a % 4) (by omega) (by rw [x8]; exact e17.2.2.2.2.1) (by rw [x3]; exact e17.2.2.2.1)).1
      have em : m_lp1 (m_lpf M a) a = m_gv (mu (mu (mu (m_lpf M a) 20 a 1) 32 (m_lpf M a 18 a) (m_lpf M a 32 (m_lpf M a 18 a) + m_lpf M a 9 (m_lpf M a 17 a))) 14 (8 * m_lpf M a 17 a + m_lpf M a 18 a) 1) (ml (t_lpf T a 7 a % 4)) := by
        rw [← e17.1]; rfl
      have B2 : LTb (t_lp1 (t_lpf T a) a) := LTb_gv B1 (by omega) (by
        have g4 := L1.1.2.2.2.2.1
        rw [g4, mu_nf _ (by decide), mu_nf _ (by decide), mu_nf _ (by decide)]
        omega)
      have up : m_lpf M a 16 0 ≤ m_lp1 (m_lpf M a) a 16 0 := by
        rcases (lp1_aw r1.2.2.2.2.2.2.2.2.2.2 ha).2 with y | ⟨y, -⟩ <;> omega
      rw [m_lpf, t_lpf, m_lpn, t_lpn, if_pos c, if_pos c, if_pos c2, if_pos c2, r4]
      refine ⟨?_, B2, D2, rfl, by omega, by omega⟩
      rw [em]
      exact L2
    · have c2 : ¬ t_lpc (t_lpf T a) a := fun q => c (iff.mp q)
      rw [m_lpf, t_lpf, m_lpn, t_lpn, if_neg c, if_neg c, if_neg c2, if_neg c2, r4]
      exact ⟨r1, r2, r3, rfl, r5, r6⟩
theorem LTb_d0 (h : LTb T) (h0 : T 11 0 < 2000) : LTb (t_d0 T) := by
  have k : ∀ n, LTb (t_oqf (mu T 11 0 (T 11 0 + 1)) n) := by
    intro n
    induction n with
    | zero => exact LTb_mu h (by show _ ≤ 2000; omega)
    | succ n ih =>
      rw [t_oqf]
      split
      · rw [t_okf_eq]
        split
        · exact LTb_mu ih (by decide)
        · exact ih
      · exact ih
  exact k 16
/-- days, one after the other -/
theorem day_ind (h : LR M T) (hM : MI M) (hB : LTb T) (hLB : m_LB M) (hd : M 1 0 ≤ 950) (hA : M 16 0 ≤ 24) (hE : T 11 3 ≤ 1000) (hU : UQ M) : ∀ k, k ≤ 40 → LR (m_dyf M k) (t_dyf T k) ∧ LTb (t_dyf T k) ∧ DI (M 1 0) (M 16 0) (T 11 3) k (m_dyf M k) (t_dyf T k) ∧ m_dyn M k = t_dyn T k
  | 0, _ => ⟨h, hB, DI.start hU, rfl⟩
  | k + 1, hk => by
    obtain ⟨r1, r2, r3, r4⟩ := day_ind h hM hB hLB hd hA hE hU k (by omega)
    obtain ⟨i1, i2, i3⟩ := m_dyf_inv hM hLB k (by omega)
    have L0 := r1.day0 i1
    have M0 := MI_dy0 i1 (by omega)
    have B0 := LTb_d0 r2 (by rw [r1.1.1]; omega)
    have D0 := r3.day
    have e1 : m_dy0 (m_dyf M k) 1 0 = M 1 0 + (k + 1) := by rw [m_dy0_1, i3]; omega
    have z0 : m_lost (m_dy0 (m_dyf M k)) (m_dyf M k 1 0 * 600000) := fun b => by
      rw [m_dy0_32]
      exact i2 b
    have h4 : t_d0 (t_dyf T k) 11 4 = m_dy0 (m_dyf M k) 16 0 := L0.1.2.2.2.2.1
    obtain ⟨s1, s2, s3, s4, -, -⟩ := lap_ind L0 M0 B0 z0 (by rw [i3]; omega) e1 (by omega) hk hA hE D0 _ (Nat.le_refl _)
    rw [m_dyn, t_dyn, r4, h4]
    refine ⟨?_, ?_, ?_, ?_⟩
    · show LR (m_lpf (m_dy0 (m_dyf M k)) (m_dy0 (m_dyf M k) 16 0)) (t_lpf (t_d0 (t_dyf T k)) (t_d0 (t_dyf T k) 11 4))
      rw [h4]; exact s1
    · show LTb (t_lpf (t_d0 (t_dyf T k)) (t_d0 (t_dyf T k) 11 4))
      rw [h4]; exact s2
    · show DI _ _ _ _ (m_lpf (m_dy0 (m_dyf M k)) (m_dy0 (m_dyf M k) 16 0)) (t_lpf (t_d0 (t_dyf T k)) (t_d0 (t_dyf T k) 11 4))
      rw [h4]; exact s3
    · rw [s4]
end LE
