/-! rows for a turn of days -/
section BL
variable {p : Program} {l : Launch} {e0 : Env} {R : Room} {s : State} {m : MethodId} {args : Array Value} {below : List Frame} {meth : Method} {c : Code} {cells slots : Nat} {Q : State → Prop} {D : va_G} {A : Nat → Prop} {ad : Nat → Nat} {cI : ClassId} {H0 : Heap} {ws : va_W}
/-- a loop that writes the arrays: TT i the law's numbers at its head -/
theorem b_loop {nL n head : Nat} {sk : List Value} (I : Nat → List (Nat × Value)) (TT : Nat → MS) (step : ∀ i, i ≤ n → (i < n → ∀ (H : Heap) (locs : List Loc) ls, va_P D vwCl (aws ad cI (TT (i + 1))) H → va_P D vwCl ws H → va_S A H0 H locs → lv_has ls nL (I (i + 1)) → W p l e0 R s m args below meth c H locs cells slots Q (F0 m head ls sk)) → ∀ (H : Heap) (locs : List Loc) ls, va_P D vwCl (aws ad cI (TT i)) H → va_P D vwCl ws H → va_S A H0 H locs → lv_has ls nL (I i) → W p l e0 R s m args below meth c H locs cells slots Q (F0 m head ls sk)) : ∀ i, i ≤ n → ∀ (H : Heap) (locs : List Loc) ls, va_P D vwCl (aws ad cI (TT i)) H → va_P D vwCl ws H → va_S A H0 H locs → lv_has ls nL (I i) → W p l e0 R s m args below meth c H locs cells slots Q (F0 m head ls sk) := by
  have key : ∀ k i, i ≤ n → n < i + k → ∀ (H : Heap) (locs : List Loc) ls, va_P D vwCl (aws ad cI (TT i)) H → va_P D vwCl ws H → va_S A H0 H locs → lv_has ls nL (I i) → W p l e0 R s m args below meth c H locs cells slots Q (F0 m head ls sk) := by
    intro k
    induction k with
    | zero => intro i h1 h2; omega
    | succ k ih => intro i h1 h2 H locs ls hP hW hS hl; exact step i h1 (fun h3 H locs ls hP hW hS hl => ih (i + 1) h3 (by omega) H locs ls hP hW hS hl) H locs ls hP hW hS hl
  intro i hi
  exact key (n + 1) i hi (by omega)
end BL
theorem cSt.uq {cI cO : ClassId} {eA : Nat} {st : Nat → Nat} {A : Nat → Prop} {h : Nat} {M : MS} {ws : va_W} (hc : cSt cI cO eA st A h M ws) : UQ M := by
  obtain ⟨_, _, _, _, _, _, ⟨_, _, _, _, _, _, G⟩, _⟩ := hc
  exact G.2.2.2.2.2.1.1
section DL
variable {M T : MS}
theorem m_dyf_nf {f : Nat} (h : f ≠ 1 ∧ f ≠ 13 ∧ f ≠ 14 ∧ f ≠ 16 ∧ f ≠ 17 ∧ f ≠ 18 ∧ f ≠ 19 ∧ f ≠ 20 ∧ f ≠ 32) : ∀ k, m_dyf M k f = M f
  | 0 => rfl
  | k + 1 => by
    obtain ⟨h1, h13, h14, h16, h17, h18, h19, h20, h32⟩ := h
    show m_lpf (m_dy0 (m_dyf M k)) _ f = M f
    rw [m_lpf_nf _ ⟨h14, h16, h17, h18, h19, h20, h32⟩, m_dy0_nf h1 h13]
    exact m_dyf_nf ⟨h1, h13, h14, h16, h17, h18, h19, h20, h32⟩ k
theorem LT_of {A0 E0 d0 k2 : Nat} {X Y : MS} (hR : LR X Y) (hB : LTb Y) (hD : DI d0 A0 E0 k2 X Y) (hk : k2 ≤ 40) (hA : A0 ≤ 22) (hE : E0 ≤ 50) (h22 : X 22 0 ≤ 32) (h29 : X 29 0 ≤ 32) : LT Y ∧ Y 11 4 ≤ 30 ∧ Y 11 3 ≤ 58 := by
  obtain ⟨g0, g1, g2, g3, g4, g5, g6⟩ := hR.1
  obtain ⟨b1, b2⟩ := hD.bd hk
  exact ⟨⟨hB, by omega, by omega, by omega, by omega, by omega⟩, by omega, by omega⟩
/-- at a day's begin -/
theorem day_LT (h : LR M T) (hM : MI M) (hT : LT T) (hLB : m_LB M) (hC : LC T) (hU : UQ M) {k : Nat} (hk : k ≤ 40) : LR (m_dyf M k) (t_dyf T k) ∧ MI (m_dyf M k) ∧ m_dyf M k 1 0 = M 1 0 + k ∧ LT (t_dyf T k) ∧ m_dyn M k = t_dyn T k ∧ DI (M 1 0) (M 16 0) (T 11 3) k (m_dyf M k) (t_dyf T k) := by
  obtain ⟨C0, C3, C4, C5, C6⟩ := hC
  obtain ⟨g0, g1, g2, g3, g4, g5, g6⟩ := h.1
  obtain ⟨r1, r2, r3, r4⟩ := day_ind h hM hT.1 hLB (by omega) (by omega) (by omega) hU k hk
  obtain ⟨i1, i2, i3⟩ := m_dyf_inv hM hLB k (by omega)
  exact ⟨r1, i1, i3, (LT_of r1 r2 r3 hk (by omega) (by omega) (by rw [m_dyf_nf (by decide)]; omega) (by rw [m_dyf_nf (by decide)]; omega)).1, r4, r3⟩
/-- in a day's lapses -/
theorem day_lap (h : LR M T) (hM : MI M) (hT : LT T) (hLB : m_LB M) (hC : LC T) (hU : UQ M) {k : Nat} (hk : k < 40) {a : Nat} (ha : a ≤ t_d0 (t_dyf T k) 11 4) : LR (m_lpf (m_dy0 (m_dyf M k)) a) (t_lpf (t_d0 (t_dyf T k)) a) ∧ MI (m_lpf (m_dy0 (m_dyf M k)) a) ∧ LT (t_lpf (t_d0 (t_dyf T k)) a) ∧ t_lpf (t_d0 (t_dyf T k)) a 11 4 ≤ 30 ∧ t_lpf (t_d0 (t_dyf T k)) a 11 3 ≤ 58 ∧ t_d0 (t_dyf T k) 11 4 ≤ m_lpf (m_dy0 (m_dyf M k)) a 16 0 ∧ m_lpf (m_dy0 (m_dyf M k)) a 16 0 ≤ 30 ∧ m_lost (m_lpf (m_dy0 (m_dyf M k)) a) 1199990000 := by
  obtain ⟨C0, C3, C4, C5, C6⟩ := hC
  obtain ⟨g0, g1, g2, g3, g4, g5, g6⟩ := h.1
  obtain ⟨r1, r2, r3, r4⟩ := day_ind h hM hT.1 hLB (by omega) (by omega) (by omega) hU k (by omega)
  obtain ⟨i1, i2, i3⟩ := m_dyf_inv hM hLB k (by omega)
  have L0 := r1.day0 i1
  have M0 := MI_dy0 i1 (by omega)
  have B0 := LTb_d0 r2 (by rw [r1.1.1]; omega)
  have e1 : m_dy0 (m_dyf M k) 1 0 = M 1 0 + (k + 1) := by rw [m_dy0_1, i3]; omega
  have z0 : m_lost (m_dy0 (m_dyf M k)) (m_dyf M k 1 0 * 600000) := fun b => by
    rw [m_dy0_32]
    exact i2 b
  have h4 : t_d0 (t_dyf T k) 11 4 = m_dy0 (m_dyf M k) 16 0 := L0.1.2.2.2.2.1
  rw [h4] at ha ⊢
  have h60 : m_dy0 (m_dyf M k) 16 0 ≤ 60 := M0 16 0
  obtain ⟨s1, s2, s3, s4, s5, s6⟩ := lap_ind L0 M0 B0 z0 (by rw [i3]; omega) e1 (by omega) (show k + 1 ≤ 40 by omega) (show M 16 0 ≤ 24 by omega) (show T 11 3 ≤ 1000 by omega) r3.day a ha
  obtain ⟨j1, j2⟩ := m_lpf_inv M0 z0 a (by rw [i3]; omega)
  have x22 : m_lpf (m_dy0 (m_dyf M k)) a 22 = M 22 := by rw [m_lpf_nf _ (by decide), m_dy0_nf (by decide) (by decide), m_dyf_nf (by decide)]
  have x29 : m_lpf (m_dy0 (m_dyf M k)) a 29 = M 29 := by rw [m_lpf_nf _ (by decide), m_dy0_nf (by decide) (by decide), m_dyf_nf (by decide)]
  obtain ⟨t1, t2, t3⟩ := LT_of s1 s2 s3 (by omega) (by omega) (by omega) (by rw [x22]; omega) (by rw [x29]; omega)
  have q4 := s1.1.2.2.2.2.1
  exact ⟨s1, j1, t1, t2, t3, s5, by omega, fun b => by have := j2 b; rw [i3] at this; omega⟩
theorem LT_oqf (hT : LT T) (h0 : T 11 0 < 2000) (n : Nat) : LT (t_oqf (mu T 11 0 (T 11 0 + 1)) n) := by
  have k : LTb (t_oqf (mu T 11 0 (T 11 0 + 1)) n) := by
    induction n with
    | zero => exact LTb_mu hT.1 (by show _ ≤ 2000; omega)
    | succ n ih =>
      rw [t_oqf]
      split
      · rw [t_okf_eq]
        split
        · exact LTb_mu ih (by decide)
        · exact ih
      · exact ih
  obtain ⟨-, a1, a2, a3, a4, a5⟩ := hT
  refine ⟨k, ?_, ?_, ?_, ?_, ?_⟩ <;> rw [t_oqf_nf (by decide)] <;> simp [mu] <;> assumption
theorem LT_okf (hT : LT T) (q n : Nat) : LT (t_okf T q n) := by
  rw [t_okf_eq]
  split
  · obtain ⟨a0, a1, a2, a3, a4, a5⟩ := hT
    exact ⟨LTb_mu a0 (by decide), by simpa [mu] using a1, by simpa [mu] using a2, by simpa [mu] using a3, by simpa [mu] using a4, by simpa [mu] using a5⟩
  · exact hT
theorem or_16 {x : Nat} (h : x / 65536 % 2 = 0) : x ||| 65536 = x + 65536 := by
  have e : x = 2 ^ (16 + 1) * (x / 131072) + x % 65536 := by
    show x = 131072 * (x / 131072) + x % 65536
    omega
  have o := or_gap (i := 16) (k := 1) (h := x / 131072) (v := 1) (r := x % 65536) (Nat.mod_lt _ (by decide)) (by decide)
  rw [← e] at o
  rw [show (65536 : Nat) = 2 ^ 16 * 1 by decide, o]
  show 131072 * (x / 131072) + (65536 + x % 65536) = x + 65536
  omega
theorem t_se_gn {a : Nat} (h : t_se T a = true) : T 7 a / 65536 % 2 = 0 := by
  simp only [t_se, Bool.and_eq_true, Bool.not_eq_true', t_gn, decide_eq_false_iff_not] at h
  omega
theorem LR.tp (h : LR M T) : ∀ q, q < 16 → t_tk T q = true → 0 < t_pr T q := fun q hq ht => by
  rw [h.tk hq] at ht
  rw [h.pr hq]
  exact m_tp_10 ht
theorem LR.w100 (h : LR M T) (hM : MI M) {t : Nat} (ht : t < M 3 0) : t_we T t ≤ 100 := by
  rw [h.wen hM ht]
  exact hM 6 t
theorem LT_lpm (hT : LT T) (hR : LR M T) (hM : MI M) {a : Nat} (ha : a < M 16 0) (hv : M 20 a = 0) (hz : m_lost M 1199990000) (h3 : T 11 3 ≤ 58) : LT (t_lpm T a) := by
  have h9 : M 9 (M 17 a) ≤ 10000 := hM 9 _
  have h32 := hz (M 18 a)
  have k := LTb_lpm hT.1 hR hM ha hv (by omega) (by omega)
  obtain ⟨-, a1, a2, a3, a4, a5⟩ := hT
  refine ⟨k, ?_, ?_, ?_, ?_, ?_⟩ <;> unfold t_lpm <;> simp [mu] <;> omega
theorem t_bo_c {T2 : MS} {a : Nat} (h1 : T2 7 a % 16 = T 7 a % 16) : t_bo T2 a = t_bo T a := by
  unfold t_bo
  omega
theorem pas_1 {a : Nat} (ha : a < 2 ^ 31) (h : a = 0 ∨ 100 < a) : k_pass M (nI a) = 1 := by
  unfold k_pass
  rw [ii_f (a := a) (lo := 1) (hi := 100) (by omega) (by omega) (by omega) (by omega), if_pos rfl]
theorem pas_0 {a : Nat} (h1 : 1 ≤ a) (h2 : a ≤ 100) (h3 : M 1 0 + a ≤ 2000) : k_pass M (nI a) = 0 := by
  unfold k_pass
  rw [ii_t (a := a) (lo := 1) (hi := 100) (by omega) (by omega) (by omega) (by omega), if_neg (by decide), nI_clamp (by omega), if_neg (by omega)]
theorem pas_r {a : Nat} (h1 : 1 ≤ a) (h2 : a ≤ 100) (h3 : M 1 0 + a ≤ 2000) : e23 (k_pass M (nI a)) (r_pass M (nI a)) = nI (m_dyn M a) := by
  have h0 := pas_0 h1 h2 h3
  unfold r_pass
  rw [if_pos h0, h0, nI_clamp (by omega)]
  rfl
theorem pas_g {a : Nat} (h1 : 1 ≤ a) (h2 : a ≤ 100) (h3 : M 1 0 + a ≤ 2000) : g_pass M (nI a) = m_dyf M a := by
  unfold g_pass
  rw [if_pos (pas_0 h1 h2 h3), nI_clamp (by omega)]
theorem t_lpn_le : ∀ a, t_lpn T a ≤ a
  | 0 => Nat.le_refl _
  | a + 1 => by
    have := t_lpn_le a
    rw [t_lpn]
    split <;> omega
end DL
