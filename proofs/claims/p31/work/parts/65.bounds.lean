/-! the reference's bounds along the calls; the class's state for a state of the reference -/
def vC (M : MS) : Nat := cn (fun a => M 20 a ≠ 0) (M 16 0)
theorem vC_le {M : MS} (hM : MI M) : vC M ≤ 60 := Nat.le_trans (cn_le _ _) (hM 16 0)
theorem cn_more (P : Nat → Prop) [DecidablePred P] {a : Nat} : ∀ d, cn P a ≤ cn P (a + d)
  | 0 => Nat.le_refl _
  | d + 1 => by
    have := cn_more P (a := a) d
    show _ ≤ cn P (a + d + 1)
    rw [cn]; omega
theorem vC_gv (M : MS) (g : Nat) : vC M ≤ vC (m_gv M g) := by
  unfold vC
  rw [m_gv_nf M g (f := 20) (by decide)]
  have h := m_gv_16 M g
  have := cn_more (fun a => M 20 a ≠ 0) (a := M 16 0) (m_gv M g 16 0 - M 16 0)
  rw [show M 16 0 + (m_gv M g 16 0 - M 16 0) = m_gv M g 16 0 by omega] at this
  exact this
theorem vC_lp1 {M : MS} {a : Nat} (ha : a < M 16 0) (h : M 20 a = 0) : vC M + 1 ≤ vC (m_lp1 M a) := by
  have h1 := vC_gv (mu (mu (mu M 20 a 1) 32 (M 18 a) (M 32 (M 18 a) + M 9 (M 17 a))) 14 (8 * M 17 a + M 18 a) 1) (M 17 a)
  have e20 : ∀ i, mu (mu (mu M 20 a 1) 32 (M 18 a) (M 32 (M 18 a) + M 9 (M 17 a))) 14 (8 * M 17 a + M 18 a) 1 20 i = if i = a then 1 else M 20 i := fun i => by rw [mu_nf _ (by decide), mu_nf _ (by decide), mu_at]
  have e16 : mu (mu (mu M 20 a 1) 32 (M 18 a) (M 32 (M 18 a) + M 9 (M 17 a))) 14 (8 * M 17 a + M 18 a) 1 16 0 = M 16 0 := by rw [mu_nf _ (by decide), mu_nf _ (by decide), mu_nf _ (by decide)]
  unfold m_lp1
  generalize mu (mu (mu M 20 a 1) 32 (M 18 a) (M 32 (M 18 a) + M 9 (M 17 a))) 14 (8 * M 17 a + M 18 a) 1 = M2 at *
  refine Nat.le_trans ?_ h1
  unfold vC
  rw [e16]
  exact cn_lt (P := fun i => M 20 i ≠ 0) (Q := fun i => M2 20 i ≠ 0) (k := a) (fun i _ q => by
    show M2 20 i ≠ 0
    rw [e20]
    split
    · decide
    · exact q) ha (by show M2 20 a ≠ 0; rw [e20, if_pos rfl]; decide) (fun q => q h)
theorem vC_lpf (M : MS) : ∀ i, i ≤ M 16 0 → vC M + m_lpn M i ≤ vC (m_lpf M i)
  | 0, _ => Nat.le_refl _
  | i + 1, hi => by
    have ih := vC_lpf M i (by omega)
    rw [m_lpn, m_lpf]
    by_cases hc : m_lpc (m_lpf M i) i = true
    · rw [if_pos hc, if_pos hc]
      have h16 := m_lpf_16 M i
      have h20 : m_lpf M i 20 i = 0 := by
        unfold m_lpc m_fn at hc
        simp only [Bool.and_eq_true, decide_eq_true_eq] at hc
        exact hc.1.2.1.1
      have := vC_lp1 (M := m_lpf M i) (a := i) (by omega) h20
      omega
    · rw [if_neg hc, if_neg hc]; exact ih
theorem vC_dy0 (M : MS) : vC (m_dy0 M) = vC M := by
  unfold vC m_dy0
  rw [m_opt_nf _ (by decide), m_opt_nf _ (by decide), mu_nf _ (by decide), mu_nf _ (by decide)]
theorem vC_dyf (M : MS) : ∀ k, vC M + m_dyn M k ≤ vC (m_dyf M k)
  | 0 => Nat.le_refl _
  | k + 1 => by
    have ih := vC_dyf M k
    have h2 := vC_lpf (m_dy0 (m_dyf M k)) _ (Nat.le_refl _)
    rw [vC_dy0] at h2
    show vC M + (m_dyn M k + m_lpn (m_dy0 (m_dyf M k)) (m_dy0 (m_dyf M k) 16 0)) ≤ vC (m_lpf (m_dy0 (m_dyf M k)) (m_dy0 (m_dyf M k) 16 0))
    omega
/-- a pass lapses sixty awards at most -/
theorem dyN_60 {M : MS} (hM : MI M) (hLB : m_LB M) (dd : Int32) (k : Nat) : dyN M dd k ≤ 60 := by
  unfold dyN
  split
  · next q =>
    have h1 := vC_dyf M k
    have h2 := vC_le (m_dyf_inv hM hLB k q.2).1
    omega
  · exact Nat.zero_le _
theorem i_in_le {v lo : Int32} {hi : Nat} (hh : hi < 2 ^ 31) (e : i_in v lo (nI hi) = true) : v.toNatClampNeg ≤ hi := by
  unfold i_in at e
  simp only [Bool.and_eq_true, Bool.not_eq_true', decide_eq_false_iff_not] at e
  by_cases q : v < nI 0
  · have h1 : v.toInt < (nI 0).toInt := Int32.lt_iff_toInt_lt.mp q
    have h0 : (nI 0).toInt = 0 := by decide
    show v.toInt.toNat ≤ hi
    omega
  · obtain ⟨x, -, h2, h3⟩ := out_nat (v := v) (lo := 0) (hi := hi) (by decide) hh (by rintro (z | z); exact q z; exact e.2 z)
    rw [h3, nI_clamp (by omega)]; exact h2
theorem isIx_le {v : Int32} {n : Nat} (hn : n < 2 ^ 31) (e : isIx v n = true) : v.toNatClampNeg < n := by
  obtain ⟨j, hj, rfl⟩ := isIx_of hn e
  rw [nI_clamp (by omega)]; exact hj
section MG
variable {M : MS}
theorem MI_addTender (hM : MI M) (c q w z : Int32) : MI (g_addTender M c q w z) := by
  unfold g_addTender
  split
  · next e =>
    unfold k_addTender at e
    split at e
    · cases e
    · next h1 =>
      split at e
      · cases e
      · next h2 =>
        have h3 : M 3 0 ≤ 6 := hM 3 0
        simp only [Bool.not_eq_false, Bool.and_eq_true] at h1
        obtain ⟨⟨⟨a1, a2⟩, a3⟩, a4⟩ := h1
        have b1 := i_in_le (by decide) a1
        have b2 := i_in_le (by decide) a2
        have b3 := i_in_le (by decide) a3
        have b4 := i_in_le (by decide) a4
        exact MI_mu (MI_mu (MI_mu (MI_mu (MI_mu hM b1) b2) b3) b4) (by show M 3 0 + 1 ≤ 6; omega)
  · exact hM
theorem MI_addLot (hM : MI M) (t d : Int32) : MI (g_addLot M t d) := by
  unfold g_addLot
  split
  · next e =>
    unfold k_addLot at e
    split at e
    · cases e
    · split at e
      · cases e
      · next h1 =>
        split at e
        · cases e
        · next h2 =>
          have h3 : M 8 t.toNatClampNeg ≤ 3 := hM 8 _
          simp only [Bool.not_eq_false] at h1
          have b1 := i_in_le (by decide) h1
          have h4 : M 8 t.toNatClampNeg ≠ 3 := fun q => h2 (Or.inl q)
          exact MI_mu (MI_mu hM b1) (by show M 8 t.toNatClampNeg + 1 ≤ 3; omega)
  · exact hM
theorem MI_paper (hM : MI M) (b k u : Int32) : MI (g_paper M b k u) := by
  unfold g_paper
  split
  · next e =>
    unfold k_paper at e
    split at e
    · cases e
    · split at e
      · cases e
      · next h1 =>
        simp only [Bool.not_eq_false] at h1
        unfold i_in at h1
        simp only [Bool.and_eq_true, Bool.not_eq_true', decide_eq_false_iff_not] at h1
        obtain ⟨w, hw, rfl⟩ := pap_of (x := u) (by rintro (z | z); exact h1.1 z; exact h1.2 z)
        rw [pap_back hw]
        exact MI_mu hM (by show w ≤ 2001; omega)
  · exact hM
theorem MI_bid (hM : MI M) (h15 : M 15 0 < 1000) (b t k q z : Int32) : MI (g_bid M b t k q z) := by
  unfold g_bid
  split
  · next e =>
    unfold k_bid at e
    split at e
    · cases e
    · split at e
      · cases e
      · next h1 =>
        simp only [Bool.not_eq_false, Bool.and_eq_true] at h1
        have b1 : q.toNatClampNeg ≤ 100000 := i_in_le (hi := 100000) (by decide) h1.1
        have b2 : z.toNatClampNeg ≤ 100 := i_in_le (hi := 100) (by decide) h1.2
        exact MI_mu (MI_mu (MI_mu (MI_mu hM (by show q.toNatClampNeg ≤ 100000; omega)) (by show z.toNatClampNeg ≤ 100; omega)) (by show M 15 0 ≤ 1000; omega)) (by show M 15 0 + 1 ≤ 1000; omega)
  · exact hM
theorem MI_withdraw (hM : MI M) (b t k : Int32) : MI (g_withdraw M b t k) := by
  unfold g_withdraw
  split
  · exact MI_mu hM (Nat.zero_le _)
  · exact hM
theorem MI_pass (hM : MI M) (hLB : m_LB M) (q : Int32) : MI (g_pass M q) ∧ m_LB (g_pass M q) := by
  unfold g_pass
  split
  · next e =>
    unfold k_pass at e
    split at e
    · cases e
    · split at e
      · cases e
      · next h2 =>
        have := m_dyf_inv hM hLB q.toNatClampNeg (by omega)
        exact ⟨this.1, this.2.1⟩
  · exact ⟨hM, hLB⟩
theorem MI_award (hM : MI M) (t k : Int32) : MI (g_award M t k) := by
  unfold g_award
  split
  · next e =>
    unfold k_award at e
    split at e
    · cases e
    · next h1 =>
      split at e
      · next h2 =>
        simp only [Bool.not_eq_false] at h1
        have h16 : M 16 0 ≤ 60 := hM 16 0
        have h3 : M 3 0 ≤ 6 := hM 3 0
        obtain ⟨x, y, hx, hy, rfl, rfl⟩ := m_isLot_of hM h1
        have h8 : M 8 x ≤ 3 := hM 8 x
        have n16 : M 16 0 ≠ 60 := h2.2.2.2
        exact MI_gv hM (by unfold m_lt; rw [nI_clamp (by omega), nI_clamp (by omega)]; omega) (by omega)
      · cases e
  · exact hM
theorem MI_complain (hM : MI M) (b a z : Int32) : MI (g_complain M b a z) := by
  unfold g_complain
  split
  · next e =>
    unfold k_complain at e
    split at e
    · cases e
    · next h1 =>
      split at e
      · cases e
      · next h2 =>
        split at e
        · next h3 =>
          simp only [Bool.not_eq_false, Bool.and_eq_true] at h1 h2
          have h16 : M 16 0 ≤ 60 := hM 16 0
          have b1 := isIx_le (by decide) h1.1
          have b2 := isIx_le (by omega) h1.2
          have b3 := i_in_le (by decide) h2
          exact MI_mu (MI_mu (MI_mu (MI_mu hM (by show a.toNatClampNeg ≤ 59; omega)) (by show b.toNatClampNeg ≤ 7; omega)) (by show z.toNatClampNeg ≤ 2; omega)) (by show M 22 0 + 1 ≤ 60; omega)
        · cases e
  · exact hM
theorem MI_rule (hM : MI M) (c : Int32) (u : Bool) (q : Int32) : MI (g_rule M c u q) := by
  unfold g_rule
  split
  · next e =>
    unfold k_rule at e
    split at e
    · cases e
    · split at e
      · cases e
      · next h2 =>
        split at e
        · next h3 =>
          simp only [Bool.not_eq_false] at h2
          have h16 : M 16 0 ≤ 60 := hM 16 0
          have h1 : M 1 0 ≤ 2000 := hM 1 0
          have b3 := i_in_le (by decide) h2
          split
          · next hu =>
            refine MI_up hM _ b3 ?_
            rcases h3.2 with w | w
            · rw [hu] at w; cases w
            · omega
          · exact MI_mu (MI_mu hM (by decide)) (by show M 1 0 ≤ 2000; omega)
        · cases e
  · exact hM
theorem MI_appeal (hM : MI M) (c : Int32) : MI (g_appeal M c) := by
  unfold g_appeal
  split
  · exact MI_mu (MI_mu hM (by decide)) (by decide)
  · exact hM
theorem MI_sign (hM : MI M) (hr : ∀ a, a < M 16 0 → M 21 a = 0 → M 29 0 < 60) (a : Int32) : MI (g_sign M a) := by
  unfold g_sign
  split
  · next e =>
    unfold k_sign at e
    split at e
    · cases e
    · next h1 =>
      split at e
      · next h2 =>
        simp only [Bool.not_eq_false] at h1
        have h16 : M 16 0 ≤ 60 := hM 16 0
        have b1 := isIx_le (by omega) h1
        have := hr _ b1 h2.2
        exact MI_mu (MI_mu (MI_mu hM (by show a.toNatClampNeg ≤ 59; omega)) (by show M 29 0 + 1 ≤ 60; omega)) (by show M 29 0 + 1 ≤ 60; omega)
      · cases e
  · exact hM
theorem MI_call (hM : MI M) (c q : Int32) : MI (g_call M c q) := by
  unfold g_call
  split
  · next e =>
    unfold k_call at e
    split at e
    · cases e
    · split at e
      · cases e
      · split at e
        · next h3 =>
          have hp : m_pr M c.toNatClampNeg ≤ 100000 := by
            unfold m_pr
            exact hM 10 _
          exact MI_mu hM (by show _ ≤ 100000; omega)
        · cases e
  · exact hM
theorem MI_line (hM : MI M) (a : Int32) : MI (g_line M a) := by
  unfold g_line
  split
  · next e =>
    have h16 : M 16 0 ≤ 60 := hM 16 0
    have := isIx_le (by omega) e
    exact MI_wl hM (by omega)
  · exact hM
end MG
section LBG
variable {M M2 : MS}
/-- what a call that is no pass leaves: the day, what is lost -/
def Sm2 (M M2 : MS) : Prop := M2 1 = M 1 ∧ M2 32 = M 32 ∧ M2 15 = M 15
theorem Sm2.lb (h : Sm2 M M2) (hLB : m_LB M) : m_LB M2 := by
  unfold m_LB
  rw [h.1]
  unfold m_lost
  rw [h.2.1]
  exact hLB
theorem Sm2.mu (h : Sm2 M M2) {f i v : Nat} (hf : f ≠ 1 ∧ f ≠ 32 ∧ f ≠ 15) : Sm2 M (mu M2 f i v) := ⟨(mu_nf _ (Ne.symm hf.1)).trans h.1, (mu_nf _ (Ne.symm hf.2.1)).trans h.2.1, (mu_nf _ (Ne.symm hf.2.2)).trans h.2.2⟩
theorem Sm2.rf : Sm2 M M := ⟨rfl, rfl, rfl⟩
/-- what a call leaves: the bound on what is lost; one bid more at most -/
def LBN (M M2 : MS) : Prop := (m_LB M → m_LB M2) ∧ M2 15 0 ≤ M 15 0 + 1
theorem Sm2.ln (h : Sm2 M M2) : LBN M M2 := ⟨h.lb, by rw [h.2.2]; exact Nat.le_succ _⟩
theorem LBN.rf : LBN M M := Sm2.rf.ln
theorem LB_addTender (c q w z : Int32) : LBN M (g_addTender M c q w z) := by
  unfold g_addTender
  split
  · exact (((((Sm2.rf.mu (by decide)).mu (by decide)).mu (by decide)).mu (by decide)).mu (by decide)).ln
  · exact LBN.rf
theorem LB_addLot (t d : Int32) : LBN M (g_addLot M t d) := by
  unfold g_addLot
  split
  · exact ((Sm2.rf.mu (by decide)).mu (by decide)).ln
  · exact LBN.rf
theorem LB_paper (b k u : Int32) : LBN M (g_paper M b k u) := by
  unfold g_paper
  split
  · exact (Sm2.rf.mu (by decide)).ln
  · exact LBN.rf
theorem LB_bid (b t k q z : Int32) : LBN M (g_bid M b t k q z) := by
  unfold g_bid
  split
  · have h := ((Sm2.rf (M := M)).mu (f := 10) (i := m_at b t k) (v := q.toNatClampNeg) (by decide)).mu (f := 11) (i := m_at b t k) (v := z.toNatClampNeg) (by decide) |>.mu (f := 12) (i := m_at b t k) (v := M 15 0) (by decide)
    refine ⟨fun hLB => ?_, ?_⟩
    · have h2 := h.lb hLB
      unfold m_LB m_lost at h2 ⊢
      rw [mu_nf _ (show 1 ≠ 15 by decide), mu_nf _ (show 32 ≠ 15 by decide)]
      exact h2
    · rw [mu_z]; exact Nat.le_refl _
  · exact LBN.rf
theorem LB_withdraw (b t k : Int32) : LBN M (g_withdraw M b t k) := by
  unfold g_withdraw
  split
  · exact (Sm2.rf.mu (by decide)).ln
  · exact LBN.rf
theorem LB_award (t k : Int32) : LBN M (g_award M t k) := by
  unfold g_award
  split
  · exact Sm2.ln ⟨m_gv_nf _ _ (by decide), m_gv_nf _ _ (by decide), m_gv_nf _ _ (by decide)⟩
  · exact LBN.rf
theorem LB_complain (b a z : Int32) : LBN M (g_complain M b a z) := by
  unfold g_complain
  split
  · exact ((((Sm2.rf.mu (by decide)).mu (by decide)).mu (by decide)).mu (by decide)).ln
  · exact LBN.rf
theorem LB_rule (c : Int32) (u : Bool) (q : Int32) : LBN M (g_rule M c u q) := by
  unfold g_rule
  split
  · split
    · exact Sm2.ln ⟨(m_gv_nf _ _ (by decide)).trans (m_up2_nf _ _ _ (by decide)), (m_gv_nf _ _ (by decide)).trans (m_up2_nf _ _ _ (by decide)), (m_gv_nf _ _ (by decide)).trans (m_up2_nf _ _ _ (by decide))⟩
    · exact ((Sm2.rf.mu (by decide)).mu (by decide)).ln
  · exact LBN.rf
theorem LB_appeal (c : Int32) : LBN M (g_appeal M c) := by
  unfold g_appeal
  split
  · exact ((Sm2.rf.mu (by decide)).mu (by decide)).ln
  · exact LBN.rf
theorem LB_sign (a : Int32) : LBN M (g_sign M a) := by
  unfold g_sign
  split
  · exact (((Sm2.rf.mu (by decide)).mu (by decide)).mu (by decide)).ln
  · exact LBN.rf
theorem LB_call (c q : Int32) : LBN M (g_call M c q) := by
  unfold g_call
  split
  · exact (Sm2.rf.mu (by decide)).ln
  · exact LBN.rf
theorem LB_line (a : Int32) : LBN M (g_line M a) := by
  unfold g_line
  split
  · exact Sm2.ln ⟨m_wl_nf _ _ (by decide) (by decide), m_wl_nf _ _ (by decide) (by decide), m_wl_nf _ _ (by decide) (by decide)⟩
  · exact LBN.rf
theorem m_dyf_15 (M : MS) : ∀ k, m_dyf M k 15 = M 15
  | 0 => rfl
  | k + 1 => by
    show m_lpf (m_dy0 (m_dyf M k)) (m_dy0 (m_dyf M k) 16 0) 15 = _
    rw [m_lpf_nf _ (by decide)]
    unfold m_dy0
    rw [m_opt_nf _ (by decide), mu_nf _ (by decide), m_dyf_15 M k]
theorem LB_pass (hM : MI M) (q : Int32) : LBN M (g_pass M q) := by
  refine ⟨fun hLB => (MI_pass hM hLB q).2, ?_⟩
  unfold g_pass
  split
  · rw [m_dyf_15]; exact Nat.le_succ _
  · exact Nat.le_succ _
end LBG
