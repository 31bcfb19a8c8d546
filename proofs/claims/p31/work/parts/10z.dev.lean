/-! for trying alone: rows that stand in later parts -/
/-- how many places below n have P -/
def cn (P : Nat → Prop) [DecidablePred P] : Nat → Nat
  | 0 => 0
  | i + 1 => cn P i + if P i then 1 else 0
theorem cn_mono {P Q : Nat → Prop} [DecidablePred P] [DecidablePred Q] {n : Nat} (h : ∀ i, i < n → P i → Q i) : cn P n ≤ cn Q n := by
  induction n with
  | zero => exact Nat.le_refl _
  | succ n ih =>
    have i1 := ih (fun i hi => h i (by omega))
    rw [cn, cn]
    by_cases hp : P n
    · rw [if_pos hp, if_pos (h n (by omega) hp)]; omega
    · rw [if_neg hp]; omega
theorem cn_lt {P Q : Nat → Prop} [DecidablePred P] [DecidablePred Q] {n k : Nat} (h : ∀ i, i < n → P i → Q i) (hk : k < n) (h1 : Q k) (h2 : ¬ P k) : cn P n < cn Q n := by
  induction n with
  | zero => omega
  | succ n ih =>
    rw [cn, cn]
    by_cases hkn : k = n
    · subst hkn
      have := cn_mono (P := P) (Q := Q) (n := k) (fun i hi => h i (by omega))
      rw [if_neg h2, if_pos h1]; omega
    · have i1 := ih (fun i hi => h i (by omega)) (by omega)
      by_cases hp : P n
      · rw [if_pos hp, if_pos (h n (by omega) hp)]; omega
      · rw [if_neg hp]; omega
theorem mu_at {M : MS} {f i v j : Nat} : mu M f i v f j = if j = i then v else M f j := by rw [mu_f]
theorem m_mof_at (M : MS) (a : Nat) : ∀ n i, m_mof M a n 26 i = if i < n ∧ M 23 i = a ∧ M 26 i = 0 then 3 else M 26 i
  | 0, i => (if_neg (fun q => Nat.not_lt_zero i q.1)).symm
  | n + 1, i => by
    have ih := m_mof_at M a n
    have hnn := ih n
    rw [if_neg (fun q => Nat.lt_irrefl _ q.1)] at hnn
    rw [m_mof, mu_at, m_mof_nf M a (by decide), hnn]
    by_cases hin : i = n
    · subst hin
      rw [if_pos rfl]
      by_cases hc : M 23 i = a ∧ M 26 i = 0
      · rw [if_pos hc, if_pos ⟨by omega, hc⟩]
      · rw [if_neg hc, if_neg (fun q => hc q.2)]
    · rw [if_neg hin, ih i]
      by_cases hq : i < n ∧ M 23 i = a ∧ M 26 i = 0
      · rw [if_pos hq, if_pos ⟨by omega, hq.2⟩]
      · rw [if_neg hq, if_neg (fun q => hq ⟨by omega, q.2⟩)]
/-- the reference's rows with one complaint upheld and the others about its award moot -/
def mUp (M : MS) (c : Nat) : MS := fun f i => if f = 26 then (if i = c then 1 else if i < M 22 0 ∧ M 23 i = M 23 c ∧ M 26 i = 0 then 3 else M 26 i) else M f i
theorem mUp_at {M : MS} {c i : Nat} : mUp M c 26 i = if i = c then 1 else if i < M 22 0 ∧ M 23 i = M 23 c ∧ M 26 i = 0 then 3 else M 26 i := if_pos rfl
theorem up2_26 {M : MS} {c q : Nat} (hc : c < M 22 0) : m_up2 M c q 26 = mUp M c 26 := by
  funext i
  have e26 : ∀ i, m_up1 M c q 26 i = if i = c then 1 else M 26 i := fun i => by
    unfold m_up1
    rw [mu_nf _ (by decide), mu_at, m_up0_nf M c q (by decide)]
  unfold m_up2
  rw [m_mof_at, e26, m_up1_nf M c q (by decide), mUp_at]
  by_cases hic : i = c
  · rw [if_pos hic, if_pos hic, if_neg (fun q => by cases q.2.2)]
  · rw [if_neg hic, if_neg hic]
