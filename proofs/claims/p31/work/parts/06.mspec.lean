/-! what the reference computes, over its numbers -/
def mcap (f : Nat) : Nat := match f with
  | 0 => 3 | 1 => 2000 | 2 => 2001 | 3 => 6 | 4 => 1000 | 5 => 63 | 6 => 100 | 7 => 30 | 8 => 3 | 9 => 10000 | 10 => 100000 | 11 => 100 | 12 => 1000 | 13 => 1 | 14 => 1 | 15 => 1000
  | 16 => 60 | 17 => 17 | 18 => 7 | 19 => 2000 | 20 => 1 | 21 => 60 | 22 => 60 | 23 => 59 | 24 => 7 | 25 => 2 | 26 => 3 | 27 => 2000 | 28 => 1 | 29 => 60 | 30 => 59 | 31 => 100000 | 32 => 1200000000 | 33 => 20 | 34 => 127 | _ => 0
/-- every number of the reference is below its bound -/
def MI (M : MS) : Prop := ∀ f i, M f i ≤ mcap f
theorem MI_mu {M : MS} (h : MI M) {f i v : Nat} (hv : v ≤ mcap f) : MI (mu M f i v) := by
  intro g j
  by_cases q : g = f ∧ j = i
  · rw [show mu M f i v g j = v from if_pos q, q.1]; exact hv
  · rw [show mu M f i v g j = M g j from if_neg q]; exact h g j
theorem bi_one {b : Bool} (h : b = true) : nI 1 = bi b := by rw [h]; rfl
theorem bi_zero {b : Bool} (h : b = false) : nI 0 = bi b := by rw [h]; rfl
def optI (o : Option Nat) : Int32 := match o with
  | none => -1
  | some b => nI b
def i_in (x lo hi : Int32) : Bool := !decide (x < lo) && !decide (hi < x)
def isIx (x : Int32) (n : Nat) : Bool := i_in x (nI 0) (nI n - nI 1)
theorem isIx_of {x : Int32} {n : Nat} (hn : n < 2 ^ 31) (h : isIx x n = true) : ∃ j : Nat, j < n ∧ x = nI j := by
  simp only [isIx, i_in, Bool.and_eq_true, Bool.not_eq_true', decide_eq_false_iff_not] at h
  obtain ⟨h1, h2⟩ := h
  obtain ⟨j, hj, rfl⟩ := nI_of (show ¬ x < 0 from h1)
  refine ⟨j, ?_, rfl⟩
  rcases Nat.lt_or_ge j n with q | q
  · exact q
  · exfalso
    apply h2
    rw [Int32.lt_iff_toInt_lt, nI_toInt hj]
    have e : (nI n - nI 1).toInt = (n : Int) - 1 := by
      rw [fb_subI9 (by rw [nI_toInt hn, nI_toInt (by decide)]; omega) (by rw [nI_toInt hn, nI_toInt (by decide)]; omega), nI_toInt hn, nI_toInt (by decide)]; rfl
    rw [e]
    omega
theorem isIx_nI {j n : Nat} (hn : n < 2 ^ 31) (h : j < n) : isIx (nI j) n = true := by
  have hj : j < 2 ^ 31 := by omega
  simp only [isIx, i_in, Bool.and_eq_true, Bool.not_eq_true', decide_eq_false_iff_not]
  have e : (nI n - nI 1).toInt = (n : Int) - 1 := by
    rw [fb_subI9 (by rw [nI_toInt hn, nI_toInt (by decide)]; omega) (by rw [nI_toInt hn, nI_toInt (by decide)]; omega), nI_toInt hn, nI_toInt (by decide)]; rfl
  refine ⟨by rw [Int32.lt_iff_toInt_lt, nI_toInt hj, nI_toInt (by decide)]; omega, by rw [Int32.lt_iff_toInt_lt, nI_toInt hj, e]; omega⟩
def m_isLot (M : MS) (t k : Int32) : Bool := isIx t (M 3 0) && isIx k (M 8 t.toNatClampNeg)
def m_op (M : MS) (t : Nat) : Bool := decide (M 4 t ≤ M 1 0)
def m_bf (M : MS) (lot : Nat) : Nat → Nat
  | 0 => 0
  | b + 1 => m_bf M lot b + (if 0 < M 10 (8 * lot + b) then 1 else 0)
def m_hp (M : MS) (b t : Nat) : Nat → Bool
  | 0 => true
  | k + 1 => m_hp M b t k && (decide (M 5 t / 2 ^ k % 2 = 0) || decide (M 4 t < M 2 (6 * b + k)))
def m_tp (M : MS) (a : Nat) : Bool := m_op M (a / 8 / 3) && decide (0 < M 10 a) && decide (M 13 a = 0) && decide (M 14 a = 0)
def m_lst (M : MS) (a : Nat) : Nat → Nat
  | 0 => M 10 a
  | b + 1 => if m_tp M (8 * (a / 8) + b) = true ∧ M 10 (8 * (a / 8) + b) < m_lst M a b then M 10 (8 * (a / 8) + b) else m_lst M a b
def m_sc (M : MS) (a : Nat) : Nat := m_lst M a 8 * 1000 / M 10 a * M 6 (a / 8 / 3) + 10 * M 11 a * (100 - M 6 (a / 8 / 3))
def m_bt (M : MS) (a b : Nat) : Bool := if m_sc M a ≠ m_sc M b then decide (m_sc M b < m_sc M a) else if M 10 a ≠ M 10 b then decide (M 10 a < M 10 b) else decide (M 12 a < M 12 b)
def m_ah (M : MS) (lot b : Nat) : Nat → Nat
  | 0 => 0
  | o + 1 => m_ah M lot b o + (if m_tp M (8 * lot + b) = true ∧ m_tp M (8 * lot + o) = true ∧ o ≠ b ∧ m_bt M (8 * lot + o) (8 * lot + b) = true then 1 else 0)
def m_rkf (M : MS) (lot place : Nat) : Nat → Option Nat
  | 0 => none
  | b + 1 => if m_tp M (8 * lot + b) = true ∧ m_ah M lot b 8 = place then some b else m_rkf M lot place b
def m_rk (M : MS) (lot place : Nat) : Option Nat := m_rkf M lot place 8
def m_oof (M : MS) (a : Nat) : Nat → Nat
  | 0 => 0
  | c + 1 => m_oof M a c + (if M 23 c = a ∧ M 26 c = 0 then 1 else 0)
def m_oo (M : MS) (a : Nat) : Nat := m_oof M a (M 22 0)
def m_su (M : MS) (a : Nat) : Nat := M 19 a + M 7 (M 17 a / 3)
def m_fn (M : MS) (a : Nat) : Bool := decide (M 20 a = 0) && decide (m_oo M a = 0) && decide (m_su M a ≤ M 1 0)
def m_aff (M : MS) (lot : Nat) : Nat → Option Nat
  | 0 => none
  | a + 1 => if M 17 a = lot ∧ M 20 a = 0 then some a else m_aff M lot a
def m_af (M : MS) (lot : Nat) : Option Nat := m_aff M lot (M 16 0)
def m_runs (M : MS) (c : Nat) : Nat := if M 20 (M 30 c) = 0 then (if 0 < m_oo M (M 30 c) then 1 else 2) else 0
def m_pr (M : MS) (c : Nat) : Nat := M 10 (8 * M 17 (M 30 c) + M 18 (M 30 c))
def m_hcf (M : MS) (lot : Nat) : Nat → Bool
  | 0 => false
  | c + 1 => m_hcf M lot c || (decide (M 17 (M 30 c) = lot) && decide (0 < m_runs M c))
def m_hc (M : MS) (lot : Nat) : Bool := m_hcf M lot (M 29 0)
theorem m_lst_le (M : MS) (a : Nat) : ∀ b, m_lst M a b ≤ M 10 a
  | 0 => Nat.le_refl _
  | b + 1 => by
    have := m_lst_le M a b
    rw [m_lst]
    split <;> omega
theorem m_sc_le {M : MS} (hM : MI M) (a : Nat) : m_sc M a ≤ 1000000 := by
  have h1 := m_lst_le M a 8
  have h2 : M 6 (a / 8 / 3) ≤ 100 := hM 6 _
  have h3 : M 11 a ≤ 100 := hM 11 _
  have h4 : m_lst M a 8 * 1000 / M 10 a ≤ 1000 := by
    rcases Nat.eq_zero_or_pos (M 10 a) with q | q
    · rw [q, Nat.div_zero]; omega
    · exact Nat.div_le_of_le_mul (Nat.mul_le_mul h1 (Nat.le_refl 1000))
  have h5 : m_lst M a 8 * 1000 / M 10 a * M 6 (a / 8 / 3) ≤ 1000 * 100 := Nat.mul_le_mul h4 h2
  have h6 : 10 * M 11 a * (100 - M 6 (a / 8 / 3)) ≤ 1000 * 100 := Nat.mul_le_mul (by omega) (by omega)
  unfold m_sc
  omega
theorem m_ah_le (M : MS) (lot b : Nat) : ∀ o, m_ah M lot b o ≤ o
  | 0 => Nat.le_refl _
  | o + 1 => by
    have := m_ah_le M lot b o
    rw [m_ah]
    split <;> omega
theorem m_bf_le (M : MS) (lot : Nat) : ∀ o, m_bf M lot o ≤ o
  | 0 => Nat.le_refl _
  | o + 1 => by
    have := m_bf_le M lot o
    rw [m_bf]
    split <;> omega
theorem m_oof_le (M : MS) (a : Nat) : ∀ o, m_oof M a o ≤ o
  | 0 => Nat.le_refl _
  | o + 1 => by
    have := m_oof_le M a o
    rw [m_oof]
    split <;> omega
theorem m_rkf_lt (M : MS) (lot place : Nat) : ∀ n b, m_rkf M lot place n = some b → b < n ∧ m_tp M (8 * lot + b) = true ∧ m_ah M lot b 8 = place
  | 0, b, h => by cases h
  | n + 1, b, h => by
    rw [m_rkf] at h
    split at h
    · next q => cases h; exact ⟨by omega, q⟩
    · have := m_rkf_lt M lot place n b h
      exact ⟨by omega, this.2⟩
theorem m_aff_lt (M : MS) (lot : Nat) : ∀ n b, m_aff M lot n = some b → b < n ∧ M 17 b = lot ∧ M 20 b = 0
  | 0, b, h => by cases h
  | n + 1, b, h => by
    rw [m_aff] at h
    split at h
    · next q => cases h; exact ⟨by omega, q⟩
    · have := m_aff_lt M lot n b h
      exact ⟨by omega, this.2⟩
theorem n_sub1_lt {a b : Nat} (ha : a < 2 ^ 31) (hb : b < 2 ^ 31) : nI a - nI 1 < nI b ↔ a ≤ b := by
  rw [Int32.lt_iff_toInt_lt, fb_subI9 (by rw [nI_toInt ha, nI_toInt (by decide)]; omega) (by rw [nI_toInt ha, nI_toInt (by decide)]; omega), nI_toInt ha, nI_toInt hb, nI_toInt (by decide)]
  omega
theorem n_s32 : ∀ n, n < 32 → ((nI n &&& 31).toBitVec.smod 32).toNat = n := by decide +kernel
theorem n_shr {a k : Nat} (ha : a < 2 ^ 31) (hk : k < 32) : nI a >>> (nI k &&& 31) = nI (a / 2 ^ k) := pk_shrN ha _ k (n_s32 k hk)
theorem n_and1 {a : Nat} (ha : a < 2 ^ 32) : nI a &&& nI 1 = nI (a % 2) := pk_andN ha 1 (by decide)
theorem n_div2k {a k : Nat} (ha : a < 2 ^ 31) : a / 2 ^ k < 2 ^ 32 := Nat.lt_of_le_of_lt (Nat.div_le_self _ _) (by omega)
section ML
variable {p : Program} {l : Launch} {e0 : Env} {R : Room} {s : State} {m : MethodId} {args : Array Value} {below : List Frame} {meth : Method} {c : Code} {H : Heap} {locs : List Loc} {cells slots : Nat} {Q : State → Prop}
theorem w_loop {nL e head : Nat} {st : List Value} (I : Nat → List (Nat × Value)) (step : ∀ i, i ≤ e → (i < e → ∀ ls, lv_has ls nL (I (i + 1)) → W p l e0 R s m args below meth c H locs cells slots Q (F0 m head ls st)) → ∀ ls, lv_has ls nL (I i) → W p l e0 R s m args below meth c H locs cells slots Q (F0 m head ls st)) : ∀ i, i ≤ e → ∀ ls, lv_has ls nL (I i) → W p l e0 R s m args below meth c H locs cells slots Q (F0 m head ls st) := by
  have key : ∀ n i, i ≤ e → e < i + n → ∀ ls, lv_has ls nL (I i) → W p l e0 R s m args below meth c H locs cells slots Q (F0 m head ls st) := by
    intro n
    induction n with
    | zero => intro i h1 h2; omega
    | succ n ih => intro i h1 h2 ls hl; exact step i h1 (fun h3 ls hl => ih (i + 1) h3 (by omega) ls hl) ls hl
  intro i hi
  exact key (e + 1) i hi (by omega)
end ML
theorem m_su_le {M : MS} (hM : MI M) (a : Nat) : m_su M a ≤ 2030 := by
  have h1 : M 19 a ≤ 2000 := hM 19 _
  have h2 : M 7 (M 17 a / 3) ≤ 30 := hM 7 _
  unfold m_su
  omega
theorem m_runs_le (M : MS) (c : Nat) : m_runs M c ≤ 2 := by
  unfold m_runs
  split
  · split <;> omega
  · omega
