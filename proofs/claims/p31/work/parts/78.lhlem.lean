/-! rows for a turn of the halls -/
section SL
variable {p : Program} {l : Launch} {e0 : Env} {R : Room} {s : State} {m : MethodId} {args : Array Value} {below : List Frame} {meth : Method} {c : Code} {H : Heap} {locs : List Loc} {cells slots : Nat} {Q : State → Prop}
theorem w_loopS {nL n head : Nat} {sk : List Value} (I : Nat → Nat → List (Nat × Value)) (J : Nat → Nat → Prop) (step : ∀ i, i ≤ n → ∀ x, J i x → (i < n → ∀ x, J (i + 1) x → ∀ ls, lv_has ls nL (I (i + 1) x) → W p l e0 R s m args below meth c H locs cells slots Q (F0 m head ls sk)) → ∀ ls, lv_has ls nL (I i x) → W p l e0 R s m args below meth c H locs cells slots Q (F0 m head ls sk)) : ∀ i, i ≤ n → ∀ x, J i x → ∀ ls, lv_has ls nL (I i x) → W p l e0 R s m args below meth c H locs cells slots Q (F0 m head ls sk) := by
  have key : ∀ k i, i ≤ n → n < i + k → ∀ x, J i x → ∀ ls, lv_has ls nL (I i x) → W p l e0 R s m args below meth c H locs cells slots Q (F0 m head ls sk) := by
    intro k
    induction k with
    | zero => intro i h1 h2; omega
    | succ k ih => intro i h1 h2 x hJ ls hl; exact step i h1 x hJ (fun h3 x hJ ls hl => ih (i + 1) h3 (by omega) x hJ ls hl) ls hl
  intro i hi
  exact key (n + 1) i hi (by omega)
theorem w_joinB {nL pc1 : Nat} {sk1 : List Value} {fr0 : JFrame} (I : Bool → List (Nat × Value)) (P : Bool → Prop) (k : ∀ x, P x → ∀ ls, lv_has ls nL (I x) → W p l e0 R s m args below meth c H locs cells slots Q (F0 m pc1 ls sk1)) (h : (∀ x, P x → ∀ ls, lv_has ls nL (I x) → W p l e0 R s m args below meth c H locs cells slots Q (F0 m pc1 ls sk1)) → W p l e0 R s m args below meth c H locs cells slots Q fr0) : W p l e0 R s m args below meth c H locs cells slots Q fr0 := h k
end SL
theorem bi_and1 (b : Bool) : bi b &&& nI 1 = bi b := by cases b <;> decide
theorem bi_and0 (b : Bool) : bi b &&& nI 0 = bi false := by cases b <;> decide
section HL
variable {M T : MS}
def t_lcf (T : MS) (q : Nat) : Nat → Bool
  | 0 => decide (T 5 q = 1)
  | k + 1 => t_lcf T q k && decide (T 6 k ≠ 2 + 4 * q)
def t_m0 (T : MS) (a b gd : Nat) : Bool := !t_gn T a && decide (T 11 0 < t_su T a) && decide (0 < T 3 (4 * (T 7 a % 4) + b)) && decide (T 7 a / 4 % 4 ≠ b) && (decide (gd < 2) || t_lcf T (4 * (T 7 a % 4) + b) (T 11 3))
def t_mcf (T : MS) (a b gd : Nat) : Nat → Bool
  | 0 => t_m0 T a b gd
  | k + 1 => t_mcf T a b gd k && decide (T 8 k % 128 ≠ a + 32 * b)
theorem t_lcf_iff (q : Nat) : ∀ n, t_lcf T q n = true ↔ T 5 q = 1 ∧ ∀ k, k < n → T 6 k ≠ 2 + 4 * q
  | 0 => by
    rw [t_lcf, decide_eq_true_eq]
    exact ⟨fun h => ⟨h, fun k hk => absurd hk (Nat.not_lt_zero k)⟩, fun h => h.1⟩
  | n + 1 => by
    rw [t_lcf, Bool.and_eq_true, t_lcf_iff q n, decide_eq_true_eq]
    constructor
    · rintro ⟨⟨h1, h2⟩, h3⟩
      exact ⟨h1, fun k hk => by
        by_cases e : k = n
        · rw [e]; exact h3
        · exact h2 k (by omega)⟩
    · rintro ⟨h1, h2⟩
      exact ⟨⟨h1, fun k hk => h2 k (by omega)⟩, h2 n (by omega)⟩
theorem LR.mcf (h : LR M T) (hM : MI M) (h16 : M 16 0 ≤ 32) {a b gd : Nat} (ha : a < M 16 0) (hb : b < 4) : ∀ n, n ≤ M 22 0 → (t_mcf T a b gd n = true ↔ t_m0 T a b gd = true ∧ ∀ k, k < n → ¬ (M 23 k = a ∧ M 24 k = b))
  | 0, _ => by
    rw [t_mcf]
    exact ⟨fun q => ⟨q, fun k hk => absurd hk (Nat.not_lt_zero k)⟩, fun q => q.1⟩
  | n + 1, hn => by
    have i := h.mcf hM h16 (gd := gd) ha hb n (by omega)
    obtain ⟨c1, c2, -⟩ := h.cp hM h16 (k := n) (by omega)
    have e : T 8 n % 128 = M 23 n + 32 * M 24 n := by omega
    have k23 := (h.2.2.2.2.2.2.2.1 n (by omega)).2.1
    rw [t_mcf, Bool.and_eq_true, i, decide_eq_true_eq, e]
    constructor
    · rintro ⟨⟨h1, h2⟩, h3⟩
      exact ⟨h1, fun k hk => by
        by_cases e : k = n
        · rw [e]; omega
        · exact h2 k (by omega)⟩
    · rintro ⟨h1, h2⟩
      exact ⟨⟨h1, fun k hk => h2 k (by omega)⟩, by have := h2 n (by omega); omega⟩
theorem m_mcf_iff9 {b a : Nat} : ∀ n, m_mcf M b a n = true ↔ m_mc0 M b a = true ∧ ∀ k, k < n → ¬ (M 23 k = a ∧ M 24 k = b)
  | 0 => by
    rw [m_mcf]
    exact ⟨fun q => ⟨q, fun k hk => absurd hk (Nat.not_lt_zero k)⟩, fun q => q.1⟩
  | n + 1 => by
    rw [m_mcf, Bool.and_eq_true, m_mcf_iff9 n]
    constructor
    · rintro ⟨⟨h1, h2⟩, h3⟩
      simp only [Bool.or_eq_true, Bool.not_eq_true', decide_eq_false_iff_not] at h3
      exact ⟨h1, fun k hk => by
        by_cases e : k = n
        · rw [e]; omega
        · exact h2 k (by omega)⟩
    · rintro ⟨h1, h2⟩
      refine ⟨⟨h1, fun k hk => h2 k (by omega)⟩, ?_⟩
      have := h2 n (by omega)
      simp only [Bool.or_eq_true, Bool.not_eq_true', decide_eq_false_iff_not]
      omega
theorem LR.may (h : LR M T) (hM : MI M) (h16 : M 16 0 ≤ 32) {a b gd : Nat} (ha : a < M 16 0) (hb : b < 4) (hg : gd < 3) : t_mcf T a b gd (T 11 5) = m_mc M b a gd := by
  obtain ⟨c1, c2, c3, c4, c5, c6, c7, c8⟩ := h.2.2.2.2.2.2.1 a ha
  obtain ⟨w1, -⟩ := h.aw hM ha
  have e17 : 8 * M 17 a + b = mq (4 * (T 7 a % 4) + b) := by rw [mq_at hb, c1]
  have b0 := h.b0 (q := 4 * (T 7 a % 4) + b) (by omega)
  have s2 := h.2.2.2.2.2.1.2.1 (4 * (T 7 a % 4) + b) (by omega) (by rw [show (4 * (T 7 a % 4) + b) / 8 = T 7 a % 4 / 2 by omega]; exact c6) (by omega)
  have key : t_mcf T a b gd (T 11 5) = true ↔ m_mc M b a gd = true := by
    rw [h.1.2.2.2.2.2.1, h.mcf hM h16 ha hb _ (Nat.le_refl _)]
    unfold m_mc
    rw [Bool.and_eq_true, m_mcf_iff9]
    have k0 : t_m0 T a b gd = true ↔ m_mc0 M b a = true ∧ (!decide (gd = 2) || !decide (M 13 (8 * M 17 a + b) = 0)) = true := by
      unfold t_m0 m_mc0
      rw [h.gn hM ha, h.su hM ha, h.1.1, w1, e17]
      simp only [Bool.and_eq_true, Bool.or_eq_true, Bool.not_eq_true', decide_eq_true_eq, decide_eq_false_iff_not]
      rw [t_lcf_iff, b0]
      constructor
      · rintro ⟨⟨⟨⟨z1, z2⟩, z3⟩, z4⟩, z5⟩
        refine ⟨⟨⟨⟨by omega, z2⟩, z3⟩, z4⟩, ?_⟩
        rcases z5 with z5 | z5
        · exact Or.inl (by omega)
        · exact Or.inr ((s2 z3).mpr z5)
      · rintro ⟨⟨⟨⟨z1, z2⟩, z3⟩, z4⟩, z5⟩
        refine ⟨⟨⟨⟨by omega, z2⟩, z3⟩, z4⟩, ?_⟩
        rcases z5 with z5 | z5
        · exact Or.inl (by omega)
        · exact Or.inr ((s2 z3).mp z5)
    rw [k0]
    exact ⟨fun q => ⟨⟨q.1.1, q.2⟩, q.1.2⟩, fun q => ⟨⟨q.1.1, q.2⟩, q.1.2⟩⟩
  rcases c9 : t_mcf T a b gd (T 11 5) with _ | _
  · rcases c10 : m_mc M b a gd with _ | _
    · rfl
    · rw [c10, c9] at key; exact key.mpr rfl
  · exact (key.mp c9).symm
/-! complaints -/
theorem cmp_1b {b : Nat} {a z : Int32} (hb : b < 2 ^ 31) (h : 8 ≤ b) : k_complain M (nI b) a z = 1 := by
  unfold k_complain
  rw [ix_f (a := b) (n := 8) (by omega) (by omega) h]
  exact if_pos rfl
theorem cmp_1a {a : Nat} {b z : Int32} (h16 : M 16 0 ≤ 60) (ha : a < 2 ^ 31) (h : M 16 0 ≤ a) : k_complain M b (nI a) z = 1 := by
  unfold k_complain
  rw [ix_f (a := a) (n := M 16 0) (by omega) (by omega) h]
  exact if_pos (by simp)
theorem cmp_2 {a b : Nat} {z : Int32} (h16 : M 16 0 ≤ 60) (hb : b < 8) (ha : a < M 16 0) (h : i_in z (nI 0) (nI 2) = false) : k_complain M (nI b) (nI a) z = 2 := by
  unfold k_complain
  rw [ix_t (a := b) (n := 8) (by omega) (by omega) hb, ix_t (a := a) (n := M 16 0) (by omega) (by omega) ha, if_neg (by decide), h, if_pos rfl]
theorem cmp_e {a b z : Nat} (h16 : M 16 0 ≤ 60) (hb : b < 8) (ha : a < M 16 0) (hz : z < 3) : k_complain M (nI b) (nI a) (nI z) = if m_mc M b a z = true ∧ M 22 0 < 60 then 0 else 3 := by
  unfold k_complain
  rw [ix_t (a := b) (n := 8) (by omega) (by omega) hb, ix_t (a := a) (n := M 16 0) (by omega) (by omega) ha, if_neg (by decide), ii_t (a := z) (lo := 0) (hi := 2) (by omega) (by omega) (by omega) (by omega), if_neg (by decide), nI_clamp (by omega), nI_clamp (by omega), nI_clamp (by omega)]
theorem cmp_g {a b z : Nat} (h : k_complain M (nI b) (nI a) (nI z) = 0) (ha : a < 2 ^ 31) (hb : b < 2 ^ 31) (hz : z < 2 ^ 31) : g_complain M (nI b) (nI a) (nI z) = mu (mu (mu (mu M 23 (M 22 0) a) 24 (M 22 0) b) 25 (M 22 0) z) 22 0 (M 22 0 + 1) := by
  unfold g_complain
  rw [if_pos h, nI_clamp ha, nI_clamp hb, nI_clamp hz]
/-! rulings -/
theorem rul_1 {c : Nat} {u : Bool} {q : Int32} (h22 : M 22 0 ≤ 60) (hc : c < 2 ^ 31) (h : M 22 0 ≤ c) : k_rule M (nI c) u q = 1 := by
  unfold k_rule
  rw [ix_f (a := c) (n := M 22 0) (by omega) (by omega) h]
  exact if_pos rfl
theorem rul_2 {c : Nat} {u : Bool} {q : Int32} (h22 : M 22 0 ≤ 60) (hc : c < M 22 0) (h : i_in q (nI 0) (nI 100) = false) : k_rule M (nI c) u q = 2 := by
  unfold k_rule
  rw [ix_t (a := c) (n := M 22 0) (by omega) (by omega) hc, if_neg (by decide), h, if_pos rfl]
theorem rul_e {c q : Nat} {u : Bool} (h22 : M 22 0 ≤ 60) (hc : c < M 22 0) (hq : q ≤ 100) : k_rule M (nI c) u (nI q) = if M 26 c = 0 ∧ (u = false ∨ M 16 0 ≠ 60) then 0 else 3 := by
  unfold k_rule
  rw [ix_t (a := c) (n := M 22 0) (by omega) (by omega) hc, if_neg (by decide), ii_t (a := q) (lo := 0) (hi := 100) (by omega) (by omega) (by omega) (by omega), if_neg (by decide), nI_clamp (by omega)]
theorem rul_gf {c q : Nat} (h : k_rule M (nI c) false (nI q) = 0) (hc : c < 2 ^ 31) : g_rule M (nI c) false (nI q) = mu (mu M 26 c 2) 27 c (M 1 0) := by
  unfold g_rule
  rw [if_pos h, if_neg (by decide), nI_clamp hc]
theorem rul_gt {c q : Nat} (h : k_rule M (nI c) true (nI q) = 0) (hc : c < 2 ^ 31) (hq : q < 2 ^ 31) : g_rule M (nI c) true (nI q) = m_up M c q ∧ er (k_rule M (nI c) true (nI q)) (r_rule M (nI c) true (nI q)) = m_upr M c q := by
  unfold g_rule r_rule
  rw [if_pos h, if_pos h, if_pos rfl, if_pos rfl, h, nI_clamp hc, nI_clamp hq]
  exact ⟨rfl, rfl⟩
theorem rul_rf {c q : Nat} (h : k_rule M (nI c) false (nI q) = 0) : er (k_rule M (nI c) false (nI q)) (r_rule M (nI c) false (nI q)) = (-1) := by
  unfold r_rule
  rw [if_pos h, if_neg (by decide), h]
  rfl
/-! appeals -/
theorem app_1 {c : Nat} (h22 : M 22 0 ≤ 60) (hc : c < 2 ^ 31) (h : M 22 0 ≤ c) : k_appeal M (nI c) = 1 := by
  unfold k_appeal
  rw [ix_f (a := c) (n := M 22 0) (by omega) (by omega) h]
  exact if_pos rfl
theorem app_e {c : Nat} (h22 : M 22 0 ≤ 60) (hc : c < M 22 0) : k_appeal M (nI c) = if M 26 c = 2 ∧ M 28 c = 0 ∧ M 1 0 ≤ 10 + M 27 c ∧ M 20 (M 23 c) = 0 then 0 else 2 := by
  unfold k_appeal
  rw [ix_t (a := c) (n := M 22 0) (by omega) (by omega) hc, if_neg (by decide), nI_clamp (by omega)]
theorem app_g {c : Nat} (h : k_appeal M (nI c) = 0) (hc : c < 2 ^ 31) : g_appeal M (nI c) = mu (mu M 26 c 0) 28 c 1 ∧ e13 (k_appeal M (nI c)) (r_appeal M (nI c)) = nI (m_oo (g_appeal M (nI c)) (M 23 c)) := by
  unfold r_appeal
  rw [if_pos h, h, nI_clamp hc]
  refine ⟨?_, rfl⟩
  unfold g_appeal
  rw [if_pos h, nI_clamp hc]
/-! contracts -/
theorem sig_1 {a : Nat} (h16 : M 16 0 ≤ 60) (ha : a < 2 ^ 31) (h : M 16 0 ≤ a) : k_sign M (nI a) = 1 := by
  unfold k_sign
  rw [ix_f (a := a) (n := M 16 0) (by omega) (by omega) h]
  exact if_pos rfl
theorem sig_e {a : Nat} (h16 : M 16 0 ≤ 60) (ha : a < M 16 0) : k_sign M (nI a) = if m_fn M a = true ∧ M 21 a = 0 then 0 else 2 := by
  unfold k_sign
  rw [ix_t (a := a) (n := M 16 0) (by omega) (by omega) ha, if_neg (by decide), nI_clamp (by omega)]
theorem sig_g {a : Nat} (h : k_sign M (nI a) = 0) (ha : a < 2 ^ 31) : g_sign M (nI a) = mu (mu (mu M 30 (M 29 0) a) 29 0 (M 29 0 + 1)) 21 a (M 29 0 + 1) ∧ e13 (k_sign M (nI a)) (r_sign M (nI a)) = nI (M 29 0) := by
  unfold g_sign r_sign
  rw [if_pos h, if_pos h, h, nI_clamp ha]
  exact ⟨rfl, rfl⟩
theorem cal_1 {c : Nat} {q : Int32} (h29 : M 29 0 ≤ 60) (hc : c < 2 ^ 31) (h : M 29 0 ≤ c) : k_call M (nI c) q = 1 := by
  unfold k_call
  rw [ix_f (a := c) (n := M 29 0) (by omega) (by omega) h]
  exact if_pos rfl
theorem cal_2 {c a : Nat} (h29 : M 29 0 ≤ 60) (hc : c < M 29 0) (ha : a < 2 ^ 31) (h : a = 0 ∨ 100000 < a) : k_call M (nI c) (nI a) = 2 := by
  unfold k_call
  rw [ix_t (a := c) (n := M 29 0) (by omega) (by omega) hc, if_neg (by decide), ii_f (a := a) (lo := 1) (hi := 100000) (by omega) (by omega) (by omega) (by omega), if_pos rfl]
theorem cal_e {c q : Nat} (h29 : M 29 0 ≤ 60) (hc : c < M 29 0) (h1 : 1 ≤ q) (h2 : q ≤ 100000) : k_call M (nI c) (nI q) = if 2 ≤ m_runs M c ∧ M 31 c + q ≤ m_pr M c then 0 else 3 := by
  unfold k_call
  rw [ix_t (a := c) (n := M 29 0) (by omega) (by omega) hc, if_neg (by decide), ii_t (a := q) (lo := 1) (hi := 100000) (by omega) (by omega) (by omega) (by omega), if_neg (by decide), nI_clamp (by omega), nI_clamp (by omega)]
theorem cal_g {c q : Nat} (h : k_call M (nI c) (nI q) = 0) (hc : c < 2 ^ 31) (hq : q < 2 ^ 31) : g_call M (nI c) (nI q) = mu M 31 c (M 31 c + q) ∧ er (k_call M (nI c) (nI q)) (r_call M (nI c) (nI q)) = nI (M 31 c + q) := by
  unfold g_call r_call
  rw [if_pos h, if_pos h, h, nI_clamp hc, nI_clamp hq]
  exact ⟨rfl, rfl⟩
theorem ct_1 {c : Nat} (h29 : M 29 0 ≤ 60) (hc : c < 2 ^ 31) (h : M 29 0 ≤ c) : k_ct M (nI c) = 1 := by
  unfold k_ct
  rw [ix_f (a := c) (n := M 29 0) (by omega) (by omega) h]
  rfl
theorem co_1 {c : Nat} (h22 : M 22 0 ≤ 60) (hc : c < 2 ^ 31) (h : M 22 0 ≤ c) : k_co M (nI c) = 1 := by
  unfold k_co
  rw [ix_f (a := c) (n := M 22 0) (by omega) (by omega) h]
  rfl
theorem co_n {x : Int32} (h22 : M 22 0 ≤ 60) (h : x < 0) : k_co M x = 1 := by
  unfold k_co
  rw [isIx_neg (by omega) h]
  rfl
theorem aw_1 {a : Nat} (h16 : M 16 0 ≤ 60) (ha : a < 2 ^ 31) (h : M 16 0 ≤ a) : k_aw M (nI a) = 1 := by
  unfold k_aw
  rw [ix_f (a := a) (n := M 16 0) (by omega) (by omega) h]
  rfl
/-! awards -/
theorem awd_1 {t k : Int32} (h : m_isLot M t k = false) : k_award M t k = 1 := by
  unfold k_award
  rw [h]
  exact if_pos rfl
theorem lotk_1 {t k : Int32} (h : m_isLot M t k = false) : k_lot M t k = 1 := by
  unfold k_lot
  rw [h]
  rfl
theorem awd_e {j : Nat} (hj : j < 4) (h : m_isLot M (nI (j / 2)) (nI (j % 2)) = true) : k_award M (nI (j / 2)) (nI (j % 2)) = if m_op M (j / 2) = true ∧ m_af M (ml j) = none ∧ m_rk M (ml j) 0 ≠ none ∧ M 16 0 ≠ 60 then 0 else 2 := by
  unfold k_award
  rw [h, if_neg (by decide), m_lt_n hj, nI_clamp (by omega)]
theorem awd_g {j : Nat} (hj : j < 4) (h : k_award M (nI (j / 2)) (nI (j % 2)) = 0) : g_award M (nI (j / 2)) (nI (j % 2)) = m_gv M (ml j) ∧ e13 (k_award M (nI (j / 2)) (nI (j % 2))) (r_award M (nI (j / 2)) (nI (j % 2))) = m_gvr M (ml j) := by
  unfold g_award r_award
  rw [if_pos h, if_pos h, h, m_lt_n hj]
  exact ⟨rfl, rfl⟩
end HL
/-- what the class's cells say of the reference's numbers alone -/
theorem cSt.inv {cI cO : ClassId} {eA : Nat} {st : Nat → Nat} {A : Nat → Prop} {h : Nat} {M : MS} {ws : va_W} (hc : cSt cI cO eA st A h M ws) : UQ M ∧ RelD M ∧ RelX M ∧ RelS M := by
  obtain ⟨_, _, _, _, _, _, ⟨_, _, _, _, _, _, G⟩, _⟩ := hc
  obtain ⟨hH, hT, hL, hX, hW, hU, hC, hD, hK, hS, hO, hN, hZ⟩ := G
  exact ⟨hU.1, hD, hX, hS⟩
theorem RelX.x2 {M : MS} (h : RelX M) : ∀ z, z < 144 → M 13 z = 0 ∨ M 14 z = 0 := fun z hz => by
  have := (h.2 (z / 8) (z % 8) (by omega) (by omega)).1
  rw [show 8 * (z / 8) + z % 8 = z by omega] at this
  exact this
section HO
variable {M T : MS}
theorem or_dis {x : Nat} (h : x / 512 % 4 = 0) : x % 4096 ||| 1024 = x % 4096 + 1024 := by
  have e : x % 4096 = 2 ^ (9 + 2) * (x % 4096 / 2048) + x % 512 := by
    show x % 4096 = 2048 * (x % 4096 / 2048) + x % 512
    omega
  have o := or_gap (i := 9) (k := 2) (h := x % 4096 / 2048) (v := 2) (r := x % 512) (Nat.mod_lt _ (by decide)) (by decide)
  rw [← e] at o
  rw [show (1024 : Nat) = 2 ^ 9 * 2 by decide, o]
  show 2048 * (x % 4096 / 2048) + (1024 + x % 512) = x % 4096 + 1024
  omega
theorem or_hi {a b k p9 : Nat} (hp : 2 ^ k = p9) (ha : a < p9) : a ||| b * p9 = a + p9 * b := by
  subst hp
  rw [Nat.or_comm, Nat.mul_comm b, ← Nat.two_pow_add_eq_or_of_lt ha, Nat.add_comm]
theorem or_2k {a : Nat} (ha : a < 512) : a ||| 2048 = a + 2048 := by
  have := or_hi (a := a) (b := 1) (k := 11) (p9 := 2048) (by decide) (by omega)
  simpa using this
theorem or_st {x v : Nat} (h : x / 512 % 4 = 0) (hv : v < 4) : x ||| 512 * v = x + 512 * v := by
  have e : x = 2 ^ (9 + 2) * (x / 2048) + x % 512 := by
    show x = 2048 * (x / 2048) + x % 512
    omega
  have o := or_gap (i := 9) (k := 2) (h := x / 2048) (v := v) (r := x % 512) (Nat.mod_lt _ (by decide)) hv
  rw [← e] at o
  show x ||| 2 ^ 9 * v = _
  rw [o]
  show 2048 * (x / 2048) + (512 * v + x % 512) = x + 512 * v
  omega
theorem LT_gv (hT : LT T) {j : Nat} (hj : j < 4) (h4 : T 11 4 ≤ 31) : LT (t_gv T j) := by
  have k := LTb_gv hT.1 hj (by omega)
  obtain ⟨-, a1, a2, a3, a4, a5⟩ := hT
  refine ⟨k, ?_, ?_, ?_, ?_, ?_⟩
  · rw [t_gv_11 _ _ (by decide)]; exact a1
  · rw [t_gv_11 _ _ (by decide)]; exact a2
  · unfold t_gv
    rcases t_best T j 0 with _ | b
    · exact a3
    · show mu (mu T 7 (T 11 4) (j + 4 * (b % 4) + 16 * T 11 0)) 11 4 (T 11 4 + 1) 11 4 ≤ 32
      rw [mu_eq]; omega
  · rw [t_gv_11 _ _ (by decide)]; exact a4
  · rw [t_gv_11 _ _ (by decide)]; exact a5
theorem LR.bnone (h : LR M T) (hM : MI M) {j : Nat} (hj : j < 4) (h3 : j / 2 < M 3 0) : t_best T j 0 = none ↔ m_rk M (ml j) 0 = none := by
  rw [h.best0 hM hj h3]
  rcases m_rk M (ml j) 0 with _ | b <;> simp
theorem LT_moo (hT : LT T) {a c : Nat} : ∀ n, (∀ k, k < n → T 8 k ≤ 10000000) → LT (t_moo T a c n)
  | 0, _ => hT
  | n + 1, h => by
    have i := LT_moo hT (a := a) (c := c) n (fun k hk => h k (by omega))
    rw [t_moo]
    split
    · obtain ⟨b0, b1, b2, b3, b4, b5⟩ := i
      refine ⟨LTb_mu b0 ?_, by simpa [mu] using b1, by simpa [mu] using b2, by simpa [mu] using b3, by simpa [mu] using b4, by simpa [mu] using b5⟩
      have e : t_moo T a c n 8 n = T 8 n := by rw [t_moo_8, if_neg (fun z => absurd z.1 (Nat.lt_irrefl n))]
      rw [e]
      have := h n (by omega)
      show _ ≤ 16777215
      split <;> omega
    · exact i
theorem LR.c8 (h : LR M T) (hM : MI M) (h16 : M 16 0 ≤ 32) : ∀ k, k < T 11 5 → T 8 k ≤ 10000000 := fun k hk => by
  rw [h.1.2.2.2.2.2.1] at hk
  obtain ⟨c1, c2, c3, c4, c5⟩ := h.2.2.2.2.2.2.2.1 k hk
  have h26 : M 26 k ≤ 3 := hM 26 k
  have h28 : M 28 k ≤ 1 := hM 28 k
  have h1 : M 1 0 ≤ 2000 := hM 1 0
  by_cases e : M 26 k = 2
  · rw [if_pos e] at c1
    omega
  · rw [if_neg e] at c1
    omega
theorem LR.ab (h : LR M T) (hM : MI M) (h16 : M 16 0 ≤ 32) {c : Nat} (hc : c < T 11 5) : T 8 c % 32 = M 23 c ∧ T 8 c / 32 % 4 = M 24 c ∧ T 8 c / 128 % 4 = M 25 c ∧ T 8 c / 512 % 4 = M 26 c ∧ T 8 c / 2048 % 2 = M 28 c ∧ T 8 c / 4096 = (if M 26 c = 2 then M 27 c else 0) ∧ T 8 c / 4096 ≤ T 11 0 ∧ M 23 c < M 16 0 ∧ M 24 c < 4 ∧ M 25 c < 3 ∧ c < M 22 0 := by
  have hc2 := hc
  rw [h.1.2.2.2.2.2.1] at hc2
  obtain ⟨c1, c2, c3, c4, c5, c6, -⟩ := h.cp hM h16 hc2
  obtain ⟨d1, d2, d3, d4, d5⟩ := h.2.2.2.2.2.2.2.1 c hc2
  refine ⟨c1, c2, c3, c4, c5, c6, ?_, d2, d3, d4, hc2⟩
  rw [c6, h.1.1]
  split <;> omega
end HO
