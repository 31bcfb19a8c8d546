/-! rows for what is told -/
/-- what stands behind the telling: the class's state may have written a line -/
def LZ (cI cO : ClassId) (eA : Nat) (st : Nat → Nat) (A : Nat → Prop) (h n : Nat) (T : MS) (u : va_W × MS) : Prop := cSt cI cO eA st A h u.2 u.1 ∧ MI u.2 ∧ m_LB u.2 ∧ u.2 15 0 ≤ n ∧ LR u.2 T
def t_la (T : MS) (a : Nat) : Nat := if t_gn T a = true then 86 else if 0 < T 7 a / 131072 then 83 else if t_se T a = true then 70 else 0
def t_ll (T : MS) (a n l : Nat) : List Nat := (if n = 1 then [35, 48 + a / 10] else [35]) ++ ([48 + a % 10, 32, 84, 48 + T 7 a % 4 / 2, 76, 48 + T 7 a % 2, 32, 66, 48 + T 7 a / 4 % 4] ++ (if 0 < l then [l] else []))
def t_ru (T : MS) (k : Nat) : Nat := if t_gn T (T 9 k % 32) = true then 0 else if 0 < t_oo T (T 9 k % 32) then 1 else 2
def t_owf (T : MS) (b : Nat) : Nat → Nat
  | 0 => 0
  | k + 1 => t_owf T b k + (if t_ru T k = 0 ∧ T 7 (T 9 k % 32) / 4 % 4 = b then T 9 k / 32 else 0)
/-- a deposit is held -/
def t_hb (T : MS) (b j : Nat) : Bool := decide (0 < T 3 (4 * j + b)) && (!t_op T (j / 2) || t_tk T (4 * j + b)) && (match t_st T j with | none => true | some a => decide (T 7 a / 131072 = 0))
def t_hdf (T : MS) (b : Nat) : Nat → Nat
  | 0 => 0
  | j + 1 => t_hdf T b j + (if t_hb T b j = true then T 2 j - 1 else 0)
section TL
variable {M M2 T : MS}
theorem LR.ln (h : LR M T) (m : ∀ f, f ∉ [33, 34] → M2 f = M f) : LR M2 T := by
  obtain ⟨hg, hp, ht, hl, hb, hs, ha, hc, hd, hw, hz⟩ := h
  refine ⟨?_, hp.c (m 2 (by decide)) rfl, ht.c (m 3 (by decide)) (m 4 (by decide)) (m 5 (by decide)) (m 6 (by decide)) (m 7 (by decide)) rfl, hl.c (m 3 (by decide)) (m 8 (by decide)) (m 9 (by decide)) rfl, hb.c (m 8 (by decide)) (m 10 (by decide)) (m 12 (by decide)) (m 15 (by decide)) rfl rfl, hs.c (m 1 (by decide)) (m 3 (by decide)) (m 4 (by decide)) (m 10 (by decide)) (m 11 (by decide)) (m 13 (by decide)) (m 14 (by decide)) rfl rfl rfl rfl rfl rfl, ha.c (m 1 (by decide)) (m 3 (by decide)) (m 4 (by decide)) (m 8 (by decide)) (m 10 (by decide)) (m 16 (by decide)) (m 17 (by decide)) (m 18 (by decide)) (m 19 (by decide)) (m 20 (by decide)) (m 21 (by decide)) rfl, hc.c (m 1 (by decide)) (by rw [m 16 (by decide)]; exact Nat.le_refl _) (m 22 (by decide)) (m 23 (by decide)) (m 24 (by decide)) (m 25 (by decide)) (m 26 (by decide)) (m 27 (by decide)) (m 28 (by decide)) rfl, hd.c (by rw [m 16 (by decide)]; exact Nat.le_refl _) (m 29 (by decide)) (m 30 (by decide)) (m 31 (by decide)) rfl, hw.c (m 32 (by decide)) rfl, hz.c (by rw [m 16 (by decide)]; exact Nat.le_refl _) (m 20 (by decide)) (m 21 (by decide)) (m 22 (by decide)) (m 26 (by decide)) (m 27 (by decide)) (m 28 (by decide)) (m 29 (by decide)) (m 31 (by decide))⟩
  rw [LRg, m 1 (by decide), m 3 (by decide), m 15 (by decide), m 16 (by decide), m 22 (by decide), m 29 (by decide)]
  exact hg
theorem LR.ll (h : LR M T) (hM : MI M) (h16 : M 16 0 ≤ 32) {a n l : Nat} (ha : a < M 16 0) (hn : n = if 9 < a then 1 else 0) (hl : l = t_la T a) : m_ll M a = t_ll T a n l := by
  obtain ⟨w1, -, -, w4, w5, -⟩ := h.aw hM ha
  have e17 : M 17 a = 3 * (T 7 a % 4 / 2) + T 7 a % 4 % 2 := (h.2.2.2.2.2.2.1 a ha).1
  have s1 := h.gn hM ha
  have s2 := h.se hM h16 ha
  unfold m_ll t_ll
  rw [show M 17 a / 3 = T 7 a % 4 / 2 by omega, show M 17 a % 3 = T 7 a % 2 by omega, ← w1]
  have hx : (if M 20 a ≠ 0 then [86] else if 0 < M 21 a then [83] else if m_fn M a = true then [70] else []) = (if 0 < l then [l] else []) := by
    rw [hl]
    unfold t_la
    rw [s1, s2, w4]
    by_cases c1 : M 20 a = 0
    · by_cases c2 : 0 < M 21 a
      · simp [c1, c2]
      · by_cases c3 : m_fn M a = true
        · simp [c1, c2, c3]
        · simp [c1, c2, c3]
    · simp [c1]
  rw [hx]
  by_cases c : 9 < a
  · rw [if_pos c] at hn
    subst hn
    rw [if_pos c, if_pos rfl]
    simp
  · rw [if_neg c] at hn
    subst hn
    rw [if_neg c, if_neg (show ¬ (0 : Nat) = 1 by decide)]
    simp
theorem tll_len {a n l : Nat} (hn : n ≤ 1) : (t_ll T a n l).length = 10 + n + if 0 < l then 1 else 0 := by
  rcases (show n = 0 ∨ n = 1 by omega) with rfl | rfl <;> unfold t_ll <;> by_cases c : 0 < l <;> simp [c]
theorem tll_at {a n l q : Nat} (hn : n ≤ 1) (hq : q < 9) : gt (t_ll T a n l) (1 + n + q) = gt [48 + a % 10, 32, 84, 48 + T 7 a % 4 / 2, 76, 48 + T 7 a % 2, 32, 66, 48 + T 7 a / 4 % 4] q := by
  rcases (show q = 0 ∨ q = 1 ∨ q = 2 ∨ q = 3 ∨ q = 4 ∨ q = 5 ∨ q = 6 ∨ q = 7 ∨ q = 8 by omega) with rfl | rfl | rfl | rfl | rfl | rfl | rfl | rfl | rfl <;> rcases (show n = 0 ∨ n = 1 by omega) with rfl | rfl <;> rfl
theorem tll_0 {a n l : Nat} (hn : n ≤ 1) : gt (t_ll T a n l) 0 = 35 := by
  rcases (show n = 0 ∨ n = 1 by omega) with rfl | rfl <;> rfl
theorem tll_1 {a l : Nat} : gt (t_ll T a 1 l) 1 = 48 + a / 10 := rfl
theorem tll_l {a n l : Nat} (hn : n ≤ 1) (hl : 0 < l) : gt (t_ll T a n l) (10 + n) = l := by
  rcases (show n = 0 ∨ n = 1 by omega) with rfl | rfl <;> unfold t_ll <;> rw [if_pos hl] <;> rfl
theorem lin_k {a : Nat} (h16 : M 16 0 ≤ 60) (ha : a < M 16 0) : k_aw M (nI a) = 0 := by
  unfold k_aw
  rw [ix_t (a := a) (n := M 16 0) (by omega) (by omega) ha]
  rfl
theorem lin_n {x : Int32} (h16 : M 16 0 ≤ 60) (h : x < 0) : k_aw M x = 1 := by
  unfold k_aw
  rw [isIx_neg (by omega) h]
  rfl
theorem LR.line (h : LR M T) (hM : MI M) (h16 : M 16 0 ≤ 32) {a n l : Nat} (ha : a < M 16 0) (hn : n = if 9 < a then 1 else 0) (hl : l = t_la T a) : er (k_aw M (nI a)) (r_line M (nI a)) = nI (10 + n + if 0 < l then 1 else 0) := by
  have hn1 : n ≤ 1 := by rw [hn]; split <;> omega
  unfold r_line
  rw [lin_k (by omega) ha, ix_t (a := a) (n := M 16 0) (by omega) (by omega) ha, if_pos rfl, nI_clamp (by omega), m_wl_len, h.ll hM h16 ha hn hl, tll_len hn1]
  rfl
theorem LR.lch (h : LR M T) (hM : MI M) (h16 : M 16 0 ≤ 32) {a n l q : Nat} (ha : a < M 16 0) (hn : n = if 9 < a then 1 else 0) (hl : l = t_la T a) (hq : q < 10 + n + if 0 < l then 1 else 0) : er (k_lineChar M (nI a) (nI q)) (r_lineChar M (nI a) (nI q)) = nI (gt (t_ll T a n l) q) := by
  have hn1 : n ≤ 1 := by rw [hn]; split <;> omega
  have e := h.ll hM h16 ha hn hl
  have el : m_wl M a 33 0 = 10 + n + if 0 < l then 1 else 0 := by rw [m_wl_len, e, tll_len hn1]
  have h12 : m_wl M a 33 0 ≤ 12 := by rw [el]; split <;> omega
  have k0 : k_lineChar M (nI a) (nI q) = 0 := by
    unfold k_lineChar
    rw [ix_t (a := a) (n := M 16 0) (by omega) (by omega) ha, nI_clamp (by omega), ix_t (a := q) (n := m_wl M a 33 0) (by omega) (by omega) (by omega)]
    rfl
  unfold r_lineChar
  rw [if_pos k0, k0, nI_clamp (by omega), nI_clamp (by omega), m_wl_at M a (by rw [e, tll_len hn1]; exact hq), e]
  rfl
theorem LR.lch1 (h : LR M T) (hM : MI M) (h16 : M 16 0 ≤ 32) {a n l q : Nat} (ha : a < M 16 0) (hn : n = if 9 < a then 1 else 0) (hl : l = t_la T a) (hq2 : q < 2 ^ 31) (hq : (10 + n + if 0 < l then 1 else 0) ≤ q) : k_lineChar M (nI a) (nI q) = 1 := by
  have hn1 : n ≤ 1 := by rw [hn]; split <;> omega
  have e := h.ll hM h16 ha hn hl
  have el : m_wl M a 33 0 = 10 + n + if 0 < l then 1 else 0 := by rw [m_wl_len, e, tll_len hn1]
  have h12 : m_wl M a 33 0 ≤ 12 := by rw [el]; split <;> omega
  unfold k_lineChar
  rw [nI_clamp (by omega), ix_f (a := q) (n := m_wl M a 33 0) (by omega) (by omega) (by omega)]
  simp
theorem LR.lchK (h : LR M T) (hM : MI M) (h16 : M 16 0 ≤ 32) {a n l q k v : Nat} (ha : a < M 16 0) (hn : n = if 9 < a then 1 else 0) (hl : l = t_la T a) (hk : k < 9) (hq : q = 1 + n + k) (hv : gt [48 + a % 10, 32, 84, 48 + T 7 a % 4 / 2, 76, 48 + T 7 a % 2, 32, 66, 48 + T 7 a / 4 % 4] k = v) : er (k_lineChar M (nI a) (nI q)) (r_lineChar M (nI a) (nI q)) = nI v := by
  have hn1 : n ≤ 1 := by rw [hn]; split <;> omega
  rw [h.lch hM h16 ha hn hl (Nat.lt_of_lt_of_le (show q < 10 + n by omega) (Nat.le_add_right _ _)), hq, tll_at hn1 hk, hv]
theorem LR.lch0 (h : LR M T) (hM : MI M) (h16 : M 16 0 ≤ 32) {a n l : Nat} (ha : a < M 16 0) (hn : n = if 9 < a then 1 else 0) (hl : l = t_la T a) : er (k_lineChar M (nI a) (nI 0)) (r_lineChar M (nI a) (nI 0)) = nI 35 := by
  have hn1 : n ≤ 1 := by rw [hn]; split <;> omega
  rw [h.lch hM h16 ha hn hl (Nat.lt_of_lt_of_le (show 0 < 10 + n by omega) (Nat.le_add_right _ _)), tll_0 hn1]
theorem LR.lch9 (h : LR M T) (hM : MI M) (h16 : M 16 0 ≤ 32) {a n l : Nat} (ha : a < M 16 0) (hn : n = if 9 < a then 1 else 0) (hl : l = t_la T a) (e1 : n = 1) : er (k_lineChar M (nI a) (nI 1)) (r_lineChar M (nI a) (nI 1)) = nI (48 + a / 10) := by
  rw [h.lch hM h16 ha hn hl (Nat.lt_of_lt_of_le (show 1 < 10 + n by omega) (Nat.le_add_right _ _)), e1, tll_1]
theorem LR.lchL (h : LR M T) (hM : MI M) (h16 : M 16 0 ≤ 32) {a n l : Nat} (ha : a < M 16 0) (hn : n = if 9 < a then 1 else 0) (hl : l = t_la T a) (hp : 0 < l) : er (k_lineChar M (nI a) (nI (10 + n))) (r_lineChar M (nI a) (nI (10 + n))) = nI l := by
  have hn1 : n ≤ 1 := by rw [hn]; split <;> omega
  rw [h.lch hM h16 ha hn hl (by rw [if_pos hp]; omega), tll_l hn1 hp]
theorem LR.lchE (h : LR M T) (hM : MI M) (h16 : M 16 0 ≤ 32) {a n l q : Nat} (ha : a < M 16 0) (hn : n = if 9 < a then 1 else 0) (hl : l = t_la T a) (hq2 : q < 100) (hq : 11 + n ≤ q ∨ (¬ 0 < l ∧ 10 + n ≤ q)) : k_lineChar M (nI a) (nI q) = 1 := by
  refine h.lch1 hM h16 ha hn hl (by omega) ?_
  by_cases c : 0 < l
  · rw [if_pos c]; omega
  · rw [if_neg c]; omega
theorem lch_n {x q : Int32} (h16 : M 16 0 ≤ 60) (h : x < 0) : k_lineChar M x q = 1 := by
  unfold k_lineChar
  rw [isIx_neg (by omega) h]
  simp
/-! the questions -/
theorem LR.q_rk (h : LR M T) (hM : MI M) {j p : Nat} (hj : j < 4) (hl : T 2 j ≠ 0) (hp : p < 2 ^ 31) : er (k_ranked M (nI (j / 2)) (nI (j % 2)) (nI p)) (r_ranked M (nI (j / 2)) (nI (j % 2)) (nI p)) = optI (m_rk M (ml j) p) := by
  have e : m_isLot M (nI (j / 2)) (nI (j % 2)) = true := by rw [h.lotB hM hj]; exact decide_eq_true hl
  have k0 : k_ranked M (nI (j / 2)) (nI (j % 2)) (nI p) = 0 := by
    unfold k_ranked
    rw [e, if_neg (by decide), if_pos (nI_pos' hp)]
  unfold r_ranked
  rw [if_pos k0, k0, m_lt_n hj, nI_clamp hp]
  rfl
theorem LR.q_an (h : LR M T) (hM : MI M) {j : Nat} (hj : j < 4) (hl : T 2 j ≠ 0) : er (k_lot M (nI (j / 2)) (nI (j % 2))) (r_winnerAnew M (nI (j / 2)) (nI (j % 2))) = optI (m_rk M (ml j) 0) := by
  have e : m_isLot M (nI (j / 2)) (nI (j % 2)) = true := by rw [h.lotB hM hj]; exact decide_eq_true hl
  unfold k_lot r_winnerAnew
  rw [e, if_pos rfl, if_pos rfl, m_lt_n hj]
  rfl
theorem LR.q_ao (h : LR M T) (hM : MI M) (hU : UQ M) {j : Nat} (hj : j < 4) (hl : T 2 j ≠ 0) : er (k_lot M (nI (j / 2)) (nI (j % 2))) (r_awardOf M (nI (j / 2)) (nI (j % 2))) = optI (t_st T j) := by
  have e : m_isLot M (nI (j / 2)) (nI (j % 2)) = true := by rw [h.lotB hM hj]; exact decide_eq_true hl
  unfold k_lot r_awardOf
  rw [e, if_pos rfl, if_pos rfl, m_lt_n hj, h.st hM hU hj]
  rfl
theorem ask_0 {b j : Nat} (hb : b < 8) (e : m_isLot M (nI (j / 2)) (nI (j % 2)) = true) : k_ask M (nI b) (nI (j / 2)) (nI (j % 2)) = 0 := by
  unfold k_ask
  rw [ix_t (a := b) (n := 8) (by omega) (by omega) hb, e]
  rfl
theorem LR.q_in (h : LR M T) (hM : MI M) {j b : Nat} (hj : j < 4) (hb : b < 4) (hl : T 2 j ≠ 0) : er (k_ask M (nI b) (nI (j / 2)) (nI (j % 2))) (bi (r_isIn M (nI b) (nI (j / 2)) (nI (j % 2)))) = bi (t_tk T (4 * j + b)) := by
  have e : m_isLot M (nI (j / 2)) (nI (j % 2)) = true := by rw [h.lotB hM hj]; exact decide_eq_true hl
  unfold r_isIn
  rw [ask_0 (by omega) e, ix_t (a := b) (n := 8) (by omega) (by omega) (by omega), e, m_at_n hj (by omega), h.tk (by omega), mq_at hb]
  rfl
theorem LR.q_sc (h : LR M T) (hM : MI M) {j b : Nat} (hj : j < 4) (hb : b < 4) (hl : T 2 j ≠ 0) : er (k_ask M (nI b) (nI (j / 2)) (nI (j % 2))) (r_score M (nI b) (nI (j / 2)) (nI (j % 2))) = if t_tk T (4 * j + b) = true then nI (t_po T (4 * j + b)) else -1 := by
  have e : m_isLot M (nI (j / 2)) (nI (j % 2)) = true := by rw [h.lotB hM hj]; exact decide_eq_true hl
  have l3 := h.lot3 hl hj
  unfold r_score
  rw [ask_0 (by omega) e, ix_t (a := b) (n := 8) (by omega) (by omega) (by omega), e, m_at_n hj (by omega), h.tk (by omega), mq_at hb]
  rw [if_pos (show (true && true) = true from rfl)]
  by_cases c : m_tp M (8 * ml j + b) = true
  · rw [if_pos c, if_pos c, h.po hM (by omega) (by rw [mq_at hb]; exact c) (by omega), mq_at hb]
    rfl
  · rw [if_neg c, if_neg c]
    rfl
theorem LR.q_wi (h : LR M T) (hM : MI M) (h16 : M 16 0 ≤ 32) {k : Nat} (hk : k < M 16 0) : er (k_aw M (nI k)) (r_winner M (nI k)) = nI (T 7 k / 4 % 4) ∧ er (k_aw M (nI k)) (bi (r_isVoid M (nI k))) = bi (t_gn T k) ∧ er (k_aw M (nI k)) (bi (r_isFinal M (nI k))) = bi (t_se T k) := by
  unfold r_winner r_isVoid r_isFinal
  rw [lin_k (by omega) hk, ix_t (a := k) (n := M 16 0) (by omega) (by omega) hk, if_pos rfl, nI_clamp (by omega), (h.aw hM hk).1, h.gn hM hk, h.se hM h16 hk]
  refine ⟨rfl, ?_, rfl⟩
  show bi (true && !decide (M 20 k = 0)) = _
  by_cases c : M 20 k = 0 <;> simp [c]
theorem LR.q_so (h : LR M T) (hM : MI M) (h16 : M 16 0 ≤ 32) (h22 : M 22 0 ≤ 60) {k : Nat} (hk : k < M 22 0) : er (k_co M (nI k)) (r_stateOf M (nI k)) = nI (T 8 k / 512 % 4) := by
  unfold k_co r_stateOf
  rw [ix_t (a := k) (n := M 22 0) (by omega) (by omega) hk, if_pos rfl, if_pos rfl, nI_clamp (by omega), (h.cp hM h16 hk).2.2.2.1]
  rfl
theorem LR.ru (h : LR M T) (hM : MI M) (h16 : M 16 0 ≤ 32) {k : Nat} (hk : k < M 29 0) : t_ru T k = m_runs M k ∧ T 9 k % 32 = M 30 k ∧ T 9 k / 32 = M 31 k ∧ M 30 k < M 16 0 := by
  obtain ⟨d1, d2⟩ := h.2.2.2.2.2.2.2.2.1 k hk
  have e : T 9 k % 32 = M 30 k := by omega
  refine ⟨?_, e, by omega, d2⟩
  unfold t_ru m_runs
  rw [e, h.gn hM d2, h.oo hM h16]
  by_cases c : M 20 (M 30 k) = 0
  · simp [c]
  · simp [c]
theorem LR.q_ru (h : LR M T) (hM : MI M) (h16 : M 16 0 ≤ 32) (h29 : M 29 0 ≤ 60) {k : Nat} (hk : k < M 29 0) : er (k_ct M (nI k)) (r_running M (nI k)) = nI (t_ru T k) := by
  unfold k_ct r_running
  rw [ix_t (a := k) (n := M 29 0) (by omega) (by omega) hk, if_pos rfl, if_pos rfl, nI_clamp (by omega), (h.ru hM h16 hk).1]
  rfl
theorem LR.owf (h : LR M T) (hM : MI M) (h16 : M 16 0 ≤ 32) {b : Nat} : ∀ n, n ≤ M 29 0 → t_owf T b n = m_owf M b n
  | 0, _ => rfl
  | n + 1, hn => by
    obtain ⟨r1, r2, r3, r4⟩ := h.ru hM h16 (k := n) (by omega)
    rw [t_owf, m_owf, h.owf hM h16 n (by omega), r1, r2, r3, (h.aw hM r4).1]
    by_cases c : m_runs M n = 0 ∧ M 18 (M 30 n) = b
    · rw [if_pos c, if_pos ⟨c.2, c.1⟩]
    · rw [if_neg c, if_neg (fun z => c ⟨z.2, z.1⟩)]
theorem kb_0 {b : Nat} (hb : b < 8) : k_b (nI b) = 0 := by
  unfold k_b
  rw [ix_t (a := b) (n := 8) (by omega) (by omega) hb]
  rfl
theorem kb_1 {b : Nat} (hb : b < 2 ^ 31) (h : 8 ≤ b) : k_b (nI b) = 1 := by
  unfold k_b
  rw [ix_f (a := b) (n := 8) (by omega) (by omega) h]
  rfl
theorem kb_n {x : Int32} (h : x < 0) : k_b x = 1 := by
  unfold k_b
  rw [isIx_neg (by decide) h]
  rfl
theorem LR.q_ow (h : LR M T) (hM : MI M) (h16 : M 16 0 ≤ 32) {b : Nat} (hb : b < 4) : er (k_b (nI b)) (r_owes M (nI b)) = nI (t_owf T b (T 11 6)) := by
  unfold r_owes
  rw [kb_0 (by omega), ix_t (a := b) (n := 8) (by omega) (by omega) (by omega), if_pos rfl, nI_clamp (by omega), h.1.2.2.2.2.2.2, h.owf hM h16 _ (Nat.le_refl _)]
  rfl
theorem LR.q_lo (h : LR M T) {b : Nat} (hb : b < 4) : er (k_b (nI b)) (r_lost M (nI b)) = nI (T 10 b) := by
  unfold r_lost
  rw [kb_0 (by omega), ix_t (a := b) (n := 8) (by omega) (by omega) (by omega), if_pos rfl, nI_clamp (by omega), h.2.2.2.2.2.2.2.2.2.1 b hb]
  rfl
theorem m_hcf_iff9 {g : Nat} : ∀ n, m_hcf M g n = true ↔ ∃ c, c < n ∧ M 17 (M 30 c) = g ∧ 0 < m_runs M c
  | 0 => by
    rw [m_hcf]
    exact ⟨fun q => absurd q (by decide), fun ⟨c, hc, _⟩ => absurd hc (Nat.not_lt_zero c)⟩
  | n + 1 => by
    rw [m_hcf, Bool.or_eq_true, m_hcf_iff9 n, Bool.and_eq_true, decide_eq_true_eq, decide_eq_true_eq]
    constructor
    · rintro (⟨c, hc, h1⟩ | h1)
      · exact ⟨c, by omega, h1⟩
      · exact ⟨n, by omega, h1⟩
    · rintro ⟨c, hc, h1⟩
      by_cases e : c = n
      · rw [e] at h1; exact Or.inr h1
      · exact Or.inl ⟨c, by omega, h1⟩
theorem LR.hb (h : LR M T) (hM : MI M) (hU : UQ M) (hS : RelS M) {b j : Nat} (hj : j < 4) (hb : b < 4) : t_hb T b j = true ↔ 0 < M 10 (8 * ml j + b) ∧ M 13 (8 * ml j + b) = 0 ∧ M 14 (8 * ml j + b) = 0 ∧ m_hc M (ml j) = false := by
  have eq : mq (4 * j + b) = 8 * ml j + b := mq_at hb
  have b0 := h.b0 (q := 4 * j + b) (by omega)
  rw [eq] at b0
  unfold t_hb
  rw [h.tk (by omega), eq]
  simp only [Bool.and_eq_true, decide_eq_true_eq, Bool.or_eq_true, Bool.not_eq_true']
  rw [b0]
  have hst := h.st hM hU hj
  have h17 : ∀ a, a < M 16 0 → M 17 a = ml j → T 7 a % 4 = j := fun a ha e => ml_inj (by rw [← e, (h.2.2.2.2.2.2.1 a ha).1])
  have hcc : m_hc M (ml j) = true ↔ ∃ a, a < M 16 0 ∧ M 17 a = ml j ∧ M 20 a = 0 ∧ M 21 a ≠ 0 := by
    unfold m_hc
    rw [m_hcf_iff9]
    constructor
    · rintro ⟨c, hc, e1, e2⟩
      have d2 := (h.2.2.2.2.2.2.2.2.1 c hc).2
      refine ⟨M 30 c, d2, e1, ?_, (hS.1 _ d2).mpr ⟨c, hc, rfl⟩⟩
      unfold m_runs at e2
      by_cases z : M 20 (M 30 c) = 0
      · exact z
      · rw [if_neg z] at e2; omega
    · rintro ⟨a, ha, e1, e2, e3⟩
      obtain ⟨c, hc, rfl⟩ := (hS.1 a ha).mp e3
      refine ⟨c, hc, e1, ?_⟩
      unfold m_runs
      rw [if_pos e2]
      split <;> omega
  have hm : (match t_st T j with | none => true | some a => decide (T 7 a / 131072 = 0)) = true ↔ m_hc M (ml j) = false := by
    rcases e : t_st T j with _ | a
    · rw [e] at hst
      refine ⟨fun _ => ?_, fun _ => rfl⟩
      rw [← Bool.not_eq_true]
      intro z
      obtain ⟨a, ha, e1, e2, -⟩ := hcc.mp z
      exact m_aff_none _ hst.symm a ha ⟨e1, e2⟩
    · rw [e] at hst
      obtain ⟨a1, a2, a3⟩ := m_aff_lt M (ml j) _ a hst.symm
      show decide (T 7 a / 131072 = 0) = true ↔ _
      rw [decide_eq_true_eq, (h.aw hM a1).2.2.2.1]
      constructor
      · intro z
        rw [← Bool.not_eq_true]
        intro y
        obtain ⟨a', ha', e1, e2, e3⟩ := hcc.mp y
        have := hU a a' a1 ha' a3 e2 (by rw [a2, e1])
        subst this
        exact e3 z
      · intro z
        by_cases y : M 21 a = 0
        · exact y
        · rw [hcc.mpr ⟨a, a1, a2, a3, y⟩] at z
          exact absurd z (by decide)
  rw [hm]
  constructor
  · rintro ⟨⟨h1, h2⟩, h3⟩
    have lot := h.2.2.2.2.1.2.2.2 (ml j) b (by omega)
    have e3 : ml j / 3 = j / 2 := by show (3 * (j / 2) + j % 2) / 3 = j / 2; omega
    rw [e3, show ml j % 3 = j % 2 by show (3 * (j / 2) + j % 2) % 3 = j % 2; omega] at lot
    have h8 := h.2.2.2.1.2.2 (j / 2)
    have t3 : j / 2 < M 3 0 := by omega
    rcases h2 with h2 | h2
    · rw [h.opn hM t3] at h2
      have s3 := h.2.2.2.2.2.1.2.2.1 (4 * j + b) (by omega) (Or.inr (by rw [show (4 * j + b) / 8 = j / 2 by omega]; exact h2))
      rw [eq] at s3
      exact ⟨h1, s3.2.1, s3.2.2, h3⟩
    · simp only [m_tp, Bool.and_eq_true, decide_eq_true_eq] at h2
      exact ⟨h1, h2.1.2, h2.2, h3⟩
  · rintro ⟨h1, h2, h3, h4⟩
    have lot := h.2.2.2.2.1.2.2.2 (ml j) b (by omega)
    have e3 : ml j / 3 = j / 2 := by show (3 * (j / 2) + j % 2) / 3 = j / 2; omega
    rw [e3, show ml j % 3 = j % 2 by show (3 * (j / 2) + j % 2) % 3 = j % 2; omega] at lot
    have h8 := h.2.2.2.1.2.2 (j / 2)
    have t3 : j / 2 < M 3 0 := by omega
    refine ⟨⟨h1, ?_⟩, h4⟩
    rw [h.opn hM t3]
    by_cases c : m_op M (j / 2) = true
    · right
      unfold m_tp
      rw [show (8 * ml j + b) / 8 / 3 = j / 2 by rw [show (8 * ml j + b) / 8 = ml j by omega, e3], c]
      simp [h1, h2, h3]
    · left; simpa using c
theorem LR.hdf (h : LR M T) (hM : MI M) (hU : UQ M) (hS : RelS M) {b : Nat} (hb : b < 4) : t_hdf T b 4 = m_hdf M b (3 * M 3 0) := by
  have h3 : M 3 0 ≤ 2 := h.1.2.2.1
  -- one lot
  have one : ∀ j, j < 4 → (if t_hb T b j = true then T 2 j - 1 else 0) = (if 0 < M 10 (8 * ml j + b) ∧ M 13 (8 * ml j + b) = 0 ∧ M 14 (8 * ml j + b) = 0 ∧ m_hc M (ml j) = false then M 9 (ml j) else 0) := fun j hj => by
    have i := h.hb hM hU hS hj hb
    by_cases c : t_hb T b j = true
    · rw [if_pos c, if_pos (i.mp c)]
      have l := h.2.2.2.1.1 j hj
      have lot := h.2.2.2.2.1.2.2.2 (ml j) b (by omega)
      rw [show ml j / 3 = j / 2 by show (3 * (j / 2) + j % 2) / 3 = j / 2; omega, show ml j % 3 = j % 2 by show (3 * (j / 2) + j % 2) % 3 = j % 2; omega] at lot
      have p := (i.mp c).1
      rw [if_pos (by omega)] at l
      omega
    · rw [if_neg c, if_neg (fun z => c (i.mpr z))]
  have no2 : ∀ t, M 10 (8 * (3 * t + 2) + b) = 0 := fun t => by
    have lot := h.2.2.2.2.1.2.2.2 (3 * t + 2) b (by omega)
    rw [show (3 * t + 2) / 3 = t by omega, show (3 * t + 2) % 3 = 2 by omega] at lot
    apply lot
    by_cases e : t < 2
    · exact h.2.2.2.1.2.1 t e
    · rw [h.2.2.2.1.2.2 t (by omega)]; exact Nat.zero_le _
  have none : ∀ t i, M 3 0 ≤ t → i < 3 → M 10 (8 * (3 * t + i) + b) = 0 := fun t i ht hi => by
    have lot := h.2.2.2.2.1.2.2.2 (3 * t + i) b (by omega)
    rw [show (3 * t + i) / 3 = t by omega, show (3 * t + i) % 3 = i by omega] at lot
    apply lot
    rw [h.2.2.2.1.2.2 t ht]; exact Nat.zero_le _
  have o0 := one 0 (by decide)
  have o1 := one 1 (by decide)
  have o2 := one 2 (by decide)
  have o3 := one 3 (by decide)
  have z2 : (if 0 < M 10 (8 * 2 + b) ∧ M 13 (8 * 2 + b) = 0 ∧ M 14 (8 * 2 + b) = 0 ∧ m_hc M 2 = false then M 9 2 else 0) = 0 := if_neg (fun z => by have := no2 0; have y : 0 < M 10 (8 * 2 + b) := z.1; rw [show 8 * 2 + b = 8 * (3 * 0 + 2) + b from rfl, this] at y; exact absurd y (by decide))
  have z5 : (if 0 < M 10 (8 * 5 + b) ∧ M 13 (8 * 5 + b) = 0 ∧ M 14 (8 * 5 + b) = 0 ∧ m_hc M 5 = false then M 9 5 else 0) = 0 := if_neg (fun z => by have := no2 1; have y : 0 < M 10 (8 * 5 + b) := z.1; rw [show 8 * 5 + b = 8 * (3 * 1 + 2) + b from rfl, this] at y; exact absurd y (by decide))
  have n0 : M 3 0 ≤ 0 → ∀ j, j < 2 → (if 0 < M 10 (8 * j + b) ∧ M 13 (8 * j + b) = 0 ∧ M 14 (8 * j + b) = 0 ∧ m_hc M j = false then M 9 j else 0) = 0 := fun z j hj => if_neg (fun y => by have := none 0 j z (by omega); rw [show 3 * 0 + j = j by omega] at this; omega)
  have n1 : M 3 0 ≤ 1 → ∀ j, j < 2 → (if 0 < M 10 (8 * (3 + j) + b) ∧ M 13 (8 * (3 + j) + b) = 0 ∧ M 14 (8 * (3 + j) + b) = 0 ∧ m_hc M (3 + j) = false then M 9 (3 + j) else 0) = 0 := fun z j hj => if_neg (fun y => by have := none 1 j z (by omega); rw [show 3 * 1 + j = 3 + j by omega] at this; omega)
  have e0 : ml 0 = 0 := rfl
  have e1 : ml 1 = 1 := rfl
  have e2 : ml 2 = 3 := rfl
  have e3 : ml 3 = 4 := rfl
  rw [e0] at o0
  rw [e1] at o1
  rw [e2] at o2
  rw [e3] at o3
  show 0 + _ + _ + _ + _ = _
  rw [o0, o1, o2, o3]
  rcases (show M 3 0 = 0 ∨ M 3 0 = 1 ∨ M 3 0 = 2 by omega) with q | q | q
  · rw [q]
    have a0 := n0 (by omega) 0 (by decide)
    have a1 := n0 (by omega) 1 (by decide)
    have a2 := n1 (by omega) 0 (by decide)
    have a3 := n1 (by omega) 1 (by decide)
    rw [show 3 + 0 = 3 from rfl] at a2
    rw [show 3 + 1 = 4 from rfl] at a3
    rw [a0, a1, a2, a3]
    all_goals rfl
  · rw [q]
    have a2 := n1 (by omega) 0 (by decide)
    have a3 := n1 (by omega) 1 (by decide)
    rw [show 3 + 0 = 3 from rfl] at a2
    rw [show 3 + 1 = 4 from rfl] at a3
    rw [a2, a3]
    show _ = 0 + _ + _ + _
    rw [z2]
    all_goals rfl
  · rw [q]
    show _ = 0 + _ + _ + _ + _ + _ + _
    rw [z2, z5]
    all_goals rfl
theorem LR.q_he (h : LR M T) (hM : MI M) (hU : UQ M) (hS : RelS M) {b : Nat} (hb : b < 4) : er (k_b (nI b)) (r_held M (nI b)) = nI (t_hdf T b 4) := by
  unfold r_held
  rw [kb_0 (by omega), ix_t (a := b) (n := 8) (by omega) (by omega) (by omega), if_pos rfl, nI_clamp (by omega), h.hdf hM hU hS hb]
  rfl
theorem t_ru_le {k : Nat} : t_ru T k ≤ 2 := by
  unfold t_ru
  split
  · omega
  · split <;> omega
theorem t_owf_le (hT : ∀ f i, T f i ≤ lcap f) (b : Nat) : ∀ n, t_owf T b n ≤ 131072 * n
  | 0 => Nat.le_refl _
  | n + 1 => by
    have i := t_owf_le hT b n
    have h9 : T 9 n ≤ 4194303 := hT 9 n
    rw [t_owf]
    split <;> omega
theorem t_hdf_le (hT : ∀ f i, T f i ≤ lcap f) (b : Nat) : ∀ n, t_hdf T b n ≤ 10001 * n
  | 0 => Nat.le_refl _
  | n + 1 => by
    have i := t_hdf_le hT b n
    have h2 : T 2 n ≤ 10001 := hT 2 n
    rw [t_hdf]
    split <;> omega
end TL
section TM
variable {M T : MS}
theorem t_sts_lt (T : MS) (j : Nat) (p : Nat) : t_sts T j p < 16 := by
  induction p with
  | zero => exact (by decide : 0 < 16)
  | succ p i =>
    rw [t_sts]
    rcases t_best T j (t_sts T j p) with _ | f
    · exact i
    · show t_sts T j p ||| 2 ^ (f % 4) < 16
      have h2 : 2 ^ (f % 4) < 2 ^ 4 := Nat.pow_lt_pow_right (by decide) (by omega)
      exact Nat.or_lt_two_pow (n := 4) i h2
theorem LR.rk_n (h : LR M T) (hM : MI M) {j p : Nat} (hj : j < 4) (h3 : j / 2 < M 3 0) (hp : p < 5) (e : t_best T j (t_sts T j p) = none) : m_rk M (ml j) p = none := by
  have r := h.rank hM hj h3 hp
  rw [e] at r
  rcases q : m_rk M (ml j) p with _ | b
  · rfl
  · rw [q] at r; cases r
theorem LR.rk_s (h : LR M T) (hM : MI M) {j p o : Nat} (hj : j < 4) (h3 : j / 2 < M 3 0) (hp : p < 5) (e : t_best T j (t_sts T j p) = some o) : m_rk M (ml j) p = some (o % 4) := by
  have r := h.rank hM hj h3 hp
  rw [e] at r
  rcases q : m_rk M (ml j) p with _ | b
  · rw [q] at r; cases r
  · rw [q] at r
    have hb := h.rk4 q
    have e2 : o = 4 * j + b := Option.some.inj r
    rw [e2, show (4 * j + b) % 4 = b by omega]
theorem two_pow_4 {o : Nat} : 2 ^ (o % 4) ≤ 8 := Nat.pow_le_pow_right (n := 2) (by decide) (show o % 4 ≤ 3 by omega)
theorem n_or0 (a : Nat) : nI a ||| nI 0 = nI a := by rw [n_or, Nat.or_zero]
theorem LR.hb_lot (h : LR M T) {b j : Nat} (hj : j < 4) (hb : b < 4) (e : t_hb T b j = true) : T 2 j ≠ 0 := by
  have b0 := h.b0 (q := 4 * j + b) (by omega)
  rw [mq_at hb] at b0
  simp only [t_hb, Bool.and_eq_true, decide_eq_true_eq] at e
  have p := b0.mp e.1.1
  have l := h.2.2.2.1.1 j hj
  have lot := h.2.2.2.2.1.2.2.2 (ml j) b (by omega)
  rw [show ml j / 3 = j / 2 by show (3 * (j / 2) + j % 2) / 3 = j / 2; omega, show ml j % 3 = j % 2 by show (3 * (j / 2) + j % 2) % 3 = j % 2; omega] at lot
  rw [if_pos (by omega)] at l
  omega
theorem ct_n {x : Int32} (h29 : M 29 0 ≤ 60) (h : x < 0) : k_ct M x = 1 := by
  unfold k_ct
  rw [isIx_neg (by omega) h]
  rfl
theorem m_isLot_n {x k : Int32} (h3 : M 3 0 ≤ 6) (h : x < 0) : m_isLot M x k = false := by
  unfold m_isLot
  rw [isIx_neg (by omega) h]
  rfl
end TM
theorem cB_preN {D : va_G} {cI cO cb : ClassId} {eA mi : Nat} {st : Nat → Nat} {A A0 : Nat → Prop} {ws : va_W} {s : State} {H : Heap} {locs : List Loc} (hK : va_K D vwCl (cty cI cO cb) s) (hG : gS eA mi st A0 s s.heap) (hAB : ∀ q, A q → A0 q) (hS : va_S A0 s.heap H locs) (hA : ∀ q : Nat, H.size ≤ q → A q) (hP : va_P D vwCl ws H) (av : List Value) : ∀ U : State, U.heap = H → s.WarmedH U.vm → va_Pc av (cB D cI cO cb eA mi st A ws) av.toArray U :=
  fun U hU hW => ⟨rfl, by rw [hU]; exact hP, va_K.moved hW.alike hK, by rw [hU]; exact ((hG.kept (fun q h1 h2 => hS.2.1 q h1 h2)).narrow hAB).moved hW.alike, fun q hq => hA q (by rw [← hU]; exact hq)⟩
