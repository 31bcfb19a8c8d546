/-! which exception, for what the law asks -/
section KL
variable {M T : MS}
theorem keep_addTender {c q w z : Int32} (h : k_addTender M c q w z ≠ 0) : g_addTender M c q w z = M := by
  unfold g_addTender; exact if_neg h
theorem keep_addLot {t d : Int32} (h : k_addLot M t d ≠ 0) : g_addLot M t d = M := by
  unfold g_addLot; exact if_neg h
theorem keep_paper {b k u : Int32} (h : k_paper b k u ≠ 0) : g_paper M b k u = M := by
  unfold g_paper; exact if_neg h
theorem keep_bid {b t k q z : Int32} (h : k_bid M b t k q z ≠ 0) : g_bid M b t k q z = M := by
  unfold g_bid; exact if_neg h
theorem keep_withdraw {b t k : Int32} (h : k_withdraw M b t k ≠ 0) : g_withdraw M b t k = M := by
  unfold g_withdraw; exact if_neg h
theorem keep_pass {q : Int32} (h : k_pass M q ≠ 0) : g_pass M q = M := by
  unfold g_pass; exact if_neg h
theorem keep_award {t k : Int32} (h : k_award M t k ≠ 0) : g_award M t k = M := by
  unfold g_award; exact if_neg h
theorem keep_complain {b a z : Int32} (h : k_complain M b a z ≠ 0) : g_complain M b a z = M := by
  unfold g_complain; exact if_neg h
theorem keep_rule {c : Int32} {u : Bool} {q : Int32} (h : k_rule M c u q ≠ 0) : g_rule M c u q = M := by
  unfold g_rule; exact if_neg h
theorem keep_appeal {c : Int32} (h : k_appeal M c ≠ 0) : g_appeal M c = M := by
  unfold g_appeal; exact if_neg h
theorem keep_sign {c : Int32} (h : k_sign M c ≠ 0) : g_sign M c = M := by
  unfold g_sign; exact if_neg h
theorem keep_call {c q : Int32} (h : k_call M c q ≠ 0) : g_call M c q = M := by
  unfold g_call; exact if_neg h
theorem ii_f {a lo hi : Nat} (ha : a < 2 ^ 31 := by omega) (hh : hi < 2 ^ 31 := by omega) (hl : lo < 2 ^ 31 := by omega) (h : ¬ (lo ≤ a ∧ a ≤ hi)) : i_in (nI a) (nI lo) (nI hi) = false := by rw [i_in_nn ha hh hl]; exact decide_eq_false h
theorem ii_t {a lo hi : Nat} (ha : a < 2 ^ 31 := by omega) (hh : hi < 2 ^ 31 := by omega) (hl : lo < 2 ^ 31 := by omega) (h : lo ≤ a ∧ a ≤ hi) : i_in (nI a) (nI lo) (nI hi) = true := by rw [i_in_nn ha hh hl]; exact decide_eq_true h
theorem ix_f {a n : Nat} (ha : a < 2 ^ 31 := by omega) (hn : n < 2 ^ 31 := by omega) (h : n ≤ a) : isIx (nI a) n = false := by rw [isIx_nn ha hn]; exact decide_eq_false (by omega)
theorem ix_t {a n : Nat} (ha : a < 2 ^ 31 := by omega) (hn : n < 2 ^ 31 := by omega) (h : a < n) : isIx (nI a) n = true := by rw [isIx_nn ha hn]; exact decide_eq_true h
theorem ten_1 {a : Nat} {q w z : Int32} (h1 : M 1 0 ≤ 2000) (ha : a < 2 ^ 31) (h : a ≤ M 1 0 ∨ 1000 < a) : k_addTender M (nI a) q w z = 1 := by
  unfold k_addTender
  rw [ii_f (a := a) (lo := M 1 0 + 1) (hi := 1000) (by omega) (by omega) (by omega) (by omega)]
  exact if_pos rfl
theorem ten_2 {a : Nat} {c w z : Int32} (ha : a < 2 ^ 31) (h : 63 < a) : k_addTender M c (nI a) w z = 1 := by
  unfold k_addTender
  rw [ii_f (a := a) (lo := 0) (hi := 63) (by omega) (by omega) (by omega) (by omega)]
  exact if_pos (by simp)
theorem ten_2n {x c w z : Int32} (h : x < 0) : k_addTender M c x w z = 1 := by
  unfold k_addTender
  rw [i_in_neg (x := x) (lo := 0) (hi := 63) h (by decide) (by decide)]
  exact if_pos (by simp)
theorem ten_3 {a : Nat} {c q z : Int32} (ha : a < 2 ^ 31) (h : 100 < a) : k_addTender M c q (nI a) z = 1 := by
  unfold k_addTender
  rw [ii_f (a := a) (lo := 0) (hi := 100) (by omega) (by omega) (by omega) (by omega)]
  exact if_pos (by simp)
theorem ten_4 {a : Nat} {c q w : Int32} (ha : a < 2 ^ 31) (h : 30 < a) : k_addTender M c q w (nI a) = 1 := by
  unfold k_addTender
  rw [ii_f (a := a) (lo := 0) (hi := 30) (by omega) (by omega) (by omega) (by omega)]
  exact if_pos (by simp)
theorem ten_0 {c q w z : Nat} (h1 : M 1 0 < c) (h2 : c ≤ 1000) (hq : q ≤ 63) (hw : w ≤ 100) (hz : z ≤ 30) (h3 : M 3 0 < 6) : k_addTender M (nI c) (nI q) (nI w) (nI z) = 0 := by
  unfold k_addTender
  rw [ii_t (a := c) (lo := M 1 0 + 1) (hi := 1000) (by omega) (by omega) (by omega) (by omega), ii_t (a := q) (lo := 0) (hi := 63) (by omega) (by omega) (by omega) (by omega), ii_t (a := w) (lo := 0) (hi := 100) (by omega) (by omega) (by omega) (by omega), ii_t (a := z) (lo := 0) (hi := 30) (by omega) (by omega) (by omega) (by omega)]
  rw [if_neg (by decide), if_neg (by omega)]
theorem ten_g {c q w z : Nat} (h : k_addTender M (nI c) (nI q) (nI w) (nI z) = 0) (hc : c < 2 ^ 31) (hq : q < 2 ^ 31) (hw : w < 2 ^ 31) (hz : z < 2 ^ 31) : g_addTender M (nI c) (nI q) (nI w) (nI z) = mu (mu (mu (mu (mu M 4 (M 3 0) c) 5 (M 3 0) q) 6 (M 3 0) w) 7 (M 3 0) z) 3 0 (M 3 0 + 1) := by
  unfold g_addTender
  rw [if_pos h, nI_clamp hc, nI_clamp hq, nI_clamp hw, nI_clamp hz]
theorem lot_1 {t : Nat} {d : Int32} (h3 : M 3 0 ≤ 6) (ht : t < 2 ^ 31) (h : M 3 0 ≤ t) : k_addLot M (nI t) d = 1 := by
  unfold k_addLot
  rw [ix_f (a := t) (n := M 3 0) (by omega) (by omega) h]
  exact if_pos rfl
theorem lot_2 {t a : Nat} (h3 : M 3 0 ≤ 6) (ht : t < M 3 0) (ha : a < 2 ^ 31) (h : 10000 < a) : k_addLot M (nI t) (nI a) = 2 := by
  unfold k_addLot
  rw [ix_t (a := t) (n := M 3 0) (by omega) (by omega) ht, ii_f (a := a) (lo := 0) (hi := 10000) (by omega) (by omega) (by omega) (by omega), if_neg (by decide), if_pos rfl]
theorem lot_2n {t : Nat} {x : Int32} (h3 : M 3 0 ≤ 6) (ht : t < M 3 0) (h : x < 0) : k_addLot M (nI t) x = 2 := by
  unfold k_addLot
  rw [ix_t (a := t) (n := M 3 0) (by omega) (by omega) ht, i_in_neg (x := x) (lo := 0) (hi := 10000) h (by decide) (by decide), if_neg (by decide), if_pos rfl]
theorem lot_3 {t d : Nat} (h3 : M 3 0 ≤ 6) (ht : t < M 3 0) (hd : d ≤ 10000) (h : M 8 t = 3 ∨ m_op M t = true) : k_addLot M (nI t) (nI d) = 3 := by
  unfold k_addLot
  rw [ix_t (a := t) (n := M 3 0) (by omega) (by omega) ht, ii_t (a := d) (lo := 0) (hi := 10000) (by omega) (by omega) (by omega) (by omega), if_neg (by decide), if_neg (by decide), nI_clamp (by omega), if_pos h]
theorem lot_0 {t d : Nat} (h3 : M 3 0 ≤ 6) (ht : t < M 3 0) (hd : d ≤ 10000) (h8 : M 8 t < 3) (ho : m_op M t = false) : k_addLot M (nI t) (nI d) = 0 := by
  unfold k_addLot
  rw [ix_t (a := t) (n := M 3 0) (by omega) (by omega) ht, ii_t (a := d) (lo := 0) (hi := 10000) (by omega) (by omega) (by omega) (by omega), if_neg (by decide), if_neg (by decide), nI_clamp (by omega), ho, if_neg (fun z => z.elim (by omega) (fun y => absurd y (by decide)))]
theorem lot_g {t d : Nat} (h : k_addLot M (nI t) (nI d) = 0) (ht : t < 2 ^ 31) (hd : d < 2 ^ 31) : g_addLot M (nI t) (nI d) = mu (mu M 9 (3 * t + M 8 t) d) 8 t (M 8 t + 1) := by
  unfold g_addLot
  rw [if_pos h, nI_clamp ht, nI_clamp hd]
theorem pap_1b {b : Nat} {k u : Int32} (hb : b < 2 ^ 31) (h : 8 ≤ b) : k_paper (nI b) k u = 1 := by
  unfold k_paper
  rw [ix_f (a := b) (n := 8) (by omega) (by omega) h]
  exact if_pos rfl
theorem pap_1k {k : Nat} {b u : Int32} (hk : k < 2 ^ 31) (h : 6 ≤ k) : k_paper b (nI k) u = 1 := by
  unfold k_paper
  rw [ii_f (a := k) (lo := 0) (hi := 5) (by omega) (by omega) (by omega) (by omega)]
  exact if_pos (by simp)
theorem pap_2 {b k : Nat} {u : Int32} (hb : b < 8) (hk : k < 6) (hu : i_in u (-1) (nI 2000) = false) : k_paper (nI b) (nI k) u = 2 := by
  unfold k_paper
  rw [ix_t (a := b) (n := 8) (by omega) (by omega) hb, ii_t (a := k) (lo := 0) (hi := 5) (by omega) (by omega) (by omega) (by omega), hu, if_neg (by decide), if_pos rfl]
theorem pap_u1 : i_in (nI 2001) (-1) (nI 2000) = false := by decide
theorem pap_u2 : i_in (-2) (-1) (nI 2000) = false := by decide
theorem pap_u {x : Nat} (h : x ≤ 2001) : i_in (nI x - nI 1) (-1) (nI 2000) = true := by
  simp only [i_in, Bool.and_eq_true, Bool.not_eq_true', decide_eq_false_iff_not]
  have e : (nI x - nI 1).toInt = (x : Int) - 1 := by
    rw [fb_subI9 (by rw [nI_toInt (by omega), nI_toInt (by decide)]; omega) (by rw [nI_toInt (by omega), nI_toInt (by decide)]; omega), nI_toInt (by omega), nI_toInt (by decide)]; rfl
  refine ⟨?_, ?_⟩
  · rw [Int32.lt_iff_toInt_lt, e, show ((-1 : Int32)).toInt = -1 by decide]; omega
  · rw [Int32.lt_iff_toInt_lt, e, nI_toInt (by decide)]; omega
theorem pap_0 {b k x : Nat} (hb : b < 8) (hk : k < 6) (hx : x ≤ 2001) : k_paper (nI b) (nI k) (nI x - nI 1) = 0 := by
  unfold k_paper
  rw [ix_t (a := b) (n := 8) (by omega) (by omega) hb, ii_t (a := k) (lo := 0) (hi := 5) (by omega) (by omega) (by omega) (by omega), pap_u hx, if_neg (by decide), if_neg (by decide)]
theorem pap_r {b k x : Nat} (hb : b < 8) (hk : k < 6) (hx : x ≤ 2001) : er (k_paper (nI b) (nI k) (nI x - nI 1)) (r_paper M (nI b) (nI k) (nI x - nI 1)) = nI (M 2 (6 * b + k)) - nI 1 := by
  have h0 := pap_0 hb hk hx
  unfold r_paper
  rw [if_pos h0, h0, nI_clamp (by omega), nI_clamp (by omega)]
  rfl
theorem pap_g {b k x : Nat} (hb : b < 8) (hk : k < 6) (hx : x ≤ 2001) : g_paper M (nI b) (nI k) (nI x - nI 1) = mu M 2 (6 * b + k) x := by
  unfold g_paper
  rw [if_pos (pap_0 hb hk hx), nI_clamp (by omega), nI_clamp (by omega), show (nI x - nI 1 + 1 : Int32) = nI x from n_sub_add1 x, nI_clamp (by omega)]
theorem bid_1b {b : Nat} {t k q z : Int32} (hb : b < 2 ^ 31) (h : 8 ≤ b) : k_bid M (nI b) t k q z = 1 := by
  unfold k_bid
  rw [ix_f (a := b) (n := 8) (by omega) (by omega) h]
  exact if_pos rfl
theorem bid_1l {b t k q z : Int32} (h : m_isLot M t k = false) : k_bid M b t k q z = 1 := by
  unfold k_bid
  rw [h]
  exact if_pos (by simp)
theorem bid_2 {b : Nat} {t k q z : Int32} (hb : b < 8) (hl : m_isLot M t k = true) (h : (i_in q (nI 1) (nI 100000) && i_in z (nI 0) (nI 100)) = false) : k_bid M (nI b) t k q z = 2 := by
  unfold k_bid
  rw [ix_t (a := b) (n := 8) (by omega) (by omega) hb, hl, if_neg (by decide), if_pos h]
theorem bid_p {a : Nat} {z : Int32} (ha : a < 2 ^ 31) (h : a = 0 ∨ 100000 < a) : (i_in (nI a) (nI 1) (nI 100000) && i_in z (nI 0) (nI 100)) = false := by
  rw [ii_f (a := a) (lo := 1) (hi := 100000) (by omega) (by omega) (by omega) (by omega)]
  rfl
theorem bid_q {a : Nat} {q : Int32} (ha : a < 2 ^ 31) (h : 100 < a) : (i_in q (nI 1) (nI 100000) && i_in (nI a) (nI 0) (nI 100)) = false := by
  rw [ii_f (a := a) (lo := 0) (hi := 100) (by omega) (by omega) (by omega) (by omega)]
  simp
theorem bid_3 {b t q z : Nat} {k : Int32} (hb : b < 8) (ht : t < 2 ^ 31) (hl : m_isLot M (nI t) k = true) (hq : 0 < q) (hq2 : q ≤ 100000) (hz : z ≤ 100) (ho : m_op M t = true) : k_bid M (nI b) (nI t) k (nI q) (nI z) = 3 := by
  unfold k_bid
  rw [ix_t (a := b) (n := 8) (by omega) (by omega) hb, hl, ii_t (a := q) (lo := 1) (hi := 100000) (by omega) (by omega) (by omega) (by omega), ii_t (a := z) (lo := 0) (hi := 100) (by omega) (by omega) (by omega) (by omega), if_neg (by decide), if_neg (by decide), nI_clamp ht, if_pos ho]
theorem bid_0 {b t q z : Nat} {k : Int32} (hb : b < 8) (ht : t < 2 ^ 31) (hl : m_isLot M (nI t) k = true) (hq : 0 < q) (hq2 : q ≤ 100000) (hz : z ≤ 100) (ho : m_op M t = false) : k_bid M (nI b) (nI t) k (nI q) (nI z) = 0 := by
  unfold k_bid
  rw [ix_t (a := b) (n := 8) (by omega) (by omega) hb, hl, ii_t (a := q) (lo := 1) (hi := 100000) (by omega) (by omega) (by omega) (by omega), ii_t (a := z) (lo := 0) (hi := 100) (by omega) (by omega) (by omega) (by omega), if_neg (by decide), if_neg (by decide), nI_clamp ht, if_neg (by rw [ho]; decide)]
theorem bid_g {b t k q z : Nat} (h : k_bid M (nI b) (nI t) (nI k) (nI q) (nI z) = 0) (hb : b < 4) (ht : t < 2) (hk : k < 2) (hq : q < 2 ^ 31) (hz : z < 2 ^ 31) : g_bid M (nI b) (nI t) (nI k) (nI q) (nI z) = mu (mu (mu (mu M 10 (mq (8 * t + 4 * k + b)) q) 11 (mq (8 * t + 4 * k + b)) z) 12 (mq (8 * t + 4 * k + b)) (M 15 0)) 15 0 (M 15 0 + 1) := by
  have e : m_at (nI b) (nI t) (nI k) = mq (8 * t + 4 * k + b) := by
    unfold m_at
    rw [nI_clamp (by omega), nI_clamp (by omega), nI_clamp (by omega)]
    show _ = 8 * (3 * ((8 * t + 4 * k + b) / 8) + (8 * t + 4 * k + b) / 4 % 2) + (8 * t + 4 * k + b) % 4
    omega
  unfold g_bid
  rw [if_pos h, e, nI_clamp hq, nI_clamp hz]
theorem wd_1b {b : Nat} {t k : Int32} (hb : b < 2 ^ 31) (h : 8 ≤ b) : k_withdraw M (nI b) t k = 1 := by
  unfold k_withdraw
  rw [ix_f (a := b) (n := 8) (by omega) (by omega) h]
  exact if_pos rfl
theorem wd_1l {b t k : Int32} (h : m_isLot M t k = false) : k_withdraw M b t k = 1 := by
  unfold k_withdraw
  rw [h]
  exact if_pos (by simp)
theorem m_at_q {b t k : Nat} (hb : b < 4) (ht : t < 2) (hk : k < 2) : m_at (nI b) (nI t) (nI k) = mq (8 * t + 4 * k + b) := by
  unfold m_at
  rw [nI_clamp (by omega), nI_clamp (by omega), nI_clamp (by omega)]
  show _ = 8 * (3 * ((8 * t + 4 * k + b) / 8) + (8 * t + 4 * k + b) / 4 % 2) + (8 * t + 4 * k + b) % 4
  omega
theorem wd_2 {b t k : Nat} (hb : b < 4) (ht : t < 2) (hk : k < 2) (hl : m_isLot M (nI t) (nI k) = true) (h : m_op M t = true ∨ M 10 (mq (8 * t + 4 * k + b)) = 0) : k_withdraw M (nI b) (nI t) (nI k) = 2 := by
  unfold k_withdraw
  rw [ix_t (a := b) (n := 8) (by omega) (by omega) (by omega), hl, if_neg (by decide), m_at_q hb ht hk, nI_clamp (by omega), if_pos h]
theorem wd_0 {b t k : Nat} (hb : b < 4) (ht : t < 2) (hk : k < 2) (hl : m_isLot M (nI t) (nI k) = true) (ho : m_op M t = false) (h : M 10 (mq (8 * t + 4 * k + b)) ≠ 0) : k_withdraw M (nI b) (nI t) (nI k) = 0 := by
  unfold k_withdraw
  rw [ix_t (a := b) (n := 8) (by omega) (by omega) (by omega), hl, if_neg (by decide), m_at_q hb ht hk, nI_clamp (by omega), ho, if_neg (fun z => z.elim (fun y => absurd y (by decide)) h)]
theorem wd_r {b t k : Nat} (hb : b < 4) (ht : t < 2) (hk : k < 2) (h : k_withdraw M (nI b) (nI t) (nI k) = 0) : e13 (k_withdraw M (nI b) (nI t) (nI k)) (r_withdraw M (nI b) (nI t) (nI k)) = nI (M 10 (mq (8 * t + 4 * k + b))) := by
  unfold r_withdraw
  rw [if_pos h, h, m_at_q hb ht hk]
  rfl
theorem wd_g {b t k : Nat} (hb : b < 4) (ht : t < 2) (hk : k < 2) (h : k_withdraw M (nI b) (nI t) (nI k) = 0) : g_withdraw M (nI b) (nI t) (nI k) = mu M 10 (mq (8 * t + 4 * k + b)) 0 := by
  unfold g_withdraw
  rw [if_pos h, m_at_q hb ht hk]
theorem ask_1b {b : Nat} {t k : Int32} (hb : b < 2 ^ 31) (h : 8 ≤ b) : k_ask M (nI b) t k = 1 := by
  unfold k_ask
  rw [ix_f (a := b) (n := 8) (by omega) (by omega) h]
  exact if_neg (by simp)
theorem ask_1l {b t k : Int32} (h : m_isLot M t k = false) : k_ask M b t k = 1 := by
  unfold k_ask
  rw [h]
  exact if_neg (by simp)
theorem rk_1 {t k q : Int32} (h : m_isLot M t k = false) : k_ranked M t k q = 1 := by
  unfold k_ranked
  rw [h]
  exact if_pos rfl
theorem rk_2 {t k q : Int32} (h : m_isLot M t k = true) (hq : q < 0) : k_ranked M t k q = 2 := by
  unfold k_ranked
  rw [h, if_neg (by decide), if_neg (fun z => by rw [Int32.le_iff_toInt_le] at z; rw [Int32.lt_iff_toInt_lt] at hq; omega)]
theorem m_isLot_t {t : Nat} {k : Int32} (h3 : M 3 0 ≤ 6) (ht : t < 2 ^ 31) (h : M 3 0 ≤ t) : m_isLot M (nI t) k = false := by
  unfold m_isLot
  rw [ix_f (a := t) (n := M 3 0) (by omega) (by omega) h]
  rfl
theorem m_isLot_k {t k : Nat} (h8 : M 8 t ≤ 3) (ht : t < 2 ^ 31) (hk : k < 2 ^ 31) (h : M 8 t ≤ k) : m_isLot M (nI t) (nI k) = false := by
  unfold m_isLot
  rw [nI_clamp ht, ix_f (a := k) (n := M 8 t) (by omega) (by omega) h]
  simp
theorem LR.lotT (h : LR M T) (hM : MI M) {t k : Nat} (ht : t < 2) (hk : k < 2) : m_isLot M (nI t) (nI k) = decide (T 2 (2 * t + k) ≠ 0) := by
  have := h.lotB hM (j := 2 * t + k) (by omega)
  rw [show (2 * t + k) / 2 = t by omega, show (2 * t + k) % 2 = k by omega] at this
  exact this
theorem LR.lot8 (h : LR M T) {t : Nat} (ht : t < 2) : (T 2 (2 * t) = 0 ↔ M 8 t = 0) ∧ (T 2 (2 * t + 1) = 0 ↔ M 8 t ≤ 1) ∧ M 8 t ≤ 2 := by
  have e0 := h.2.2.2.1.1 (2 * t) (by omega)
  have e1 := h.2.2.2.1.1 (2 * t + 1) (by omega)
  rw [show 2 * t % 2 = 0 by omega, show 2 * t / 2 = t by omega] at e0
  rw [show (2 * t + 1) % 2 = 1 by omega, show (2 * t + 1) / 2 = t by omega] at e1
  have e2 := h.2.2.2.1.2.1 t ht
  by_cases c0 : 0 < M 8 t
  · rw [if_pos c0] at e0
    by_cases c1 : 1 < M 8 t
    · rw [if_pos c1] at e1
      omega
    · rw [if_neg c1] at e1
      omega
  · rw [if_neg c0] at e0
    rw [if_neg (by omega)] at e1
    omega
theorem l_lt0 {x : Nat} (hx : x < 2 ^ 30) : nI x - 1 < 0 ↔ x = 0 := by
  rw [Int32.lt_iff_toInt_lt, show (1 : Int32) = nI 1 from rfl, fb_subI9 (by rw [nI_toInt (by omega), nI_toInt (by decide)]; omega) (by rw [nI_toInt (by omega), nI_toInt (by decide)]; omega), nI_toInt (by omega), nI_toInt (by decide)]
  show (x : Int) - 1 < 0 ↔ _
  omega
theorem l_ge0 {x : Nat} (hx : x < 2 ^ 30) : 0 ≤ nI x - 1 ↔ x ≠ 0 := by
  rw [Int32.le_iff_toInt_le, show (1 : Int32) = nI 1 from rfl, fb_subI9 (by rw [nI_toInt (by omega), nI_toInt (by decide)]; omega) (by rw [nI_toInt (by omega), nI_toInt (by decide)]; omega), nI_toInt (by omega), nI_toInt (by decide)]
  show (0 : Int) ≤ (x : Int) - 1 ↔ _
  omega
theorem n_shl1 {k : Nat} (hk : k < 31) : nI 1 <<< (nI k &&& 31) = nI (2 ^ k) := by
  rw [pk_shlN _ k (n_s31 k (by omega)) (by rw [Nat.one_mul]; exact Nat.pow_lt_pow_right (by decide) (by omega)), Nat.one_mul]
theorem two_pow_6 {k : Nat} (hk : k < 6) : 2 ^ k ≤ 32 := Nat.pow_le_pow_right (n := 2) (by decide) (show k ≤ 5 by omega)
/-- how many bids a lot has -/
def t_bcf (T : MS) (q : Nat) : Nat → Nat
  | 0 => 0
  | k + 1 => t_bcf T q k + (if 0 < T 3 (q / 4 * 4 + k) then 1 else 0)
theorem t_bcf_le {T : MS} (q : Nat) : ∀ n, t_bcf T q n ≤ n
  | 0 => Nat.le_refl _
  | n + 1 => by
    have i := t_bcf_le (T := T) q n
    rw [t_bcf]
    split <;> omega
theorem LR.bcf (h : LR M T) {q : Nat} (hq : q < 16) : t_bcf T q 4 = m_bf M (ml (q / 4)) 8 := by
  have k1 : ∀ n, n ≤ 4 → t_bcf T q n = m_bf M (ml (q / 4)) n := by
    intro n
    induction n with
    | zero => intro _; rfl
    | succ n ih =>
      intro hn
      have e : mq (q / 4 * 4 + n) = 8 * ml (q / 4) + n := by
        have := mq_at (j := q / 4) (b := n) (by omega)
        rw [← this, Nat.mul_comm]
      have b := h.b0 (q := q / 4 * 4 + n) (by omega)
      rw [e] at b
      rw [t_bcf, m_bf, ih (by omega)]
      by_cases c : 0 < T 3 (q / 4 * 4 + n)
      · rw [if_pos c, if_pos (b.mp c)]
      · rw [if_neg c, if_neg (fun z => c (b.mpr z))]
  have k2 : ∀ d, d ≤ 4 → m_bf M (ml (q / 4)) (4 + d) = m_bf M (ml (q / 4)) 4 := by
    intro d
    induction d with
    | zero => intro _; rfl
    | succ d ih =>
      intro hd
      have z := h.2.2.2.2.1.2.2.1 (ml (q / 4)) (4 + d) (by omega) (by omega)
      show m_bf M (ml (q / 4)) ((4 + d) + 1) = _
      rw [m_bf, ih (by omega), z]
      rfl
  rw [k1 4 (by omega), ← k2 4 (by omega)]
/-- the counts at a turn's begin -/
def LC (T : MS) : Prop := T 11 0 ≤ 900 ∧ T 11 3 ≤ 50 ∧ T 11 4 ≤ 22 ∧ T 11 5 ≤ 30 ∧ T 11 6 ≤ 30
end KL
