/-! the calls: k which exception (0: none), r the answer, g the reference behind it -/
def k_addTender (M : MS) (c q w z : Int32) : Nat := if (i_in c (nI (M 1 0 + 1)) (nI 1000) && i_in q (nI 0) (nI 63) && i_in w (nI 0) (nI 100) && i_in z (nI 0) (nI 30)) = false then 1 else if M 3 0 = 6 then 2 else 0
def g_addTender (M : MS) (c q w z : Int32) : MS := if k_addTender M c q w z = 0 then mu (mu (mu (mu (mu M 4 (M 3 0) c.toNatClampNeg) 5 (M 3 0) q.toNatClampNeg) 6 (M 3 0) w.toNatClampNeg) 7 (M 3 0) z.toNatClampNeg) 3 0 (M 3 0 + 1) else M
def k_addLot (M : MS) (t d : Int32) : Nat := if isIx t (M 3 0) = false then 1 else if i_in d (nI 0) (nI 10000) = false then 2 else if M 8 t.toNatClampNeg = 3 ∨ m_op M t.toNatClampNeg = true then 3 else 0
def g_addLot (M : MS) (t d : Int32) : MS := if k_addLot M t d = 0 then mu (mu M 9 (3 * t.toNatClampNeg + M 8 t.toNatClampNeg) d.toNatClampNeg) 8 t.toNatClampNeg (M 8 t.toNatClampNeg + 1) else M
def k_paper (b k u : Int32) : Nat := if (isIx b 8 && i_in k (nI 0) (nI 5)) = false then 1 else if i_in u (-1) (nI 2000) = false then 2 else 0
def g_paper (M : MS) (b k u : Int32) : MS := if k_paper b k u = 0 then mu M 2 (6 * b.toNatClampNeg + k.toNatClampNeg) (u + 1).toNatClampNeg else M
def r_paper (M : MS) (b k u : Int32) : Int32 := if k_paper b k u = 0 then nI (M 2 (6 * b.toNatClampNeg + k.toNatClampNeg)) - nI 1 else nI 0
/-- the place of a bid -/
def m_at (b t k : Int32) : Nat := 8 * (3 * t.toNatClampNeg + k.toNatClampNeg) + b.toNatClampNeg
def k_bid (M : MS) (b t k q z : Int32) : Nat := if (isIx b 8 && m_isLot M t k) = false then 1 else if (i_in q (nI 1) (nI 100000) && i_in z (nI 0) (nI 100)) = false then 2 else if m_op M t.toNatClampNeg = true then 3 else 0
def g_bid (M : MS) (b t k q z : Int32) : MS := if k_bid M b t k q z = 0 then mu (mu (mu (mu M 10 (m_at b t k) q.toNatClampNeg) 11 (m_at b t k) z.toNatClampNeg) 12 (m_at b t k) (M 15 0)) 15 0 (M 15 0 + 1) else M
def r_bid (M : MS) (b t k q z : Int32) : Int32 := if k_bid M b t k q z = 0 then nI (m_bf (g_bid M b t k q z) (3 * t.toNatClampNeg + k.toNatClampNeg) 8) else nI 0
def k_withdraw (M : MS) (b t k : Int32) : Nat := if (isIx b 8 && m_isLot M t k) = false then 1 else if m_op M t.toNatClampNeg = true ∨ M 10 (m_at b t k) = 0 then 2 else 0
def g_withdraw (M : MS) (b t k : Int32) : MS := if k_withdraw M b t k = 0 then mu M 10 (m_at b t k) 0 else M
def r_withdraw (M : MS) (b t k : Int32) : Int32 := if k_withdraw M b t k = 0 then nI (M 10 (m_at b t k)) else nI 0
def k_ask (M : MS) (b t k : Int32) : Nat := if (isIx b 8 && m_isLot M t k) = true then 0 else 1
def r_isIn (M : MS) (b t k : Int32) : Bool := isIx b 8 && m_isLot M t k && m_tp M (m_at b t k)
def r_score (M : MS) (b t k : Int32) : Int32 := if (isIx b 8 && m_isLot M t k) = true then (if m_tp M (m_at b t k) = true then nI (m_sc M (m_at b t k)) else -1) else nI 0
def m_lt (t k : Int32) : Nat := 3 * t.toNatClampNeg + k.toNatClampNeg
def k_ranked (M : MS) (t k q : Int32) : Nat := if m_isLot M t k = false then 1 else if 0 ≤ q then 0 else 2
def r_ranked (M : MS) (t k q : Int32) : Int32 := if k_ranked M t k q = 0 then optI (m_rk M (m_lt t k) q.toNatClampNeg) else nI 0
def k_pass (M : MS) (q : Int32) : Nat := if i_in q (nI 1) (nI 100) = false then 1 else if 2000 < M 1 0 + q.toNatClampNeg then 2 else 0
def g_pass (M : MS) (q : Int32) : MS := if k_pass M q = 0 then m_dyf M q.toNatClampNeg else M
def r_pass (M : MS) (q : Int32) : Int32 := if k_pass M q = 0 then nI (m_dyn M q.toNatClampNeg) else nI 0
def k_lot (M : MS) (t k : Int32) : Nat := if m_isLot M t k = true then 0 else 1
def k_award (M : MS) (t k : Int32) : Nat := if m_isLot M t k = false then 1 else if m_op M t.toNatClampNeg = true ∧ m_af M (m_lt t k) = none ∧ m_rk M (m_lt t k) 0 ≠ none ∧ M 16 0 ≠ 60 then 0 else 2
def g_award (M : MS) (t k : Int32) : MS := if k_award M t k = 0 then m_gv M (m_lt t k) else M
def r_award (M : MS) (t k : Int32) : Int32 := if k_award M t k = 0 then m_gvr M (m_lt t k) else nI 0
def r_awardOf (M : MS) (t k : Int32) : Int32 := if m_isLot M t k = true then optI (m_af M (m_lt t k)) else nI 0
def k_aw (M : MS) (a : Int32) : Nat := if isIx a (M 16 0) = true then 0 else 1
def r_winner (M : MS) (a : Int32) : Int32 := if isIx a (M 16 0) = true then nI (M 18 a.toNatClampNeg) else nI 0
def r_isVoid (M : MS) (a : Int32) : Bool := isIx a (M 16 0) && !decide (M 20 a.toNatClampNeg = 0)
def r_isFinal (M : MS) (a : Int32) : Bool := isIx a (M 16 0) && m_fn M a.toNatClampNeg
def r_winnerAnew (M : MS) (t k : Int32) : Int32 := if m_isLot M t k = true then optI (m_rk M (m_lt t k) 0) else nI 0
def m_mc0 (M : MS) (b a : Nat) : Bool := decide (M 20 a = 0) && decide (M 1 0 < m_su M a) && decide (0 < M 10 (8 * M 17 a + b)) && !decide (M 18 a = b)
def m_mcf (M : MS) (b a : Nat) : Nat → Bool
  | 0 => m_mc0 M b a
  | c + 1 => m_mcf M b a c && (!decide (M 23 c = a) || !decide (M 24 c = b))
def m_mc (M : MS) (b a z : Nat) : Bool := m_mcf M b a (M 22 0) && (!decide (z = 2) || !decide (M 13 (8 * M 17 a + b) = 0))
def k_complain (M : MS) (b a z : Int32) : Nat := if (isIx b 8 && isIx a (M 16 0)) = false then 1 else if i_in z (nI 0) (nI 2) = false then 2 else if m_mc M b.toNatClampNeg a.toNatClampNeg z.toNatClampNeg = true ∧ M 22 0 < 60 then 0 else 3
def g_complain (M : MS) (b a z : Int32) : MS := if k_complain M b a z = 0 then mu (mu (mu (mu M 23 (M 22 0) a.toNatClampNeg) 24 (M 22 0) b.toNatClampNeg) 25 (M 22 0) z.toNatClampNeg) 22 0 (M 22 0 + 1) else M
/-- what an upheld complaint does to a bid -/
def m_up0 (M : MS) (c q : Nat) : MS := if M 25 c = 0 then mu M 14 (8 * M 17 (M 23 c) + M 18 (M 23 c)) 1 else if M 25 c = 1 then mu M 11 (8 * M 17 (M 23 c) + M 18 (M 23 c)) q else mu M 13 (8 * M 17 (M 23 c) + M 24 c) 0
def m_up1 (M : MS) (c q : Nat) : MS := mu (mu (m_up0 M c q) 26 c 1) 20 (M 23 c) 1
def m_mof (M : MS) (a : Nat) : Nat → MS
  | 0 => M
  | k + 1 => mu (m_mof M a k) 26 k (if m_mof M a k 23 k = a ∧ m_mof M a k 26 k = 0 then 3 else m_mof M a k 26 k)
def m_up2 (M : MS) (c q : Nat) : MS := m_mof (m_up1 M c q) (M 23 c) (M 22 0)
def m_up (M : MS) (c q : Nat) : MS := m_gv (m_up2 M c q) (M 17 (M 23 c))
def m_upr (M : MS) (c q : Nat) : Int32 := m_gvr (m_up2 M c q) (M 17 (M 23 c))
def k_rule (M : MS) (c : Int32) (u : Bool) (q : Int32) : Nat := if isIx c (M 22 0) = false then 1 else if i_in q (nI 0) (nI 100) = false then 2 else if M 26 c.toNatClampNeg = 0 ∧ (u = false ∨ M 16 0 ≠ 60) then 0 else 3
def g_rule (M : MS) (c : Int32) (u : Bool) (q : Int32) : MS := if k_rule M c u q = 0 then (if u = true then m_up M c.toNatClampNeg q.toNatClampNeg else mu (mu M 26 c.toNatClampNeg 2) 27 c.toNatClampNeg (M 1 0)) else M
def r_rule (M : MS) (c : Int32) (u : Bool) (q : Int32) : Int32 := if k_rule M c u q = 0 then (if u = true then m_upr M c.toNatClampNeg q.toNatClampNeg else -1) else nI 0
def k_appeal (M : MS) (c : Int32) : Nat := if isIx c (M 22 0) = false then 1 else if M 26 c.toNatClampNeg = 2 ∧ M 28 c.toNatClampNeg = 0 ∧ M 1 0 ≤ 10 + M 27 c.toNatClampNeg ∧ M 20 (M 23 c.toNatClampNeg) = 0 then 0 else 2
def g_appeal (M : MS) (c : Int32) : MS := if k_appeal M c = 0 then mu (mu M 26 c.toNatClampNeg 0) 28 c.toNatClampNeg 1 else M
def r_appeal (M : MS) (c : Int32) : Int32 := if k_appeal M c = 0 then nI (m_oo (g_appeal M c) (M 23 c.toNatClampNeg)) else nI 0
def k_co (M : MS) (c : Int32) : Nat := if isIx c (M 22 0) = true then 0 else 1
def r_stateOf (M : MS) (c : Int32) : Int32 := if isIx c (M 22 0) = true then nI (M 26 c.toNatClampNeg) else nI 0
def k_sign (M : MS) (a : Int32) : Nat := if isIx a (M 16 0) = false then 1 else if m_fn M a.toNatClampNeg = true ∧ M 21 a.toNatClampNeg = 0 then 0 else 2
def g_sign (M : MS) (a : Int32) : MS := if k_sign M a = 0 then mu (mu (mu M 30 (M 29 0) a.toNatClampNeg) 29 0 (M 29 0 + 1)) 21 a.toNatClampNeg (M 29 0 + 1) else M
def r_sign (M : MS) (a : Int32) : Int32 := if k_sign M a = 0 then nI (M 29 0) else nI 0
def k_call (M : MS) (c q : Int32) : Nat := if isIx c (M 29 0) = false then 1 else if i_in q (nI 1) (nI 100000) = false then 2 else if 2 ≤ m_runs M c.toNatClampNeg ∧ M 31 c.toNatClampNeg + q.toNatClampNeg ≤ m_pr M c.toNatClampNeg then 0 else 3
def g_call (M : MS) (c q : Int32) : MS := if k_call M c q = 0 then mu M 31 c.toNatClampNeg (M 31 c.toNatClampNeg + q.toNatClampNeg) else M
def r_call (M : MS) (c q : Int32) : Int32 := if k_call M c q = 0 then nI (M 31 c.toNatClampNeg + q.toNatClampNeg) else nI 0
def k_ct (M : MS) (c : Int32) : Nat := if isIx c (M 29 0) = true then 0 else 1
def r_running (M : MS) (c : Int32) : Int32 := if isIx c (M 29 0) = true then nI (m_runs M c.toNatClampNeg) else nI 0
def k_b (b : Int32) : Nat := if isIx b 8 = true then 0 else 1
def m_owf (M : MS) (b : Nat) : Nat → Nat
  | 0 => 0
  | c + 1 => m_owf M b c + (if M 18 (M 30 c) = b ∧ m_runs M c = 0 then M 31 c else 0)
def r_owes (M : MS) (b : Int32) : Int32 := if isIx b 8 = true then nI (m_owf M b.toNatClampNeg (M 29 0)) else nI 0
def m_hdf (M : MS) (b : Nat) : Nat → Nat
  | 0 => 0
  | k + 1 => m_hdf M b k + (if 0 < M 10 (8 * k + b) ∧ M 13 (8 * k + b) = 0 ∧ M 14 (8 * k + b) = 0 ∧ m_hc M k = false then M 9 k else 0)
def r_held (M : MS) (b : Int32) : Int32 := if isIx b 8 = true then nI (m_hdf M b.toNatClampNeg (3 * M 3 0)) else nI 0
def r_lost (M : MS) (b : Int32) : Int32 := if isIx b 8 = true then nI (M 32 b.toNatClampNeg) else nI 0
theorem m_owf_le {M : MS} (hM : MI M) (b : Nat) : ∀ c, m_owf M b c ≤ 100000 * c
  | 0 => Nat.le_refl _
  | c + 1 => by
    have := m_owf_le hM b c
    have f1 : M 31 c ≤ 100000 := hM 31 c
    rw [m_owf]
    split <;> omega
theorem m_hdf_le {M : MS} (hM : MI M) (b : Nat) : ∀ c, m_hdf M b c ≤ 10000 * c
  | 0 => Nat.le_refl _
  | c + 1 => by
    have := m_hdf_le hM b c
    have f1 : M 9 c ≤ 10000 := hM 9 c
    rw [m_hdf]
    split <;> omega
theorem MI_mof {M : MS} (h : MI M) (a : Nat) : ∀ k, MI (m_mof M a k)
  | 0 => h
  | k + 1 => by
    have ih := MI_mof h a k
    refine MI_mu ih ?_
    by_cases q : m_mof M a k 23 k = a ∧ m_mof M a k 26 k = 0
    · rw [if_pos q]; decide
    · rw [if_neg q]; exact ih 26 k
theorem m_mof_nf (M : MS) (a : Nat) {f : Nat} (hf : f ≠ 26) : ∀ k, m_mof M a k f = M f
  | 0 => rfl
  | k + 1 => by
    rw [m_mof, mu_nf _ hf]
    exact m_mof_nf M a hf k
theorem m_up0_nf (M : MS) (c q : Nat) {f : Nat} (h : f ≠ 11 ∧ f ≠ 13 ∧ f ≠ 14) : m_up0 M c q f = M f := by
  unfold m_up0
  by_cases h0 : M 25 c = 0
  · rw [if_pos h0, mu_nf _ h.2.2]
  · rw [if_neg h0]
    by_cases h1 : M 25 c = 1
    · rw [if_pos h1, mu_nf _ h.1]
    · rw [if_neg h1, mu_nf _ h.2.1]
theorem m_up1_nf (M : MS) (c q : Nat) {f : Nat} (h : f ≠ 11 ∧ f ≠ 13 ∧ f ≠ 14 ∧ f ≠ 26 ∧ f ≠ 20) : m_up1 M c q f = M f := by
  obtain ⟨h1, h2, h3, h4, h5⟩ := h
  unfold m_up1
  rw [mu_nf _ h5, mu_nf _ h4, m_up0_nf _ _ _ ⟨h1, h2, h3⟩]
theorem MI_up1 {M : MS} (h : MI M) (c : Nat) {q : Nat} (hq : q ≤ 100) : MI (m_up1 M c q) := by
  have h0 : MI (m_up0 M c q) := by
    unfold m_up0
    split
    · exact MI_mu h (by decide)
    · split
      · exact MI_mu h hq
      · exact MI_mu h (by decide)
  exact MI_mu (MI_mu h0 (by decide)) (by decide)
theorem MI_up2 {M : MS} (h : MI M) (c : Nat) {q : Nat} (hq : q ≤ 100) : MI (m_up2 M c q) := MI_mof (MI_up1 h c hq) _ _
theorem m_up2_nf (M : MS) (c q : Nat) {f : Nat} (h : f ≠ 11 ∧ f ≠ 13 ∧ f ≠ 14 ∧ f ≠ 26 ∧ f ≠ 20) : m_up2 M c q f = M f := by
  unfold m_up2
  rw [m_mof_nf _ _ h.2.2.2.1, m_up1_nf _ _ _ h]
/-! the line of an award -/
def m_wr (M : MS) (c : Nat) : MS := mu (mu M 34 (M 33 0) c) 33 0 (M 33 0 + 1)
def m_ll (M : MS) (a : Nat) : List Nat := [35] ++ (if 9 < a then [48 + a / 10] else []) ++ [48 + a % 10, 32, 84, 48 + M 17 a / 3, 76, 48 + M 17 a % 3, 32, 66, 48 + M 18 a] ++ (if M 20 a ≠ 0 then [86] else if 0 < M 21 a then [83] else if m_fn M a = true then [70] else [])
def m_wl (M : MS) (a : Nat) : MS := (m_ll M a).foldl m_wr (mu M 33 0 0)
def k_line (M : MS) (a : Int32) : Nat := k_aw M a
def g_line (M : MS) (a : Int32) : MS := if isIx a (M 16 0) = true then m_wl M a.toNatClampNeg else M
def r_line (M : MS) (a : Int32) : Int32 := if isIx a (M 16 0) = true then nI (m_wl M a.toNatClampNeg 33 0) else nI 0
def k_lineChar (M : MS) (a q : Int32) : Nat := if (isIx a (M 16 0) && isIx q (m_wl M a.toNatClampNeg 33 0)) = true then 0 else 1
def r_lineChar (M : MS) (a q : Int32) : Int32 := if k_lineChar M a q = 0 then nI (m_wl M a.toNatClampNeg 34 q.toNatClampNeg) else nI 32
theorem n_i2c {c : Nat} (h : c < 65536) : ((nI c).toUInt32 % 65536).toInt32 = nI c := by
  rw [pk_char, pk_tn (by omega), Nat.mod_eq_of_lt h]
theorem n_nar_char {c : Nat} (h : c < 65536) : vp_nar .char (nI c) = nI c := by unfold vp_nar; rw [(pk_charN h).1]
theorem n_ge0 {x : Int32} (h : 0 ≤ x) : ∃ j : Nat, j < 2 ^ 31 ∧ x = nI j := nI_of (Int32.not_lt.mpr h)
theorem n_lt_sub {k a b : Nat} (hk : k < 2 ^ 30) (ha : a < 2 ^ 30) (hb : b < 2 ^ 30) : nI k < nI a - nI b ↔ k + b < a := by
  rw [Int32.lt_iff_toInt_lt, fb_subI9 (by rw [nI_toInt (by omega), nI_toInt (by omega)]; omega) (by rw [nI_toInt (by omega), nI_toInt (by omega)]; omega), nI_toInt (by omega), nI_toInt (by omega), nI_toInt (by omega)]
  omega
theorem i_in_m1 {x : Int32} {b : Nat} (hb : b < 2 ^ 30) (h : i_in x (-1) (nI b) = true) : ∃ j : Nat, j ≤ b + 1 ∧ x = nI j - nI 1 := by
  simp only [i_in, Bool.and_eq_true, Bool.not_eq_true', decide_eq_false_iff_not] at h
  obtain ⟨h1, h2⟩ := h
  rw [Int32.lt_iff_toInt_lt] at h1 h2
  rw [nI_toInt (by omega)] at h2
  have e1 : (-1 : Int32).toInt = -1 := by decide
  rw [e1] at h1
  refine ⟨(x.toInt + 1).toNat, by omega, ?_⟩
  apply Int32.toInt_inj.mp
  rw [fb_subI9 (by rw [nI_toInt (by omega), nI_toInt (by omega)]; omega) (by rw [nI_toInt (by omega), nI_toInt (by omega)]; omega), nI_toInt (by omega), nI_toInt (by omega)]
  omega
theorem n_sub_add1 (j : Nat) : nI j - nI 1 + nI 1 = nI j := Int32.sub_add_cancel _ _
theorem MI_wr {M : MS} (h : MI M) {c : Nat} (hc : c < 128) (h3 : M 33 0 < 20) : MI (m_wr M c) := MI_mu (MI_mu h (by show c ≤ 127; omega)) (by show M 33 0 + 1 ≤ 20; omega)
theorem m_oof_cong {M M' : MS} (h23 : M' 23 = M 23) (h26 : M' 26 = M 26) (a : Nat) : ∀ k, m_oof M' a k = m_oof M a k
  | 0 => rfl
  | k + 1 => by rw [m_oof, m_oof, m_oof_cong h23 h26 a k, h23, h26]
theorem m_oo_cong {M M' : MS} (h22 : M' 22 = M 22) (h23 : M' 23 = M 23) (h26 : M' 26 = M 26) (a : Nat) : m_oo M' a = m_oo M a := by
  unfold m_oo
  rw [h22, m_oof_cong h23 h26]
theorem m_su_cong {M M' : MS} (h19 : M' 19 = M 19) (h7 : M' 7 = M 7) (h17 : M' 17 = M 17) (a : Nat) : m_su M' a = m_su M a := by
  unfold m_su
  rw [h19, h7, h17]
theorem m_fn_cong {M M' : MS} (h20 : M' 20 = M 20) (h22 : M' 22 = M 22) (h23 : M' 23 = M 23) (h26 : M' 26 = M 26) (h19 : M' 19 = M 19) (h7 : M' 7 = M 7) (h17 : M' 17 = M 17) (h1 : M' 1 = M 1) (a : Nat) : m_fn M' a = m_fn M a := by
  unfold m_fn
  rw [m_oo_cong h22 h23 h26, m_su_cong h19 h7 h17, h20, h1]
theorem m_lpc_f1 {X : MS} {a : Nat} (h : 60 ≤ X 16 0) : m_lpc X a = false := by simp [m_lpc]; intros; omega
theorem m_lpc_f2 {X : MS} {a : Nat} (h : X 21 a ≠ 0) : m_lpc X a = false := by simp [m_lpc, h]
theorem m_lpc_f3 {X : MS} {a : Nat} (h : m_fn X a = false) : m_lpc X a = false := by simp [m_lpc, h]
theorem m_lpc_f4 {X : MS} {a : Nat} (h : X 1 0 < m_su X a + 30) : m_lpc X a = false := by simp [m_lpc]; intros; omega
theorem m_lpc_t {X : MS} {a : Nat} (h1 : X 16 0 < 60) (h2 : X 21 a = 0) (h3 : m_fn X a = true) (h4 : m_su X a + 30 ≤ X 1 0) : m_lpc X a = true := by simp [m_lpc, h1, h2, h3, h4]
theorem n_nar_ch (c : Nat) (h : c < 65536) : narrow .char (.int (nI c)) = .int (nI c) := (pk_charN h).1
theorem MI_fold : ∀ (L : List Nat) (M : MS), MI M → (∀ x ∈ L, x < 128) → M 33 0 + L.length ≤ 20 → MI (L.foldl m_wr M) ∧ L.foldl m_wr M 33 0 = M 33 0 + L.length
  | [], M, h, _, _ => ⟨h, rfl⟩
  | x :: L, M, h, h1, h2 => by
    rw [List.length_cons] at h2 ⊢
    have i1 := MI_wr h (h1 x List.mem_cons_self) (by omega)
    have e : m_wr M x 33 0 = M 33 0 + 1 := mu_eq _ _ _ _
    have := MI_fold L (m_wr M x) i1 (fun y hy => h1 y (List.mem_cons_of_mem _ hy)) (by omega)
    rw [List.foldl_cons]
    exact ⟨this.1, by rw [this.2]; omega⟩
theorem m_ll_ok {M : MS} (h : MI M) {a : Nat} (ha : a < 60) : (∀ x ∈ m_ll M a, x < 128) ∧ (m_ll M a).length ≤ 12 := by
  have h17 : M 17 a ≤ 17 := h 17 a
  have h18 : M 18 a ≤ 7 := h 18 a
  unfold m_ll
  refine ⟨?_, ?_⟩
  · intro x hx
    simp only [List.mem_append, List.mem_cons, List.mem_ite_nil_right, List.not_mem_nil, or_false] at hx
    rcases hx with ((hx | hx) | hx) | hx
    · omega
    · omega
    · omega
    · split at hx
      · simp at hx; omega
      · split at hx
        · simp at hx; omega
        · split at hx
          · simp at hx; omega
          · simp at hx
  · simp only [List.length_append, List.length_cons, List.length_nil]
    split <;> split <;> (try split) <;> (try split) <;> simp
theorem MI_wl {M : MS} (h : MI M) {a : Nat} (ha : a < 60) : MI (m_wl M a) := by
  obtain ⟨h1, h2⟩ := m_ll_ok h ha
  exact (MI_fold (m_ll M a) (mu M 33 0 0) (MI_mu h (Nat.zero_le _)) h1 (by rw [mu_eq]; omega)).1
theorem MI_up {M : MS} (h : MI M) (c : Nat) {q : Nat} (hq : q ≤ 100) (h16 : M 16 0 < 60) : MI (m_up M c q) := by
  have h17 : M 17 (M 23 c) ≤ 17 := h 17 _
  exact MI_gv (MI_up2 h c hq) (by omega) (by rw [m_up2_nf _ _ _ (by decide)]; exact h16)
