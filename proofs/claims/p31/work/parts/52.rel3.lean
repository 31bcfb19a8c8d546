/-! more questions: deposits, complaints, the line, winnerAnew -/
section RQ
variable {kd : Nat → Nat} {F : Nat → Nat → Nat} {L : Nat → List Nat} {h : Nat} {M : MS} {tn : Nat → Nat} {lo : Nat → Nat → Nat} {aw co ct ow : Nat → Nat}
theorem m_hcf_iff (M : MS) (g : Nat) : ∀ n, m_hcf M g n = true ↔ ∃ c, c < n ∧ M 17 (M 30 c) = g ∧ M 20 (M 30 c) = 0
  | 0 => ⟨fun q => (by cases q), fun ⟨c, hc, _⟩ => absurd hc (Nat.not_lt_zero c)⟩
  | n + 1 => by
    rw [m_hcf, Bool.or_eq_true, m_hcf_iff M g n, Bool.and_eq_true, decide_eq_true_eq, decide_eq_true_eq]
    have key : 0 < m_runs M n ↔ M 20 (M 30 n) = 0 := by
      have := m_runs_0 (M := M) n
      omega
    rw [key]
    constructor
    · rintro (⟨c, h1, h2⟩ | h2)
      · exact ⟨c, by omega, h2⟩
      · exact ⟨n, by omega, h2⟩
    · rintro ⟨c, h1, h2⟩
      by_cases hc : c = n
      · right; rw [← hc]; exact h2
      · left; exact ⟨c, by omega, h2⟩
theorem rl_hc (hK : RelK kd F M aw ct) (hS : RelS M) {g : Nat} : m_hc M g = true ↔ ∃ a, a < M 16 0 ∧ M 17 a = g ∧ M 20 a = 0 ∧ M 21 a ≠ 0 := by
  unfold m_hc
  rw [m_hcf_iff]
  constructor
  · rintro ⟨c, h1, h2, h3⟩
    exact ⟨M 30 c, (hK.1 c h1).2.1, h2, h3, (hS.1 _ (hK.1 c h1).2.1).mpr ⟨c, h1, rfl⟩⟩
  · rintro ⟨a, h1, h2, h3, h4⟩
    obtain ⟨c, h5, h6⟩ := (hS.1 a h1).mp h4
    exact ⟨c, h5, by rw [h6]; exact h2, by rw [h6]; exact h3⟩
theorem stt_23 (op : Bool) (M : MS) (z : Nat) : (stt op M z = 2 ∨ stt op M z = 3) ↔ op = true ∧ ¬ (M 13 z = 0 ∧ M 14 z = 0) := by
  unfold stt
  by_cases h1 : op = true
  · rw [if_pos h1]
    by_cases h2 : M 14 z = 0
    · rw [if_pos h2]
      by_cases h3 : M 13 z = 0
      · rw [if_pos h3]; simp [h1, h2, h3]
      · rw [if_neg h3]; simp [h1, h3]
    · rw [if_neg h2]; simp [h1, h2]
  · rw [if_neg h1]; simp [h1]
theorem rl_holds (hM : MI M) (hH : RelH kd F L h M tn aw co ct) (hT : RelT kd F L M tn lo ow) (hL : RelL kd F L M tn lo ow) (hX : RelX M) (hW : RelW kd F L M lo aw) (hU : RelU M) (hK : RelK kd F M aw ct) (hS : RelS M) {t k b : Nat} (ht : t < M 3 0) (hk : k < M 8 t) (hb : b < 8) :
    kHolds F L h (lo t k) b = true ↔ 0 < M 10 (8 * (3 * t + k) + b) ∧ M 13 (8 * (3 * t + k) + b) = 0 ∧ M 14 (8 * (3 * t + k) + b) = 0 ∧ m_hc M (3 * t + k) = false := by
  have h3 : M 3 0 ≤ 6 := hM 3 0
  have h8 : M 8 t ≤ 3 := hM 8 t
  have hB := (hL t k ht hk).2.2.2.2.2.2.1
  have hg : (3 * t + k) / 3 = t := by omega
  have hg2 : (3 * t + k) % 3 = k := by omega
  have hx := (hX.2 (3 * t + k) b (by omega) hb).2.1
  rw [hg, hg2] at hx
  unfold kHolds
  rcases hB.bid hb with ⟨h1, h2⟩ | ⟨o, h1, h2, h4⟩
  · rw [h1]
    exact ⟨fun q => (by cases q), fun q => by omega⟩
  · rw [h1]
    obtain ⟨-, -, p1, p2, -, p5, -⟩ := hB.1 o h2
    rw [h4, hg] at p5
    rw [h4] at p1
    have e1 : (F 5 o = 2 ∨ F 5 o = 3) ↔ ¬ (M 13 (8 * (3 * t + k) + b) = 0 ∧ M 14 (8 * (3 * t + k) + b) = 0) := by
      rw [p5, stt_23]
      constructor
      · exact fun q => q.2
      · intro q
        refine ⟨?_, q⟩
        by_cases hop : m_op M t = true
        · exact hop
        · exact absurd (hx (Or.inr (by simpa using hop))) q
    have hcs := rl_hc hK hS (g := 3 * t + k)
    have h20 : ∀ a, M 20 a ≤ 1 := fun a => hM 20 a
    show (decide (¬ (F 5 o = 2 ∨ F 5 o = 3)) && (match kStand F L h (lo t k) with | none => true | some w => decide (F 5 w = 0))) = true ↔ _
    rw [Bool.and_eq_true, decide_eq_true_eq, e1, Classical.not_not]
    have e2 : (match kStand F L h (lo t k) with | none => true | some w => decide (F 5 w = 0)) = true ↔ m_hc M (3 * t + k) = false := by
      rcases rl_stand hH hT hL hW hU ht hk (by omega) with ⟨s1, s2⟩ | ⟨a, s0, s1, s2, s3, s4⟩
      · rw [s1]
        refine ⟨fun _ => ?_, fun _ => rfl⟩
        by_cases hc : m_hc M (3 * t + k) = true
        · exfalso
          obtain ⟨a, a1, a2, a3, a4⟩ := hcs.mp hc
          have := m_aff_eq (g := 3 * t + k) (M 16 0) a1 a2 a3 (fun c hc q1 q2 => hU.1 c a hc a1 q2 a3 (q1.trans a2.symm))
          unfold m_af at s2
          rw [s2] at this; cases this
        · simpa using hc
      · rw [s1]
        show decide (F 5 (aw a) = 0) = true ↔ _
        rw [decide_eq_true_eq, (hW a s0).2.2.2.2.2.2.2.2.2.2]
        constructor
        · intro q
          by_cases hc : m_hc M (3 * t + k) = true
          · exfalso
            obtain ⟨c, a1, a2, a3, a4⟩ := hcs.mp hc
            rw [hU.1 c a a1 s0 a3 s4 (a2.trans s3.symm)] at a4
            exact a4 q
          · simpa using hc
        · intro q
          by_cases z : M 21 a = 0
          · exact z
          · rw [hcs.mpr ⟨a, s0, s3, s4, z⟩] at q; cases q
    rw [e2]
    constructor
    · rintro ⟨⟨q1, q2⟩, q3⟩; exact ⟨by omega, q1, q2, q3⟩
    · rintro ⟨-, q1, q2, q3⟩; exact ⟨⟨q1, q2⟩, q3⟩
theorem m_hdf_sm (M : MS) (b : Nat) : ∀ n, m_hdf M b n = sm (fun k => if 0 < M 10 (8 * k + b) ∧ M 13 (8 * k + b) = 0 ∧ M 14 (8 * k + b) = 0 ∧ m_hc M k = false then M 9 k else 0) n
  | 0 => rfl
  | n + 1 => by rw [m_hdf, sm, m_hdf_sm M b n]
theorem sm_3 (f : Nat → Nat) : ∀ n, sm f (3 * n) = sm (fun t => f (3 * t) + f (3 * t + 1) + f (3 * t + 2)) n
  | 0 => rfl
  | n + 1 => by
    rw [show 3 * (n + 1) = 3 * n + 1 + 1 + 1 by omega, sm, sm, sm, sm, sm_3 f n]
    show _ + _ + _ + _ = _ + (_ + _ + _)
    omega
theorem sm_le3 {f : Nat → Nat} {n : Nat} (hn : n ≤ 3) (h : ∀ k, n ≤ k → k < 3 → f k = 0) : sm f n = f 0 + f 1 + f 2 := by
  have h0 := h 0
  have h1 := h 1
  have h2 := h 2
  have : n = 0 ∨ n = 1 ∨ n = 2 ∨ n = 3 := by omega
  rcases this with rfl | rfl | rfl | rfl
  · show 0 = _
    rw [h0 (by omega) (by omega), h1 (by omega) (by omega), h2 (by omega) (by omega)]
  · show 0 + f 0 = _
    rw [h1 (by omega) (by omega), h2 (by omega) (by omega)]; omega
  · show 0 + f 0 + f 1 = _
    rw [h2 (by omega) (by omega)]; omega
  · show 0 + f 0 + f 1 + f 2 = _
    omega
theorem rl_held (hM : MI M) (hH : RelH kd F L h M tn aw co ct) (hT : RelT kd F L M tn lo ow) (hL : RelL kd F L M tn lo ow) (hX : RelX M) (hW : RelW kd F L M lo aw) (hU : RelU M) (hK : RelK kd F M aw ct) (hS : RelS M) {b : Nat} (hb : b < 8) : sm (kHeld F L h b) (L (F 1 h)).length = m_hdf M b (3 * M 3 0) := by
  have h3 : M 3 0 ≤ 6 := hM 3 0
  rw [m_hdf_sm, sm_3, hH.2.2.2.2.1, lsn_len]
  refine sm_congr (fun t ht => ?_)
  have h8 : M 8 t ≤ 3 := hM 8 t
  show sm (kHeld1 F L h b (F 5 (gt (L (F 1 h)) t))) (L (F 5 (gt (L (F 1 h)) t))).length = _
  rw [hH.2.2.2.2.1, lsn_gt ht, (hT t ht).2.2.2.2.2.2.1, lsn_len]
  rw [sm_congr (g := fun k => if 0 < M 10 (8 * (3 * t + k) + b) ∧ M 13 (8 * (3 * t + k) + b) = 0 ∧ M 14 (8 * (3 * t + k) + b) = 0 ∧ m_hc M (3 * t + k) = false then M 9 (3 * t + k) else 0) (fun k hk => ?_)]
  · refine (sm_le3 h8 (fun k hk hk3 => ?_)).trans rfl
    refine if_neg (fun q => ?_)
    have := (hX.2 (3 * t + k) b (by omega) hb).2.2 (by rw [show (3 * t + k) / 3 = t by omega, show (3 * t + k) % 3 = k by omega]; exact hk)
    omega
  · show (if kHolds F L h (gt (L (F 5 (tn t))) k) b = true then F 2 (gt (L (F 5 (tn t))) k) else 0) = _
    rw [(hT t ht).2.2.2.2.2.2.1, lsn_gt hk, (hL t k ht hk).2.2.2.1]
    have key := rl_holds hM hH hT hL hX hW hU hK hS ht hk hb
    by_cases q : kHolds F L h (lo t k) b = true
    · rw [if_pos q, if_pos (key.mp q)]
    · rw [if_neg q, if_neg (fun z => q (key.mpr z))]
theorem m_mcf_iff (M : MS) (b a : Nat) : ∀ n, m_mcf M b a n = true ↔ m_mc0 M b a = true ∧ ∀ c, c < n → ¬ (M 23 c = a ∧ M 24 c = b)
  | 0 => ⟨fun q => ⟨q, fun c hc => absurd hc (Nat.not_lt_zero c)⟩, fun q => q.1⟩
  | n + 1 => by
    rw [m_mcf, Bool.and_eq_true, m_mcf_iff M b a n]
    simp only [Bool.or_eq_true, Bool.not_eq_true', decide_eq_false_iff_not]
    constructor
    · rintro ⟨⟨q1, q2⟩, q3⟩
      refine ⟨q1, fun c hc z => ?_⟩
      by_cases hcn : c = n
      · rw [hcn] at z
        rcases q3 with q3 | q3
        · exact q3 z.1
        · exact q3 z.2
      · exact q2 c (by omega) z
    · rintro ⟨q1, q2⟩
      refine ⟨⟨q1, fun c hc => q2 c (by omega)⟩, ?_⟩
      have := q2 n (by omega)
      by_cases z : M 23 n = a
      · exact Or.inr (fun z2 => this ⟨z, z2⟩)
      · exact Or.inl z
theorem rl_may (hM : MI M) (hH : RelH kd F L h M tn aw co ct) (hL : RelL kd F L M tn lo ow) (hX : RelX M) (hW : RelW kd F L M lo aw) (hC : RelC kd F M aw co) {a b z : Nat} (ha : a < M 16 0) (hb : b < 8) (hz : z ≤ 2) :
    kCmpC F L h b (aw a) z ↔ m_mc M b a z = true ∧ M 22 0 < 60 := by
  have h17 : M 17 a ≤ 17 := hM 17 a
  obtain ⟨-, -, w3, w4, w5, w6, -, w8, w9, w10, -⟩ := hW a ha
  have hB := (hL _ _ w3 w4).2.2.2.2.2.2.1
  rw [show 3 * (M 17 a / 3) + M 17 a % 3 = M 17 a by omega] at hB
  have hx := hX.2 (M 17 a) b (by omega) hb
  have hcomp : kComp F L h b (aw a) ↔ ∃ c, c < M 22 0 ∧ M 23 c = a ∧ M 24 c = b := by
    constructor
    · rintro ⟨j, j1, j2, j3⟩
      rw [hH.2.2.2.2.2.2.1, lsn_len] at j1
      rw [hH.2.2.2.2.2.2.1, lsn_gt j1] at j2 j3
      obtain ⟨-, c2, c3, c4, -⟩ := hC.1 j j1
      exact ⟨j, j1, aw_inj hW c3 ha (c4.symm.trans j2), c2.symm.trans j3⟩
    · rintro ⟨j, j1, j2, j3⟩
      obtain ⟨-, c2, c3, c4, -⟩ := hC.1 j j1
      refine ⟨j, by rw [hH.2.2.2.2.2.2.1, lsn_len]; exact j1, ?_, ?_⟩
      · rw [hH.2.2.2.2.2.2.1, lsn_gt j1, c4, j2]
      · rw [hH.2.2.2.2.2.2.1, lsn_gt j1, c2, j3]
  have e23 : (L (F 3 h)).length = M 22 0 := by rw [hH.2.2.2.2.2.2.1, lsn_len]
  show F 4 (aw a) = 0 ∧ F 5 h < F 3 (aw a) ∧ kMay F L h b (aw a) (nI z) = true ∧ (L (F 3 h)).length < 60 ↔ _
  rw [w9, w10, hH.2.2.1, e23]
  unfold m_mc
  rw [Bool.and_eq_true, m_mcf_iff]
  unfold m_mc0
  simp only [Bool.and_eq_true, decide_eq_true_eq, Bool.or_eq_true, Bool.not_eq_true', decide_eq_false_iff_not]
  unfold kMay
  rw [w5]
  rcases hB.bid hb with ⟨h1, h2⟩ | ⟨o, h1, h2, h4⟩
  · rw [h1]
    constructor
    · rintro ⟨-, -, q, -⟩; cases q
    · rintro ⟨⟨⟨⟨⟨⟨-, -⟩, q⟩, -⟩, -⟩, -⟩, -⟩; omega
  · rw [h1]
    obtain ⟨-, -, p1, p2, -, p5, -⟩ := hB.1 o h2
    rw [h4] at p1 p5
    have e1 : F 5 o = 2 ↔ M 13 (8 * M 17 a + b) ≠ 0 := by
      rw [p5, stt, if_pos w6]
      rcases hx.1 with x | x
      · rw [x]
        by_cases y : M 14 (8 * M 17 a + b) = 0
        · rw [if_pos y]; simp
        · rw [if_neg y]; simp
      · rw [if_pos x]
        by_cases y : M 13 (8 * M 17 a + b) = 0
        · rw [if_pos y]; simp [y]
        · rw [if_neg y]; simp [y]
    have e2 : (nI z = nI 2) ↔ z = 2 := nI_eq (by omega) (by decide)
    show M 20 a = 0 ∧ M 1 0 < m_su M a ∧ decide (¬ F 0 (F 2 (aw a)) = b ∧ ¬ kComp F L h b (aw a) ∧ (¬ nI z = nI 2 ∨ F 5 o = 2)) = true ∧ M 22 0 < 60 ↔ _
    rw [decide_eq_true_eq, w8, hcomp, e1, e2]
    constructor
    · rintro ⟨q1, q2, ⟨q3, q4, q5⟩, q6⟩
      exact ⟨⟨⟨⟨⟨⟨q1, q2⟩, by omega⟩, q3⟩, fun c hc y => q4 ⟨c, hc, y⟩⟩, q5⟩, q6⟩
    · rintro ⟨⟨⟨⟨⟨⟨q1, q2⟩, -⟩, q3⟩, q4⟩, q5⟩, q6⟩
      exact ⟨q1, q2, ⟨q3, fun ⟨c, hc, y⟩ => q4 c hc y, q5⟩, q6⟩
end RQ
/-! the line -/
theorem fold_wr (xs : List Nat) : ∀ (N : MS), xs.foldl m_wr N 33 0 = N 33 0 + xs.length ∧ (∀ j, j < N 33 0 → xs.foldl m_wr N 34 j = N 34 j) ∧ ∀ j, j < xs.length → xs.foldl m_wr N 34 (N 33 0 + j) = gt xs j := by
  induction xs with
  | nil => intro N; exact ⟨rfl, fun j _ => rfl, fun j hj => absurd hj (Nat.not_lt_zero j)⟩
  | cons x xs ih =>
    intro N
    obtain ⟨h1, h2, h3⟩ := ih (m_wr N x)
    have e33 : m_wr N x 33 0 = N 33 0 + 1 := by unfold m_wr; rw [mu_eq]
    have e34 : ∀ j, m_wr N x 34 j = if j = N 33 0 then x else N 34 j := by
      intro j
      unfold m_wr
      rw [mu_nf _ (by decide), mu_f]
    rw [e33] at h1 h2 h3
    refine ⟨by rw [List.foldl_cons, h1, List.length_cons]; omega, fun j hj => ?_, fun j hj => ?_⟩
    · rw [List.foldl_cons, h2 j (by omega), e34, if_neg (by omega)]
    · rw [List.foldl_cons]
      cases j with
      | zero => rw [h2 _ (by omega), e34, if_pos (Nat.add_zero _)]; rfl
      | succ j =>
        rw [show N 33 0 + (j + 1) = N 33 0 + 1 + j by omega, h3 j (by simpa using hj)]
        rfl
theorem m_wl_len (M : MS) (a : Nat) : m_wl M a 33 0 = (m_ll M a).length := by
  unfold m_wl
  rw [(fold_wr _ _).1, mu_eq, Nat.zero_add]
theorem m_wl_at (M : MS) (a : Nat) {j : Nat} (hj : j < (m_ll M a).length) : m_wl M a 34 j = gt (m_ll M a) j := by
  unfold m_wl
  have h := (fold_wr (m_ll M a) (mu M 33 0 0)).2.2 j hj
  rw [mu_eq, Nat.zero_add] at h
  exact h
theorem m_wl_nf (M : MS) (a : Nat) {f : Nat} (h33 : f ≠ 33) (h34 : f ≠ 34) : m_wl M a f = M f := by
  unfold m_wl
  have key : ∀ (xs : List Nat) (N : MS), xs.foldl m_wr N f = N f := by
    intro xs
    induction xs with
    | nil => intro N; rfl
    | cons x xs ih => intro N; rw [List.foldl_cons, ih]; unfold m_wr; rw [mu_nf _ h33, mu_nf _ h34]
  rw [key, mu_nf _ h33]
theorem rl_line {kd : Nat → Nat} {F : Nat → Nat → Nat} {L : Nat → List Nat} {h : Nat} {M : MS} {tn : Nat → Nat} {lo : Nat → Nat → Nat} {aw co ct ow : Nat → Nat} (hWF : WF kd F L) (hM : MI M) (hH : RelH kd F L h M tn aw co ct) (hT : RelT kd F L M tn lo ow) (hL : RelL kd F L M tn lo ow) (hW : RelW kd F L M lo aw) (hC : RelC kd F M aw co) {a : Nat} (ha : a < M 16 0) : kLine F L h (aw a) = m_ll M a := by
  have h17 : M 17 a ≤ 17 := hM 17 a
  have h18 : M 18 a ≤ 7 := hM 18 a
  have h20 : M 20 a ≤ 1 := hM 20 a
  obtain ⟨w1, w2, w3, w4, w5, w6, -, w8, w9, w10, w11⟩ := hW a ha
  have hk3 : M 17 a % 3 < 3 := Nat.mod_lt _ (by decide)
  obtain ⟨l1, l2, l3, -⟩ := hL _ _ w3 w4
  have t2 := (hT _ w3).2.1
  have h5 : F 5 (aw a) < 2 := hWF.num w1 rfl (by decide)
  unfold kLine kFlag m_ll
  rw [w2, w5, l2, t2, l3, w8]
  have d2 : dig (M 17 a / 3) = [48 + M 17 a / 3] := dig_1 (by omega)
  have d3 : dig (M 17 a % 3) = [48 + M 17 a % 3] := dig_1 (by omega)
  have d4 : dig (M 18 a) = [48 + M 18 a] := dig_1 (by omega)
  have d1 : dig a = (if 9 < a then [48 + a / 10] else []) ++ [48 + a % 10] := by
    by_cases q : 9 < a
    · rw [if_pos q, dig_2 q]; rfl
    · rw [if_neg q, dig_1 q, show a % 10 = a from Nat.mod_eq_of_lt (by omega)]; rfl
  have e6 : (if F 4 (aw a) = 1 then [86] else if F 5 (aw a) = 1 then [83] else if kFin F L h (aw a) then [70] else []) = (if M 20 a ≠ 0 then [86] else if 0 < M 21 a then [83] else if m_fn M a = true then [70] else ([] : List Nat)) := by
    by_cases q1 : F 4 (aw a) = 1
    · rw [if_pos q1, if_pos (show M 20 a ≠ 0 by omega)]
    · rw [if_neg q1, if_neg (show ¬ M 20 a ≠ 0 by omega)]
      by_cases q2 : F 5 (aw a) = 1
      · have z : ¬ F 5 (aw a) = 0 := by omega
        rw [w11] at z
        rw [if_pos q2, if_pos (show 0 < M 21 a by omega)]
      · have z : F 5 (aw a) = 0 := by omega
        rw [w11] at z
        rw [if_neg q2, if_neg (show ¬ 0 < M 21 a by omega)]
        have key := rl_fin hH hW hC ha
        by_cases q3 : kFin F L h (aw a)
        · rw [if_pos q3, if_pos (key.mp q3)]
        · rw [if_neg q3, if_neg (fun z => q3 (key.mpr z))]
  rw [d1, d2, d3, d4, e6]
  simp only [List.append_assoc, List.cons_append, List.nil_append, List.singleton_append]
