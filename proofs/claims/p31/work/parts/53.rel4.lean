/-! the public questions: which exception, what answer -/
theorem fr_congr {P Q : Nat → Prop} [DecidablePred P] [DecidablePred Q] {n : Nat} (h : ∀ i, i < n → (P i ↔ Q i)) : fr P n = fr Q n := by
  rcases hf : fr P n with _ | i
  · exact (fr_none (fun j hj q => fr_iff_none hf j hj ((h j hj).mpr q))).symm
  · have hi := fr_lt hf
    have hp : P i := fr_spec hf
    have hlo : ∀ j, j < i → ¬ P j := by
      intro j hj q
      unfold fr at hf
      rw [List.find?_range_eq_some] at hf
      have := hf.2.2 j hj
      simp [q] at this
    exact (fr_some (fun j hj q => hlo j hj ((h j (by omega)).mpr q)) hi ((h i hi).mp hp)).symm
theorem kRk_opt (F : Nat → Nat → Nat) (L : Nat → List Nat) (a : Nat) (z : Int32) : kRk F L a z = optI ((kPlace F L a z).map (F 0)) := by
  unfold kRk
  cases kPlace F L a z <;> rfl
theorem AnI.place {kd : Nat → Nat} {F : Nat → Nat → Nat} {L : Nat → List Nat} {a q : Nat} {kd2 : Nat → Nat} {F2 : Nat → Nat → Nat} {L2 : Nat → List Nat} (hI : AnI kd F L a q (L (F 3 a)).length (L (F 4 a)).length kd2 F2 L2) (hrep : ∀ o ∈ L (F 3 a), kRep F (L (F 4 a)) (F 0 o) (F 2 o) (F 4 o) (L (F 4 a)).length = (F 3 o, F 5 o)) (hk0 : kd (F 0 a) = 8) (z : Int32) : (kPlace F2 L2 q z).map (F2 0) = (kPlace F L a z).map (F 0) := by
  obtain ⟨hE, hk7, hq, hq0, hr, hlen, hnd, hv⟩ := hI
  have v : ∀ j, j < (L (F 3 a)).length → F2 0 (gt (L2 (F2 3 q)) j) = F 0 (gt (L (F 3 a)) j) ∧ F2 1 (gt (L2 (F2 3 q)) j) = F 1 (gt (L (F 3 a)) j) ∧ F2 3 (gt (L2 (F2 3 q)) j) = F 3 (gt (L (F 3 a)) j) ∧ F2 5 (gt (L2 (F2 3 q)) j) = F 5 (gt (L (F 3 a)) j) := by
    intro j hj
    obtain ⟨-, v2, v3, v4, v5⟩ := hv j hj
    rw [hrep _ (gt_mem hj)] at v4 v5
    exact ⟨v2, v3, v4, v5⟩
  have hw : F2 3 (F2 0 q) = F 3 (F 0 a) := by rw [hq0]; exact (hE (F 0 a) (by omega)).2.1 3
  have hle : ∀ j, j < (L (F 3 a)).length → ∀ i, i ≤ (L (F 3 a)).length → kLeast F2 L2 q (gt (L2 (F2 3 q)) j) i = kLeast F L a (gt (L (F 3 a)) j) i := by
    intro j hj i
    induction i with
    | zero => intro _; exact (v j hj).2.1
    | succ i ih =>
      intro hi
      rw [kLeast, kLeast, ih (by omega), (v i (by omega)).2.2.2, (v i (by omega)).2.1]
  have hsc : ∀ j, j < (L (F 3 a)).length → kScore F2 L2 q (gt (L2 (F2 3 q)) j) = kScore F L a (gt (L (F 3 a)) j) := by
    intro j hj
    unfold kScore
    rw [hlen, hle j hj _ (Nat.le_refl _), hw, (v j hj).2.1, (v j hj).2.2.1]
  have hbt : ∀ j, j < (L (F 3 a)).length → kBetter F2 L2 q j (gt (L2 (F2 3 q)) j) = kBetter F L a j (gt (L (F 3 a)) j) := by
    intro j hj
    unfold kBetter
    rw [hlen]
    refine cn_congr (fun i hi => ?_)
    show (F2 5 _ = 1 ∧ _) ↔ (F 5 _ = 1 ∧ _)
    rw [hsc j hj, hsc i hi, (v i hi).2.2.2, (v i hi).2.1, (v j hj).2.1]
  have hfr : fr (fun j => F2 5 (gt (L2 (F2 3 q)) j) = 1 ∧ nI (kBetter F2 L2 q j (gt (L2 (F2 3 q)) j)) = z) (L2 (F2 3 q)).length = fr (fun j => F 5 (gt (L (F 3 a)) j) = 1 ∧ nI (kBetter F L a j (gt (L (F 3 a)) j)) = z) (L (F 3 a)).length := by
    rw [hlen]
    exact fr_congr (fun i hi => by rw [(v i hi).2.2.2, hbt i hi])
  unfold kPlace
  rw [hfr]
  rcases hf : fr (fun j => F 5 (gt (L (F 3 a)) j) = 1 ∧ nI (kBetter F L a j (gt (L (F 3 a)) j)) = z) (L (F 3 a)).length with _ | j
  · rfl
  · exact congrArg some (v j (fr_lt hf)).1
theorem bidK (b : Int32) : (isIx b 8 = false ∧ kIx b 8 = 1) ∨ ∃ x : Nat, x < 8 ∧ b = nI x ∧ isIx b 8 = true ∧ kIx b 8 = 0 ∧ b.toNatClampNeg = x := by
  by_cases h : isIx b 8 = true
  · obtain ⟨x, hx, rfl⟩ := isIx_of (by decide) h
    exact Or.inr ⟨x, hx, rfl, h, kIx_yes (by decide) hx, nI_clamp (by omega)⟩
  · have h : isIx b 8 = false := by simpa using h
    exact Or.inl ⟨h, kIx_no h⟩
/-- an index into a list of addresses -/
theorem lsnK {vs : List Nat} {f : Nat → Nat} {n : Nat} (e : vs = lsn f n) (hn : n ≤ 60) (i : Int32) : (isIx i n = false ∧ kIx i vs.length = 1) ∨ ∃ x : Nat, x < n ∧ i = nI x ∧ isIx i n = true ∧ kIx i vs.length = 0 ∧ i.toNatClampNeg = x ∧ ga vs i = f x := by
  subst e
  rw [lsn_len]
  by_cases h : isIx i n = true
  · obtain ⟨x, hx, rfl⟩ := isIx_of (by omega) h
    exact Or.inr ⟨x, hx, rfl, h, kIx_yes (by omega) hx, nI_clamp (by omega), by rw [ga_nI (by omega), lsn_gt hx]⟩
  · have h : isIx i n = false := by simpa using h
    exact Or.inl ⟨h, kIx_no h⟩
section RQ
variable {kd : Nat → Nat} {F : Nat → Nat → Nat} {L : Nat → List Nat} {h : Nat} {M : MS} {tn : Nat → Nat} {lo : Nat → Nat → Nat} {aw co ct ow : Nat → Nat}
theorem m_at_of {b t k : Int32} {x y z : Nat} (h1 : b.toNatClampNeg = x) (h2 : t.toNatClampNeg = y) (h3 : k.toNatClampNeg = z) : m_at b t k = 8 * (3 * y + z) + x := by
  unfold m_at
  rw [h1, h2, h3]
theorem askK (hM : MI M) (hH : RelH kd F L h M tn aw co ct) (hT : RelT kd F L M tn lo ow) (b t k : Int32) : ks (kIx b 8) (kLotK F L h t k) = k_ask M b t k := by
  unfold k_ask
  rcases bidK b with ⟨h1, h2⟩ | ⟨x, hx, -, h1, h2, -⟩
  · rw [h1, Bool.false_and, if_neg (by decide), ks_l (by rw [h2]; decide), h2]
  · rw [h1, Bool.true_and, ks_r h2]
    rcases lotK hM hH hT t k with ⟨g1, g2⟩ | ⟨x, y, -, -, -, -, -, -, g1, g2, -⟩
    · rw [g1, g2, if_neg (by decide)]
    · rw [g1, g2, if_pos rfl]
theorem ask_of (hM : MI M) (hH : RelH kd F L h M tn aw co ct) (hT : RelT kd F L M tn lo ow) {b t k : Int32} (e : k_ask M b t k = 0) : ∃ w x y : Nat, w < 8 ∧ x < M 3 0 ∧ y < M 8 x ∧ x < 6 ∧ y < 3 ∧ b.toNatClampNeg = w ∧ kLotV F L h t k = lo x y ∧ m_at b t k = 8 * (3 * x + y) + w ∧ (isIx b 8 && m_isLot M t k) = true ∧ t.toNatClampNeg = x := by
  unfold k_ask at e
  by_cases q : (isIx b 8 && m_isLot M t k) = true
  · have q0 := q
    rw [Bool.and_eq_true] at q
    rcases bidK b with ⟨h1, -⟩ | ⟨w, hw, -, -, -, h3⟩
    · rw [h1] at q; cases q.1
    · rcases lotK hM hH hT t k with ⟨g1, -⟩ | ⟨x, y, a1, a2, a3, a4, -, -, -, -, a5, -, a6, a7⟩
      · rw [g1] at q; cases q.2
      · exact ⟨w, x, y, hw, a1, a2, a3, a4, h3, a5, m_at_of h3 a6 a7, q0, a6⟩
  · rw [if_neg q] at e; cases e
theorem q_isIn (hM : MI M) (hH : RelH kd F L h M tn aw co ct) (hT : RelT kd F L M tn lo ow) (hL : RelL kd F L M tn lo ow) {b t k : Int32} (e : k_ask M b t k = 0) : kIn F L (kLotV F L h t k) b.toNatClampNeg = r_isIn M b t k := by
  obtain ⟨w, x, y, hw, hx, hy, hx6, hy3, e1, e2, e3, e4, -⟩ := ask_of hM hH hT e
  have hB := (hL x y hx hy).2.2.2.2.2.2.1
  unfold r_isIn
  rw [e4, Bool.true_and, e3, e1, e2]
  unfold kIn
  have key := hB.tp hw
  rcases hB.bid hw with ⟨h1, h2⟩ | ⟨o, h1, h2, h4⟩
  · rw [h1]
    by_cases q : m_tp M (8 * (3 * x + y) + w) = true
    · obtain ⟨o, ho, he, -⟩ := key.mp q
      rw [← he] at h1
      rw [hB.bid_some ho] at h1; cases h1
    · simpa using q
  · rw [h1]
    have k2 := hB.tpo h2
    rw [h4] at k2
    by_cases q : m_tp M (8 * (3 * x + y) + w) = true
    · rw [q]; show decide _ = true; rw [decide_eq_true_eq]; exact k2.mp q
    · have z : m_tp M (8 * (3 * x + y) + w) = false := by simpa using q
      rw [z]; show decide _ = false; rw [decide_eq_false_iff_not]; exact fun v => q (k2.mpr v)
theorem lo_w (hT : RelT kd F L M tn lo ow) (hL : RelL kd F L M tn lo ow) {x y : Nat} (hx : x < M 3 0) (hy : y < M 8 x) (hy3 : y < 3) : F 3 (F 0 (lo x y)) = M 6 ((3 * x + y) / 3) := by
  rw [(hL x y hx hy).2.1, (hT x hx).2.2.2.2.1, show (3 * x + y) / 3 = x by omega]
theorem q_score (hM : MI M) (hH : RelH kd F L h M tn aw co ct) (hT : RelT kd F L M tn lo ow) (hL : RelL kd F L M tn lo ow) {b t k : Int32} (e : k_ask M b t k = 0) : kSc F L (kLotV F L h t k) b.toNatClampNeg = r_score M b t k := by
  obtain ⟨w, x, y, hw, hx, hy, hx6, hy3, e1, e2, e3, e4, -⟩ := ask_of hM hH hT e
  have hB := (hL x y hx hy).2.2.2.2.2.2.1
  unfold r_score
  rw [if_pos e4, e3, e1, e2]
  unfold kSc
  have key := hB.tp hw
  rcases hB.bid hw with ⟨h1, h2⟩ | ⟨o, h1, h2, h4⟩
  · rw [h1]
    rw [if_neg (fun q => by
      obtain ⟨o, ho, he, -⟩ := key.mp q
      rw [← he] at h1
      rw [hB.bid_some ho] at h1; cases h1)]
  · rw [h1]
    have k2 := hB.tpo h2
    have k3 := hB.score (lo_w hT hL hx hy hy3) h2
    rw [h4] at k2 k3
    show (if F 5 o = 1 then nI (kScore F L (lo x y) o) else -1) = _
    by_cases q : m_tp M (8 * (3 * x + y) + w) = true
    · rw [if_pos q, if_pos (k2.mp q), k3]
    · rw [if_neg q, if_neg (fun v => q (k2.mpr v))]
theorem lot_len (hWF : WF kd F L) (hL : RelL kd F L M tn lo ow) {x y : Nat} (hx : x < M 3 0) (hy : y < M 8 x) : (L (F 3 (lo x y))).length ≤ 60 := hWF.len (hWF.ref (hL x y hx hy).1 rfl (by decide) : kd (F 3 (lo x y)) = 23) (by decide)
theorem q_ranked (hM : MI M) (hH : RelH kd F L h M tn aw co ct) (hT : RelT kd F L M tn lo ow) (hL : RelL kd F L M tn lo ow) (t k z : Int32) : ks (kLotK F L h t k) (if 0 ≤ z then 0 else 2) = k_ranked M t k z ∧ (k_ranked M t k z = 0 → kRk F L (kLotV F L h t k) z = r_ranked M t k z) := by
  rcases lotK hM hH hT t k with ⟨g1, g2⟩ | ⟨x, y, hx, hy, hx6, hy3, -, -, g1, g2, g3, g4, -, -⟩
  · unfold k_ranked
    rw [g1, if_pos rfl, ks_l (by rw [g2]; decide), g2]
    exact ⟨rfl, fun q => by cases q⟩
  · have e1 : ks (kLotK F L h t k) (if 0 ≤ z then 0 else 2) = k_ranked M t k z := by
      unfold k_ranked
      rw [g1, if_neg (show ¬ true = false by decide), ks_r g2]
    refine ⟨e1, fun e => ?_⟩
    unfold r_ranked
    rw [if_pos e, kRk_opt, g3, g4]
    have hz : 0 ≤ z := by
      rw [← e1, ks_r g2] at e
      by_cases q : 0 ≤ z
      · exact q
      · rw [if_neg q] at e; cases e
    obtain ⟨j, hj, rfl⟩ := n_ge0 hz
    rw [nI_clamp hj, ((hL x y hx hy).2.2.2.2.2.2.1).place (lo_w hT hL hx hy hy3) j hj (Nat.le_trans ((hL x y hx hy).2.2.2.2.2.2.1).len8 (by decide))]
theorem q_awardOf (hM : MI M) (hH : RelH kd F L h M tn aw co ct) (hT : RelT kd F L M tn lo ow) (hL : RelL kd F L M tn lo ow) (hW : RelW kd F L M lo aw) (hU : RelU M) (t k : Int32) : kLotK F L h t k = k_lot M t k ∧ (k_lot M t k = 0 → kAw F L h (kLotV F L h t k) = r_awardOf M t k) := by
  unfold k_lot r_awardOf
  rcases lotK hM hH hT t k with ⟨g1, g2⟩ | ⟨x, y, hx, hy, hx6, hy3, -, -, g1, g2, g3, g4, -, -⟩
  · rw [g1, g2, if_neg (by decide)]
    exact ⟨rfl, fun q => by cases q⟩
  · rw [g1, g2, if_pos rfl, if_pos rfl, g3, g4]
    refine ⟨rfl, fun _ => ?_⟩
    unfold kAw
    rcases rl_stand hH hT hL hW hU hx hy hy3 with ⟨s1, s2⟩ | ⟨a, a1, s1, s2, -, -⟩
    · rw [s1, s2]; rfl
    · rw [s1, s2]; show optI (some (F 0 (aw a))) = _; rw [(hW a a1).2.1]
theorem q_winner (hM : MI M) (hH : RelH kd F L h M tn aw co ct) (hW : RelW kd F L M lo aw) (i : Int32) : kIx i (L (F 2 h)).length = k_aw M i ∧ (k_aw M i = 0 → nI (F 0 (F 2 (ga (L (F 2 h)) i))) = r_winner M i) := by
  unfold k_aw r_winner
  rcases lsnK hH.2.2.2.2.2.1 (hM 16 0) i with ⟨g1, g2⟩ | ⟨a, ha, -, g1, g2, g3, g4⟩
  · rw [g1, g2, if_neg (by decide)]
    exact ⟨rfl, fun q => by cases q⟩
  · rw [g1, g2, if_pos rfl, if_pos rfl, g3, g4, (hW a ha).2.2.2.2.2.2.2.1]
    exact ⟨rfl, fun _ => rfl⟩
theorem q_isVoid (hM : MI M) (hH : RelH kd F L h M tn aw co ct) (hW : RelW kd F L M lo aw) (i : Int32) : k_aw M i = 0 → decide (F 4 (ga (L (F 2 h)) i) = 1) = r_isVoid M i := by
  unfold k_aw r_isVoid
  rcases lsnK hH.2.2.2.2.2.1 (hM 16 0) i with ⟨g1, g2⟩ | ⟨a, ha, -, g1, g2, g3, g4⟩
  · rw [g1, if_neg (by decide)]
    exact fun q => by cases q
  · intro _
    have h20 : M 20 a ≤ 1 := hM 20 a
    rw [g1, g3, g4, (hW a ha).2.2.2.2.2.2.2.2.2.1, Bool.true_and]
    by_cases q : M 20 a = 0
    · rw [decide_eq_true q, decide_eq_false (by omega)]; rfl
    · rw [decide_eq_false q, decide_eq_true (by omega)]; rfl
theorem q_isFinal (hM : MI M) (hH : RelH kd F L h M tn aw co ct) (hW : RelW kd F L M lo aw) (hC : RelC kd F M aw co) (i : Int32) : k_aw M i = 0 → decide (kFin F L h (ga (L (F 2 h)) i)) = r_isFinal M i := by
  unfold k_aw r_isFinal
  rcases lsnK hH.2.2.2.2.2.1 (hM 16 0) i with ⟨g1, g2⟩ | ⟨a, ha, -, g1, g2, g3, g4⟩
  · rw [g1, if_neg (by decide)]
    exact fun q => by cases q
  · intro _
    rw [g1, g3, g4, Bool.true_and]
    have key := rl_fin hH hW hC ha
    by_cases q : m_fn M a = true
    · rw [q, decide_eq_true (key.mpr q)]
    · rw [decide_eq_false (fun z => q (key.mp z))]
      have : m_fn M a = false := by simpa using q
      exact this.symm
theorem m_rk_closed {g z : Nat} (hg : m_op M (g / 3) = false) : m_rk M g z = none := by
  rcases hr : m_rk M g z with _ | b
  · rfl
  · exfalso
    obtain ⟨h1, h2, -⟩ := m_rk_lt hr
    unfold m_tp at h2
    rw [at_div h1, hg] at h2
    simp at h2
theorem q_winnerAnew (hM : MI M) (hWF : WF kd F L) (hH : RelH kd F L h M tn aw co ct) (hT : RelT kd F L M tn lo ow) (hL : RelL kd F L M tn lo ow) {t k : Int32} (e : k_lot M t k = 0) {ri : Int32} {kd2 : Nat → Nat} {F2 : Nat → Nat → Nat} {L2 : Nat → List Nat}
    (hr : if F 1 (F 0 (kLotV F L h t k)) ≤ F 5 h then ∃ q, AnI kd F L (kLotV F L h t k) q (L (F 3 (kLotV F L h t k))).length (L (F 4 (kLotV F L h t k))).length kd2 F2 L2 ∧ ri = kRk F2 L2 q (nI 0) else ri = -1) : ri = r_winnerAnew M t k := by
  unfold k_lot at e
  unfold r_winnerAnew
  rcases lotK hM hH hT t k with ⟨g1, g2⟩ | ⟨x, y, hx, hy, hx6, hy3, -, -, g1, g2, g3, g4, -, -⟩
  · rw [g1, if_neg (by decide)] at e; cases e
  · rw [g1, if_pos rfl, g4]
    rw [g3] at hr
    obtain ⟨l1, l2, -, -, -, -, lB, lR⟩ := hL x y hx hy
    rw [l2, (hT x hx).2.2.1, hH.2.2.1] at hr
    by_cases q : M 4 x ≤ M 1 0
    · rw [if_pos q] at hr
      obtain ⟨q9, hI, rfl⟩ := hr
      rw [kRk_opt, hI.place lR (by rw [l2]; exact (hT x hx).1) (nI 0), lB.place (lo_w hT hL hx hy hy3) 0 (by decide) (Nat.le_trans lB.len8 (by decide))]
    · rw [if_neg q] at hr
      rw [hr, m_rk_closed (by rw [show (3 * x + y) / 3 = x by omega]; unfold m_op; exact decide_eq_false q)]
      rfl
theorem an_hyps (hM : MI M) (hH : RelH kd F L h M tn aw co ct) (hT : RelT kd F L M tn lo ow) (hL : RelL kd F L M tn lo ow) {t k : Int32} (e : kLotK F L h t k = 0) : (L (F 3 (kLotV F L h t k))).length ≤ 8 ∧ ∀ x y, x < (L (F 3 (kLotV F L h t k))).length → y < (L (F 3 (kLotV F L h t k))).length → F 0 (gt (L (F 3 (kLotV F L h t k))) x) = F 0 (gt (L (F 3 (kLotV F L h t k))) y) → x = y := by
  rcases lotK hM hH hT t k with ⟨g1, g2⟩ | ⟨x, y, hx, hy, hx6, hy3, -, -, g1, g2, g3, g4, -, -⟩
  · rw [g2] at e; cases e
  · rw [g3]
    have hB := (hL x y hx hy).2.2.2.2.2.2.1
    refine ⟨hB.len8, fun i j hi hj q => ?_⟩
    rcases Nat.lt_trichotomy i j with z | z | z
    · exact absurd q (pw_gt hB.dist z hj)
    · exact z
    · exact absurd q.symm (pw_gt hB.dist z hi)
theorem q_line (hWF : WF kd F L) (hM : MI M) (hH : RelH kd F L h M tn aw co ct) (hT : RelT kd F L M tn lo ow) (hL : RelL kd F L M tn lo ow) (hW : RelW kd F L M lo aw) (hC : RelC kd F M aw co) (i : Int32) : k_aw M i = 0 → nI (kLine F L h (ga (L (F 2 h)) i)).length = r_line M i := by
  unfold k_aw r_line
  rcases lsnK hH.2.2.2.2.2.1 (hM 16 0) i with ⟨g1, g2⟩ | ⟨a, ha, -, g1, g2, g3, g4⟩
  · rw [g1, if_neg (by decide)]
    exact fun q => by cases q
  · intro _
    rw [g1, g3, g4, if_pos rfl, rl_line hWF hM hH hT hL hW hC ha, m_wl_len]
theorem q_lineChar (hWF : WF kd F L) (hM : MI M) (hH : RelH kd F L h M tn aw co ct) (hT : RelT kd F L M tn lo ow) (hL : RelL kd F L M tn lo ow) (hW : RelW kd F L M lo aw) (hC : RelC kd F M aw co) (i z : Int32) : ks (kIx i (L (F 2 h)).length) (kIx z (kLine F L h (ga (L (F 2 h)) i)).length) = k_lineChar M i z ∧ (k_lineChar M i z = 0 → nI (gt (kLine F L h (ga (L (F 2 h)) i)) z.toNatClampNeg) = r_lineChar M i z) := by
  rcases lsnK hH.2.2.2.2.2.1 (hM 16 0) i with ⟨g1, g2⟩ | ⟨a, ha, -, g1, g2, g3, g4⟩
  · unfold k_lineChar
    rw [g1, Bool.false_and, if_neg (by decide), ks_l (by rw [g2]; decide), g2]
    exact ⟨rfl, fun q => by cases q⟩
  · have el := rl_line hWF hM hH hT hL hW hC ha
    have e1 : ks (kIx i (L (F 2 h)).length) (kIx z (kLine F L h (ga (L (F 2 h)) i)).length) = k_lineChar M i z := by
      unfold k_lineChar
      rw [g1, Bool.true_and, ks_r g2, g3, g4, el, m_wl_len]
    refine ⟨e1, fun e => ?_⟩
    unfold r_lineChar
    rw [if_pos e, g3, g4, el]
    have hz : isIx z (m_ll M a).length = true := by
      unfold k_lineChar at e
      rw [g1, Bool.true_and, g3, m_wl_len] at e
      by_cases q : isIx z (m_ll M a).length = true
      · exact q
      · rw [if_neg q] at e; cases e
    have hlen : (m_ll M a).length ≤ 16 := by rw [← el]; exact kLine_len F L h (aw a)
    obtain ⟨j, hj, rfl⟩ := isIx_of (by omega) hz
    rw [nI_clamp (by omega), m_wl_at M a hj]
theorem q_stateOf (hM : MI M) (hH : RelH kd F L h M tn aw co ct) (hC : RelC kd F M aw co) (i : Int32) : kIx i (L (F 3 h)).length = k_co M i ∧ (k_co M i = 0 → nI (F 3 (ga (L (F 3 h)) i)) = r_stateOf M i) := by
  unfold k_co r_stateOf
  rcases lsnK hH.2.2.2.2.2.2.1 (hM 22 0) i with ⟨g1, g2⟩ | ⟨a, ha, -, g1, g2, g3, g4⟩
  · rw [g1, g2, if_neg (by decide)]
    exact ⟨rfl, fun q => by cases q⟩
  · rw [g1, g2, if_pos rfl, if_pos rfl, g3, g4, (hC.1 a ha).2.2.2.2.2.1]
    exact ⟨rfl, fun _ => rfl⟩
theorem q_running (hM : MI M) (hH : RelH kd F L h M tn aw co ct) (hW : RelW kd F L M lo aw) (hC : RelC kd F M aw co) (hK : RelK kd F M aw ct) (i : Int32) : kIx i (L (F 4 h)).length = k_ct M i ∧ (k_ct M i = 0 → nI (kRun F L h (ga (L (F 4 h)) i)) = r_running M i) := by
  unfold k_ct r_running
  rcases lsnK hH.2.2.2.2.2.2.2 (hM 29 0) i with ⟨g1, g2⟩ | ⟨a, ha, -, g1, g2, g3, g4⟩
  · rw [g1, g2, if_neg (by decide)]
    exact ⟨rfl, fun q => by cases q⟩
  · rw [g1, g2, if_pos rfl, if_pos rfl, g3, g4, rl_run hH hW hC hK hM ha]
    exact ⟨rfl, fun _ => rfl⟩
theorem kbK (b : Int32) : kIx b 8 = k_b b := by
  unfold k_b
  rfl
theorem q_owes (hM : MI M) (hH : RelH kd F L h M tn aw co ct) (hW : RelW kd F L M lo aw) (hK : RelK kd F M aw ct) (b : Int32) (e : k_b b = 0) : nI (sm (kOwes F L h b.toNatClampNeg) (L (F 4 h)).length) = r_owes M b := by
  unfold k_b at e
  unfold r_owes
  by_cases q : isIx b 8 = true
  · rw [if_pos q, rl_owes hH hW hK hM]
  · rw [if_neg q] at e; cases e
theorem q_held (hM : MI M) (hH : RelH kd F L h M tn aw co ct) (hT : RelT kd F L M tn lo ow) (hL : RelL kd F L M tn lo ow) (hX : RelX M) (hW : RelW kd F L M lo aw) (hU : RelU M) (hK : RelK kd F M aw ct) (hS : RelS M) (b : Int32) (e : k_b b = 0) : nI (sm (kHeld F L h b.toNatClampNeg) (L (F 1 h)).length) = r_held M b := by
  unfold k_b at e
  unfold r_held
  rcases bidK b with ⟨h1, -⟩ | ⟨w, hw, -, h1, -, h3⟩
  · rw [h1, if_neg (by decide)] at e; cases e
  · rw [h1, if_pos rfl, h3, rl_held hM hH hT hL hX hW hU hK hS hw]
theorem q_lost (hH : RelH kd F L h M tn aw co ct) (hO : RelO F M aw) (b : Int32) (e : k_b b = 0) : nI (sm (kLost F L h b.toNatClampNeg) (L (F 2 h)).length) = r_lost M b := by
  unfold k_b at e
  unfold r_lost
  rcases bidK b with ⟨h1, -⟩ | ⟨w, hw, -, h1, -, h3⟩
  · rw [h1, if_neg (by decide)] at e; cases e
  · rw [h1, if_pos rfl, h3, rl_lost hH hO hw]
end RQ
