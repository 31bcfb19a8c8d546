/-! changes: a ruling -/
theorem kMoot_at {F : Nat → Nat → Nat} {co : Nat → Nat} {N w : Nat} (hinj : ∀ c d, c < N → d < N → co c = co d → c = d) : ∀ n, n ≤ N → ∀ i, i < N → kMoot F (lsn co N) w n 3 (co i) = if i < n ∧ F 1 (co i) = w ∧ F 3 (co i) = 0 then 3 else F 3 (co i)
  | 0, _, i, _ => (if_neg (fun q => Nat.not_lt_zero i q.1)).symm
  | n + 1, hn, i, hi => by
    have ih := kMoot_at (w := w) (F := F) hinj n (by omega)
    have hgt : gt (lsn co N) n = co n := lsn_gt (by omega)
    have hnn := ih n (by omega)
    rw [if_neg (fun q => Nat.lt_irrefl _ q.1)] at hnn
    rw [kMoot, hgt, kMoot_nf (by decide), hnn]
    by_cases hc : F 1 (co n) = w ∧ F 3 (co n) = 0
    · rw [if_pos hc]
      by_cases hin : i = n
      · subst hin
        rw [up2_eq, if_pos ⟨by omega, hc⟩]
      · rw [up2_ne (fun e => hin (hinj i n hi (by omega) e)), ih i hi]
        by_cases hq : i < n ∧ F 1 (co i) = w ∧ F 3 (co i) = 0
        · rw [if_pos hq, if_pos ⟨by omega, hq.2⟩]
        · rw [if_neg hq, if_neg (fun q => hq ⟨by omega, q.2⟩)]
    · rw [if_neg hc, ih i hi]
      by_cases hq : i < n ∧ F 1 (co i) = w ∧ F 3 (co i) = 0
      · rw [if_pos hq, if_pos ⟨by omega, hq.2⟩]
      · rw [if_neg hq, if_neg (fun q => by
          by_cases hin : i = n
          · rw [hin] at q; exact hc q.2
          · exact hq ⟨by omega, q.2⟩)]
theorem m_mof_at (M : MS) (a : Nat) : ∀ n i, m_mof M a n 26 i = if i < n ∧ M 23 i = a ∧ M 26 i = 0 then 3 else M 26 i
  | 0, i => (if_neg (fun q => Nat.not_lt_zero i q.1)).symm
  | n + 1, i => by
    have ih := m_mof_at M a n
    have hnn := ih n
    rw [if_neg (fun q => Nat.lt_irrefl _ q.1)] at hnn
    rw [m_mof, mu_at, m_mof_nf M a (by decide), hnn]
    by_cases hin : i = n
    · subst hin
      rw [if_pos rfl]
      by_cases hc : M 23 i = a ∧ M 26 i = 0
      · rw [if_pos hc, if_pos ⟨by omega, hc⟩]
      · rw [if_neg hc, if_neg (fun q => hc q.2)]
    · rw [if_neg hin, ih i]
      by_cases hq : i < n ∧ M 23 i = a ∧ M 26 i = 0
      · rw [if_pos hq, if_pos ⟨by omega, hq.2⟩]
      · rw [if_neg hq, if_neg (fun q => hq ⟨by omega, q.2⟩)]
theorem WF.moot {kd : Nat → Nat} {F : Nat → Nat → Nat} {L : Nat → List Nat} {vs : List Nat} {w : Nat} (h : WF kd F L) (hv : ∀ x ∈ vs, kd x = 5) : ∀ n, n ≤ vs.length → WF kd (kMoot F vs w n) L
  | 0, _ => h
  | n + 1, hn => by
    have ih := WF.moot (w := w) h hv n (by omega)
    rw [kMoot]
    split
    · exact ih.put (f := 3) (hv _ (gt_mem (by omega))) (Or.inr (by show 3 < 4; omega)) (Or.inl rfl)
    · exact ih
/-- the reference's rows with one complaint upheld and the others about its award moot -/
def mUp (M : MS) (c : Nat) : MS := fun f i => if f = 26 then (if i = c then 1 else if i < M 22 0 ∧ M 23 i = M 23 c ∧ M 26 i = 0 then 3 else M 26 i) else M f i
theorem mUp_nf {M : MS} {c f : Nat} (h : f ≠ 26) : mUp M c f = M f := by
  funext i
  exact if_neg h
theorem mUp_at {M : MS} {c i : Nat} : mUp M c 26 i = if i = c then 1 else if i < M 22 0 ∧ M 23 i = M 23 c ∧ M 26 i = 0 then 3 else M 26 i := if_pos rfl
theorem MI_mUp {M : MS} (hM : MI M) (c : Nat) : MI (mUp M c) := by
  intro f i
  have h26 : M 26 i ≤ 3 := hM 26 i
  by_cases hf : f = 26
  · subst hf
    rw [mUp_at]
    show _ ≤ 3
    split
    · omega
    · split <;> omega
  · rw [mUp_nf hf]; exact hM f i
theorem up2_26 {M : MS} {c q : Nat} (hc : c < M 22 0) : m_up2 M c q 26 = mUp M c 26 := by
  funext i
  have e26 : ∀ i, m_up1 M c q 26 i = if i = c then 1 else M 26 i := fun i => by
    unfold m_up1
    rw [mu_nf _ (by decide), mu_at, m_up0_nf M c q (by decide)]
  unfold m_up2
  rw [m_mof_at, e26, m_up1_nf M c q (by decide), mUp_at]
  by_cases hic : i = c
  · rw [if_pos hic, if_pos hic, if_neg (fun q => by cases q.2.2)]
  · rw [if_neg hic, if_neg hic]
theorem up2_20 {M : MS} {c q i : Nat} : m_up2 M c q 20 i = if i = M 23 c then 1 else M 20 i := by
  unfold m_up2
  rw [m_mof_nf _ _ (by decide)]
  unfold m_up1
  rw [mu_at, mu_nf _ (by decide), m_up0_nf M c q (by decide)]
theorem up2_0 {M : MS} {c q f : Nat} (h : f = 11 ∨ f = 13 ∨ f = 14) : m_up2 M c q f = m_up0 M c q f := by
  unfold m_up2
  rw [m_mof_nf _ _ (by omega)]
  unfold m_up1
  rw [mu_nf _ (by omega), mu_nf _ (by omega)]
section UP
variable {kd kd2 : Nat → Nat} {F F2 : Nat → Nat → Nat} {L L2 : Nat → List Nat} {S : List Nat} {h : Nat} {M M2 : MS} {tn tn2 : Nat → Nat} {lo lo2 : Nat → Nat → Nat} {aw aw2 co co2 ct ct2 ow ow2 : Nat → Nat}
theorem u_moot (hWF : WF kd F L) (G : RelG kd F L h M tn lo aw co ct ow) {c : Nat} (hc : c < M 22 0) : WF kd (kUpF F L h (co c)) L ∧ RelG kd (kUpF F L h (co c)) L h (mUp M c) tn lo aw co ct ow := by
  obtain ⟨hH, hT, hL, hX, hW, hU, hC, hD, hK, hS, hO, hN, hZ⟩ := G
  have kc := (hC.1 c hc).1
  have k3 : kd (F 3 h) = 25 := hWF.ref hH.1 rfl (by decide)
  have w1 := hWF.put (f := 3) (v := 1) kc (Or.inr (by show 1 < 4; omega)) (Or.inl rfl)
  refine ⟨w1.moot (el_kd hWF k3) _ (Nat.le_refl _), ?_⟩
  have el : L (F 3 h) = lsn co (M 22 0) := hH.2.2.2.2.2.2.1
  have hs : SmK kd F L kd (kUpF F L h (co c)) L [2, 3, 4, 6, 7, 8, 9, 11, 22, 23, 24, 25, 26, 27, 28] := fun a ha => by
    refine ⟨rfl, fun f => ?_, rfl⟩
    unfold kUpF
    rw [kMoot_ne (fun q => by have := el_kd hWF k3 a q; rw [this] at ha; revert ha; decide) _ (Nat.le_refl _)]
    exact up2_ne (fun e => by rw [e, kc] at ha; revert ha; decide)
  have m : ∀ f, f ∉ [26] → mUp M c f = M f := fun f hf => mUp_nf (fun z => hf (by rw [z]; decide))
  have f1 : ∀ f b, f ≠ 3 → kUpF F L h (co c) f b = F f b := fun f b hf => by
    unfold kUpF
    rw [kMoot_nf hf, up2_nf hf]
  refine ⟨hH.congr hWF hs (by decide) (by decide) (by decide) (by decide) (by decide) (by decide) (m 1 (by decide)) (m 2 (by decide)) (m 3 (by decide)) (m 16 (by decide)) (m 22 (by decide)) (m 29 (by decide)), hT.congr hWF hs (by decide) (by decide) (m 3 (by decide)) (m 4 (by decide)) (m 5 (by decide)) (m 6 (by decide)) (m 7 (by decide)) (m 8 (by decide)), hL.congr hWF hs (by decide) (by decide) (by decide) (by decide) (by decide) (m 1 (by decide)) (m 3 (by decide)) (m 4 (by decide)) (m 8 (by decide)) (m 9 (by decide)) (m 10 (by decide)) (m 11 (by decide)) (m 12 (by decide)) (m 13 (by decide)) (m 14 (by decide)) (by rw [m 15 (by decide)]; exact Nat.le_refl _), hX.congr (m 1 (by decide)) (m 3 (by decide)) (m 4 (by decide)) (m 8 (by decide)) (m 10 (by decide)) (m 13 (by decide)) (m 14 (by decide)), hW.congr hWF hs (by decide) (by decide) (by decide) (by decide) (m 1 (by decide)) (m 3 (by decide)) (m 4 (by decide)) (m 7 (by decide)) (m 8 (by decide)) (m 16 (by decide)) (m 17 (by decide)) (m 18 (by decide)) (m 19 (by decide)) (m 20 (by decide)) (m 21 (by decide)), hU.congr (m 13 (by decide)) (m 16 (by decide)) (m 17 (by decide)) (m 18 (by decide)) (m 20 (by decide)), ⟨fun d hd => ?_, ?_⟩, fun d hd => ?_, hK.congr hs (by decide) (fun _ _ => rfl) (by rw [m 16 (by decide)]; exact Nat.le_refl _) (m 29 (by decide)) (m 30 (by decide)) (m 31 (by decide)), hS.congr (m 16 (by decide)) (m 21 (by decide)) (m 29 (by decide)) (m 30 (by decide)), hO.congr hW hWF hs (by decide) (by decide) (by decide) (m 16 (by decide)) (m 20 (by decide)) (m 32 (by decide)), hN.congr hL hWF hs (by decide) (by decide) (m 3 (by decide)) (m 8 (by decide)) (m 16 (by decide)) (m 17 (by decide)) (m 20 (by decide)), ⟨fun d hd => ?_, ?_, ?_⟩⟩
  · rw [m 22 (by decide)] at hd
    obtain ⟨d1, d2, d3, d4, d5, d6, d7, d8⟩ := hC.1 d hd
    rw [f1 0 _ (by decide), f1 1 _ (by decide), f1 2 _ (by decide), f1 4 _ (by decide), f1 5 _ (by decide), m 24 (by decide), m 23 (by decide), m 16 (by decide), m 25 (by decide), m 27 (by decide), m 28 (by decide)]
    refine ⟨d1, d2, d3, d4, d5, ?_, d7, d8⟩
    unfold kUpF
    rw [el, lsn_len, kMoot_at hC.2 _ (Nat.le_refl _) d hd, up2_nf (by decide), mUp_at, d4, (hC.1 c hc).2.2.2.1]
    by_cases hdc : d = c
    · subst hdc
      rw [up2_eq, if_neg (fun q => by cases q.2.2), if_pos rfl]
    · rw [up2_ne (fun e => hdc (hC.2 d c hd hc e)), d6, if_neg hdc]
      by_cases q : M 23 d = M 23 c ∧ M 26 d = 0
      · rw [if_pos ⟨hd, by rw [q.1], q.2⟩, if_pos ⟨hd, q⟩]
      · rw [if_neg (fun z => q ⟨aw_inj hW d3 (hC.1 c hc).2.2.1 z.2.1, z.2.2⟩), if_neg (fun z => q z.2)]
  · rw [m 22 (by decide)]; exact hC.2
  · rw [m 22 (by decide)] at hd
    rw [m 20 (by decide), m 23 (by decide), m 25 (by decide), m 13 (by decide), m 17 (by decide), m 24 (by decide), m 10 (by decide)]
    refine ⟨fun q => ?_, (hD d hd).2⟩
    rw [mUp_at] at q
    by_cases hdc : d = c
    · rw [if_pos hdc] at q; cases q
    · rw [if_neg hdc] at q
      by_cases q2 : d < M 22 0 ∧ M 23 d = M 23 c ∧ M 26 d = 0
      · rw [if_pos q2] at q; cases q
      · rw [if_neg q2] at q; exact (hD d hd).1 q
  · rw [m 22 (by decide)] at hd
    rw [m 27 (by decide), m 28 (by decide), mUp_at, if_neg (by omega), if_neg (fun q => by omega)]
    exact hZ.1 d hd
  · rw [m 16 (by decide), m 20 (by decide), m 21 (by decide)]; exact hZ.2.1
  · rw [m 29 (by decide), m 31 (by decide)]; exact hZ.2.2
/-- an award that stands leaves room for a change -/
theorem ch_room (hM : MI M) (hL : RelL kd F L M tn lo ow) (hW : RelW kd F L M lo aw) (hN : RelN F L M lo) {a : Nat} (ha : a < M 16 0) (h20 : M 20 a = 0) : (L (F 4 (F 1 (aw a)))).length < 60 := by
  obtain ⟨x, y, hx, hy, hy3, e17, el1, hop⟩ := aw_lot hM hW ha
  have h1 := hN x y hx hy
  have h16 : M 16 0 ≤ 60 := hM 16 0
  have h2 := cn_lt (P := fun w => M 17 w = 3 * x + y ∧ M 20 w ≠ 0) (Q := fun _ => True) (n := M 16 0) (k := a) (fun _ _ _ => trivial) ha trivial (fun q => q.2 h20)
  have h3 := cn_le (fun _ => True) (M 16 0)
  rw [el1]
  omega
theorem i_in_q {q : Int32} : (i_in q (nI 0) (nI 100) = false ∧ kArg q (nI 0) (nI 100) = 2) ∨ (i_in q (nI 0) (nI 100) = true ∧ kArg q (nI 0) (nI 100) = 0 ∧ q.toNatClampNeg ≤ 100) := by
  rcases i_in_arg (v := q) (lo := 0) (hi := 100) (by decide) (by decide) with ⟨u1, u2⟩ | ⟨qn, q1, q2, -, u1, u2, u3⟩
  · exact Or.inl ⟨u1, u2⟩
  · exact Or.inr ⟨u1, u2, by omega⟩
theorem rule_room (hM : MI M) (G : RelG kd F L h M tn lo aw co ct ow) (i : Int32) : kIx i (L (F 3 h)).length = 0 → F 3 (ga (L (F 3 h)) i) = 0 → (L (F 4 (F 1 (F 1 (ga (L (F 3 h)) i))))).length < 60 := by
  obtain ⟨hH, hT, hL, hX, hW, hU, hC, hD, hK, hS, hO, hN, hZ⟩ := G
  intro h1 h2
  rcases lsnK hH.2.2.2.2.2.2.1 (hM 22 0) i with ⟨g1, g2⟩ | ⟨c, hc, -, g1, g2, g3, g4⟩
  · rw [g2] at h1; cases h1
  · rw [g4] at h2 ⊢
    obtain ⟨c1, c2, c3, c4, c5, c6, c7, c8⟩ := hC.1 c hc
    rw [c4]
    exact ch_room hM hL hW hN c3 ((hD c hc).1 (by rw [← c6]; exact h2))
theorem u_rule (hM : MI M) (hWF : WF kd F L) (G : RelG kd F L h M tn lo aw co ct ow) (i : Int32) (v : Bool) (qv : Int32) :
    ks (kIx i (L (F 3 h)).length) (ks (kArg qv (nI 0) (nI 100)) (if F 3 (ga (L (F 3 h)) i) = 0 ∧ (v = false ∨ (L (F 2 h)).length < 60) then 0 else 3)) = k_rule M i v qv ∧
    (k_rule M i v qv = 0 → v = true → ∀ q ri kd2 F2 L2, kd q = 0 → SBr (kdN kd q 4) (FN (kUpF F L h (ga (L (F 3 h)) i)) q [kUpF F L h (ga (L (F 3 h)) i) 2 (ga (L (F 3 h)) i), kUpB (kUpF F L h (ga (L (F 3 h)) i)) (ga (L (F 3 h)) i) (F 1 (ga (L (F 3 h)) i)), qv.toNatClampNeg]) L h (F 1 (ga (L (F 3 h)) i)) q ri kd2 F2 L2 → ri = r_rule M i v qv ∧ ∃ aw2, RelG kd2 F2 L2 h (g_rule M i v qv) tn lo aw2 co ct ow) := by
  have G0 := G
  obtain ⟨hH, hT, hL, hX, hW, hU, hC, hD, hK, hS, hO, hN, hZ⟩ := G
  unfold k_rule
  rcases lsnK hH.2.2.2.2.2.2.1 (hM 22 0) i with ⟨g1, g2⟩ | ⟨c, hc, -, g1, g2, g3, g4⟩
  · rw [g1, ks_l (by rw [g2]; decide), g2, if_pos rfl]
    exact ⟨rfl, fun q => by cases q⟩
  · rw [g1, ks_r g2, g3, g4, if_neg (show ¬ true = false by decide)]
    rcases i_in_q (q := qv) with ⟨v1, v2⟩ | ⟨v1, v2, v3⟩
    · rw [v1, ks_l (by rw [v2]; decide), v2, if_pos rfl]
      exact ⟨rfl, fun q => by cases q⟩
    · rw [v1, ks_r v2, if_neg (show ¬ true = false by decide)]
      have hC0 := hC
      obtain ⟨c1, c2, c3, c4, c5, c6, c7, c8⟩ := hC.1 c hc
      have h16 : M 16 0 ≤ 60 := hM 16 0
      have hcond : (F 3 (co c) = 0 ∧ (v = false ∨ (L (F 2 h)).length < 60)) ↔ (M 26 c = 0 ∧ (v = false ∨ M 16 0 ≠ 60)) := by
        rw [c6, hH.2.2.2.2.2.1, lsn_len]
        have : M 16 0 < 60 ↔ M 16 0 ≠ 60 := by omega
        rw [this]
      by_cases q : M 26 c = 0 ∧ (v = false ∨ M 16 0 ≠ 60)
      · rw [if_pos (hcond.mpr q), if_pos q]
        refine ⟨rfl, fun _ hv q9 ri kd2 F2 L2 hq hSB => ?_⟩
        have ek : k_rule M i v qv = 0 := by
          unfold k_rule
          rw [g1, g3, v1, if_neg (show ¬ true = false by decide), if_neg (show ¬ true = false by decide), if_pos q]
        have h60 : M 16 0 < 60 := by
          rcases q.2 with z | z
          · rw [hv] at z; cases z
          · omega
        have eg : g_rule M i v qv = m_up M c qv.toNatClampNeg := by
          unfold g_rule
          rw [if_pos ek, if_pos hv, g3]
        have er : r_rule M i v qv = m_upr M c qv.toNatClampNeg := by
          unfold r_rule
          rw [if_pos ek, if_pos hv, g3]
        rw [eg, er]
        unfold m_up m_upr
        clear eg er ek hcond
        generalize qv.toNatClampNeg = z at *
        have h20 : M 20 (M 23 c) = 0 := (hD c hc).1 q.1
        obtain ⟨x, y, hx, hy, hy3, e17, el1, hop⟩ := aw_lot hM hW c3
        have h17 : M 17 (M 23 c) ≤ 17 := hM 17 _
        have h24 : M 24 c ≤ 7 := hM 24 c
        have h25 : M 25 c ≤ 2 := hM 25 c
        have h18 : M 18 (M 23 c) ≤ 7 := hM 18 _
        obtain ⟨hWFm, Gm⟩ := u_moot hWF G0 hc
        have f1 : ∀ f b, f ≠ 3 → kUpF F L h (co c) f b = F f b := fun f b hf => by
          unfold kUpF
          rw [kMoot_nf hf, up2_nf hf]
        have w8 := (hW _ c3).2.2.2.2.2.2.2.1
        have w7 := (hW _ c3).2.2.2.2.2.2.1
        have eB : kUpB (kUpF F L h (co c)) (co c) (F 1 (co c)) = if M 25 c = 2 then M 24 c else M 18 (M 23 c) := by
          unfold kUpB
          rw [f1 2 _ (by decide), f1 0 _ (by decide), f1 2 _ (by decide), f1 0 _ (by decide), c4, c5, c2, w8]
        rw [f1 2 _ (by decide), c5, eB, c4] at hSB
        have hb8 : (if M 25 c = 2 then M 24 c else M 18 (M 23 c)) < 8 := by split <;> omega
        have hp : 0 < M 10 (8 * M 17 (M 23 c) + if M 25 c = 2 then M 24 c else M 18 (M 23 c)) := by
          by_cases v2 : M 25 c = 2
          · rw [if_pos v2]; exact ((hD c hc).2 v2 h20).2
          · rw [if_neg v2]
            rw [el1] at w7
            have hB := (hL x y hx hy).2.2.2.2.2.2.1
            obtain ⟨-, -, b3, b4, -⟩ := hB.1 _ w7
            rw [w8, ← e17] at b3
            omega
        have h0 : M 25 c = 0 → M 13 (8 * M 17 (M 23 c) + if M 25 c = 2 then M 24 c else M 18 (M 23 c)) = 0 := fun v0 => by
          rw [if_neg (by omega)]; exact hU.2 _ c3 h20
        have h2 : M 25 c = 2 → M 14 (8 * M 17 (M 23 c) + if M 25 c = 2 then M 24 c else M 18 (M 23 c)) = 0 := fun v2 => by
          rw [if_pos v2]
          rcases (hX.2 (M 17 (M 23 c)) (M 24 c) (by omega) (by omega)).1 with w | w
          · exact absurd w ((hD c hc).2 v2 h20).1
          · exact w
        have hrow : ∀ i, m_up0 M c z 14 i = (if M 25 c = 0 ∧ i = 8 * M 17 (M 23 c) + (if M 25 c = 2 then M 24 c else M 18 (M 23 c)) then 1 else M 14 i) ∧ m_up0 M c z 11 i = (if M 25 c = 1 ∧ i = 8 * M 17 (M 23 c) + (if M 25 c = 2 then M 24 c else M 18 (M 23 c)) then z else M 11 i) ∧ m_up0 M c z 13 i = (if M 25 c = 2 ∧ i = 8 * M 17 (M 23 c) + (if M 25 c = 2 then M 24 c else M 18 (M 23 c)) then 0 else M 13 i) := fun i => by
          unfold m_up0
          by_cases v0 : M 25 c = 0
          · rw [if_pos v0, v0, if_neg (show ¬ 0 = 2 by decide), mu_at, mu_nf _ (by decide), mu_nf _ (by decide), if_neg (show ¬ (0 = 1 ∧ _) from fun q => by cases q.1), if_neg (show ¬ (0 = 2 ∧ _) from fun q => by cases q.1)]
            refine ⟨?_, rfl, rfl⟩
            by_cases hi : i = 8 * M 17 (M 23 c) + M 18 (M 23 c)
            · rw [if_pos hi, if_pos ⟨rfl, hi⟩]
            · rw [if_neg hi, if_neg (fun q => hi q.2)]
          · rw [if_neg v0]
            by_cases v1 : M 25 c = 1
            · rw [if_pos v1, v1, if_neg (show ¬ 1 = 2 by decide), mu_at, mu_nf _ (by decide), mu_nf _ (by decide), if_neg (show ¬ (1 = 0 ∧ _) from fun q => by cases q.1), if_neg (show ¬ (1 = 2 ∧ _) from fun q => by cases q.1)]
              refine ⟨rfl, ?_, rfl⟩
              by_cases hi : i = 8 * M 17 (M 23 c) + M 18 (M 23 c)
              · rw [if_pos hi, if_pos ⟨rfl, hi⟩]
              · rw [if_neg hi, if_neg (fun q => hi q.2)]
            · have v2 : M 25 c = 2 := by omega
              rw [if_neg v1, v2, if_pos (show 2 = 2 from rfl), mu_at, mu_nf _ (by decide), mu_nf _ (by decide), if_neg (show ¬ (2 = 0 ∧ _) from fun q => by cases q.1), if_neg (show ¬ (2 = 1 ∧ _) from fun q => by cases q.1)]
              refine ⟨rfl, rfl, ?_⟩
              by_cases hi : i = 8 * M 17 (M 23 c) + M 24 c
              · rw [if_pos hi, if_pos ⟨rfl, hi⟩]
              · rw [if_neg hi, if_neg (fun q => hi q.2)]
        generalize eb9 : (if M 25 c = 2 then M 24 c else M 18 (M 23 c)) = b9 at *
        -- the change's object
        have hs : SmK kd (kUpF F L h (co c)) L (kdN kd q9 4) (FN (kUpF F L h (co c)) q9 [M 25 c, b9, z]) L [2, 3, 4, 5, 6, 7, 8, 9, 11, 22, 23, 24, 25, 26, 27, 28] := SmK.new hq (by decide)
        have hWF9 : WF (kdN kd q9 4) (FN (kUpF F L h (co c)) q9 [M 25 c, b9, z]) L := hWFm.new hq (by decide) (fun f => by
          rcases f with _ | _ | _ | f
          · exact Or.inr (show M 25 c < 3 by omega)
          · exact Or.inr (show b9 < 8 by omega)
          · exact Or.inr (show z < 101 by omega)
          · exact Or.inl rfl) (fun f => by
          rcases f with _ | _ | _ | f <;> exact Or.inl rfl)
        have hMA := MI_mUp hM c
        have hM2 : MI (m_up2 M c z) := MI_up2 hM c v3
        have mA : ∀ f, f ≠ 26 → mUp M c f = M f := fun f hf => mUp_nf hf
        have m2 : ∀ f, f ∉ [11, 13, 14, 20, 32] → m_up2 M c z f = mUp M c f := fun f hf => by
          by_cases h26 : f = 26
          · rw [h26]; exact up2_26 hc
          · rw [mA f h26]
            exact m_up2_nf M c z ⟨fun e => hf (by rw [e]; decide), fun e => hf (by rw [e]; decide), fun e => hf (by rw [e]; decide), h26, fun e => hf (by rw [e]; decide)⟩
        have Gq : RelG (kdN kd q9 4) (FN (kUpF F L h (co c)) q9 [M 25 c, b9, z]) L h (mUp M c) tn lo aw co ct ow := by
          clear hH hT hL hX hW hU hC hD hK hS hO hN hZ hWF
          have hWF := hWFm
          obtain ⟨hH, hT, hL, hX, hW, hU, hC, hD, hK, hS, hO, hN, hZ⟩ := Gm
          have m : ∀ f, f ∉ [99] → mUp M c f = mUp M c f := fun _ _ => rfl
          exact ⟨hH.congr hWF hs (by decide) (by decide) (by decide) (by decide) (by decide) (by decide) (m 1 (by decide)) (m 2 (by decide)) (m 3 (by decide)) (m 16 (by decide)) (m 22 (by decide)) (m 29 (by decide)), hT.congr hWF hs (by decide) (by decide) (m 3 (by decide)) (m 4 (by decide)) (m 5 (by decide)) (m 6 (by decide)) (m 7 (by decide)) (m 8 (by decide)), hL.congr hWF hs (by decide) (by decide) (by decide) (by decide) (by decide) (m 1 (by decide)) (m 3 (by decide)) (m 4 (by decide)) (m 8 (by decide)) (m 9 (by decide)) (m 10 (by decide)) (m 11 (by decide)) (m 12 (by decide)) (m 13 (by decide)) (m 14 (by decide)) (by rw [m 15 (by decide)]; exact Nat.le_refl _), hX, hW.congr hWF hs (by decide) (by decide) (by decide) (by decide) (m 1 (by decide)) (m 3 (by decide)) (m 4 (by decide)) (m 7 (by decide)) (m 8 (by decide)) (m 16 (by decide)) (m 17 (by decide)) (m 18 (by decide)) (m 19 (by decide)) (m 20 (by decide)) (m 21 (by decide)), hU, hC.congr hs (by decide) (fun _ _ => rfl) (by rw [m 16 (by decide)]; exact Nat.le_refl _) (m 22 (by decide)) (m 23 (by decide)) (m 24 (by decide)) (m 25 (by decide)) (m 26 (by decide)) (m 27 (by decide)) (m 28 (by decide)), hD, hK.congr hs (by decide) (fun _ _ => rfl) (by rw [m 16 (by decide)]; exact Nat.le_refl _) (m 29 (by decide)) (m 30 (by decide)) (m 31 (by decide)), hS, hO.congr hW hWF hs (by decide) (by decide) (by decide) (m 16 (by decide)) (m 20 (by decide)) (m 32 (by decide)), hN.congr hL hWF hs (by decide) (by decide) (m 3 (by decide)) (m 8 (by decide)) (m 16 (by decide)) (m 17 (by decide)) (m 20 (by decide)), hZ⟩
        obtain ⟨aH, aT, aL, aX, aW, aU, aC, aD, aK, aS, aO, aN, aZ⟩ := Gq
        have fq : ∀ f, FN (kUpF F L h (co c)) q9 [M 25 c, b9, z] f q9 = [M 25 c, b9, z].getD f 0 := fun f => if_pos rfl
        have hO2 : RelO (FN (kUpF F L h (co c)) q9 [M 25 c, b9, z]) (m_up2 M c z) aw := by
          have e32 : m_up2 M c z 32 = M 32 := m_up2_nf M c z (by decide)
          have e16 : m_up2 M c z 16 = M 16 := m_up2_nf M c z (by decide)
          refine ⟨fun b hb => ?_, fun j hj hj0 => ?_⟩
          · rw [e32, e16]
            have := aO.1 b hb
            rw [mA 32 (by decide), mA 16 (by decide)] at this
            exact this
          · rw [e16] at hj
            rw [up2_20] at hj0
            by_cases hja : j = M 23 c
            · rw [if_pos hja] at hj0; cases hj0
            · rw [if_neg hja] at hj0
              exact aO.2 j (by rw [mA 16 (by decide)]; exact hj) (by rw [mA 20 (by decide)]; exact hj0)
        have hroom := ch_room hMA aL aW aN (a := M 23 c) (by rw [mA 16 (by decide)]; exact c3) (by rw [mA 20 (by decide)]; exact h20)
        have e17a : mUp M c 17 (M 23 c) = M 17 (M 23 c) := by rw [mA 17 (by decide)]
        have key := u_sb (a := M 23 c) (c9 := q9) (v := M 25 c) (b := b9) (z := z) (ri := ri) (kd2 := kd2) (F2 := F2) (L2 := L2) hMA hM2 hWF9 aH aT aL aX aW aU aC aD aK aS aN aZ hO2 (by rw [mA 16 (by decide)]; exact c3) (by rw [mA 20 (by decide)]; exact h20) kdN_eq (fq 0) (fq 1) (fq 2) (by omega) (by omega) (fun d hd h23 => by
          rw [mA 22 (by decide)] at hd
          rw [mA 23 (by decide)] at h23
          rw [mUp_at]
          by_cases hdc : d = c
          · rw [if_pos hdc]; decide
          · rw [if_neg hdc]
            by_cases h0 : M 26 d = 0
            · rw [if_pos ⟨hd, h23, h0⟩]; decide
            · rw [if_neg (fun q => h0 q.2.2)]; exact h0) (by rw [mA 10 (by decide), e17a]; exact hp) (by rw [mA 13 (by decide), e17a]; exact h0) (by rw [mA 14 (by decide), e17a]; exact h2) m2 (fun i => by rw [up2_20, mA 20 (by decide)]) (fun i => by rw [up2_0 (by decide), mA 14 (by decide), e17a]; exact (hrow i).1) (fun i => by rw [up2_0 (by decide), mA 11 (by decide), e17a]; exact (hrow i).2.1) (fun i => by rw [up2_0 (by decide), mA 13 (by decide), e17a]; exact (hrow i).2.2) hroom (by rw [mA 16 (by decide)]; exact h60) hSB
        rw [e17a] at key
        exact key
      · rw [if_neg (fun z => q (hcond.mp z)), if_neg q]
        exact ⟨rfl, fun z => by cases z⟩
end UP
