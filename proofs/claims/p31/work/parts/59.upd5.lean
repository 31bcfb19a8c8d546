/-! changes: bid, withdraw -/
section TK
variable {kd : Nat → Nat} {F : Nat → Nat → Nat} {L : Nat → List Nat} {M : MS} {ow : Nat → Nat} {a b g x : Nat}
theorem kTake_ne (h : x ≠ F 3 a) : kTake F L a b x = L x := by
  unfold kTake
  rcases fr (fun j => F 0 (gt (L (F 3 a)) j) = b) (L (F 3 a)).length with _ | i
  · rfl
  · exact upL_ne h
theorem kTake_sub : (kTake F L a b (F 3 a)).Sublist (L (F 3 a)) := by
  unfold kTake
  rcases fr (fun j => F 0 (gt (L (F 3 a)) j) = b) (L (F 3 a)).length with _ | i
  · exact List.Sublist.refl _
  · show (upL L (F 3 a) _ (F 3 a)).Sublist _
    rw [upL_eq]
    exact List.eraseIdx_sublist _ _
theorem kTake_mem (hR : RelB F L ow M a g) : x ∈ kTake F L a b (F 3 a) ↔ x ∈ L (F 3 a) ∧ F 0 x ≠ b := by
  unfold kTake
  rcases hf : fr (fun j => F 0 (gt (L (F 3 a)) j) = b) (L (F 3 a)).length with _ | i
  · constructor
    · intro hx
      refine ⟨hx, fun e => ?_⟩
      obtain ⟨j, hj, rfl⟩ := mem_gt hx
      exact fr_iff_none hf j hj e
    · exact fun hx => hx.1
  · have hi : i < (L (F 3 a)).length := fr_lt hf
    have hb : F 0 (gt (L (F 3 a)) i) = b := fr_spec (P := fun j => F 0 (gt (L (F 3 a)) j) = b) hf
    show x ∈ upL L (F 3 a) ((L (F 3 a)).eraseIdx i) (F 3 a) ↔ _
    rw [upL_eq, List.mem_eraseIdx_iff_getElem?]
    constructor
    · rintro ⟨j, hne, hj⟩
      have hjl : j < (L (F 3 a)).length := by
        by_cases q : j < (L (F 3 a)).length
        · exact q
        · rw [List.getElem?_eq_none (by omega)] at hj; cases hj
      have hg : gt (L (F 3 a)) j = x := by
        unfold gt
        rw [List.getD_eq_getElem?_getD, hj]; rfl
      refine ⟨by rw [← hg]; exact gt_mem hjl, fun e => ?_⟩
      rw [← hg] at e
      rcases Nat.lt_trichotomy i j with q | q | q
      · exact pw_gt hR.dist q hjl (hb.trans e.symm)
      · exact hne q.symm
      · exact pw_gt hR.dist q hi (e.trans hb.symm)
    · rintro ⟨hx, hne⟩
      obtain ⟨j, hj, rfl⟩ := mem_gt hx
      refine ⟨j, fun e => hne (by rw [e]; exact hb), ?_⟩
      unfold gt
      rw [List.getD_eq_getElem?_getD, List.getElem?_eq_getElem hj]; rfl
theorem m_bf_cn (M : MS) (g : Nat) : ∀ n, m_bf M g n = cn (fun b => 0 < M 10 (8 * g + b)) n
  | 0 => rfl
  | n + 1 => by rw [m_bf, cn, m_bf_cn M g n]
theorem RelB.lenb (h : RelB F L ow M a g) : (L (F 3 a)).length = m_bf M g 8 := by
  have h1 := cn_list (P := fun _ => True) (Q := fun b => 0 < M 10 (8 * g + b)) (g := F 0) (N := 8) (L (F 3 a)) h.dist (fun x hx => (h.1 x hx).2.1) (fun b hb => by
    constructor
    · intro q
      obtain ⟨o, ho, he⟩ := h.2.1 b hb q
      exact ⟨o, ho, he, trivial⟩
    · rintro ⟨o, ho, he, -⟩
      rw [← he, ← (h.1 o ho).2.2.1]; exact (h.1 o ho).2.2.2.1)
  have h2 : cn (fun j => True) (L (F 3 a)).length = (L (F 3 a)).length := by
    have : ∀ n, cn (fun _ => True) n = n := by
      intro n
      induction n with
      | zero => rfl
      | succ n ih => rw [cn, ih]; rfl
    exact this _
  rw [m_bf_cn, ← h1, h2]
end TK
section UP
variable {kd kd2 : Nat → Nat} {F F2 : Nat → Nat → Nat} {L L2 : Nat → List Nat} {S : List Nat} {h : Nat} {M M2 : MS} {tn tn2 : Nat → Nat} {lo lo2 : Nat → Nat → Nat} {aw aw2 co co2 ct ct2 ow ow2 : Nat → Nat}
theorem RelB.congr3 {a g : Nat} (hR : RelB F L ow M a g) (el : L2 (F2 3 a) = L (F 3 a)) (ko : ∀ o ∈ L (F 3 a), (∀ f, F2 f o = F f o) ∧ ow2 o = ow o) (hop : m_op M2 (g / 3) = m_op M (g / 3)) (em : ∀ f b, b < 8 → (f = 10 ∨ f = 11 ∨ f = 12 ∨ f = 13 ∨ f = 14) → M2 f (8 * g + b) = M f (8 * g + b)) (e15 : M 15 0 ≤ M2 15 0) : RelB F2 L2 ow2 M2 a g := by
  obtain ⟨b1, b2, b3⟩ := hR
  unfold RelB
  rw [el]
  refine ⟨fun o ho => ?_, fun b hb hp => ?_, ?_⟩
  · obtain ⟨r1, r2, r3, r4, r5, r6, r7⟩ := b1 o ho
    obtain ⟨ko, eo⟩ := ko o ho
    rw [ko, ko, ko, ko, eo, em 10 _ r2 (by decide), em 11 _ r2 (by decide), em 12 _ r2 (by decide), hop]
    refine ⟨r1, r2, r3, r4, r5, ?_, by omega⟩
    rw [r6]
    unfold stt
    rw [em 13 _ r2 (by decide), em 14 _ r2 (by decide)]
  · rw [em 10 _ hb (by decide)] at hp
    obtain ⟨o, ho, he⟩ := b2 b hb hp
    exact ⟨o, ho, by rw [(ko o ho).1]; exact he⟩
  · refine List.Pairwise.imp_of_mem (fun {x y} hx hy q => ?_) b3
    rw [(ko x hx).1, (ko y hy).1, em 12 _ (b1 x hx).2.1 (by decide), em 12 _ (b1 y hy).2.1 (by decide)]; exact q
theorem lo_F3 (hT : RelT kd F L M tn lo ow) (hL : RelL kd F L M tn lo ow) {t k x y : Nat} (ht : t < M 3 0) (hk : k < M 8 t) (hx : x < M 3 0) (hy : y < M 8 x) (hne : ¬ (t = x ∧ k = y)) : F 3 (lo t k) ≠ F 3 (lo x y) := by
  intro e
  refine hne (lo_inj hT hL ht hk hx hy ?_)
  rw [← (hL t k ht hk).2.2.2.2.1, e, (hL x y hx hy).2.2.2.2.1]
/-- the bids of one lot that is not opened -/
theorem RelG.bids (hM : MI M) (hWF : WF kd F L) (G : RelG kd F L h M tn lo aw co ct ow) {x y : Nat} (hx : x < M 3 0) (hy : y < M 8 x) (hy3 : y < 3) (hop : m_op M x = false) (hE : ∀ b, kd b ≠ 0 → kd2 b = kd b ∧ (∀ f, F2 f b = F f b) ∧ ow2 b = ow b ∧ (b ≠ F 3 (lo x y) → L2 b = L b))
    (m : ∀ f, f ∉ [10, 11, 12, 15] → M2 f = M f) (mz : ∀ f z, f ≠ 15 → z / 8 ≠ 3 * x + y → M2 f z = M f z) (e15 : M 15 0 ≤ M2 15 0) (hB : RelB F2 L2 ow2 M2 (lo x y) (3 * x + y)) (hR : RelR F2 L2 (lo x y)) : RelG kd2 F2 L2 h M2 tn lo aw co ct ow2 := by
  obtain ⟨hH, hT, hL, hX, hW, hU, hC, hD, hK, hS, hO, hN, hZ⟩ := G
  obtain ⟨g1, g2, g3, g4, g5, g6, -, -⟩ := hL x y hx hy
  have kx3 : kd (F 3 (lo x y)) = 23 := hWF.ref g1 rfl (by decide)
  have hs : SmK kd F L kd2 F2 L2 [2, 3, 4, 5, 6, 7, 8, 9, 11, 22, 24, 25, 26, 27, 28] := fun b hb => by
    have h0 : kd b ≠ 0 := fun e => by rw [e] at hb; revert hb; decide
    exact ⟨(hE b h0).1, (hE b h0).2.1, (hE b h0).2.2.2 (fun e => by rw [e, kx3] at hb; revert hb; decide)⟩
  have how : ∀ b, kd b ≠ 0 → ow2 b = ow b := fun b hb => (hE b hb).2.2.1
  have hT0 := hT
  have hL0 := hL
  have hT := hT.owc hWF how
  have mop : ∀ t, m_op M2 t = m_op M t := fun t => m_op_cong (m 4 (by decide)) (m 1 (by decide)) t
  have em : ∀ f g b, g ≠ 3 * x + y → b < 8 → f ≠ 15 → M2 f (8 * g + b) = M f (8 * g + b) := fun f g b hg hb hf => mz f _ hf (by omega)
  refine ⟨hH.congr hWF hs (by decide) (by decide) (by decide) (by decide) (by decide) (by decide) (m 1 (by decide)) (m 2 (by decide)) (m 3 (by decide)) (m 16 (by decide)) (m 22 (by decide)) (m 29 (by decide)), hT.congr hWF hs (by decide) (by decide) (m 3 (by decide)) (m 4 (by decide)) (m 5 (by decide)) (m 6 (by decide)) (m 7 (by decide)) (m 8 (by decide)), fun t k ht hk => ?_, ⟨?_, fun g b hg hb => ?_⟩, fun a ha => ?_, hU.congr (m 13 (by decide)) (m 16 (by decide)) (m 17 (by decide)) (m 18 (by decide)) (m 20 (by decide)), hC.congr hs (by decide) (fun _ _ => rfl) (by rw [m 16 (by decide)]; exact Nat.le_refl _) (m 22 (by decide)) (m 23 (by decide)) (m 24 (by decide)) (m 25 (by decide)) (m 26 (by decide)) (m 27 (by decide)) (m 28 (by decide)), fun c hc => ?_, hK.congr hs (by decide) (fun _ _ => rfl) (by rw [m 16 (by decide)]; exact Nat.le_refl _) (m 29 (by decide)) (m 30 (by decide)) (m 31 (by decide)), hS.congr (m 16 (by decide)) (m 21 (by decide)) (m 29 (by decide)) (m 30 (by decide)), hO.congr hW hWF hs (by decide) (by decide) (by decide) (m 16 (by decide)) (m 20 (by decide)) (m 32 (by decide)), ?_, hZ.congr (m 16 (by decide)) (m 20 (by decide)) (m 21 (by decide)) (m 22 (by decide)) (m 26 (by decide)) (m 27 (by decide)) (m 28 (by decide)) (m 29 (by decide)) (m 31 (by decide))⟩
  · rw [m 3 (by decide)] at ht
    rw [m 8 (by decide)] at hk
    obtain ⟨r1, r2, r3, r4, r5, r6, r7, r8⟩ := hL t k ht hk
    have k3 : kd (F 3 (lo t k)) = 23 := hWF.ref r1 rfl (by decide)
    have k4 : kd (F 4 (lo t k)) = 24 := hWF.ref r1 rfl (by decide)
    obtain ⟨s1, s2, -⟩ := hs.at r1 (by decide)
    have h8 : M 8 t ≤ 3 := hM 8 t
    by_cases hn : t = x ∧ k = y
    · obtain ⟨rfl, rfl⟩ := hn
      rw [s2, s2, s2, s2, s2, m 9 (by decide), how _ (by omega), how _ (by omega)]
      exact ⟨s1, r2, r3, r4, r5, r6, hB, hR⟩
    · have hne := lo_F3 hT0 hL0 ht hk hx hy hn
      have el : L2 (F2 3 (lo t k)) = L (F 3 (lo t k)) := by rw [s2]; exact (hE _ (by omega)).2.2.2 hne
      have ec : L2 (F2 4 (lo t k)) = L (F 4 (lo t k)) := by rw [s2]; exact (hs.at k4 (by decide)).2.2
      have ko : ∀ o ∈ L (F 3 (lo t k)), (∀ f, F2 f o = F f o) ∧ ow2 o = ow o := fun o ho => by
        have := el_kd hWF k3 o ho
        exact ⟨(hE o (by omega)).2.1, how o (by omega)⟩
      have hR2 : RelR F2 L2 (lo t k) := by
        unfold RelR
        rw [el, ec]
        intro o ho
        have ko := (ko o ho).1
        rw [ko, ko, ko, ko, ko, kRep_congr (fun y hy f => (hs.at (el_kd hWF k4 y hy) (by decide)).2.1 f) _ (Nat.le_refl _)]
        exact r8 o ho
      have hB2 : RelB F2 L2 ow2 M2 (lo t k) (3 * t + k) := r7.congr3 el ko (mop _) (fun f b hb hf => em f _ b (fun q => hn ⟨by omega, by omega⟩) hb (by omega)) e15
      rw [s2, s2, s2, s2, s2, m 9 (by decide), how _ (by omega), how _ (by omega)]
      exact ⟨s1, r2, r3, r4, r5, r6, hB2, hR2⟩
  · rw [m 3 (by decide), m 8 (by decide)]; exact hX.1
  · obtain ⟨x1, x2, x3⟩ := hX.2 g b hg hb
    rw [m 8 (by decide), m 13 (by decide), m 14 (by decide), mop]
    refine ⟨x1, x2, fun q => ?_⟩
    have hg2 : g ≠ 3 * x + y := fun e => by
      rw [e, show (3 * x + y) / 3 = x by omega, show (3 * x + y) % 3 = y by omega] at q
      omega
    rw [em 10 g b hg2 hb (by decide)]
    exact x3 q
  · rw [m 16 (by decide)] at ha
    obtain ⟨r1, r2, r3, r4, r5, r6, r7, r8, r9, r10, r11⟩ := hW a ha
    have kl : kd (F 1 (aw a)) = 7 := hWF.ref r1 rfl (by decide)
    have kb : kd (F 2 (aw a)) = 3 := hWF.ref r1 rfl (by decide)
    have k3 : kd (F 3 (F 1 (aw a))) = 23 := hWF.ref kl rfl (by decide)
    obtain ⟨s1, s2, -⟩ := hs.at r1 (by decide)
    have hn : ¬ (M 17 a / 3 = x ∧ M 17 a % 3 = y) := fun q => by rw [q.1, hop] at r6; cases r6
    have hne : F 3 (F 1 (aw a)) ≠ F 3 (lo x y) := by rw [r5]; exact lo_F3 hT0 hL0 r3 r4 hx hy hn
    rw [s2, s2, s2, s2, s2, s2, (hs.at kl (by decide)).2.1, (hE _ (by omega : kd (F 3 (F 1 (aw a))) ≠ 0)).2.2.2 hne, (hs.at kb (by decide)).2.1, m 17 (by decide), m 3 (by decide), m 8 (by decide), mop, m 18 (by decide), m_su_cong (m 19 (by decide)) (m 7 (by decide)) (m 17 (by decide)), m 20 (by decide), m 21 (by decide)]
    exact ⟨s1, r2, r3, r4, r5, r6, r7, r8, r9, r10, r11⟩
  · rw [m 22 (by decide)] at hc
    rw [m 26 (by decide), m 20 (by decide), m 23 (by decide), m 25 (by decide), m 17 (by decide), m 24 (by decide), m 13 (by decide)]
    have h24 : M 24 c ≤ 7 := hM 24 c
    have c3 := (hC.1 c hc).2.2.1
    have r6 := (hW _ c3).2.2.2.2.2.1
    have hg2 : M 17 (M 23 c) ≠ 3 * x + y := fun e => by
      rw [e, show (3 * x + y) / 3 = x by omega, hop] at r6
      cases r6
    rw [em 10 _ _ hg2 (by omega) (by decide)]
    exact hD c hc
  · exact hN.congr hL0 hWF hs (by decide) (by decide) (m 3 (by decide)) (m 8 (by decide)) (m 16 (by decide)) (m 17 (by decide)) (m 20 (by decide))
/-- a lot that is not opened has no changes -/
theorem noch (hW : RelW kd F L M lo aw) (hN : RelN F L M lo) {x y : Nat} (hx : x < M 3 0) (hy : y < M 8 x) (hy3 : y < 3) (hop : m_op M x = false) : L (F 4 (lo x y)) = [] := by
  have h1 := hN x y hx hy
  have h2 : cn (fun w => M 17 w = 3 * x + y ∧ M 20 w ≠ 0) (M 16 0) ≤ cn (fun _ => False) (M 16 0) := cn_mono (fun i hi q => by
    have r6 := (hW i hi).2.2.2.2.2.1
    rw [q.1, show (3 * x + y) / 3 = x by omega, hop] at r6
    cases r6)
  have h3 : ∀ n, cn (fun _ => False) n = 0 := by
    intro n
    induction n with
    | zero => rfl
    | succ n ih => rw [cn, ih]; rfl
  rw [h3] at h2
  exact List.length_eq_zero_iff.mp (by omega)
theorem u_withdraw (hM : MI M) (hWF : WF kd F L) (G : RelG kd F L h M tn lo aw co ct ow) (b t k : Int32) :
    w13 (ks (kIx b 8) (ks (kLotK F L h t k) (if kWdC F L h (kLotV F L h t k) b.toNatClampNeg then 0 else 3))) = k_withdraw M b t k ∧
    (k_withdraw M b t k = 0 → nI (kPr F L (kLotV F L h t k) b.toNatClampNeg) = r_withdraw M b t k ∧ RelG kd F (kTake F L (kLotV F L h t k) b.toNatClampNeg) h (g_withdraw M b t k) tn lo aw co ct ow) := by
  have G0 := G
  obtain ⟨hH, hT, hL, hX, hW, hU, hC, hD, hK, hS, hO, hN, hZ⟩ := G
  rcases bidK b with ⟨b1, b2⟩ | ⟨w, hw, -, b1, b2, b3⟩
  · unfold k_withdraw
    rw [b1, Bool.false_and, ks_l (by rw [b2]; decide), b2, if_pos rfl]
    exact ⟨rfl, fun q => by cases q⟩
  · rcases lotK hM hH hT t k with ⟨g1, g2⟩ | ⟨x, y, hx, hy, hx6, hy3, -, -, g1, g2, g3, -, g5, g6⟩
    · unfold k_withdraw
      rw [b1, g1, Bool.true_and, ks_r b2, ks_l (by rw [g2]; decide), g2, if_pos rfl]
      exact ⟨rfl, fun q => by cases q⟩
    · have eat : m_at b t k = 8 * (3 * x + y) + w := m_at_of b3 g5 g6
      have hB := (hL x y hx hy).2.2.2.2.2.2.1
      have hcl : F 1 (F 0 (lo x y)) = M 4 x := by rw [(hL x y hx hy).2.1, (hT x hx).2.2.1]
      have hopi : m_op M x = true ↔ M 4 x ≤ M 1 0 := by unfold m_op; rw [decide_eq_true_eq]
      have hz : M 10 (8 * (3 * x + y) + w) = kPr F L (lo x y) w ∧ (kHas F L (lo x y) w = true ↔ M 10 (8 * (3 * x + y) + w) ≠ 0) := by
        unfold kHas kPr
        rcases hB.bid hw with ⟨q1, q2⟩ | ⟨o, q1, q2, q3⟩
        · rw [q1, q2]
          exact ⟨rfl, ⟨fun z => (by cases z), fun z => absurd rfl z⟩⟩
        · rw [q1]
          have r3 := (hB.1 o q2).2.2.1
          have r4 := (hB.1 o q2).2.2.2.1
          rw [q3] at r3
          exact ⟨r3.symm, ⟨fun _ => (by omega), fun _ => rfl⟩⟩
      rw [g3, b3]
      have ek : k_withdraw M b t k = if m_op M x = true ∨ M 10 (8 * (3 * x + y) + w) = 0 then 2 else 0 := by
        unfold k_withdraw
        rw [b1, g1, g5, eat, if_neg (show ¬ (true && true) = false by decide)]
      by_cases q : kWdC F L h (lo x y) w
      · have q2 : ¬ (m_op M x = true ∨ M 10 (8 * (3 * x + y) + w) = 0) := by
          intro z
          rcases z with z | z
          · exact q.2 (by rw [hcl, hH.2.2.1]; exact hopi.mp z)
          · exact hz.2.mp q.1 z
        rw [if_neg q2] at ek
        refine ⟨by rw [ek, ks_r b2, ks_r g2, if_pos q]; rfl, fun _ => ⟨?_, ?_⟩⟩
        · unfold r_withdraw
          rw [if_pos ek, eat, hz.1]
        · have eg : g_withdraw M b t k = mu M 10 (8 * (3 * x + y) + w) 0 := by
            unfold g_withdraw
            rw [if_pos ek, eat]
          rw [eg]
          have hop : m_op M x = false := by
            cases z : m_op M x
            · rfl
            · exact absurd (Or.inl z) q2
          have m10 : ∀ z, mu M 10 (8 * (3 * x + y) + w) 0 10 z = if z = 8 * (3 * x + y) + w then 0 else M 10 z := fun z => mu_at
          have m : ∀ f, f ∉ [10, 11, 12, 15] → mu M 10 (8 * (3 * x + y) + w) 0 f = M f := fun f hf => mu_nf _ (fun z => hf (by rw [z]; decide))
          have mz : ∀ f z, z ≠ 8 * (3 * x + y) + w → mu M 10 (8 * (3 * x + y) + w) 0 f z = M f z := fun f z hz => by
            by_cases hf : f = 10
            · rw [hf, m10, if_neg hz]
            · rw [mu_nf _ hf]
          have m12 : mu M 10 (8 * (3 * x + y) + w) 0 12 = M 12 := mu_nf _ (by decide)
          have m15 : mu M 10 (8 * (3 * x + y) + w) 0 15 = M 15 := mu_nf _ (by decide)
          have kl := (hL x y hx hy).1
          refine G0.bids hM hWF hx hy hy3 hop (fun b9 _ => ⟨rfl, fun _ => rfl, rfl, fun hne => kTake_ne hne⟩) m (fun f z _ hz => mz f z (fun e => hz (by omega))) (by rw [m15]; exact Nat.le_refl _) ⟨fun o ho => ?_, fun b9 hb9 hp => ?_, ?_⟩ (fun o ho => ?_)
          · obtain ⟨h1, h2⟩ := (kTake_mem hB).mp ho
            obtain ⟨r1, r2, r3, r4, r5, r6, r7⟩ := hB.1 o h1
            have hne : 8 * (3 * x + y) + F 0 o ≠ 8 * (3 * x + y) + w := by omega
            rw [mz 10 _ hne, mz 11 _ hne, m12, m15, m_op_cong (m 4 (by decide)) (m 1 (by decide))]
            refine ⟨r1, r2, r3, r4, r5, ?_, r7⟩
            rw [r6]
            unfold stt
            rw [m 13 (by decide), m 14 (by decide)]
          · rw [m10] at hp
            by_cases hbw : b9 = w
            · rw [hbw, if_pos rfl] at hp; omega
            · rw [if_neg (by omega)] at hp
              obtain ⟨o, ho, he⟩ := hB.2.1 b9 hb9 hp
              exact ⟨o, (kTake_mem hB).mpr ⟨ho, by omega⟩, he⟩
          · rw [m12]
            exact hB.2.2.sublist kTake_sub
          · have h1 := ((kTake_mem hB).mp ho).1
            have k3 : kd (F 3 (lo x y)) = 23 := hWF.ref kl rfl (by decide)
            have k4 : kd (F 4 (lo x y)) = 24 := hWF.ref kl rfl (by decide)
            rw [kTake_ne (fun e => by rw [e, k3] at k4; cases k4)]
            exact (hL x y hx hy).2.2.2.2.2.2.2 o h1
      · have q2 : m_op M x = true ∨ M 10 (8 * (3 * x + y) + w) = 0 := by
          by_cases z : kHas F L (lo x y) w = true
          · left
            by_cases z2 : F 1 (F 0 (lo x y)) ≤ F 5 h
            · rw [hcl, hH.2.2.1] at z2; exact hopi.mpr z2
            · exact absurd ⟨z, z2⟩ q
          · right
            by_cases z2 : M 10 (8 * (3 * x + y) + w) = 0
            · exact z2
            · exact absurd (hz.2.mpr z2) z
        rw [if_pos q2] at ek
        exact ⟨by rw [ek, ks_r b2, ks_r g2, if_neg q]; rfl, fun z => by rw [ek] at z; cases z⟩
theorem u_bid (hM : MI M) (hWF : WF kd F L) (G : RelG kd F L h M tn lo aw co ct ow) (b t k pr qu : Int32) :
    ks (kIx b 8) (ks (kLotK F L h t k) (ks (kArg pr (nI 1) (nI 100000)) (ks (kArg qu (nI 0) (nI 100)) (if ¬ F 1 (F 0 (kLotV F L h t k)) ≤ F 5 h then 0 else 3)))) = k_bid M b t k pr qu ∧
    (k_bid M b t k pr qu = 0 → ∀ q, kd q = 0 → nI (((kTake F L (kLotV F L h t k) b.toNatClampNeg) (F 3 (kLotV F L h t k))).length + 1) = r_bid M b t k pr qu ∧ RelG (kdN kd q 3) (FN F q [b.toNatClampNeg, pr.toNatClampNeg, qu.toNatClampNeg, qu.toNatClampNeg, 0, 0]) (upL (kTake F L (kLotV F L h t k) b.toNatClampNeg) (F 3 (kLotV F L h t k)) ((kTake F L (kLotV F L h t k) b.toNatClampNeg) (F 3 (kLotV F L h t k)) ++ [q])) h (g_bid M b t k pr qu) tn lo aw co ct (owp ow [q] (kLotV F L h t k))) := by
  have G0 := G
  obtain ⟨hH, hT, hL, hX, hW, hU, hC, hD, hK, hS, hO, hN, hZ⟩ := G
  unfold k_bid
  rcases bidK b with ⟨b1, b2⟩ | ⟨w, hw, -, b1, b2, b3⟩
  · rw [b1, Bool.false_and, ks_l (by rw [b2]; decide), b2, if_pos rfl]
    exact ⟨rfl, fun q => by cases q⟩
  · rcases lotK hM hH hT t k with ⟨g1, g2⟩ | ⟨x, y, hx, hy, hx6, hy3, -, -, g1, g2, g3, -, g5, g6⟩
    · rw [b1, g1, Bool.true_and, ks_r b2, ks_l (by rw [g2]; decide), g2, if_pos rfl]
      exact ⟨rfl, fun q => by cases q⟩
    · rw [b1, g1, if_neg (show ¬ (true && true) = false by decide), ks_r b2, ks_r g2]
      rcases i_in_arg (v := pr) (lo := 1) (hi := 100000) (by decide) (by decide) with ⟨v1, v2⟩ | ⟨pn, p1, p2, -, v1, v2, v3⟩
      · rw [v1, Bool.false_and, ks_l (by rw [v2]; decide), v2, if_pos rfl]
        exact ⟨rfl, fun q => by cases q⟩
      · rcases i_in_arg (v := qu) (lo := 0) (hi := 100) (by decide) (by decide) with ⟨u1, u2⟩ | ⟨qn, q1, q2, -, u1, u2, u3⟩
        · rw [v1, u1, Bool.true_and, ks_r v2, ks_l (by rw [u2]; decide), u2, if_pos rfl]
          exact ⟨rfl, fun q => by cases q⟩
        · have eat : m_at b t k = 8 * (3 * x + y) + w := m_at_of b3 g5 g6
          have hB := (hL x y hx hy).2.2.2.2.2.2.1
          have hcl : F 1 (F 0 (lo x y)) = M 4 x := by rw [(hL x y hx hy).2.1, (hT x hx).2.2.1]
          have hopi : m_op M x = true ↔ M 4 x ≤ M 1 0 := by unfold m_op; rw [decide_eq_true_eq]
          rw [v1, u1, if_neg (show ¬ (true && true) = false by decide), ks_r v2, ks_r u2, g3, g5, b3, v3, u3, hcl, hH.2.2.1]
          by_cases z : m_op M x = true
          · rw [if_pos z, if_neg (fun z2 => z2 (hopi.mp z))]
            exact ⟨rfl, fun q => by cases q⟩
          · rw [if_neg z, if_pos (fun z2 => z (hopi.mpr z2))]
            refine ⟨rfl, fun _ q hq => ?_⟩
            have hop : m_op M x = false := by simpa using z
            have ek : k_bid M b t k pr qu = 0 := by
              unfold k_bid
              rw [b1, g1, v1, u1, g5, if_neg (show ¬ (true && true) = false by decide), if_neg (show ¬ (true && true) = false by decide), if_neg z]
            have eg : g_bid M b t k pr qu = mu (mu (mu (mu M 10 (8 * (3 * x + y) + w) pn) 11 (8 * (3 * x + y) + w) qn) 12 (8 * (3 * x + y) + w) (M 15 0)) 15 0 (M 15 0 + 1) := by
              unfold g_bid
              rw [if_pos ek, eat, v3, u3]
            have er : r_bid M b t k pr qu = nI (m_bf (g_bid M b t k pr qu) (3 * x + y) 8) := by
              unfold r_bid
              rw [if_pos ek, g5, g6]
            rw [er]
            generalize g_bid M b t k pr qu = M2 at *
            have m10 : ∀ z, M2 10 z = if z = 8 * (3 * x + y) + w then pn else M 10 z := fun z => by rw [eg, mu_nf _ (by decide), mu_nf _ (by decide), mu_nf _ (by decide), mu_at]
            have m11 : ∀ z, M2 11 z = if z = 8 * (3 * x + y) + w then qn else M 11 z := fun z => by rw [eg, mu_nf _ (by decide), mu_nf _ (by decide), mu_at, mu_nf _ (by decide)]
            have m12 : ∀ z, M2 12 z = if z = 8 * (3 * x + y) + w then M 15 0 else M 12 z := fun z => by rw [eg, mu_nf _ (by decide), mu_at, mu_nf _ (by decide), mu_nf _ (by decide)]
            have m15 : M2 15 0 = M 15 0 + 1 := by rw [eg, mu_z]
            have m : ∀ f, f ∉ [10, 11, 12, 15] → M2 f = M f := fun f hf => by
              rw [eg, mu_nf _ (fun z => hf (by rw [z]; decide)), mu_nf _ (fun z => hf (by rw [z]; decide)), mu_nf _ (fun z => hf (by rw [z]; decide)), mu_nf _ (fun z => hf (by rw [z]; decide))]
            clear eg er ek
            have mz : ∀ f z, f ≠ 15 → z ≠ 8 * (3 * x + y) + w → M2 f z = M f z := fun f z hf hz => by
              by_cases h10 : f = 10
              · rw [h10, m10, if_neg hz]
              · by_cases h11 : f = 11
                · rw [h11, m11, if_neg hz]
                · by_cases h12 : f = 12
                  · rw [h12, m12, if_neg hz]
                  · rw [m f (by simp [h10, h11, h12, hf])]
            have kl := (hL x y hx hy).1
            have k3 : kd (F 3 (lo x y)) = 23 := hWF.ref kl rfl (by decide)
            have k4 : kd (F 4 (lo x y)) = 24 := hWF.ref kl rfl (by decide)
            have nq : ∀ {b9 : Nat}, kd b9 ≠ 0 → b9 ≠ q := fun h9 e => h9 (by rw [e]; exact hq)
            have nl : lo x y ≠ q := nq (by omega)
            have f : ∀ f, FN F q [w, pn, qn, qn, 0, 0] f q = [w, pn, qn, qn, 0, 0].getD f 0 := fun f => if_pos rfl
            have e3 : FN F q [w, pn, qn, qn, 0, 0] 3 (lo x y) = F 3 (lo x y) := FN_ne nl
            have e4 : FN F q [w, pn, qn, qn, 0, 0] 4 (lo x y) = F 4 (lo x y) := FN_ne nl
            have ko : ∀ o ∈ L (F 3 (lo x y)), o ≠ q := fun o ho => nq (by have := el_kd hWF k3 o ho; omega)
            have hB2 : RelB (FN F q [w, pn, qn, qn, 0, 0]) (upL (kTake F L (lo x y) w) (F 3 (lo x y)) ((kTake F L (lo x y) w) (F 3 (lo x y)) ++ [q])) (owp ow [q] (lo x y)) M2 (lo x y) (3 * x + y) := by
              unfold RelB
              rw [e3, upL_eq]
              refine ⟨fun o ho => ?_, fun b9 hb9 hp => ?_, ?_⟩
              · rcases List.mem_append.mp ho with ho | ho
                · obtain ⟨h1, h2⟩ := (kTake_mem hB).mp ho
                  obtain ⟨r1, r2, r3, r4, r5, r6, r7⟩ := hB.1 o h1
                  have hne : 8 * (3 * x + y) + F 0 o ≠ 8 * (3 * x + y) + w := by omega
                  have hoq := ko o h1
                  rw [owp_ne (fun e => hoq (List.mem_singleton.mp e)), FN_ne hoq, FN_ne hoq, FN_ne hoq, FN_ne hoq, mz 10 _ (by decide) hne, mz 11 _ (by decide) hne, mz 12 _ (by decide) hne, m15, m_op_cong (m 4 (by decide)) (m 1 (by decide))]
                  refine ⟨r1, r2, r3, r4, r5, ?_, by omega⟩
                  rw [r6]
                  unfold stt
                  rw [m 13 (by decide), m 14 (by decide)]
                · rw [List.mem_singleton.mp ho, f, f, f, f]
                  show owp ow [q] (lo x y) q = lo x y ∧ w < 8 ∧ pn = M2 10 (8 * (3 * x + y) + w) ∧ 0 < pn ∧ qn = M2 11 (8 * (3 * x + y) + w) ∧ 0 = stt (m_op M2 ((3 * x + y) / 3)) M2 (8 * (3 * x + y) + w) ∧ M2 12 (8 * (3 * x + y) + w) < M2 15 0
                  rw [m10, m11, m12, if_pos rfl, if_pos rfl, if_pos rfl, m15, m_op_cong (m 4 (by decide)) (m 1 (by decide)), show (3 * x + y) / 3 = x by omega, hop]
                  exact ⟨owp_in (List.mem_singleton.mpr rfl), hw, rfl, by omega, rfl, rfl, by omega⟩
              · rw [m10] at hp
                by_cases hbw : b9 = w
                · exact ⟨q, List.mem_append_right _ (List.mem_singleton.mpr rfl), by rw [f, hbw]; rfl⟩
                · rw [if_neg (by omega)] at hp
                  obtain ⟨o, ho, he⟩ := hB.2.1 b9 hb9 hp
                  exact ⟨o, List.mem_append_left _ ((kTake_mem hB).mpr ⟨ho, by omega⟩), by rw [FN_ne (ko o ho)]; exact he⟩
              · refine List.pairwise_append.mpr ⟨?_, List.pairwise_singleton _ _, fun o ho o2 ho2 => ?_⟩
                · refine List.Pairwise.imp_of_mem (fun {c d} hc hd v => ?_) (hB.2.2.sublist kTake_sub)
                  obtain ⟨c1, c2⟩ := (kTake_mem hB).mp hc
                  obtain ⟨d1, d2⟩ := (kTake_mem hB).mp hd
                  rw [FN_ne (ko c c1), FN_ne (ko d d1), mz 12 _ (by decide) (by omega), mz 12 _ (by decide) (by omega)]
                  exact v
                · obtain ⟨c1, c2⟩ := (kTake_mem hB).mp ho
                  rw [List.mem_singleton.mp ho2, f, FN_ne (ko o c1), mz 12 _ (by decide) (by omega)]
                  show _ < M2 12 (8 * (3 * x + y) + w)
                  rw [m12, if_pos rfl]
                  exact (hB.1 o c1).2.2.2.2.2.2
            refine ⟨?_, G0.bids hM hWF hx hy hy3 hop (fun b9 h9 => ⟨kdN_ne (nq h9), fun _ => FN_ne (nq h9), owp_ne (fun e => nq h9 (List.mem_singleton.mp e)), fun hne => by rw [upL_ne hne]; exact kTake_ne hne⟩) m (fun f z hf hz => mz f z hf (fun e => hz (by omega))) (by omega) hB2 (fun o ho => ?_)⟩
            · have hl := hB2.lenb
              rw [e3, upL_eq, List.length_append] at hl
              rw [← hl]; rfl
            · have hch : L (F 4 (lo x y)) = [] := noch hW hN hx hy hy3 hop
              have e5 : (upL (kTake F L (lo x y) w) (F 3 (lo x y)) ((kTake F L (lo x y) w) (F 3 (lo x y)) ++ [q])) (F 4 (lo x y)) = [] := by
                have hne : F 4 (lo x y) ≠ F 3 (lo x y) := fun e => by rw [e, k3] at k4; cases k4
                rw [upL_ne hne, kTake_ne hne]; exact hch
              rw [e4, e5]
              rw [e3, upL_eq] at ho
              rcases List.mem_append.mp ho with ho | ho
              · obtain ⟨h1, h2⟩ := (kTake_mem hB).mp ho
                have r8 := (hL x y hx hy).2.2.2.2.2.2.2 o h1
                rw [hch] at r8
                rw [FN_ne (ko o h1), FN_ne (ko o h1), FN_ne (ko o h1), FN_ne (ko o h1), FN_ne (ko o h1)]
                exact r8
              · rw [List.mem_singleton.mp ho, f, f, f, f, f]; rfl
end UP
