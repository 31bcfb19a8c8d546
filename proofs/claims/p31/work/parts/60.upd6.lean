/-! changes: an award made -/
def AwB (kd : Nat → Nat) (F : Nat → Nat → Nat) (L : Nat → List Nat) (h a : Nat) (ri : Int32) (kd2 : Nat → Nat) (F2 : Nat → Nat → Nat) (L2 : Nat → List Nat) : Prop :=
  match kPlace F L a (nI 0) with
  | none => ri = -1 ∧ kd2 = kd ∧ F2 = F ∧ L2 = L
  | some o => ∃ q, kd q = 0 ∧ ri = nI (L (F 2 h)).length ∧ kd2 = kdN kd q 2 ∧ F2 = FN F q [(L (F 2 h)).length, a, o, F 5 h + F 4 (F 0 a), 0, 0, 0] ∧ L2 = upL L (F 2 h) (L (F 2 h) ++ [q])
theorem AwB_of {cI cO : ClassId} {eA : Nat} {st own kd : Nat → Nat} {F : Nat → Nat → Nat} {L : Nat → List Nat} {A : Nat → Prop} {h a : Nat} {ri : Int32} {u : va_W × (Nat → Nat) × Nat} (hu : pBest cI cO eA st own kd F L A h a ri u) : ∃ own kd2 F2 L2, CW cI cO eA st own kd2 F2 L2 u.1 ∧ WF kd2 F2 L2 ∧ va_D A u.1 ∧ AwB kd F L h a ri kd2 F2 L2 := by
  unfold pBest at hu
  unfold AwB
  split at hu
  · next q =>
    rw [q]
    exact ⟨own, _, _, _, hu.2.1, hu.2.2.1, hu.2.2.2, hu.1, rfl, rfl, rfl⟩
  · next o q =>
    rw [q]
    exact ⟨u.2.1, _, _, _, hu.2.1, hu.2.2.1, hu.2.2.2.2, u.2.2, hu.2.2.2.1, hu.1, rfl, rfl, rfl⟩
theorem kPlace_mem {F : Nat → Nat → Nat} {L : Nat → List Nat} {a o : Nat} {z : Int32} (e : kPlace F L a z = some o) : o ∈ L (F 3 a) ∧ F 5 o = 1 := by
  unfold kPlace at e
  rcases hf : fr (fun j => F 5 (gt (L (F 3 a)) j) = 1 ∧ nI (kBetter F L a j (gt (L (F 3 a)) j)) = z) (L (F 3 a)).length with _ | j
  · rw [hf] at e; cases e
  · rw [hf] at e
    obtain rfl : gt (L (F 3 a)) j = o := Option.some.inj e
    exact ⟨gt_mem (fr_lt hf), (fr_spec (P := fun j => F 5 (gt (L (F 3 a)) j) = 1 ∧ nI (kBetter F L a j (gt (L (F 3 a)) j)) = z) hf).1⟩
section UP
variable {kd kd2 : Nat → Nat} {F F2 : Nat → Nat → Nat} {L L2 : Nat → List Nat} {S : List Nat} {h : Nat} {M M2 : MS} {tn tn2 : Nat → Nat} {lo lo2 : Nat → Nat → Nat} {aw aw2 co co2 ct ct2 ow ow2 : Nat → Nat}
theorem u_aw (hM : MI M) (hWF : WF kd F L) (G : RelG kd F L h M tn lo aw co ct ow) {x y : Nat} (hx : x < M 3 0) (hy : y < M 8 x) (hy3 : y < 3) (hop : m_op M x = true) (hno : ∀ j, j < M 16 0 → M 17 j = 3 * x + y → M 20 j ≠ 0) (h60 : M 16 0 < 60) {ri : Int32} (hA : AwB kd F L h (lo x y) ri kd2 F2 L2) :
    ri = m_gvr M (3 * x + y) ∧ ∃ aw2, RelG kd2 F2 L2 h (m_gv M (3 * x + y)) tn lo aw2 co ct ow := by
  have G0 := G
  obtain ⟨hH, hT, hL, hX, hW, hU, hC, hD, hK, hS, hO, hN, hZ⟩ := G
  have hB := (hL x y hx hy).2.2.2.2.2.2.1
  have hw := lo_w hT hL hx hy hy3
  have hp := hB.place hw 0 (by decide) (by have := hB.len8; omega)
  unfold AwB at hA
  have kl := (hL x y hx hy).1
  have k2 : kd (F 2 h) = 22 := hWF.ref hH.1 rfl (by decide)
  have eL : L (F 2 h) = lsn aw (M 16 0) := hH.2.2.2.2.2.1
  rcases ho : kPlace F L (lo x y) (nI 0) with _ | o
  · rw [ho] at hA hp
    obtain ⟨rfl, rfl, rfl, rfl⟩ := hA
    have e : m_rk M (3 * x + y) 0 = none := hp.symm
    unfold m_gvr m_gv
    rw [e]
    exact ⟨rfl, aw, G0⟩
  · rw [ho] at hA hp
    obtain ⟨q, hq, rfl, rfl, rfl, rfl⟩ := hA
    have e : m_rk M (3 * x + y) 0 = some (F 0 o) := hp.symm
    have etp := (m_rk_lt e).2.1
    have e13 : M 13 (8 * (3 * x + y) + F 0 o) = 0 := by
      unfold m_tp at etp
      simp only [Bool.and_eq_true, decide_eq_true_eq] at etp
      exact etp.1.2
    obtain ⟨o1, o2⟩ := kPlace_mem ho
    have ko : kd o = 3 := el_kd hWF (hWF.ref kl rfl (by decide) : kd (F 3 (lo x y)) = 23) o o1
    have eg : m_gv M (3 * x + y) = mu (mu (mu (mu M 17 (M 16 0) (3 * x + y)) 18 (M 16 0) (F 0 o)) 19 (M 16 0) (M 1 0)) 16 0 (M 16 0 + 1) := by
      unfold m_gv
      rw [e]
    have er : m_gvr M (3 * x + y) = nI (M 16 0) := by
      unfold m_gvr
      rw [e]
    refine ⟨by rw [er, eL, lsn_len], fpush aw (M 16 0) q, ?_⟩
    generalize m_gv M (3 * x + y) = M2 at *
    have m : ∀ f, f ∉ [16, 17, 18, 19] → M2 f = M f := fun f hf => by
      rw [eg, mu_nf _ (fun z => hf (by rw [z]; decide)), mu_nf _ (fun z => hf (by rw [z]; decide)), mu_nf _ (fun z => hf (by rw [z]; decide)), mu_nf _ (fun z => hf (by rw [z]; decide))]
    have m16 : M2 16 0 = M 16 0 + 1 := by rw [eg, mu_z]
    have m17 : ∀ z, M2 17 z = if z = M 16 0 then 3 * x + y else M 17 z := fun z => by rw [eg, mu_nf _ (by decide), mu_nf _ (by decide), mu_nf _ (by decide), mu_at]
    have m18 : ∀ z, M2 18 z = if z = M 16 0 then F 0 o else M 18 z := fun z => by rw [eg, mu_nf _ (by decide), mu_nf _ (by decide), mu_at, mu_nf _ (by decide)]
    have m19 : ∀ z, M2 19 z = if z = M 16 0 then M 1 0 else M 19 z := fun z => by rw [eg, mu_nf _ (by decide), mu_at, mu_nf _ (by decide), mu_nf _ (by decide)]
    clear eg er
    have hs : SmK kd F L (kdN kd q 2) (FN F q [(L (F 2 h)).length, lo x y, o, F 5 h + F 4 (F 0 (lo x y)), 0, 0, 0]) (upL L (F 2 h) (L (F 2 h) ++ [q])) [2, 3, 4, 5, 6, 7, 8, 9, 11, 23, 24, 25, 26, 27, 28] :=
      (SmK.puL (k := 22) k2 (by decide)).trans (SmK.new hq (by decide))
    have mop : ∀ t, m_op M2 t = m_op M t := fun t => m_op_cong (m 4 (by decide)) (m 1 (by decide)) t
    have z0 := hZ.2.1 (M 16 0) (Nat.le_refl _)
    have hawe : ∀ a, a < M 16 0 → fpush aw (M 16 0) q a = aw a := fun a ha => fpush_ne (by omega)
    have m17o : ∀ a, a < M 16 0 → M2 17 a = M 17 a := fun a ha => by rw [m17, if_neg (by omega)]
    have m18o : ∀ a, a < M 16 0 → M2 18 a = M 18 a := fun a ha => by rw [m18, if_neg (by omega)]
    have f : ∀ f, FN F q [(L (F 2 h)).length, lo x y, o, F 5 h + F 4 (F 0 (lo x y)), 0, 0, 0] f q = [(L (F 2 h)).length, lo x y, o, F 5 h + F 4 (F 0 (lo x y)), 0, 0, 0].getD f 0 := fun f => if_pos rfl
    have hlow : ∀ w, L (F 3 w) = L (F 3 w) := fun _ => rfl
    have hsl := hs.at kl (by decide)
    have hs3 := hs.at (hWF.ref kl rfl (by decide) : kd (F 3 (lo x y)) = 23) (by decide)
    have hso := hs.at ko (by decide)
    refine ⟨hH.mk2 hs (by decide) (by decide) (m 1 (by decide)) (m 2 (by decide)) ?_ ?_ ?_ ?_, hT.congr hWF hs (by decide) (by decide) (m 3 (by decide)) (m 4 (by decide)) (m 5 (by decide)) (m 6 (by decide)) (m 7 (by decide)) (m 8 (by decide)), hL.congr hWF hs (by decide) (by decide) (by decide) (by decide) (by decide) (m 1 (by decide)) (m 3 (by decide)) (m 4 (by decide)) (m 8 (by decide)) (m 9 (by decide)) (m 10 (by decide)) (m 11 (by decide)) (m 12 (by decide)) (m 13 (by decide)) (m 14 (by decide)) (by rw [m 15 (by decide)]; exact Nat.le_refl _), hX.congr (m 1 (by decide)) (m 3 (by decide)) (m 4 (by decide)) (m 8 (by decide)) (m 10 (by decide)) (m 13 (by decide)) (m 14 (by decide)), fun a ha => ?_, ⟨fun a b ha hb h1 h2 h3 => ?_, fun a ha h1 => ?_⟩, hC.congr hs (by decide) hawe (by omega) (m 22 (by decide)) (m 23 (by decide)) (m 24 (by decide)) (m 25 (by decide)) (m 26 (by decide)) (m 27 (by decide)) (m 28 (by decide)), fun c hc => ?_, hK.congr hs (by decide) hawe (by omega) (m 29 (by decide)) (m 30 (by decide)) (m 31 (by decide)), ⟨fun a ha => ?_, ?_⟩, ⟨fun b hb => ?_, fun a ha h1 => ?_⟩, fun t k ht hk => ?_, ⟨?_, fun a ha => ?_, ?_⟩⟩
    · rw [(hs.at (hWF.ref hH.1 rfl (by decide) : kd (F 1 h) = 28) (by decide)).2.2, m 3 (by decide)]; exact hH.2.2.2.2.1
    · rw [upL_eq, eL, m16, lsn_push]
    · rw [(hs.at (hWF.ref hH.1 rfl (by decide) : kd (F 3 h) = 25) (by decide)).2.2, m 22 (by decide)]; exact hH.2.2.2.2.2.2.1
    · rw [(hs.at (hWF.ref hH.1 rfl (by decide) : kd (F 4 h) = 26) (by decide)).2.2, m 29 (by decide)]; exact hH.2.2.2.2.2.2.2
    · rw [m16] at ha
      by_cases han : a = M 16 0
      · subst han
        rw [fpush_eq, f, f, f, f, f, f, m17, if_pos rfl, m18, if_pos rfl, m 20 (by decide), m 21 (by decide), z0.1, z0.2, m 3 (by decide), m 8 (by decide), mop, show (3 * x + y) / 3 = x by omega, show (3 * x + y) % 3 = y by omega]
        refine ⟨kdN_eq, by show (L (F 2 h)).length = _; rw [eL, lsn_len], hx, hy, rfl, hop, ?_, ?_, ?_, rfl, ?_⟩
        · show o ∈ (upL L (F 2 h) (L (F 2 h) ++ [q])) (FN F q _ 3 (lo x y))
          rw [hsl.2.1, hs3.2.2]; exact o1
        · show FN F q _ 0 o = F 0 o
          exact hso.2.1 0
        · show F 5 h + F 4 (F 0 (lo x y)) = m_su M2 (M 16 0)
          unfold m_su
          rw [m19, if_pos rfl, m17, if_pos rfl, m 7 (by decide), hH.2.2.1, (hL x y hx hy).2.1, (hT x hx).2.2.2.2.2.1, show (3 * x + y) / 3 = x by omega]
        · exact ⟨fun _ => rfl, fun _ => rfl⟩
      · obtain ⟨r1, r2, r3, r4, r5, r6, r7, r8, r9, r10, r11⟩ := hW a (by omega)
        have kla : kd (F 1 (aw a)) = 7 := hWF.ref r1 rfl (by decide)
        have kba : kd (F 2 (aw a)) = 3 := hWF.ref r1 rfl (by decide)
        have k3a : kd (F 3 (F 1 (aw a))) = 23 := hWF.ref kla rfl (by decide)
        obtain ⟨s1, s2, -⟩ := hs.at r1 (by decide)
        have esu : m_su M2 a = m_su M a := by
          unfold m_su
          rw [m19, if_neg han, m17, if_neg han, m 7 (by decide)]
        rw [fpush_ne han, s2, s2, s2, s2, s2, s2, (hs.at kla (by decide)).2.1, (hs.at k3a (by decide)).2.2, (hs.at kba (by decide)).2.1, m17, if_neg han, m 3 (by decide), m 8 (by decide), mop, m18, if_neg han, esu, m 20 (by decide), m 21 (by decide)]
        exact ⟨s1, r2, r3, r4, r5, r6, r7, r8, r9, r10, r11⟩
    · rw [m16] at ha hb
      rw [m 20 (by decide)] at h1 h2
      rw [m17, m17] at h3
      by_cases han : a = M 16 0
      · by_cases hbn : b = M 16 0
        · rw [han, hbn]
        · rw [if_pos han, if_neg hbn] at h3
          exact absurd h2 (hno b (by omega) h3.symm)
      · by_cases hbn : b = M 16 0
        · rw [if_pos hbn, if_neg han] at h3
          exact absurd h1 (hno a (by omega) h3)
        · rw [if_neg han, if_neg hbn] at h3
          exact hU.1 a b (by omega) (by omega) h1 h2 h3
    · rw [m16] at ha
      rw [m 20 (by decide)] at h1
      rw [m17, m18, m 13 (by decide)]
      by_cases han : a = M 16 0
      · rw [if_pos han, if_pos han]; exact e13
      · rw [if_neg han, if_neg han]; exact hU.2 a (by omega) h1
    · rw [m 22 (by decide)] at hc
      have c3 := (hC.1 c hc).2.2.1
      rw [m 26 (by decide), m 20 (by decide), m 23 (by decide), m 25 (by decide), m 24 (by decide), m 13 (by decide), m 10 (by decide), m17o _ c3]
      exact hD c hc
    · rw [m16] at ha
      rw [m 21 (by decide), m 29 (by decide), m 30 (by decide)]
      by_cases han : a = M 16 0
      · rw [han, z0.2]
        exact ⟨fun z => absurd rfl z, fun ⟨c, c1, c2⟩ => by have := (hK.1 c c1).2.1; omega⟩
      · exact hS.1 a (by omega)
    · rw [m 29 (by decide), m16, m 21 (by decide), cn, ← hS.2, if_neg (fun z => z z0.2)]; rfl
    · rw [m 32 (by decide), m16, sm, hO.1 b hb]
      have e0 : losts (FN F q [(L (F 2 h)).length, lo x y, o, F 5 h + F 4 (F 0 (lo x y)), 0, 0, 0]) (fpush aw (M 16 0) q) b (M 16 0) = 0 := by
        unfold losts
        rw [fpush_eq, f, if_neg (fun z => by cases z.1)]
      rw [e0, Nat.add_zero]
      refine sm_congr (fun j hj => ?_)
      have r1 := (hW j hj).1
      have s2 := (hs.at r1 (by decide)).2.1
      have kla : kd (F 1 (aw j)) = 7 := hWF.ref r1 rfl (by decide)
      have kba : kd (F 2 (aw j)) = 3 := hWF.ref r1 rfl (by decide)
      unfold losts
      rw [hawe j hj, s2, s2, s2, (hs.at kba (by decide)).2.1, (hs.at kla (by decide)).2.1]
    · rw [m16] at ha
      rw [m 20 (by decide)] at h1
      by_cases han : a = M 16 0
      · rw [han, fpush_eq, f]; intro z; cases z
      · rw [fpush_ne han, (hs.at (hW a (by omega)).1 (by decide)).2.1]
        exact hO.2 a (by omega) h1
    · rw [m 3 (by decide)] at ht
      rw [m 8 (by decide)] at hk
      have r1 := (hL t k ht hk).1
      have k4 : kd (F 4 (lo t k)) = 24 := hWF.ref r1 rfl (by decide)
      rw [(hs.at r1 (by decide)).2.1, (hs.at k4 (by decide)).2.2, m16, m 20 (by decide), cn]
      have e9 : cn (fun w => M2 17 w = 3 * t + k ∧ M 20 w ≠ 0) (M 16 0) = cn (fun w => M 17 w = 3 * t + k ∧ M 20 w ≠ 0) (M 16 0) := cn_congr (fun w hw9 => by rw [m17o w hw9])
      rw [e9]
      exact Nat.le_trans (hN t k ht hk) (Nat.le_add_right _ _)
    · rw [m 22 (by decide), m 26 (by decide), m 27 (by decide), m 28 (by decide)]; exact hZ.1
    · rw [m16] at ha
      rw [m 20 (by decide), m 21 (by decide)]; exact hZ.2.1 a (by omega)
    · rw [m 29 (by decide), m 31 (by decide)]; exact hZ.2.2
theorem u_award (hM : MI M) (hWF : WF kd F L) (G : RelG kd F L h M tn lo aw co ct ow) (t k : Int32) :
    w13 (ks (kLotK F L h t k) (if kAwC F L h (kLotV F L h t k) then 0 else 3)) = k_award M t k ∧
    (k_award M t k = 0 → ∀ ri kd2 F2 L2, AwB kd F L h (kLotV F L h t k) ri kd2 F2 L2 → ri = r_award M t k ∧ ∃ aw2, RelG kd2 F2 L2 h (g_award M t k) tn lo aw2 co ct ow) := by
  have G0 := G
  obtain ⟨hH, hT, hL, hX, hW, hU, hC, hD, hK, hS, hO, hN, hZ⟩ := G
  rcases lotK hM hH hT t k with ⟨g1, g2⟩ | ⟨x, y, hx, hy, hx6, hy3, -, -, g1, g2, g3, g4, g5, g6⟩
  · unfold k_award
    rw [g1, ks_l (by rw [g2]; decide), g2, if_pos rfl]
    exact ⟨rfl, fun q => by cases q⟩
  · have hB := (hL x y hx hy).2.2.2.2.2.2.1
    have hp := hB.place (lo_w hT hL hx hy hy3) 0 (by decide) (by have := hB.len8; omega)
    have hcl : F 1 (F 0 (lo x y)) = M 4 x := by rw [(hL x y hx hy).2.1, (hT x hx).2.2.1]
    have hopi : m_op M x = true ↔ M 4 x ≤ M 1 0 := by unfold m_op; rw [decide_eq_true_eq]
    have h16 : M 16 0 ≤ 60 := hM 16 0
    have hst : kNoSt F L h (lo x y) = true ↔ m_af M (3 * x + y) = none := by
      unfold kNoSt
      rcases rl_stand hH hT hL hW hU hx hy hy3 with ⟨q1, q2⟩ | ⟨a, -, q1, q2, -, -⟩
      · rw [q1, q2]; exact ⟨fun _ => rfl, fun _ => rfl⟩
      · rw [q1, q2]; exact ⟨fun z => (by cases z), fun z => by cases z⟩
    have hpl : kHasP F L (lo x y) = true ↔ m_rk M (3 * x + y) 0 ≠ none := by
      unfold kHasP
      rcases ho : kPlace F L (lo x y) (nI 0) with _ | o
      · rw [ho] at hp
        rw [← hp]
        exact ⟨fun z => (by cases z), fun z => absurd rfl z⟩
      · rw [ho] at hp
        rw [← hp]
        exact ⟨fun _ z => (by cases z), fun _ => rfl⟩
    have hc : kAwC F L h (lo x y) ↔ m_op M x = true ∧ m_af M (3 * x + y) = none ∧ m_rk M (3 * x + y) 0 ≠ none ∧ M 16 0 ≠ 60 := by
      unfold kAwC
      rw [hcl, hH.2.2.1, hst, hpl, hopi, hH.2.2.2.2.2.1, lsn_len]
      have : M 16 0 < 60 ↔ M 16 0 ≠ 60 := by omega
      rw [this]
    have ek : k_award M t k = if m_op M x = true ∧ m_af M (3 * x + y) = none ∧ m_rk M (3 * x + y) 0 ≠ none ∧ M 16 0 ≠ 60 then 0 else 2 := by
      unfold k_award
      rw [g1, g4, g5, if_neg (show ¬ true = false by decide)]
    rw [ks_r g2, g3]
    by_cases q : kAwC F L h (lo x y)
    · have q2 := hc.mp q
      rw [if_pos q2] at ek
      refine ⟨by rw [ek, if_pos q]; rfl, fun _ ri kd2 F2 L2 hA => ?_⟩
      have eg : g_award M t k = m_gv M (3 * x + y) := by
        unfold g_award
        rw [if_pos ek, g4]
      have er : r_award M t k = m_gvr M (3 * x + y) := by
        unfold r_award
        rw [if_pos ek, g4]
      rw [eg, er]
      refine u_aw hM hWF G0 hx hy hy3 q2.1 (fun j hj h17 h20 => ?_) (by omega) hA
      have := m_aff_eq (g := 3 * x + y) (M 16 0) hj h17 h20 (fun b hb h1 h2 => hU.1 b j hb hj h2 h20 (h1.trans h17.symm))
      unfold m_af at q2
      rw [this] at q2
      exact absurd q2.2.1 (by simp)
    · rw [if_neg (fun z => q (hc.mpr z))] at ek
      exact ⟨by rw [ek, if_neg q]; rfl, fun z => by rw [ek] at z; cases z⟩
end UP
