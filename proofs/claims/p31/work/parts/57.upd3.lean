/-! changes: complain, paper, addTender, addLot -/
theorem k2_arg (k : Nat) : (if k = 0 then (0 : Nat) else k) = k := by
  by_cases h : k = 0
  · rw [if_pos h, h]
  · rw [if_neg h]
section UP
variable {kd kd2 : Nat → Nat} {F F2 : Nat → Nat → Nat} {L L2 : Nat → List Nat} {S : List Nat} {h : Nat} {M M2 : MS} {tn tn2 : Nat → Nat} {lo : Nat → Nat → Nat} {aw aw2 co co2 ct ct2 ow : Nat → Nat}
theorem u_complain (hM : MI M) (hWF : WF kd F L) (G : RelG kd F L h M tn lo aw co ct ow) (b i g : Int32) : ks (kIx b 8) (ks (kIx i (L (F 2 h)).length) (ks (kArg g (nI 0) (nI 2)) (if kCmpC F L h b.toNatClampNeg (ga (L (F 2 h)) i) g.toNatClampNeg then 0 else 3))) = k_complain M b i g ∧
    (k_complain M b i g = 0 → nI (L (F 3 h)).length = (if k_complain M b i g = 0 then nI (M 22 0) else nI 0) ∧ ∀ q, kd q = 0 → RelG (kdN kd q 5) (FN F q [b.toNatClampNeg, ga (L (F 2 h)) i, g.toNatClampNeg, 0, 0, 0]) (upL L (F 3 h) (L (F 3 h) ++ [q])) h (g_complain M b i g) tn lo aw (fpush co (M 22 0) q) ct ow) := by
  obtain ⟨hH, hT, hL, hX, hW, hU, hC, hD, hK, hS, hO, hN, hZ⟩ := G
  rcases bidK b with ⟨b1, b2⟩ | ⟨x, hx, -, b1, b2, b3⟩
  · unfold k_complain
    rw [b1, Bool.false_and, ks_l (by rw [b2]; decide), b2, if_pos rfl]
    exact ⟨rfl, fun q => by cases q⟩
  · rcases lsnK hH.2.2.2.2.2.1 (hM 16 0) i with ⟨g1, g2⟩ | ⟨a, ha, -, g1, g2, g3, g4⟩
    · unfold k_complain
      rw [b1, g1, Bool.true_and, ks_r b2, ks_l (by rw [g2]; decide), g2, if_pos rfl]
      exact ⟨rfl, fun q => by cases q⟩
    · rcases i_in_arg (v := g) (lo := 0) (hi := 2) (by decide) (by decide) with ⟨v1, v2⟩ | ⟨z, -, z2, -, v1, v2, v3⟩
      · unfold k_complain
        rw [b1, g1, v1, ks_r b2, ks_r g2, ks_l (by rw [v2]; decide), v2, if_neg (show ¬ (true && true) = false by decide), if_pos rfl]
        exact ⟨rfl, fun q => by cases q⟩
      · have hcond := rl_may hM hH hL hX hW hC ha hx z2
        have ek : k_complain M b i g = if m_mc M x a z = true ∧ M 22 0 < 60 then 0 else 3 := by
          unfold k_complain
          rw [b1, g1, v1, b3, g3, v3, if_neg (show ¬ (true && true) = false by decide), if_neg (show ¬ true = false by decide)]
        refine ⟨?_, fun e => ?_⟩
        · rw [ek, ks_r b2, ks_r g2, ks_r v2, g4, b3, v3]
          by_cases q : kCmpC F L h x (aw a) z
          · rw [if_pos q, if_pos (hcond.mp q)]
          · rw [if_neg q, if_neg (fun y => q (hcond.mpr y))]
        · have q : m_mc M x a z = true ∧ M 22 0 < 60 := by
            rw [ek] at e
            by_cases q : m_mc M x a z = true ∧ M 22 0 < 60
            · exact q
            · rw [if_neg q] at e; cases e
          have qm := (rl_may hM hH hL hX hW hC ha hx z2).mpr q
          have q20 : M 20 a = 0 := by rw [← (hW a ha).2.2.2.2.2.2.2.2.2.1]; exact qm.1
          have q13 : z = 2 → M 13 (8 * M 17 a + x) ≠ 0 ∧ 0 < M 10 (8 * M 17 a + x) := by
            intro hz
            have q1 := q.1
            unfold m_mc at q1
            rw [Bool.and_eq_true, m_mcf_iff] at q1
            unfold m_mc0 at q1
            simp only [Bool.and_eq_true, Bool.or_eq_true, decide_eq_true_eq, Bool.not_eq_true', decide_eq_false_iff_not] at q1
            refine ⟨?_, q1.1.1.1.2⟩
            rcases q1.2 with y | y
            · exact absurd hz y
            · exact y
          have el : L (F 3 h) = lsn co (M 22 0) := hH.2.2.2.2.2.2.1
          refine ⟨by rw [if_pos e, el, lsn_len], fun q9 hq => ?_⟩
          have eg : g_complain M b i g = mu (mu (mu (mu M 23 (M 22 0) a) 24 (M 22 0) x) 25 (M 22 0) z) 22 0 (M 22 0 + 1) := by
            unfold g_complain
            rw [if_pos e, g3, b3, v3]
          rw [g4, b3, v3, eg]
          have k3 : kd (F 3 h) = 25 := hWF.ref hH.1 rfl (by decide)
          have hs : SmK kd F L (kdN kd q9 5) (FN F q9 [x, aw a, z, 0, 0, 0]) (upL L (F 3 h) (L (F 3 h) ++ [q9])) [2, 3, 4, 5, 6, 7, 8, 9, 11, 22, 23, 24, 26, 27, 28] := (SmK.puL k3 (by decide)).trans (SmK.new hq (by decide))
          have m : ∀ f, f ∉ [22, 23, 24, 25] → mu (mu (mu (mu M 23 (M 22 0) a) 24 (M 22 0) x) 25 (M 22 0) z) 22 0 (M 22 0 + 1) f = M f := fun f hf => by
            rw [mu_nf _ (fun z => hf (by rw [z]; decide)), mu_nf _ (fun z => hf (by rw [z]; decide)), mu_nf _ (fun z => hf (by rw [z]; decide)), mu_nf _ (fun z => hf (by rw [z]; decide))]
          have m22 : mu (mu (mu (mu M 23 (M 22 0) a) 24 (M 22 0) x) 25 (M 22 0) z) 22 0 (M 22 0 + 1) 22 0 = M 22 0 + 1 := mu_z
          have m23 : ∀ c, mu (mu (mu (mu M 23 (M 22 0) a) 24 (M 22 0) x) 25 (M 22 0) z) 22 0 (M 22 0 + 1) 23 c = if c = M 22 0 then a else M 23 c := fun c => by rw [mu_nf _ (by decide), mu_nf _ (by decide), mu_nf _ (by decide), mu_at]
          have m24 : ∀ c, mu (mu (mu (mu M 23 (M 22 0) a) 24 (M 22 0) x) 25 (M 22 0) z) 22 0 (M 22 0 + 1) 24 c = if c = M 22 0 then x else M 24 c := fun c => by rw [mu_nf _ (by decide), mu_nf _ (by decide), mu_at, mu_nf _ (by decide)]
          have m25 : ∀ c, mu (mu (mu (mu M 23 (M 22 0) a) 24 (M 22 0) x) 25 (M 22 0) z) 22 0 (M 22 0 + 1) 25 c = if c = M 22 0 then z else M 25 c := fun c => by rw [mu_nf _ (by decide), mu_at, mu_nf _ (by decide), mu_nf _ (by decide)]
          have z0 := hZ.1 (M 22 0) (Nat.le_refl _)
          refine ⟨hH.mk2 hs (by decide) (by decide) (m 1 (by decide)) (m 2 (by decide)) ?_ ?_ ?_ ?_, hT.congr hWF hs (by decide) (by decide) (m 3 (by decide)) (m 4 (by decide)) (m 5 (by decide)) (m 6 (by decide)) (m 7 (by decide)) (m 8 (by decide)), hL.congr hWF hs (by decide) (by decide) (by decide) (by decide) (by decide) (m 1 (by decide)) (m 3 (by decide)) (m 4 (by decide)) (m 8 (by decide)) (m 9 (by decide)) (m 10 (by decide)) (m 11 (by decide)) (m 12 (by decide)) (m 13 (by decide)) (m 14 (by decide)) (by rw [m 15 (by decide)]; exact Nat.le_refl _), hX.congr (m 1 (by decide)) (m 3 (by decide)) (m 4 (by decide)) (m 8 (by decide)) (m 10 (by decide)) (m 13 (by decide)) (m 14 (by decide)), hW.congr hWF hs (by decide) (by decide) (by decide) (by decide) (m 1 (by decide)) (m 3 (by decide)) (m 4 (by decide)) (m 7 (by decide)) (m 8 (by decide)) (m 16 (by decide)) (m 17 (by decide)) (m 18 (by decide)) (m 19 (by decide)) (m 20 (by decide)) (m 21 (by decide)), hU.congr (m 13 (by decide)) (m 16 (by decide)) (m 17 (by decide)) (m 18 (by decide)) (m 20 (by decide)), ⟨fun c hc => ?_, fun c d hc hd => ?_⟩, fun c hc => ?_, hK.congr hs (by decide) (fun _ _ => rfl) (by rw [m 16 (by decide)]; exact Nat.le_refl _) (m 29 (by decide)) (m 30 (by decide)) (m 31 (by decide)), hS.congr (m 16 (by decide)) (m 21 (by decide)) (m 29 (by decide)) (m 30 (by decide)), hO.congr hW hWF hs (by decide) (by decide) (by decide) (m 16 (by decide)) (m 20 (by decide)) (m 32 (by decide)), hN.congr hL hWF hs (by decide) (by decide) (m 3 (by decide)) (m 8 (by decide)) (m 16 (by decide)) (m 17 (by decide)) (m 20 (by decide)), ?_⟩
          · rw [(hs.at (hWF.ref hH.1 rfl (by decide) : kd (F 1 h) = 28) (by decide)).2.2, m 3 (by decide)]; exact hH.2.2.2.2.1
          · rw [(hs.at (hWF.ref hH.1 rfl (by decide) : kd (F 2 h) = 22) (by decide)).2.2, m 16 (by decide)]; exact hH.2.2.2.2.2.1
          · rw [upL_eq, el, m22, lsn_push]
          · rw [(hs.at (hWF.ref hH.1 rfl (by decide) : kd (F 4 h) = 26) (by decide)).2.2, m 29 (by decide)]; exact hH.2.2.2.2.2.2.2
          · rw [m22] at hc
            rw [m23, m24, m25, m 16 (by decide), m 26 (by decide), m 27 (by decide), m 28 (by decide)]
            by_cases hcn : c = M 22 0
            · rw [hcn, fpush_eq, if_pos rfl, if_pos rfl, if_pos rfl, z0.1, z0.2.1, z0.2.2]
              exact ⟨kdN_eq, if_pos rfl, ha, if_pos rfl, if_pos rfl, if_pos rfl, if_pos rfl, if_pos rfl⟩
            · obtain ⟨d1, d2, d3, d4, d5, d6, d7, d8⟩ := hC.1 c (by omega)
              have hne : co c ≠ q9 := ne_q hq d1 (by decide)
              rw [fpush_ne hcn, if_neg hcn, if_neg hcn, if_neg hcn, FN_ne hne, FN_ne hne, FN_ne hne, FN_ne hne, FN_ne hne, FN_ne hne, kdN_ne hne]
              exact ⟨d1, d2, d3, d4, d5, d6, d7, d8⟩
          · rw [m22] at hc hd
            intro e9
            by_cases hcn : c = M 22 0
            · by_cases hdn : d = M 22 0
              · rw [hcn, hdn]
              · rw [hcn, fpush_eq, fpush_ne hdn] at e9
                have := (hC.1 d (by omega)).1
                rw [← e9, hq] at this; cases this
            · by_cases hdn : d = M 22 0
              · rw [hdn, fpush_eq, fpush_ne hcn] at e9
                have := (hC.1 c (by omega)).1
                rw [e9, hq] at this; cases this
              · rw [fpush_ne hcn, fpush_ne hdn] at e9
                exact hC.2 c d (by omega) (by omega) e9
          · rw [m22] at hc
            rw [m23, m24, m25, m 26 (by decide), m 20 (by decide), m 13 (by decide), m 10 (by decide), m 17 (by decide)]
            by_cases hcn : c = M 22 0
            · rw [if_pos hcn, if_pos hcn, if_pos hcn]
              exact ⟨fun _ => q20, fun y _ => q13 y⟩
            · rw [if_neg hcn, if_neg hcn, if_neg hcn]
              exact hD c (by omega)
          · refine ⟨fun c hc => ?_, ?_, ?_⟩
            · rw [m22] at hc
              rw [m 26 (by decide), m 27 (by decide), m 28 (by decide)]; exact hZ.1 c (by omega)
            · rw [m 16 (by decide), m 20 (by decide), m 21 (by decide)]; exact hZ.2.1
            · rw [m 29 (by decide), m 31 (by decide)]; exact hZ.2.2
theorem papK (b k : Int32) : (isIx b 8 && i_in k (nI 0) (nI 5)) = (isIx b 8 && isIx k 6) := by
  have : nI 6 - nI 1 = nI 5 := by decide
  unfold isIx
  rw [this]
theorem u_paper (hM : MI M) (hWF : WF kd F L) (G : RelG kd F L h M tn lo aw co ct ow) (b k u : Int32) : ks (kPapK b k) (kArg u (-1) (nI 2000)) = k_paper b k u ∧
    (k_paper b k u = 0 → nI (F (b.toNatClampNeg * 6 + k.toNatClampNeg) (F 0 h)) - 1 = r_paper M b k u ∧ RelG kd (up2 F (b.toNatClampNeg * 6 + k.toNatClampNeg) (F 0 h) (u + 1).toNatClampNeg) L h (g_paper M b k u) tn lo aw co ct ow) := by
  obtain ⟨hH, hT, hL, hX, hW, hU, hC, hD, hK, hS, hO, hN, hZ⟩ := G
  have ekk : k_paper b k u = if (isIx b 8 && isIx k 6) = false then 1 else if i_in u (-1) (nI 2000) = false then 2 else 0 := by
    unfold k_paper
    rw [papK]
  by_cases q : isIx b 8 = true ∧ isIx k 6 = true
  · obtain ⟨x, hx, rfl⟩ := isIx_of (by decide) q.1
    obtain ⟨y, hy, rfl⟩ := isIx_of (by decide) q.2
    have e0 : kPapK (nI x) (nI y) = 0 := kPapK_in hx hy
    have e9 : k_paper (nI x) (nI y) u = kArg u (-1) (nI 2000) := by
      rw [ekk, q.1, q.2, if_neg (show ¬ (true && true) = false by decide)]
      unfold kArg i_in
      by_cases z : u < -1 ∨ nI 2000 < u
      · rw [if_pos z]
        rcases z with z | z
        · rw [decide_eq_true z]; rfl
        · rw [decide_eq_true z]; simp
      · have z2 := not_or.mp z
        rw [if_neg z, decide_eq_false z2.1, decide_eq_false z2.2]; rfl
    refine ⟨by rw [ks_r e0, e9], fun e => ?_⟩
    rw [e9] at e
    have z : ¬ (u < -1 ∨ nI 2000 < u) := fun z => by rw [kArg, if_pos z] at e; cases e
    obtain ⟨w, hw, rfl⟩ := pap_of z
    have ew := pap_back hw
    rw [nI_clamp (by omega), nI_clamp (by omega), ew]
    have eg : g_paper M (nI x) (nI y) (nI w - nI 1) = mu M 2 (6 * x + y) w := by
      unfold g_paper
      rw [if_pos (by rw [e9]; exact e), nI_clamp (by omega), nI_clamp (by omega), ew]
    rw [eg]
    have e2 : F (x * 6 + y) (F 0 h) = M 2 (6 * x + y) := by
      rw [hH.2.2.2.1 _ (by omega), show x * 6 + y = 6 * x + y by omega]
    refine ⟨?_, ?_⟩
    · unfold r_paper
      rw [if_pos (by rw [e9]; exact e), nI_clamp (by omega), nI_clamp (by omega), e2]; rfl
    · have hs : SmK kd F L kd (up2 F (x * 6 + y) (F 0 h) w) L [2, 3, 4, 5, 6, 7, 8, 9, 22, 23, 24, 25, 26, 27, 28] := SmK.pu2 hH.2.1 (by decide)
      have m : ∀ f, f ∉ [2] → mu M 2 (6 * x + y) w f = M f := fun f hf => mu_nf _ (fun z => hf (by rw [z]; decide))
      obtain ⟨r1, r2, r3, r4, r5, r6, r7, r8⟩ := hH
      have s2 := (hs.at r1 (by decide)).2.1
      have hH : RelH kd F L h M tn aw co ct := ⟨r1, r2, r3, r4, r5, r6, r7, r8⟩
      refine ⟨⟨r1, ?_, ?_, fun i hi => ?_, ?_, ?_, ?_, ?_⟩, hT.congr hWF hs (by decide) (by decide) (m 3 (by decide)) (m 4 (by decide)) (m 5 (by decide)) (m 6 (by decide)) (m 7 (by decide)) (m 8 (by decide)), hL.congr hWF hs (by decide) (by decide) (by decide) (by decide) (by decide) (m 1 (by decide)) (m 3 (by decide)) (m 4 (by decide)) (m 8 (by decide)) (m 9 (by decide)) (m 10 (by decide)) (m 11 (by decide)) (m 12 (by decide)) (m 13 (by decide)) (m 14 (by decide)) (by rw [m 15 (by decide)]; exact Nat.le_refl _), hX.congr (m 1 (by decide)) (m 3 (by decide)) (m 4 (by decide)) (m 8 (by decide)) (m 10 (by decide)) (m 13 (by decide)) (m 14 (by decide)), hW.congr hWF hs (by decide) (by decide) (by decide) (by decide) (m 1 (by decide)) (m 3 (by decide)) (m 4 (by decide)) (m 7 (by decide)) (m 8 (by decide)) (m 16 (by decide)) (m 17 (by decide)) (m 18 (by decide)) (m 19 (by decide)) (m 20 (by decide)) (m 21 (by decide)), hU.congr (m 13 (by decide)) (m 16 (by decide)) (m 17 (by decide)) (m 18 (by decide)) (m 20 (by decide)), hC.congr hs (by decide) (fun _ _ => rfl) (by rw [m 16 (by decide)]; exact Nat.le_refl _) (m 22 (by decide)) (m 23 (by decide)) (m 24 (by decide)) (m 25 (by decide)) (m 26 (by decide)) (m 27 (by decide)) (m 28 (by decide)), hD.congr (m 10 (by decide)) (m 13 (by decide)) (m 17 (by decide)) (m 20 (by decide)) (m 22 (by decide)) (m 23 (by decide)) (m 24 (by decide)) (m 25 (by decide)) (m 26 (by decide)), hK.congr hs (by decide) (fun _ _ => rfl) (by rw [m 16 (by decide)]; exact Nat.le_refl _) (m 29 (by decide)) (m 30 (by decide)) (m 31 (by decide)), hS.congr (m 16 (by decide)) (m 21 (by decide)) (m 29 (by decide)) (m 30 (by decide)), hO.congr hW hWF hs (by decide) (by decide) (by decide) (m 16 (by decide)) (m 20 (by decide)) (m 32 (by decide)), hN.congr hL hWF hs (by decide) (by decide) (m 3 (by decide)) (m 8 (by decide)) (m 16 (by decide)) (m 17 (by decide)) (m 20 (by decide)), hZ.congr (m 16 (by decide)) (m 20 (by decide)) (m 21 (by decide)) (m 22 (by decide)) (m 26 (by decide)) (m 27 (by decide)) (m 28 (by decide)) (m 29 (by decide)) (m 31 (by decide))⟩
      · rw [s2]; exact r2
      · rw [s2, m 1 (by decide)]; exact r3
      · rw [s2, mu_at]
        by_cases z : i = 6 * x + y
        · rw [if_pos z, z, show 6 * x + y = x * 6 + y by omega, up2_eq]
        · rw [if_neg z, up2_nf (by omega)]; exact r4 i hi
      · rw [s2, m 3 (by decide)]; exact r5
      · rw [s2, m 16 (by decide)]; exact r6
      · rw [s2, m 22 (by decide)]; exact r7
      · rw [s2, m 29 (by decide)]; exact r8
  · have z : kPapK b k = 1 := if_neg q
    have z2 : (isIx b 8 && isIx k 6) = false := by
      cases h1 : isIx b 8
      · rfl
      · cases h2 : isIx k 6
        · rfl
        · exact absurd ⟨h1, h2⟩ q
    rw [ekk, z2, if_pos rfl, ks_l (by rw [z]; decide), z]
    exact ⟨rfl, fun q => by cases q⟩
end UP
