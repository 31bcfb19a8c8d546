/-! changes: call, a dismissal, sign, complain, paper -/
section UP
variable {kd kd2 : Nat → Nat} {F F2 : Nat → Nat → Nat} {L L2 : Nat → List Nat} {S : List Nat} {h : Nat} {M M2 : MS} {tn tn2 : Nat → Nat} {lo : Nat → Nat → Nat} {aw aw2 co co2 ct ct2 ow : Nat → Nat}
/-- the price of the bid that an award went to -/
theorem rl_price (hL : RelL kd F L M tn lo ow) (hW : RelW kd F L M lo aw) {a : Nat} (ha : a < M 16 0) : F 1 (F 2 (aw a)) = M 10 (8 * M 17 a + M 18 a) := by
  obtain ⟨-, -, w3, w4, w5, -, w7, w8, -⟩ := hW a ha
  have hB := (hL _ _ w3 w4).2.2.2.2.2.2.1
  rw [show 3 * (M 17 a / 3) + M 17 a % 3 = M 17 a by omega, ← w5] at hB
  have := (hB.1 _ w7).2.2.1
  rw [w8] at this
  exact this
theorem u_call (hM : MI M) (hWF : WF kd F L) (G : RelG kd F L h M tn lo aw co ct ow) (i v : Int32) : ks (kIx i (L (F 4 h)).length) (ks (kArg v (nI 1) (nI 100000)) (if kCallC F L h (ga (L (F 4 h)) i) v.toNatClampNeg then 0 else 3)) = k_call M i v ∧
    (k_call M i v = 0 → nI (F 1 (ga (L (F 4 h)) i) + v.toNatClampNeg) = r_call M i v ∧ RelG kd (up2 F 1 (ga (L (F 4 h)) i) (F 1 (ga (L (F 4 h)) i) + v.toNatClampNeg)) L h (g_call M i v) tn lo aw co ct ow) := by
  obtain ⟨hH, hT, hL, hX, hW, hU, hC, hD, hK, hS, hO, hN, hZ⟩ := G
  rcases lsnK hH.2.2.2.2.2.2.2 (hM 29 0) i with ⟨g1, g2⟩ | ⟨c, hc, -, g1, g2, g3, g4⟩
  · unfold k_call
    rw [g1, ks_l (by rw [g2]; decide), g2, if_pos rfl]
    exact ⟨rfl, fun q => by cases q⟩
  · obtain ⟨c1, c2, c3, c4⟩ := hK.1 c hc
    rcases i_in_arg (v := v) (lo := 1) (hi := 100000) (by decide) (by decide) with ⟨v1, v2⟩ | ⟨x, x1, x2, -, v1, v2, v3⟩
    · unfold k_call
      rw [g1, ks_r g2, ks_l (by rw [v2]; decide), v2, if_neg (show ¬ true = false by decide), v1, if_pos rfl]
      exact ⟨rfl, fun q => by cases q⟩
    · have h20 : M 20 (M 30 c) ≤ 1 := hM 20 _
      have hcond : kCallC F L h (ct c) x ↔ (2 ≤ m_runs M c ∧ M 31 c + x ≤ m_pr M c) := by
        show F 4 (F 0 (ct c)) = 0 ∧ kOpen F L h (F 0 (ct c)) = 0 ∧ F 1 (ct c) + x ≤ F 1 (F 2 (F 0 (ct c))) ↔ _
        rw [c3, c4, rl_open hH hW hC c2, rl_price hL hW c2, (hW _ c2).2.2.2.2.2.2.2.2.2.1]
        unfold m_runs m_pr
        by_cases q : M 20 (M 30 c) = 0
        · rw [if_pos q]
          by_cases q2 : 0 < m_oo M (M 30 c)
          · rw [if_pos q2]
            exact ⟨fun z => by omega, fun z => by omega⟩
          · rw [if_neg q2]
            exact ⟨fun z => ⟨by omega, z.2.2⟩, fun z => ⟨q, by omega, z.2⟩⟩
        · rw [if_neg q]
          exact ⟨fun z => absurd z.1 q, fun z => by omega⟩
      have ek : k_call M i v = if 2 ≤ m_runs M c ∧ M 31 c + x ≤ m_pr M c then 0 else 3 := by
        unfold k_call
        rw [g1, v1, g3, v3, if_neg (show ¬ true = false by decide), if_neg (show ¬ true = false by decide)]
      refine ⟨?_, fun e => ?_⟩
      · rw [ek, ks_r g2, ks_r v2, g4, v3]
        by_cases q : kCallC F L h (ct c) x
        · rw [if_pos q, if_pos (hcond.mp q)]
        · rw [if_neg q, if_neg (fun z => q (hcond.mpr z))]
      · have eg : g_call M i v = mu M 31 c (M 31 c + x) := by
          unfold g_call
          rw [if_pos e, g3, v3]
        rw [g4, v3, eg]
        refine ⟨?_, ?_⟩
        · unfold r_call
          rw [if_pos e, g3, v3, c4]
        have hs : SmK kd F L kd (up2 F 1 (ct c) (F 1 (ct c) + x)) L [2, 3, 4, 5, 7, 8, 9, 11, 22, 23, 24, 25, 26, 27, 28] := SmK.pu2 c1 (by decide)
        have m : ∀ f, f ∉ [31] → mu M 31 c (M 31 c + x) f = M f := fun f hf => mu_nf _ (fun q => hf (by rw [q]; decide))
        refine ⟨hH.congr hWF hs (by decide) (by decide) (by decide) (by decide) (by decide) (by decide) (m 1 (by decide)) (m 2 (by decide)) (m 3 (by decide)) (m 16 (by decide)) (m 22 (by decide)) (m 29 (by decide)), hT.congr hWF hs (by decide) (by decide) (m 3 (by decide)) (m 4 (by decide)) (m 5 (by decide)) (m 6 (by decide)) (m 7 (by decide)) (m 8 (by decide)), hL.congr hWF hs (by decide) (by decide) (by decide) (by decide) (by decide) (m 1 (by decide)) (m 3 (by decide)) (m 4 (by decide)) (m 8 (by decide)) (m 9 (by decide)) (m 10 (by decide)) (m 11 (by decide)) (m 12 (by decide)) (m 13 (by decide)) (m 14 (by decide)) (by rw [m 15 (by decide)]; exact Nat.le_refl _), hX.congr (m 1 (by decide)) (m 3 (by decide)) (m 4 (by decide)) (m 8 (by decide)) (m 10 (by decide)) (m 13 (by decide)) (m 14 (by decide)), hW.congr hWF hs (by decide) (by decide) (by decide) (by decide) (m 1 (by decide)) (m 3 (by decide)) (m 4 (by decide)) (m 7 (by decide)) (m 8 (by decide)) (m 16 (by decide)) (m 17 (by decide)) (m 18 (by decide)) (m 19 (by decide)) (m 20 (by decide)) (m 21 (by decide)), hU.congr (m 13 (by decide)) (m 16 (by decide)) (m 17 (by decide)) (m 18 (by decide)) (m 20 (by decide)), hC.congr hs (by decide) (fun _ _ => rfl) (by rw [m 16 (by decide)]; exact Nat.le_refl _) (m 22 (by decide)) (m 23 (by decide)) (m 24 (by decide)) (m 25 (by decide)) (m 26 (by decide)) (m 27 (by decide)) (m 28 (by decide)), hD.congr (m 10 (by decide)) (m 13 (by decide)) (m 17 (by decide)) (m 20 (by decide)) (m 22 (by decide)) (m 23 (by decide)) (m 24 (by decide)) (m 25 (by decide)) (m 26 (by decide)), ⟨fun d hd => ?_, by rw [m 29 (by decide)]; exact hK.2⟩, hS.congr (m 16 (by decide)) (m 21 (by decide)) (m 29 (by decide)) (m 30 (by decide)), hO.congr hW hWF hs (by decide) (by decide) (by decide) (m 16 (by decide)) (m 20 (by decide)) (m 32 (by decide)), hN.congr hL hWF hs (by decide) (by decide) (m 3 (by decide)) (m 8 (by decide)) (m 16 (by decide)) (m 17 (by decide)) (m 20 (by decide)), ?_⟩
        · rw [m 29 (by decide)] at hd
          rw [m 16 (by decide), m 30 (by decide)]
          obtain ⟨d1, d2, d3, d4⟩ := hK.1 d hd
          by_cases hdc : d = c
          · subst hdc
            exact ⟨d1, d2, by rw [up2_nf (by decide)]; exact d3, by rw [up2_eq, mu_z, d4]⟩
          · have hne : ct d ≠ ct c := fun q => hdc (hK.2 d c hd hc q)
            exact ⟨d1, d2, by rw [up2_ne hne]; exact d3, by rw [up2_ne hne, mu_zn hdc]; exact d4⟩
        · refine ⟨?_, ?_, fun d hd => ?_⟩
          · rw [m 22 (by decide), m 26 (by decide), m 27 (by decide), m 28 (by decide)]; exact hZ.1
          · rw [m 16 (by decide), m 20 (by decide), m 21 (by decide)]; exact hZ.2.1
          · rw [m 29 (by decide)] at hd
            rw [mu_zn (by omega)]
            exact hZ.2.2 d hd
/-- a complaint is dismissed -/
theorem u_dism (hM : MI M) (hWF : WF kd F L) (G : RelG kd F L h M tn lo aw co ct ow) {c : Nat} (hc : c < M 22 0) : RelG kd (up2 (up2 F 3 (co c) 2) 4 (co c) (F 5 h)) L h (mu (mu M 26 c 2) 27 c (M 1 0)) tn lo aw co ct ow := by
  obtain ⟨c1, c2, c3, c4, c5, c6, c7, c8⟩ := G.2.2.2.2.2.2.1.1 c hc
  refine G.com hWF (v3 := 2) (v4 := M 1 0) (v5 := M 28 c) hc (fun b f hb => by rw [up2_ne hb, up2_ne hb]) (by rw [up2_nf (by decide), up2_nf (by decide)]) (by rw [up2_nf (by decide), up2_nf (by decide)]) (by rw [up2_nf (by decide), up2_nf (by decide)]) (by rw [up2_nf (by decide), up2_eq]) (by rw [up2_eq, G.1.2.2.1]) (by rw [up2_nf (by decide), up2_nf (by decide)]; exact c8) (fun q => by cases q) (fun f h1 h2 h3 => by rw [mu_nf _ h2, mu_nf _ h1]) ?_ ?_ ?_
  · rw [mu_nf _ (by decide), mu_f]
  · rw [mu_f, mu_nf _ (by decide)]
  · rw [mu_nf _ (by decide), mu_nf _ (by decide)]
    funext d
    by_cases hd : d = c
    · rw [if_pos hd, hd]
    · rw [if_neg hd]
theorem u_sign (hM : MI M) (hWF : WF kd F L) (G : RelG kd F L h M tn lo aw co ct ow) (i : Int32) : w13 (ks (kIx i (L (F 2 h)).length) (if kFin F L h (ga (L (F 2 h)) i) ∧ F 5 (ga (L (F 2 h)) i) = 0 then 0 else 3)) = k_sign M i ∧
    (k_sign M i = 0 → nI (L (F 4 h)).length = r_sign M i ∧ ∀ q, kd q = 0 → RelG (kdN kd q 6) (FN (up2 F 5 (ga (L (F 2 h)) i) 1) q [ga (L (F 2 h)) i, 0]) (upL L (F 4 h) (L (F 4 h) ++ [q])) h (g_sign M i) tn lo aw co (fpush ct (M 29 0) q) ow) := by
  obtain ⟨hH, hT, hL, hX, hW, hU, hC, hD, hK, hS, hO, hN, hZ⟩ := G
  rcases lsnK hH.2.2.2.2.2.1 (hM 16 0) i with ⟨g1, g2⟩ | ⟨a, ha, -, g1, g2, g3, g4⟩
  · unfold k_sign
    rw [g1, ks_l (by rw [g2]; decide), g2, if_pos rfl]
    exact ⟨rfl, fun q => by cases q⟩
  · obtain ⟨w1, w2, w3, w4, w5, w6, w7, w8, w9, w10, w11⟩ := hW a ha
    have hcond : (kFin F L h (aw a) ∧ F 5 (aw a) = 0) ↔ (m_fn M a = true ∧ M 21 a = 0) := by
      rw [rl_fin hH hW hC ha, w11]
    have ek : k_sign M i = if m_fn M a = true ∧ M 21 a = 0 then 0 else 2 := by
      unfold k_sign
      rw [g1, g3, if_neg (show ¬ true = false by decide)]
    refine ⟨?_, fun e => ?_⟩
    · rw [ek, ks_r g2, g4]
      by_cases q : kFin F L h (aw a) ∧ F 5 (aw a) = 0
      · rw [if_pos q, if_pos (hcond.mp q)]; rfl
      · rw [if_neg q, if_neg (fun z => q (hcond.mpr z))]; rfl
    · have q21 : M 21 a = 0 := by
        rw [ek] at e
        by_cases q : m_fn M a = true ∧ M 21 a = 0
        · exact q.2
        · rw [if_neg q] at e; cases e
      have eg : g_sign M i = mu (mu (mu M 30 (M 29 0) a) 29 0 (M 29 0 + 1)) 21 a (M 29 0 + 1) := by
        unfold g_sign
        rw [if_pos e, g3]
      have el : L (F 4 h) = lsn ct (M 29 0) := hH.2.2.2.2.2.2.2
      refine ⟨by unfold r_sign; rw [if_pos e, el, lsn_len], fun q hq => ?_⟩
      rw [g4, eg]
      have k4 : kd (F 4 h) = 26 := hWF.ref hH.1 rfl (by decide)
      have hs : SmK kd F L (kdN kd q 6) (FN (up2 F 5 (aw a) 1) q [aw a, 0]) (upL L (F 4 h) (L (F 4 h) ++ [q])) [3, 4, 5, 6, 7, 8, 9, 11, 22, 23, 24, 25, 27, 28] := ((SmK.pu2 w1 (by decide)).trans (SmK.puL k4 (by decide))).trans (SmK.new hq (by decide))
      have m : ∀ f, f ∉ [21, 29, 30] → mu (mu (mu M 30 (M 29 0) a) 29 0 (M 29 0 + 1)) 21 a (M 29 0 + 1) f = M f := fun f hf => by
        rw [mu_nf _ (fun z => hf (by rw [z]; decide)), mu_nf _ (fun z => hf (by rw [z]; decide)), mu_nf _ (fun z => hf (by rw [z]; decide))]
      have m29 : mu (mu (mu M 30 (M 29 0) a) 29 0 (M 29 0 + 1)) 21 a (M 29 0 + 1) 29 0 = M 29 0 + 1 := by rw [mu_nf _ (by decide), mu_z]
      have m30 : ∀ c, mu (mu (mu M 30 (M 29 0) a) 29 0 (M 29 0 + 1)) 21 a (M 29 0 + 1) 30 c = if c = M 29 0 then a else M 30 c := fun c => by rw [mu_nf _ (by decide), mu_nf _ (by decide), mu_at]
      have m21 : ∀ c, mu (mu (mu M 30 (M 29 0) a) 29 0 (M 29 0 + 1)) 21 a (M 29 0 + 1) 21 c = if c = a then M 29 0 + 1 else M 21 c := fun c => mu_at
      -- awards: the fields but 5 are as they were
      have hwf : ∀ b, b < M 16 0 → ∀ f, f ≠ 5 → FN (up2 F 5 (aw a) 1) q [aw a, 0] f (aw b) = F f (aw b) := fun b hb f hf => by rw [FN_ne (ne_q hq (hW b hb).1 (by decide)), up2_nf hf]
      have hw5 : ∀ b, b < M 16 0 → FN (up2 F 5 (aw a) 1) q [aw a, 0] 5 (aw b) = if b = a then 1 else F 5 (aw b) := fun b hb => by
        rw [FN_ne (ne_q hq (hW b hb).1 (by decide))]
        by_cases hba : b = a
        · rw [if_pos hba, hba, up2_eq]
        · rw [if_neg hba, up2_ne (fun z => hba (aw_inj hW hb ha z))]
      have hW2 : RelW (kdN kd q 6) (FN (up2 F 5 (aw a) 1) q [aw a, 0]) (upL L (F 4 h) (L (F 4 h) ++ [q])) (mu (mu (mu M 30 (M 29 0) a) 29 0 (M 29 0 + 1)) 21 a (M 29 0 + 1)) lo aw := by
        intro b hb
        rw [m 16 (by decide)] at hb
        obtain ⟨b1, b2, b3, b4, b5, b6, b7, b8, b9, b10, b11⟩ := hW b hb
        have kl : kd (F 1 (aw b)) = 7 := hWF.ref b1 rfl (by decide)
        have kb : kd (F 2 (aw b)) = 3 := hWF.ref b1 rfl (by decide)
        have k3 : kd (F 3 (F 1 (aw b))) = 23 := hWF.ref kl rfl (by decide)
        rw [hwf b hb 0 (by decide), hwf b hb 1 (by decide), hwf b hb 2 (by decide), hwf b hb 3 (by decide), hwf b hb 4 (by decide), hw5 b hb, (hs.at kl (by decide)).2.1, (hs.at k3 (by decide)).2.2, (hs.at kb (by decide)).2.1, m 17 (by decide), m 3 (by decide), m 8 (by decide), m_op_cong (m 4 (by decide)) (m 1 (by decide)), m 18 (by decide), m_su_cong (m 19 (by decide)) (m 7 (by decide)) (m 17 (by decide)), m 20 (by decide), m21]
        refine ⟨by rw [kdN_ne (ne_q hq b1 (by decide))]; exact b1, b2, b3, b4, b5, b6, b7, b8, b9, b10, ?_⟩
        by_cases hba : b = a
        · rw [if_pos hba, if_pos hba]; exact ⟨fun z => (by cases z), fun z => (by omega)⟩
        · rw [if_neg hba, if_neg hba]; exact b11
      refine ⟨hH.mk2 hs (by decide) (by decide) (m 1 (by decide)) (m 2 (by decide)) ?_ ?_ ?_ ?_, hT.congr hWF hs (by decide) (by decide) (m 3 (by decide)) (m 4 (by decide)) (m 5 (by decide)) (m 6 (by decide)) (m 7 (by decide)) (m 8 (by decide)), hL.congr hWF hs (by decide) (by decide) (by decide) (by decide) (by decide) (m 1 (by decide)) (m 3 (by decide)) (m 4 (by decide)) (m 8 (by decide)) (m 9 (by decide)) (m 10 (by decide)) (m 11 (by decide)) (m 12 (by decide)) (m 13 (by decide)) (m 14 (by decide)) (by rw [m 15 (by decide)]; exact Nat.le_refl _), hX.congr (m 1 (by decide)) (m 3 (by decide)) (m 4 (by decide)) (m 8 (by decide)) (m 10 (by decide)) (m 13 (by decide)) (m 14 (by decide)), hW2, hU.congr (m 13 (by decide)) (m 16 (by decide)) (m 17 (by decide)) (m 18 (by decide)) (m 20 (by decide)), hC.congr hs (by decide) (fun _ _ => rfl) (by rw [m 16 (by decide)]; exact Nat.le_refl _) (m 22 (by decide)) (m 23 (by decide)) (m 24 (by decide)) (m 25 (by decide)) (m 26 (by decide)) (m 27 (by decide)) (m 28 (by decide)), hD.congr (m 10 (by decide)) (m 13 (by decide)) (m 17 (by decide)) (m 20 (by decide)) (m 22 (by decide)) (m 23 (by decide)) (m 24 (by decide)) (m 25 (by decide)) (m 26 (by decide)), ⟨fun c hc => ?_, fun c d hc hd => ?_⟩, ⟨fun b hb => ?_, ?_⟩, ?_, hN.congr hL hWF hs (by decide) (by decide) (m 3 (by decide)) (m 8 (by decide)) (m 16 (by decide)) (m 17 (by decide)) (m 20 (by decide)), ?_⟩
      · rw [(hs.at (hWF.ref hH.1 rfl (by decide) : kd (F 1 h) = 28) (by decide)).2.2, m 3 (by decide)]; exact hH.2.2.2.2.1
      · rw [(hs.at (hWF.ref hH.1 rfl (by decide) : kd (F 2 h) = 22) (by decide)).2.2, m 16 (by decide)]; exact hH.2.2.2.2.2.1
      · rw [(hs.at (hWF.ref hH.1 rfl (by decide) : kd (F 3 h) = 25) (by decide)).2.2, m 22 (by decide)]; exact hH.2.2.2.2.2.2.1
      · rw [upL_eq, el, m29, lsn_push]
      · rw [m29] at hc
        rw [m30, m 31 (by decide), m 16 (by decide)]
        by_cases hcn : c = M 29 0
        · rw [hcn, fpush_eq, if_pos rfl]
          exact ⟨kdN_eq, ha, if_pos rfl, by rw [hZ.2.2 _ (Nat.le_refl _)]; exact if_pos rfl⟩
        · obtain ⟨d1, d2, d3, d4⟩ := hK.1 c (by omega)
          rw [fpush_ne hcn, if_neg hcn, (hs.at d1 (by decide)).1, (hs.at d1 (by decide)).2.1, (hs.at d1 (by decide)).2.1]
          exact ⟨rfl, d2, d3, d4⟩
      · rw [m29] at hc hd
        intro e9
        by_cases hcn : c = M 29 0
        · by_cases hdn : d = M 29 0
          · rw [hcn, hdn]
          · rw [hcn, fpush_eq, fpush_ne hdn] at e9
            have := (hK.1 d (by omega)).1
            rw [← e9, hq] at this; cases this
        · by_cases hdn : d = M 29 0
          · rw [hdn, fpush_eq, fpush_ne hcn] at e9
            have := (hK.1 c (by omega)).1
            rw [e9, hq] at this; cases this
          · rw [fpush_ne hcn, fpush_ne hdn] at e9
            exact hK.2 c d (by omega) (by omega) e9
      · rw [m 16 (by decide)] at hb
        rw [m21, m29]
        by_cases hba : b = a
        · rw [if_pos hba]
          exact ⟨fun _ => ⟨M 29 0, by omega, by rw [m30, if_pos rfl, hba]⟩, fun _ => by omega⟩
        · rw [if_neg hba, hS.1 b hb]
          constructor
          · rintro ⟨c, c1, c2⟩
            exact ⟨c, by omega, by rw [m30, if_neg (by omega)]; exact c2⟩
          · rintro ⟨c, c1, c2⟩
            rw [m30] at c2
            by_cases hcn : c = M 29 0
            · rw [if_pos hcn] at c2; exact absurd c2.symm hba
            · rw [if_neg hcn] at c2; exact ⟨c, by omega, c2⟩
      · rw [m29, m 16 (by decide)]
        have hc1 := cn_one (P := fun b => M 21 b ≠ 0) (Q := fun b => mu (mu (mu M 30 (M 29 0) a) 29 0 (M 29 0 + 1)) 21 a (M 29 0 + 1) 21 b ≠ 0) (n := M 16 0) (k := a) (fun b hb hne => by rw [m21, if_neg hne]) ha (fun z => z q21)
        rw [hc1, if_pos (by rw [m21, if_pos rfl]; omega), ← hS.2]
      · refine ⟨fun b hb => ?_, fun j hj h0 => by rw [m 16 (by decide)] at hj; rw [m 20 (by decide)] at h0; rw [hwf j hj 6 (by decide)]; exact hO.2 j hj h0⟩
        rw [m 32 (by decide), m 16 (by decide), hO.1 b hb]
        refine sm_congr (fun j hj => ?_)
        have r1 := (hW j hj).1
        have kl : kd (F 1 (aw j)) = 7 := hWF.ref r1 rfl (by decide)
        have kb : kd (F 2 (aw j)) = 3 := hWF.ref r1 rfl (by decide)
        unfold losts
        rw [hwf j hj 6 (by decide), hwf j hj 2 (by decide), hwf j hj 1 (by decide), (hs.at kb (by decide)).2.1, (hs.at kl (by decide)).2.1]
      · refine ⟨?_, fun b hb => ?_, fun d hd => ?_⟩
        · rw [m 22 (by decide), m 26 (by decide), m 27 (by decide), m 28 (by decide)]; exact hZ.1
        · rw [m 16 (by decide)] at hb
          rw [m 20 (by decide), m21, if_neg (by omega)]; exact hZ.2.1 b hb
        · rw [m29] at hd
          rw [m 31 (by decide)]; exact hZ.2.2 d (by omega)
/-- an award that can be signed leaves room for a contract -/
theorem sign_room (hM : MI M) (hS : RelS M) {a : Nat} (ha : a < M 16 0) (h21 : M 21 a = 0) : M 29 0 < 60 := by
  have h16 : M 16 0 ≤ 60 := hM 16 0
  have h1 := cn_lt (P := fun b => M 21 b ≠ 0) (Q := fun _ => True) (n := M 16 0) (k := a) (fun _ _ _ => trivial) ha trivial (fun z => z h21)
  have h2 := cn_le (fun _ => True) (M 16 0)
  rw [hS.2]
  omega
end UP
