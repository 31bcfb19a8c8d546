/-! changes: appeal, call, a dismissal, sign, complain, paper -/
def w13 (k : Nat) : Nat := if k = 3 then 2 else k
def w23 (k : Nat) : Nat := if k = 2 then 1 else if k = 3 then 2 else k
theorem mu_at {M : MS} {f i v j : Nat} : mu M f i v f j = if j = i then v else M f j := by rw [mu_f]
theorem mu_z {M : MS} {f i v : Nat} : mu M f i v f i = v := by rw [mu_f]; exact if_pos rfl
theorem mu_zn {M : MS} {f i v j : Nat} (h : j ≠ i) : mu M f i v f j = M f j := by rw [mu_f]; exact if_neg h
section UP
variable {kd kd2 : Nat → Nat} {F F2 : Nat → Nat → Nat} {L L2 : Nat → List Nat} {S : List Nat} {h : Nat} {M M2 : MS} {tn tn2 : Nat → Nat} {lo : Nat → Nat → Nat} {aw aw2 co co2 ct ct2 ow : Nat → Nat}
theorem RelH.mk2 (hR : RelH kd F L h M tn aw co ct) (hs : SmK kd F L kd2 F2 L2 S) (h9 : 9 ∈ S) (h11 : 11 ∈ S) (e1 : M2 1 = M 1) (e2 : M2 2 = M 2) (l1 : L2 (F 1 h) = lsn tn2 (M2 3 0)) (l2 : L2 (F 2 h) = lsn aw2 (M2 16 0)) (l3 : L2 (F 3 h) = lsn co2 (M2 22 0)) (l4 : L2 (F 4 h) = lsn ct2 (M2 29 0)) : RelH kd2 F2 L2 h M2 tn2 aw2 co2 ct2 := by
  obtain ⟨r1, r2, r3, r4, -⟩ := hR
  obtain ⟨s1, s2, -⟩ := hs.at r1 h9
  unfold RelH
  rw [s2, s2, s2, s2, s2, s2, e1, e2]
  exact ⟨s1, (hs.at r2 h11).1, r3, fun i hi => by rw [(hs.at r2 h11).2.1]; exact r4 i hi, l1, l2, l3, l4⟩
theorem RelC.upd (hR : RelC kd F M aw co) {c : Nat} (hc : c < M 22 0) (hF : ∀ b f, b ≠ co c → F2 f b = F f b) (e16 : M2 16 = M 16) (e22 : M2 22 = M 22) (e23 : M2 23 = M 23) (e24 : M2 24 = M 24) (e25 : M2 25 = M 25) (e26 : ∀ d, d ≠ c → M2 26 d = M 26 d) (e27 : ∀ d, d ≠ c → M2 27 d = M 27 d) (e28 : ∀ d, d ≠ c → M2 28 d = M 28 d)
    (f0 : F2 0 (co c) = F 0 (co c)) (f1 : F2 1 (co c) = F 1 (co c)) (f2 : F2 2 (co c) = F 2 (co c)) (f3 : F2 3 (co c) = M2 26 c) (f4 : F2 4 (co c) = M2 27 c) (f5 : F2 5 (co c) = M2 28 c) : RelC kd F2 M2 aw co := by
  refine ⟨fun d hd => ?_, by rw [e22]; exact hR.2⟩
  rw [e22] at hd
  obtain ⟨r1, r2, r3, r4, r5, r6, r7, r8⟩ := hR.1 d hd
  rw [e16, e23, e24, e25]
  by_cases hdc : d = c
  · subst hdc
    rw [f0, f1, f2]
    exact ⟨r1, r2, r3, r4, r5, f3, f4, f5⟩
  · have hne : co d ≠ co c := fun q => hdc (hR.2 d c hd hc q)
    rw [hF _ _ hne, hF _ _ hne, hF _ _ hne, hF _ _ hne, hF _ _ hne, hF _ _ hne, e26 d hdc, e27 d hdc, e28 d hdc]
    exact ⟨r1, r2, r3, r4, r5, r6, r7, r8⟩
theorem RelZ.congr (hR : RelZ M) (e16 : M2 16 = M 16) (e20 : M2 20 = M 20) (e21 : M2 21 = M 21) (e22 : M2 22 = M 22) (e26 : M2 26 = M 26) (e27 : M2 27 = M 27) (e28 : M2 28 = M 28) (e29 : M2 29 = M 29) (e31 : M2 31 = M 31) : RelZ M2 := by
  unfold RelZ
  rw [e16, e20, e21, e22, e26, e27, e28, e29, e31]
  exact hR
/-- a change of one complaint -/
theorem RelG.com (G : RelG kd F L h M tn lo aw co ct ow) (hWF : WF kd F L) {c v3 v4 v5 : Nat} (hc : c < M 22 0) (hF : ∀ b f, b ≠ co c → F2 f b = F f b) (f0 : F2 0 (co c) = F 0 (co c)) (f1 : F2 1 (co c) = F 1 (co c)) (f2 : F2 2 (co c) = F 2 (co c)) (f3 : F2 3 (co c) = v3) (f4 : F2 4 (co c) = v4) (f5 : F2 5 (co c) = v5) (h0 : v3 = 0 → M 20 (M 23 c) = 0)
    (hMf : ∀ f, f ≠ 26 → f ≠ 27 → f ≠ 28 → M2 f = M f) (e26 : M2 26 = fun d => if d = c then v3 else M 26 d) (e27 : M2 27 = fun d => if d = c then v4 else M 27 d) (e28 : M2 28 = fun d => if d = c then v5 else M 28 d) : RelG kd F2 L h M2 tn lo aw co ct ow := by
  obtain ⟨hH, hT, hL, hX, hW, hU, hC, hD, hK, hS, hO, hN, hZ⟩ := G
  have kc := (hC.1 c hc).1
  have hs : SmK kd F L kd F2 L [2, 3, 4, 6, 7, 8, 9, 11, 22, 23, 24, 25, 26, 27, 28] := fun b hb => ⟨rfl, fun f => hF b f (fun e => by rw [e, kc] at hb; revert hb; decide), rfl⟩
  have m := fun f h1 h2 h3 => hMf f h1 h2 h3
  refine ⟨hH.congr hWF hs (by decide) (by decide) (by decide) (by decide) (by decide) (by decide) (m 1 (by decide) (by decide) (by decide)) (m 2 (by decide) (by decide) (by decide)) (m 3 (by decide) (by decide) (by decide)) (m 16 (by decide) (by decide) (by decide)) (m 22 (by decide) (by decide) (by decide)) (m 29 (by decide) (by decide) (by decide)),
    hT.congr hWF hs (by decide) (by decide) (m 3 (by decide) (by decide) (by decide)) (m 4 (by decide) (by decide) (by decide)) (m 5 (by decide) (by decide) (by decide)) (m 6 (by decide) (by decide) (by decide)) (m 7 (by decide) (by decide) (by decide)) (m 8 (by decide) (by decide) (by decide)),
    hL.congr hWF hs (by decide) (by decide) (by decide) (by decide) (by decide) (m 1 (by decide) (by decide) (by decide)) (m 3 (by decide) (by decide) (by decide)) (m 4 (by decide) (by decide) (by decide)) (m 8 (by decide) (by decide) (by decide)) (m 9 (by decide) (by decide) (by decide)) (m 10 (by decide) (by decide) (by decide)) (m 11 (by decide) (by decide) (by decide)) (m 12 (by decide) (by decide) (by decide)) (m 13 (by decide) (by decide) (by decide)) (m 14 (by decide) (by decide) (by decide)) (by rw [m 15 (by decide) (by decide) (by decide)]; exact Nat.le_refl _),
    hX.congr (m 1 (by decide) (by decide) (by decide)) (m 3 (by decide) (by decide) (by decide)) (m 4 (by decide) (by decide) (by decide)) (m 8 (by decide) (by decide) (by decide)) (m 10 (by decide) (by decide) (by decide)) (m 13 (by decide) (by decide) (by decide)) (m 14 (by decide) (by decide) (by decide)),
    hW.congr hWF hs (by decide) (by decide) (by decide) (by decide) (m 1 (by decide) (by decide) (by decide)) (m 3 (by decide) (by decide) (by decide)) (m 4 (by decide) (by decide) (by decide)) (m 7 (by decide) (by decide) (by decide)) (m 8 (by decide) (by decide) (by decide)) (m 16 (by decide) (by decide) (by decide)) (m 17 (by decide) (by decide) (by decide)) (m 18 (by decide) (by decide) (by decide)) (m 19 (by decide) (by decide) (by decide)) (m 20 (by decide) (by decide) (by decide)) (m 21 (by decide) (by decide) (by decide)),
    hU.congr (m 13 (by decide) (by decide) (by decide)) (m 16 (by decide) (by decide) (by decide)) (m 17 (by decide) (by decide) (by decide)) (m 18 (by decide) (by decide) (by decide)) (m 20 (by decide) (by decide) (by decide)),
    hC.upd hc hF (m 16 (by decide) (by decide) (by decide)) (m 22 (by decide) (by decide) (by decide)) (m 23 (by decide) (by decide) (by decide)) (m 24 (by decide) (by decide) (by decide)) (m 25 (by decide) (by decide) (by decide)) (fun d hd => by rw [e26]; exact if_neg hd) (fun d hd => by rw [e27]; exact if_neg hd) (fun d hd => by rw [e28]; exact if_neg hd) f0 f1 f2 (by rw [f3, e26]; exact (if_pos rfl).symm) (by rw [f4, e27]; exact (if_pos rfl).symm) (by rw [f5, e28]; exact (if_pos rfl).symm),
    fun d hd => ?_,
    hK.congr hs (by decide) (fun _ _ => rfl) (by rw [m 16 (by decide) (by decide) (by decide)]; exact Nat.le_refl _) (m 29 (by decide) (by decide) (by decide)) (m 30 (by decide) (by decide) (by decide)) (m 31 (by decide) (by decide) (by decide)),
    hS.congr (m 16 (by decide) (by decide) (by decide)) (m 21 (by decide) (by decide) (by decide)) (m 29 (by decide) (by decide) (by decide)) (m 30 (by decide) (by decide) (by decide)),
    hO.congr hW hWF hs (by decide) (by decide) (by decide) (m 16 (by decide) (by decide) (by decide)) (m 20 (by decide) (by decide) (by decide)) (m 32 (by decide) (by decide) (by decide)),
    hN.congr hL hWF hs (by decide) (by decide) (m 3 (by decide) (by decide) (by decide)) (m 8 (by decide) (by decide) (by decide)) (m 16 (by decide) (by decide) (by decide)) (m 17 (by decide) (by decide) (by decide)) (m 20 (by decide) (by decide) (by decide)),
    fun d hd => ?_, ?_, ?_⟩
  · rw [m 22 (by decide) (by decide) (by decide)] at hd
    rw [m 20 (by decide) (by decide) (by decide), m 23 (by decide) (by decide) (by decide), m 25 (by decide) (by decide) (by decide), m 13 (by decide) (by decide) (by decide), m 17 (by decide) (by decide) (by decide), m 24 (by decide) (by decide) (by decide), m 10 (by decide) (by decide) (by decide)]
    refine ⟨fun q => ?_, (hD d hd).2⟩
    rw [e26] at q
    by_cases hdc : d = c
    · subst hdc
      exact h0 ((if_pos rfl).symm.trans q)
    · exact (hD d hd).1 ((if_neg hdc).symm.trans q)
  · rw [m 22 (by decide) (by decide) (by decide)] at hd
    have hdc : d ≠ c := by omega
    rw [e26, e27, e28]
    show (if d = c then v3 else M 26 d) = 0 ∧ (if d = c then v4 else M 27 d) = 0 ∧ (if d = c then v5 else M 28 d) = 0
    rw [if_neg hdc, if_neg hdc, if_neg hdc]
    exact hZ.1 d hd
  · rw [m 16 (by decide) (by decide) (by decide), m 20 (by decide) (by decide) (by decide), m 21 (by decide) (by decide) (by decide)]
    exact hZ.2.1
  · rw [m 29 (by decide) (by decide) (by decide), m 31 (by decide) (by decide) (by decide)]
    exact hZ.2.2
theorem i_in_arg {v : Int32} {lo hi : Nat} (hl : lo < 2 ^ 31) (hh : hi < 2 ^ 31) : (i_in v (nI lo) (nI hi) = false ∧ kArg v (nI lo) (nI hi) = 2) ∨ ∃ x : Nat, lo ≤ x ∧ x ≤ hi ∧ v = nI x ∧ i_in v (nI lo) (nI hi) = true ∧ kArg v (nI lo) (nI hi) = 0 ∧ v.toNatClampNeg = x := by
  by_cases q : v < nI lo ∨ nI hi < v
  · left
    refine ⟨?_, if_pos q⟩
    unfold i_in
    rcases q with q | q
    · rw [decide_eq_true q]; rfl
    · rw [decide_eq_true q]; simp
  · right
    obtain ⟨x, h1, h2, h3⟩ := out_nat hl hh q
    refine ⟨x, h1, h2, h3, ?_, if_neg q, by rw [h3, nI_clamp (by omega)]⟩
    unfold i_in
    have := not_or.mp q
    rw [decide_eq_false this.1, decide_eq_false this.2]; rfl
theorem u_appeal (hM : MI M) (hWF : WF kd F L) (G : RelG kd F L h M tn lo aw co ct ow) (i : Int32) : w13 (ks (kIx i (L (F 3 h)).length) (if kAppC F h (ga (L (F 3 h)) i) then 0 else 3)) = k_appeal M i ∧
    (k_appeal M i = 0 → nI (kOpen (gApp F (ga (L (F 3 h)) i)) L h (F 1 (ga (L (F 3 h)) i))) = r_appeal M i ∧ RelG kd (gApp F (ga (L (F 3 h)) i)) L h (g_appeal M i) tn lo aw co ct ow) := by
  have G0 := G
  obtain ⟨hH, hT, hL, hX, hW, hU, hC, hD, hK, hS, hO, hN, hZ⟩ := G
  rcases lsnK hH.2.2.2.2.2.2.1 (hM 22 0) i with ⟨g1, g2⟩ | ⟨c, hc, -, g1, g2, g3, g4⟩
  · unfold k_appeal
    rw [g1, ks_l (by rw [g2]; decide), g2, if_pos rfl]
    exact ⟨rfl, fun q => by cases q⟩
  · obtain ⟨c1, c2, c3, c4, c5, c6, c7, c8⟩ := hC.1 c hc
    have hcond : kAppC F h (co c) ↔ (M 26 c = 2 ∧ M 28 c = 0 ∧ M 1 0 ≤ 10 + M 27 c ∧ M 20 (M 23 c) = 0) := by
      show F 3 (co c) = 2 ∧ F 5 (co c) = 0 ∧ F 5 h ≤ F 4 (co c) + 10 ∧ F 4 (F 1 (co c)) = 0 ↔ _
      rw [c6, c7, c8, c4, (hW _ c3).2.2.2.2.2.2.2.2.2.1, hH.2.2.1]
      constructor
      · rintro ⟨q1, q2, q3, q4⟩; exact ⟨q1, q2, by omega, q4⟩
      · rintro ⟨q1, q2, q3, q4⟩; exact ⟨q1, q2, by omega, q4⟩
    have ek : k_appeal M i = if M 26 c = 2 ∧ M 28 c = 0 ∧ M 1 0 ≤ 10 + M 27 c ∧ M 20 (M 23 c) = 0 then 0 else 2 := by
      unfold k_appeal
      rw [g1, g3, if_neg (show ¬ true = false by decide)]
    have ek2 : w13 (ks (kIx i (L (F 3 h)).length) (if kAppC F h (ga (L (F 3 h)) i) then 0 else 3)) = k_appeal M i := by
      rw [ek, ks_r g2, g4]
      by_cases q : kAppC F h (co c)
      · rw [if_pos q, if_pos (hcond.mp q)]; rfl
      · rw [if_neg q, if_neg (fun z => q (hcond.mpr z))]; rfl
    refine ⟨ek2, fun e => ?_⟩
    have q : M 26 c = 2 ∧ M 28 c = 0 ∧ M 1 0 ≤ 10 + M 27 c ∧ M 20 (M 23 c) = 0 := by
      rw [ek] at e
      by_cases q : M 26 c = 2 ∧ M 28 c = 0 ∧ M 1 0 ≤ 10 + M 27 c ∧ M 20 (M 23 c) = 0
      · exact q
      · rw [if_neg q] at e; cases e
    have eg : g_appeal M i = mu (mu M 26 c 0) 28 c 1 := by
      unfold g_appeal
      rw [if_pos e, g3]
    rw [g4]
    have G2 : RelG kd (gApp F (co c)) L h (g_appeal M i) tn lo aw co ct ow := by
      rw [eg]
      show RelG kd (up2 (up2 F 3 (co c) 0) 5 (co c) 1) L h _ tn lo aw co ct ow
      refine G0.com hWF (v3 := 0) (v4 := M 27 c) (v5 := 1) hc (fun b f hb => by rw [up2_ne hb, up2_ne hb]) (by rw [up2_nf (by decide), up2_nf (by decide)]) (by rw [up2_nf (by decide), up2_nf (by decide)]) (by rw [up2_nf (by decide), up2_nf (by decide)]) (by rw [up2_nf (by decide), up2_eq]) (by rw [up2_nf (by decide), up2_nf (by decide)]; exact c7) up2_eq (fun _ => q.2.2.2) (fun f h1 h2 h3 => by rw [mu_nf _ h3, mu_nf _ h1]) ?_ ?_ ?_
      · rw [mu_nf _ (by decide), mu_f]
      · rw [mu_nf _ (by decide), mu_nf _ (by decide)]
        funext d
        by_cases hd : d = c
        · rw [if_pos hd, hd]
        · rw [if_neg hd]
      · rw [mu_f, mu_nf _ (by decide)]
    refine ⟨?_, G2⟩
    unfold r_appeal
    rw [if_pos e, g3, c4]
    obtain ⟨hH2, -, -, -, hW2, -, hC2, -⟩ := G2
    rw [rl_open hH2 hW2 hC2 (by rw [eg, mu_nf _ (by decide), mu_nf _ (by decide)]; exact c3)]
end UP
