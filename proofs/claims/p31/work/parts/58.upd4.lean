/-! changes: addTender, addLot -/
section UP
/-- the lots: one more -/
def lopush (lo : Nat → Nat → Nat) (x n q : Nat) : Nat → Nat → Nat := fun a b => if a = x ∧ b = n then q else lo a b
theorem lopush_eq {lo : Nat → Nat → Nat} {x n q : Nat} : lopush lo x n q x n = q := if_pos ⟨rfl, rfl⟩
theorem lopush_ne {lo : Nat → Nat → Nat} {x n q a b : Nat} (h : ¬ (a = x ∧ b = n)) : lopush lo x n q a b = lo a b := if_neg h
/-- the owners of lists: new ones -/
def owp (ow : Nat → Nat) (S : List Nat) (q : Nat) : Nat → Nat := fun y => if y ∈ S then q else ow y
theorem owp_in {ow : Nat → Nat} {S : List Nat} {q y : Nat} (h : y ∈ S) : owp ow S q y = q := if_pos h
theorem owp_ne {ow : Nat → Nat} {S : List Nat} {q y : Nat} (h : ¬ y ∈ S) : owp ow S q y = ow y := if_neg h
variable {kd kd2 : Nat → Nat} {F F2 : Nat → Nat → Nat} {L L2 : Nat → List Nat} {S : List Nat} {h : Nat} {M M2 : MS} {tn tn2 : Nat → Nat} {lo lo2 : Nat → Nat → Nat} {aw aw2 co co2 ct ct2 ow ow2 : Nat → Nat}
theorem RelB.owc {a g : Nat} (hR : RelB F L ow M a g) (hWF : WF kd F L) (ha : kd a = 7) (he : ∀ x, kd x ≠ 0 → ow2 x = ow x) : RelB F L ow2 M a g := by
  have k3 : kd (F 3 a) = 23 := hWF.ref ha rfl (by decide)
  refine ⟨fun o ho => ?_, hR.2⟩
  have := el_kd hWF k3 o ho
  rw [he o (by omega)]
  exact hR.1 o ho
theorem RelL.owc (hR : RelL kd F L M tn lo ow) (hWF : WF kd F L) (he : ∀ x, kd x ≠ 0 → ow2 x = ow x) : RelL kd F L M tn lo ow2 := by
  intro t k ht hk
  obtain ⟨r1, r2, r3, r4, r5, r6, r7, r8⟩ := hR t k ht hk
  have k3 : kd (F 3 (lo t k)) = 23 := hWF.ref r1 rfl (by decide)
  have k4 : kd (F 4 (lo t k)) = 24 := hWF.ref r1 rfl (by decide)
  rw [he _ (by omega), he _ (by omega)]
  exact ⟨r1, r2, r3, r4, r5, r6, r7.owc hWF r1 he, r8⟩
theorem RelT.owc (hR : RelT kd F L M tn lo ow) (hWF : WF kd F L) (he : ∀ x, kd x ≠ 0 → ow2 x = ow x) : RelT kd F L M tn lo ow2 := by
  intro t ht
  obtain ⟨r1, r2, r3, r4, r5, r6, r7, r8⟩ := hR t ht
  have k5 : kd (F 5 (tn t)) = 27 := hWF.ref r1 rfl (by decide)
  rw [he _ (by omega)]
  exact ⟨r1, r2, r3, r4, r5, r6, r7, r8⟩
theorem Ext.smk (hE : Ext kd F L kd2 F2 L2) {S : List Nat} (h0 : 0 ∉ S) : SmK kd F L kd2 F2 L2 S := fun a ha => hE a (fun e => h0 (by rw [← e]; exact ha))
theorem i_in_day {x d : Nat} (hx : x < 2 ^ 30) (hd : d < 2 ^ 30) (h2 : x ≤ 1000) : i_in (nI x) (nI (d + 1)) (nI 1000) = decide (d < x) := by
  unfold i_in
  by_cases q : d < x
  · rw [decide_eq_true q, decide_eq_false (nI_nlt (by omega) (by omega)), decide_eq_false (nI_nlt h2 (by decide))]; rfl
  · rw [decide_eq_false q, decide_eq_true (nI_lt (by omega) (by omega))]; rfl
theorem kTen (hM : MI M) (F : Nat → Nat → Nat) (L : Nat → List Nat) (h : Nat) (hd : F 5 h = M 1 0) (hl : (L (F 1 h)).length = M 3 0) (cl pa we sd : Int32) :
    (w23 (ks (kArg cl (nI 1) (nI 1000)) (ks (if cl.toNatClampNeg ≤ F 5 h then 2 else 0) (ks (kArg pa (nI 0) (nI 63)) (ks (kArg we (nI 0) (nI 100)) (ks (kArg sd (nI 0) (nI 30)) (if (L (F 1 h)).length < 6 then 0 else 3)))))) = k_addTender M cl pa we sd) ∧
    (k_addTender M cl pa we sd = 0 → M 1 0 < cl.toNatClampNeg ∧ M 3 0 < 6) := by
  have h1 : M 1 0 ≤ 2000 := hM 1 0
  have h3 : M 3 0 ≤ 6 := hM 3 0
  rw [hd, hl]
  unfold k_addTender
  rcases i_in_arg (v := cl) (lo := 1) (hi := 1000) (by decide) (by decide) with ⟨v1, v2⟩ | ⟨x, x1, x2, rfl, v1, v2, v3⟩
  · have e : i_in cl (nI (M 1 0 + 1)) (nI 1000) = false := by
      by_cases z : i_in cl (nI (M 1 0 + 1)) (nI 1000) = true
      · obtain ⟨j, j1, j2, rfl⟩ := i_in_of (by decide) z
        rw [i_in_nI (by decide) (by omega) j2] at v1
        cases v1
      · simpa using z
    rw [ks_l (by rw [v2]; decide), v2, e, Bool.false_and, Bool.false_and, Bool.false_and, if_pos rfl]
    exact ⟨rfl, fun q => by cases q⟩
  · rw [ks_r v2, v3, i_in_day (by omega) (by omega) x2]
    by_cases q : M 1 0 < x
    · rw [if_neg (by omega), ks_r rfl, decide_eq_true q, Bool.true_and]
      rcases i_in_arg (v := pa) (lo := 0) (hi := 63) (by decide) (by decide) with ⟨a1, a2⟩ | ⟨_, -, -, -, a1, a2, -⟩
      · rw [ks_l (by rw [a2]; decide), a2, a1, Bool.false_and, Bool.false_and, if_pos rfl]
        exact ⟨rfl, fun q => by cases q⟩
      · rw [ks_r a2, a1, Bool.true_and]
        rcases i_in_arg (v := we) (lo := 0) (hi := 100) (by decide) (by decide) with ⟨b1, b2⟩ | ⟨_, -, -, -, b1, b2, -⟩
        · rw [ks_l (by rw [b2]; decide), b2, b1, Bool.false_and, if_pos rfl]
          exact ⟨rfl, fun q => by cases q⟩
        · rw [ks_r b2, b1, Bool.true_and]
          rcases i_in_arg (v := sd) (lo := 0) (hi := 30) (by decide) (by decide) with ⟨c1, c2⟩ | ⟨_, -, -, -, c1, c2, -⟩
          · rw [ks_l (by rw [c2]; decide), c2, c1, if_pos rfl]
            exact ⟨rfl, fun q => by cases q⟩
          · rw [ks_r c2, c1, if_neg (show ¬ true = false by decide)]
            by_cases z : M 3 0 = 6
            · rw [if_neg (by omega), if_pos z]; exact ⟨rfl, fun q => by cases q⟩
            · rw [if_pos (by omega), if_neg z]; exact ⟨rfl, fun _ => ⟨q, by omega⟩⟩
    · rw [if_pos (by omega), ks_l (by decide), decide_eq_false q, Bool.false_and, Bool.false_and, Bool.false_and, if_pos rfl]
      exact ⟨rfl, fun q => by cases q⟩
theorem RelB.congr2 {a g : Nat} (hR : RelB F L ow M a g) (hWF : WF kd F L) (ha : kd a = 7) (hs : SmK kd F L kd2 F2 L2 S) (h7 : 7 ∈ S) (h23 : 23 ∈ S) (hk3 : 3 ∈ S) (hop : m_op M2 (g / 3) = m_op M (g / 3)) (e10 : M2 10 = M 10) (e11 : M2 11 = M 11) (e12 : M2 12 = M 12) (e13 : M2 13 = M 13) (e14 : M2 14 = M 14) (e15 : M 15 0 ≤ M2 15 0) : RelB F2 L2 ow M2 a g := by
  obtain ⟨b1, b2, b3⟩ := hR
  obtain ⟨s1, s2, -⟩ := hs.at ha h7
  have k3 : kd (F 3 a) = 23 := hWF.ref ha rfl (by decide)
  have el : L2 (F2 3 a) = L (F 3 a) := by rw [s2]; exact (hs.at k3 h23).2.2
  have ko : ∀ o ∈ L (F 3 a), ∀ f, F2 f o = F f o := fun o ho => (hs.at (el_kd hWF k3 o ho) hk3).2.1
  unfold RelB
  rw [el]
  refine ⟨fun o ho => ?_, fun b hb hp => ?_, ?_⟩
  · obtain ⟨r1, r2, r3, r4, r5, r6, r7⟩ := b1 o ho
    have ko := ko o ho
    rw [ko, ko, ko, ko, e10, e11, e12, hop]
    refine ⟨r1, r2, r3, r4, r5, ?_, by omega⟩
    rw [r6]
    unfold stt
    rw [e13, e14]
  · rw [e10] at hp
    obtain ⟨o, ho, he⟩ := b2 b hb hp
    exact ⟨o, ho, by rw [ko o ho]; exact he⟩
  · refine List.Pairwise.imp_of_mem (fun {x y} hx hy q => ?_) b3
    rw [ko x hx, ko y hy, e12]; exact q
theorem u_addTender (hM : MI M) (hWF : WF kd F L) (G : RelG kd F L h M tn lo aw co ct ow) (cl pa we sd : Int32) (e : k_addTender M cl pa we sd = 0) {q r : Nat} (hq : kd q = 0) (hr : kd r = 0) (hqr : q ≠ r) :
    RelG (kdN (kdN kd r 27) q 8) (FN F q [(L (F 1 h)).length, cl.toNatClampNeg, pa.toNatClampNeg, we.toNatClampNeg, sd.toNatClampNeg, r]) (upL (upL L r []) (F 1 h) ((upL L r []) (F 1 h) ++ [q])) h (g_addTender M cl pa we sd) (fpush tn (M 3 0) q) lo aw co ct (owp ow [r] q) := by
  obtain ⟨hH, hT, hL, hX, hW, hU, hC, hD, hK, hS, hO, hN, hZ⟩ := G
  have e1 : L (F 1 h) = lsn tn (M 3 0) := hH.2.2.2.2.1
  obtain ⟨kcl, k6⟩ := (kTen hM F L h hH.2.2.1 (by rw [e1, lsn_len]) cl pa we sd).2 e
  have eg : g_addTender M cl pa we sd = mu (mu (mu (mu (mu M 4 (M 3 0) cl.toNatClampNeg) 5 (M 3 0) pa.toNatClampNeg) 6 (M 3 0) we.toNatClampNeg) 7 (M 3 0) sd.toNatClampNeg) 3 0 (M 3 0 + 1) := by
    unfold g_addTender
    rw [if_pos e]
  generalize g_addTender M cl pa we sd = M2 at *
  generalize cl.toNatClampNeg = c at *
  generalize pa.toNatClampNeg = p9 at *
  generalize we.toNatClampNeg = w9 at *
  generalize sd.toNatClampNeg = s9 at *
  have m : ∀ f, f ∉ [3, 4, 5, 6, 7] → M2 f = M f := fun f hf => by
    rw [eg, mu_nf _ (fun z => hf (by rw [z]; decide)), mu_nf _ (fun z => hf (by rw [z]; decide)), mu_nf _ (fun z => hf (by rw [z]; decide)), mu_nf _ (fun z => hf (by rw [z]; decide)), mu_nf _ (fun z => hf (by rw [z]; decide))]
  have m3 : M2 3 0 = M 3 0 + 1 := by rw [eg, mu_z]
  have m4 : ∀ t, M2 4 t = if t = M 3 0 then c else M 4 t := fun t => by rw [eg, mu_nf _ (by decide), mu_nf _ (by decide), mu_nf _ (by decide), mu_nf _ (by decide), mu_at]
  have m5 : ∀ t, M2 5 t = if t = M 3 0 then p9 else M 5 t := fun t => by rw [eg, mu_nf _ (by decide), mu_nf _ (by decide), mu_nf _ (by decide), mu_at, mu_nf _ (by decide)]
  have m6 : ∀ t, M2 6 t = if t = M 3 0 then w9 else M 6 t := fun t => by rw [eg, mu_nf _ (by decide), mu_nf _ (by decide), mu_at, mu_nf _ (by decide), mu_nf _ (by decide)]
  have m7 : ∀ t, M2 7 t = if t = M 3 0 then s9 else M 7 t := fun t => by rw [eg, mu_nf _ (by decide), mu_at, mu_nf _ (by decide), mu_nf _ (by decide), mu_nf _ (by decide)]
  clear eg
  have k1 : kd (F 1 h) = 28 := hWF.ref hH.1 rfl (by decide)
  have hne1 : F 1 h ≠ r := ne_q hr k1 (by decide)
  have hqB : kdN kd r 27 q = 0 := by rw [kdN_ne hqr]; exact hq
  have ell : (upL L r []) (F 1 h) = L (F 1 h) := upL_ne hne1
  have hs : SmK kd F L (kdN (kdN kd r 27) q 8) (FN F q [(L (F 1 h)).length, c, p9, w9, s9, r]) (upL (upL L r []) (F 1 h) ((upL L r []) (F 1 h) ++ [q])) [2, 3, 4, 5, 6, 7, 8, 9, 11, 22, 23, 24, 25, 26, 27] :=
    ((SmK.newL hr (by decide)).trans (SmK.puL (k := 28) (by rw [kdN_ne hne1]; exact k1) (by decide))).trans (SmK.new hqB (by decide))
  have how : ∀ x, kd x ≠ 0 → owp ow [r] q x = ow x := fun x hx => owp_ne (fun z => hx (by rw [List.mem_singleton.mp z]; exact hr))
  have hT2 := hT.owc hWF how
  have hL2 := hL.owc hWF how
  have m8 : M 8 (M 3 0) = 0 := hX.1 _ k6 (Nat.le_refl _)
  have mop : ∀ t, t < M 3 0 → m_op M2 t = m_op M t := fun t ht => by
    unfold m_op
    rw [m4, if_neg (by omega), m 1 (by decide)]
  refine ⟨hH.mk2 hs (by decide) (by decide) (m 1 (by decide)) (m 2 (by decide)) ?_ ?_ ?_ ?_, fun t ht => ?_, fun t k ht hk => ?_, ⟨fun t ht ht2 => ?_, fun g b hg hb => ?_⟩, fun a ha => ?_, hU.congr (m 13 (by decide)) (m 16 (by decide)) (m 17 (by decide)) (m 18 (by decide)) (m 20 (by decide)), hC.congr hs (by decide) (fun _ _ => rfl) (by rw [m 16 (by decide)]; exact Nat.le_refl _) (m 22 (by decide)) (m 23 (by decide)) (m 24 (by decide)) (m 25 (by decide)) (m 26 (by decide)) (m 27 (by decide)) (m 28 (by decide)), hD.congr (m 10 (by decide)) (m 13 (by decide)) (m 17 (by decide)) (m 20 (by decide)) (m 22 (by decide)) (m 23 (by decide)) (m 24 (by decide)) (m 25 (by decide)) (m 26 (by decide)), hK.congr hs (by decide) (fun _ _ => rfl) (by rw [m 16 (by decide)]; exact Nat.le_refl _) (m 29 (by decide)) (m 30 (by decide)) (m 31 (by decide)), hS.congr (m 16 (by decide)) (m 21 (by decide)) (m 29 (by decide)) (m 30 (by decide)), hO.congr hW hWF hs (by decide) (by decide) (by decide) (m 16 (by decide)) (m 20 (by decide)) (m 32 (by decide)), fun t k ht hk => ?_, hZ.congr (m 16 (by decide)) (m 20 (by decide)) (m 21 (by decide)) (m 22 (by decide)) (m 26 (by decide)) (m 27 (by decide)) (m 28 (by decide)) (m 29 (by decide)) (m 31 (by decide))⟩
  · rw [upL_eq, ell, e1, m3, lsn_push]
  · rw [(hs.at (hWF.ref hH.1 rfl (by decide) : kd (F 2 h) = 22) (by decide)).2.2, m 16 (by decide)]; exact hH.2.2.2.2.2.1
  · rw [(hs.at (hWF.ref hH.1 rfl (by decide) : kd (F 3 h) = 25) (by decide)).2.2, m 22 (by decide)]; exact hH.2.2.2.2.2.2.1
  · rw [(hs.at (hWF.ref hH.1 rfl (by decide) : kd (F 4 h) = 26) (by decide)).2.2, m 29 (by decide)]; exact hH.2.2.2.2.2.2.2
  · rw [m3] at ht
    rw [m4, m5, m6, m7, m 8 (by decide)]
    by_cases htn : t = M 3 0
    · rw [if_pos htn, if_pos htn, if_pos htn, if_pos htn, htn, fpush_eq]
      have f : ∀ f, FN F q [(L (F 1 h)).length, c, p9, w9, s9, r] f q = [(L (F 1 h)).length, c, p9, w9, s9, r].getD f 0 := fun f => if_pos rfl
      rw [f, f, f, f, f, f]
      refine ⟨kdN_eq, by show (L (F 1 h)).length = _; rw [e1, lsn_len], rfl, rfl, rfl, rfl, ?_, owp_in (List.mem_singleton.mpr rfl)⟩
      show (upL (upL L r []) (F 1 h) _) r = _
      rw [upL_ne (Ne.symm hne1), upL_eq, m8]; rfl
    · obtain ⟨r1, r2, r3, r4, r5, r6, r7, r8⟩ := hT2 t (by omega)
      have k5 : kd (F 5 (tn t)) = 27 := hWF.ref r1 rfl (by decide)
      obtain ⟨s1, s2, -⟩ := hs.at r1 (by decide)
      rw [fpush_ne htn, if_neg htn, if_neg htn, if_neg htn, if_neg htn, s2, s2, s2, s2, s2, s2, (hs.at k5 (by decide)).2.2]
      exact ⟨s1, r2, r3, r4, r5, r6, r7, r8⟩
  · rw [m3] at ht
    rw [m 8 (by decide)] at hk
    have htn : t ≠ M 3 0 := fun z => by rw [z, m8] at hk; omega
    have h8 : M 8 t ≤ 3 := hM 8 t
    obtain ⟨r1, r2, r3, r4, r5, r6, r7, r8⟩ := hL2 t k (by omega) hk
    obtain ⟨s1, s2, -⟩ := hs.at r1 (by decide)
    rw [fpush_ne htn, s2, s2, s2, s2, s2, m 9 (by decide)]
    exact ⟨s1, r2, r3, r4, r5, r6, r7.congr2 hWF r1 hs (by decide) (by decide) (by decide) (mop _ (by omega)) (m 10 (by decide)) (m 11 (by decide)) (m 12 (by decide)) (m 13 (by decide)) (m 14 (by decide)) (by rw [m 15 (by decide)]; exact Nat.le_refl _), r8.congr hWF r1 hs (by decide) (by decide) (by decide) (by decide) (by decide)⟩
  · rw [m3] at ht2
    rw [m 8 (by decide)]
    exact hX.1 t ht (by omega)
  · rw [m 8 (by decide), m 10 (by decide), m 13 (by decide), m 14 (by decide)]
    obtain ⟨x1, x2, x3⟩ := hX.2 g b hg hb
    refine ⟨x1, fun z => ?_, x3⟩
    by_cases hgn : g / 3 < M 3 0
    · rw [mop _ hgn] at z; exact x2 z
    · exact x2 (Or.inl (by rw [hX.1 (g / 3) (by omega) (by omega)]; exact Nat.zero_le _))
  · rw [m 16 (by decide)] at ha
    obtain ⟨r1, r2, r3, r4, r5, r6, r7, r8, r9, r10, r11⟩ := hW a ha
    have kl : kd (F 1 (aw a)) = 7 := hWF.ref r1 rfl (by decide)
    have kb : kd (F 2 (aw a)) = 3 := hWF.ref r1 rfl (by decide)
    have k3 : kd (F 3 (F 1 (aw a))) = 23 := hWF.ref kl rfl (by decide)
    obtain ⟨s1, s2, -⟩ := hs.at r1 (by decide)
    have esu : m_su M2 a = m_su M a := by
      unfold m_su
      rw [m 19 (by decide), m 17 (by decide), m7, if_neg (by omega)]
    rw [s2, s2, s2, s2, s2, s2, (hs.at kl (by decide)).2.1, (hs.at k3 (by decide)).2.2, (hs.at kb (by decide)).2.1, m 17 (by decide), m3, m 8 (by decide), mop _ r3, m 18 (by decide), esu, m 20 (by decide), m 21 (by decide)]
    exact ⟨s1, r2, by omega, r4, r5, r6, r7, r8, r9, r10, r11⟩
  · rw [m3] at ht
    rw [m 8 (by decide)] at hk
    have htn : t ≠ M 3 0 := fun z => by rw [z, m8] at hk; omega
    have r1 := (hL t k (by omega) hk).1
    have k4 : kd (F 4 (lo t k)) = 24 := hWF.ref r1 rfl (by decide)
    rw [(hs.at r1 (by decide)).2.1, (hs.at k4 (by decide)).2.2, m 16 (by decide), m 17 (by decide), m 20 (by decide)]
    exact hN t k (by omega) hk
/-- which exception addLot throws -/
theorem kLotAdd (hM : MI M) (hH : RelH kd F L h M tn aw co ct) (hT : RelT kd F L M tn lo ow) (t de : Int32) :
    (ks (kIx t (L (F 1 h)).length) (ks (kArg de (nI 0) (nI 10000)) (if (L (F 5 (ga (L (F 1 h)) t))).length < 3 ∧ ¬ F 1 (ga (L (F 1 h)) t) ≤ F 5 h then 0 else 3)) = k_addLot M t de) ∧
    (k_addLot M t de = 0 → ∃ x : Nat, x < M 3 0 ∧ x < 6 ∧ t.toNatClampNeg = x ∧ ga (L (F 1 h)) t = tn x ∧ M 8 x < 3 ∧ m_op M x = false ∧ (L (F 5 (tn x))).length = M 8 x) := by
  have h3 : M 3 0 ≤ 6 := hM 3 0
  unfold k_addLot
  rcases lsnK hH.2.2.2.2.1 (by omega) t with ⟨g1, g2⟩ | ⟨x, hx, -, g1, g2, g3, g4⟩
  · rw [g1, ks_l (by rw [g2]; decide), g2, if_pos rfl]
    exact ⟨rfl, fun q => by cases q⟩
  · obtain ⟨t1, t2, t3, t4, t5, t6, t7, t8⟩ := hT x hx
    have h8 : M 8 x ≤ 3 := hM 8 x
    rw [g1, ks_r g2, g3, g4, t7, lsn_len, t3, hH.2.2.1, if_neg (show ¬ true = false by decide)]
    rcases i_in_arg (v := de) (lo := 0) (hi := 10000) (by decide) (by decide) with ⟨v1, v2⟩ | ⟨y, -, -, -, v1, v2, -⟩
    · rw [ks_l (by rw [v2]; decide), v2, v1, if_pos rfl]
      exact ⟨rfl, fun q => by cases q⟩
    · rw [ks_r v2, v1, if_neg (show ¬ true = false by decide)]
      have hop : m_op M x = true ↔ M 4 x ≤ M 1 0 := by unfold m_op; rw [decide_eq_true_eq]
      by_cases q : M 8 x = 3 ∨ m_op M x = true
      · have q2 : M 8 x = 3 ∨ M 4 x ≤ M 1 0 := q.imp id hop.mp
        rw [if_pos q, if_neg (by omega)]
        exact ⟨rfl, fun q => by cases q⟩
      · have q2 : ¬ (M 8 x = 3 ∨ M 4 x ≤ M 1 0) := fun z => q (z.imp id hop.mpr)
        rw [if_neg q, if_pos (by omega)]
        refine ⟨rfl, fun _ => ⟨x, hx, by omega, rfl, rfl, by omega, ?_, by rw [t7, lsn_len]⟩⟩
        unfold m_op
        exact decide_eq_false (by omega)
theorem u_addLot (hM : MI M) (hWF : WF kd F L) (G : RelG kd F L h M tn lo aw co ct ow) {t de : Int32} (e : k_addLot M t de = 0) {x d : Nat} (hx : x < M 3 0) (hx6 : x < 6) (ex : t.toNatClampNeg = x) (ed : de.toNatClampNeg = d) (h83 : M 8 x < 3) (hop : m_op M x = false) {q r1 r2 : Nat} (hq : kd q = 0) (hr1 : kd r1 = 0) (hr2 : kd r2 = 0) (hq1 : q ≠ r1) (hq2 : q ≠ r2) (h12 : r1 ≠ r2) :
    RelG (kdN (kdN (kdN kd r1 23) r2 24) q 7) (FN F q [tn x, M 8 x, d, r1, r2]) (upL (upL (upL L r1 []) r2 []) (F 5 (tn x)) ((upL (upL L r1 []) r2 []) (F 5 (tn x)) ++ [q])) h (g_addLot M t de) tn (lopush lo x (M 8 x) q) aw co ct (owp ow [r1, r2] q) := by
  obtain ⟨hH, hT, hL, hX, hW, hU, hC, hD, hK, hS, hO, hN, hZ⟩ := G
  have eg : g_addLot M t de = mu (mu M 9 (3 * x + M 8 x) d) 8 x (M 8 x + 1) := by
    unfold g_addLot
    rw [if_pos e, ex, ed]
  generalize g_addLot M t de = M2 at *
  have m : ∀ f, f ∉ [8, 9] → M2 f = M f := fun f hf => by
    rw [eg, mu_nf _ (fun z => hf (by rw [z]; decide)), mu_nf _ (fun z => hf (by rw [z]; decide))]
  have m8 : ∀ t, M2 8 t = if t = x then M 8 x + 1 else M 8 t := fun t => by rw [eg, mu_at, mu_nf _ (by decide)]
  have m9 : ∀ z, M2 9 z = if z = 3 * x + M 8 x then d else M 9 z := fun z => by rw [eg, mu_nf _ (by decide), mu_at]
  clear eg
  obtain ⟨t1, t2, t3, t4, t5, t6, t7, t8⟩ := hT x hx
  have k5 : kd (F 5 (tn x)) = 27 := hWF.ref t1 rfl (by decide)
  have n1 : F 5 (tn x) ≠ r1 := ne_q hr1 k5 (by decide)
  have n2 : F 5 (tn x) ≠ r2 := ne_q hr2 k5 (by decide)
  have ell : (upL (upL L r1 []) r2 []) (F 5 (tn x)) = L (F 5 (tn x)) := (upL_ne n2).trans (upL_ne n1)
  have hrB : kdN kd r1 23 r2 = 0 := by rw [kdN_ne (Ne.symm h12)]; exact hr2
  have hqB : kdN (kdN kd r1 23) r2 24 q = 0 := by rw [kdN_ne hq2, kdN_ne hq1]; exact hq
  -- only the list of the tender's lots changes
  have hE : ∀ a, kd a ≠ 0 → a ≠ F 5 (tn x) → kdN (kdN (kdN kd r1 23) r2 24) q 7 a = kd a ∧ (∀ f, FN F q [tn x, M 8 x, d, r1, r2] f a = F f a) ∧ (upL (upL (upL L r1 []) r2 []) (F 5 (tn x)) ((upL (upL L r1 []) r2 []) (F 5 (tn x)) ++ [q])) a = L a := by
    intro a ha hne
    have a1 : a ≠ q := fun z => ha (by rw [z]; exact hq)
    have a2 : a ≠ r1 := fun z => ha (by rw [z]; exact hr1)
    have a3 : a ≠ r2 := fun z => ha (by rw [z]; exact hr2)
    exact ⟨by rw [kdN_ne a1, kdN_ne a3, kdN_ne a2], fun f => FN_ne a1, by rw [upL_ne hne, upL_ne a3, upL_ne a2]⟩
  have hs : SmK kd F L (kdN (kdN (kdN kd r1 23) r2 24) q 7) (FN F q [tn x, M 8 x, d, r1, r2]) (upL (upL (upL L r1 []) r2 []) (F 5 (tn x)) ((upL (upL L r1 []) r2 []) (F 5 (tn x)) ++ [q])) [2, 3, 4, 5, 6, 7, 8, 9, 11, 22, 23, 24, 25, 26, 28] := fun a ha => hE a (fun z => by rw [z] at ha; revert ha; decide) (fun z => by rw [z, k5] at ha; revert ha; decide)
  have how : ∀ y, kd y ≠ 0 → owp ow [r1, r2] q y = ow y := fun y hy => owp_ne (fun z => by
    rcases List.mem_cons.mp z with z | z
    · exact hy (by rw [z]; exact hr1)
    · exact hy (by rw [List.mem_singleton.mp z]; exact hr2))
  have hT2 := hT.owc hWF how
  have hL2 := hL.owc hWF how
  have mop : ∀ t, m_op M2 t = m_op M t := fun t => m_op_cong (m 4 (by decide)) (m 1 (by decide)) t
  have hlo : ∀ a b, b < M 8 a → lopush lo x (M 8 x) q a b = lo a b := fun a b hb => lopush_ne (fun z => by rw [z.1] at hb; omega)
  refine ⟨hH.congr hWF hs (by decide) (by decide) (by decide) (by decide) (by decide) (by decide) (m 1 (by decide)) (m 2 (by decide)) (m 3 (by decide)) (m 16 (by decide)) (m 22 (by decide)) (m 29 (by decide)), fun s hs9 => ?_, fun s k hs9 hk => ?_, ⟨fun s h1 h2 => ?_, fun g b hg hb => ?_⟩, fun a ha => ?_, hU.congr (m 13 (by decide)) (m 16 (by decide)) (m 17 (by decide)) (m 18 (by decide)) (m 20 (by decide)), hC.congr hs (by decide) (fun _ _ => rfl) (by rw [m 16 (by decide)]; exact Nat.le_refl _) (m 22 (by decide)) (m 23 (by decide)) (m 24 (by decide)) (m 25 (by decide)) (m 26 (by decide)) (m 27 (by decide)) (m 28 (by decide)), hD.congr (m 10 (by decide)) (m 13 (by decide)) (m 17 (by decide)) (m 20 (by decide)) (m 22 (by decide)) (m 23 (by decide)) (m 24 (by decide)) (m 25 (by decide)) (m 26 (by decide)), hK.congr hs (by decide) (fun _ _ => rfl) (by rw [m 16 (by decide)]; exact Nat.le_refl _) (m 29 (by decide)) (m 30 (by decide)) (m 31 (by decide)), hS.congr (m 16 (by decide)) (m 21 (by decide)) (m 29 (by decide)) (m 30 (by decide)), hO.congr hW hWF hs (by decide) (by decide) (by decide) (m 16 (by decide)) (m 20 (by decide)) (m 32 (by decide)), fun s k hs9 hk => ?_, hZ.congr (m 16 (by decide)) (m 20 (by decide)) (m 21 (by decide)) (m 22 (by decide)) (m 26 (by decide)) (m 27 (by decide)) (m 28 (by decide)) (m 29 (by decide)) (m 31 (by decide))⟩
  · rw [m 3 (by decide)] at hs9
    obtain ⟨r1', r2', r3, r4, r5, r6, r7, r8⟩ := hT2 s hs9
    have k5s : kd (F 5 (tn s)) = 27 := hWF.ref r1' rfl (by decide)
    obtain ⟨s1, s2, -⟩ := hs.at r1' (by decide)
    rw [s2, s2, s2, s2, s2, s2, m 4 (by decide), m 5 (by decide), m 6 (by decide), m 7 (by decide), m8]
    by_cases hsx : s = x
    · subst hsx
      rw [if_pos rfl, upL_eq, ell, t7, lsn_push]
      refine ⟨s1, r2', r3, r4, r5, r6, lsn_congr (fun i hi => ?_), r8⟩
      by_cases hi2 : i = M 8 s
      · rw [hi2, fpush_eq, lopush_eq]
      · rw [fpush_ne hi2, lopush_ne (fun z => hi2 z.2)]
    · have hne : F 5 (tn s) ≠ F 5 (tn x) := fun z => hsx (tn_inj hT hs9 hx (by rw [← (hT s hs9).2.2.2.2.2.2.2, z, t8]))
      rw [if_neg hsx, (hE _ (by omega) hne).2.2, r7]
      exact ⟨s1, r2', r3, r4, r5, r6, lsn_congr (fun i hi => (lopush_ne (fun z => hsx z.1)).symm), r8⟩
  · rw [m 3 (by decide)] at hs9
    rw [m8] at hk
    rw [m9]
    by_cases hnew : s = x ∧ k = M 8 x
    · obtain ⟨rfl, rfl⟩ := hnew
      rw [lopush_eq, if_pos rfl]
      have f : ∀ f, FN F q [tn s, M 8 s, d, r1, r2] f q = [tn s, M 8 s, d, r1, r2].getD f 0 := fun f => if_pos rfl
      have l1 : (upL (upL (upL L r1 []) r2 []) (F 5 (tn s)) ((upL (upL L r1 []) r2 []) (F 5 (tn s)) ++ [q])) r1 = [] := by rw [upL_ne (Ne.symm n1), upL_ne h12, upL_eq]
      have l2 : (upL (upL (upL L r1 []) r2 []) (F 5 (tn s)) ((upL (upL L r1 []) r2 []) (F 5 (tn s)) ++ [q])) r2 = [] := by rw [upL_ne (Ne.symm n2), upL_eq]
      have f3 : FN F q [tn s, M 8 s, d, r1, r2] 3 q = r1 := f 3
      refine ⟨kdN_eq, f 0, f 1, f 2, ?_, ?_, ⟨fun o ho => ?_, fun b hb hp => ?_, ?_⟩, fun o ho => ?_⟩
      · rw [f3]; exact owp_in (List.mem_cons_self)
      · rw [show FN F q [tn s, M 8 s, d, r1, r2] 4 q = r2 from f 4]; exact owp_in (List.mem_cons_of_mem _ List.mem_cons_self)
      · rw [f3, l1] at ho; cases ho
      · rw [m 10 (by decide), (hX.2 (3 * s + M 8 s) b (by omega) hb).2.2 (by rw [show (3 * s + M 8 s) / 3 = s by omega, show (3 * s + M 8 s) % 3 = M 8 s by omega]; exact Nat.le_refl _)] at hp
        omega
      · rw [f3, l1]; exact List.Pairwise.nil
      · rw [f3, l1] at ho; cases ho
    · have hk2 : k < M 8 s := by
        by_cases hsx : s = x
        · rw [if_pos hsx] at hk
          rw [hsx]
          have : k ≠ M 8 x := fun z => hnew ⟨hsx, z⟩
          omega
        · rw [if_neg hsx] at hk; exact hk
      have h8 : M 8 s ≤ 3 := hM 8 s
      obtain ⟨r1', r2', r3, r4, r5, r6, r7, r8⟩ := hL2 s k hs9 hk2
      obtain ⟨s1, s2, -⟩ := hs.at r1' (by decide)
      rw [lopush_ne hnew, if_neg (show ¬ 3 * s + k = 3 * x + M 8 x from fun z => hnew ⟨by omega, by omega⟩), s2, s2, s2, s2, s2]
      exact ⟨s1, r2', r3, r4, r5, r6, r7.congr2 hWF r1' hs (by decide) (by decide) (by decide) (mop _) (m 10 (by decide)) (m 11 (by decide)) (m 12 (by decide)) (m 13 (by decide)) (m 14 (by decide)) (by rw [m 15 (by decide)]; exact Nat.le_refl _), r8.congr hWF r1' hs (by decide) (by decide) (by decide) (by decide) (by decide)⟩
  · rw [m 3 (by decide)] at h2
    rw [m8, if_neg (by omega)]
    exact hX.1 s h1 h2
  · obtain ⟨x1, x2, x3⟩ := hX.2 g b hg hb
    have hle : M 8 (g / 3) ≤ M2 8 (g / 3) := by
      rw [m8]
      by_cases z : g / 3 = x
      · rw [if_pos z, z]; omega
      · rw [if_neg z]; exact Nat.le_refl _
    rw [m 10 (by decide), m 13 (by decide), m 14 (by decide), mop]
    refine ⟨x1, fun z => ?_, fun z => x3 (by omega)⟩
    rcases z with z | z
    · exact x2 (Or.inl (by omega))
    · exact x2 (Or.inr z)
  · rw [m 16 (by decide)] at ha
    obtain ⟨r1', r2', r3, r4, r5, r6, r7, r8, r9, r10, r11⟩ := hW a ha
    have kl : kd (F 1 (aw a)) = 7 := hWF.ref r1' rfl (by decide)
    have kb : kd (F 2 (aw a)) = 3 := hWF.ref r1' rfl (by decide)
    have k3 : kd (F 3 (F 1 (aw a))) = 23 := hWF.ref kl rfl (by decide)
    obtain ⟨s1, s2, -⟩ := hs.at r1' (by decide)
    rw [s2, s2, s2, s2, s2, s2, (hs.at kl (by decide)).2.1, (hs.at k3 (by decide)).2.2, (hs.at kb (by decide)).2.1, m 17 (by decide), m 3 (by decide), mop, m 18 (by decide), m_su_cong (m 19 (by decide)) (m 7 (by decide)) (m 17 (by decide)), m 20 (by decide), m 21 (by decide), hlo _ _ r4]
    refine ⟨s1, r2', r3, ?_, r5, r6, r7, r8, r9, r10, r11⟩
    rw [m8]
    by_cases z : M 17 a / 3 = x
    · rw [if_pos z]; rw [z] at r4; omega
    · rw [if_neg z]; exact r4
  · rw [m 3 (by decide)] at hs9
    rw [m8] at hk
    rw [m 16 (by decide), m 17 (by decide), m 20 (by decide)]
    by_cases hnew : s = x ∧ k = M 8 x
    · obtain ⟨rfl, rfl⟩ := hnew
      rw [lopush_eq]
      have f4 : FN F q [tn s, M 8 s, d, r1, r2] 4 q = r2 := if_pos rfl
      have l2 : (upL (upL (upL L r1 []) r2 []) (F 5 (tn s)) ((upL (upL L r1 []) r2 []) (F 5 (tn s)) ++ [q])) r2 = [] := by rw [upL_ne (Ne.symm n2), upL_eq]
      rw [f4, l2]; exact Nat.zero_le _
    · have hk2 : k < M 8 s := by
        by_cases hsx : s = x
        · rw [if_pos hsx] at hk
          rw [hsx]
          have : k ≠ M 8 x := fun z => hnew ⟨hsx, z⟩
          omega
        · rw [if_neg hsx] at hk; exact hk
      have r1' := (hL s k hs9 hk2).1
      have k4 : kd (F 4 (lo s k)) = 24 := hWF.ref r1' rfl (by decide)
      rw [lopush_ne hnew, (hs.at r1' (by decide)).2.1, (hs.at k4 (by decide)).2.2]
      exact hN s k hs9 hk2
end UP
