/-! changes: an award sent back -/
theorem kRep_app {F : Nat → Nat → Nat} {vs : List Nat} {y b q s : Nat} : ∀ n, n ≤ vs.length → kRep F (vs ++ [y]) b q s n = kRep F vs b q s n
  | 0, _ => rfl
  | n + 1, hn => by rw [kRep, kRep, kRep_app n (by omega), gt_app1 (by omega)]
section UP
variable {kd kd2 : Nat → Nat} {F F2 : Nat → Nat → Nat} {L L2 : Nat → List Nat} {S : List Nat} {h : Nat} {M M2 : MS} {tn tn2 : Nat → Nat} {lo lo2 : Nat → Nat → Nat} {aw aw2 co co2 ct ct2 ow ow2 : Nat → Nat}
theorem aw_lot (hM : MI M) (hW : RelW kd F L M lo aw) {a : Nat} (ha : a < M 16 0) : ∃ x y, x < M 3 0 ∧ y < M 8 x ∧ y < 3 ∧ M 17 a = 3 * x + y ∧ F 1 (aw a) = lo x y ∧ m_op M x = true := by
  obtain ⟨-, -, r3, r4, r5, r6, -⟩ := hW a ha
  have h8 : M 8 (M 17 a / 3) ≤ 3 := hM 8 _
  exact ⟨M 17 a / 3, M 17 a % 3, r3, r4, by omega, by omega, r5, r6⟩
theorem u_void (hM : MI M) (hWF : WF kd F L) (hH : RelH kd F L h M tn aw co ct) (hT : RelT kd F L M tn lo ow) (hL : RelL kd F L M tn lo ow) (hX : RelX M) (hW : RelW kd F L M lo aw) (hU : RelU M) (hC : RelC kd F M aw co) (hD : RelD M) (hK : RelK kd F M aw ct) (hS : RelS M) (hN : RelN F L M lo) (hZ : RelZ M) (hO : RelO F M2 aw)
    {a : Nat} (ha : a < M 16 0) (h20 : M 20 a = 0) {c9 v b z : Nat} (ky : kd c9 = 4) (ev : F 0 c9 = v) (eb : F 1 c9 = b) (ez : F 2 c9 = z) (hv : v ≤ 2) (hb : b < 8) (hopen : ∀ c, c < M 22 0 → M 23 c = a → M 26 c ≠ 0) (hp : 0 < M 10 (8 * M 17 a + b)) (h0 : v = 0 → M 13 (8 * M 17 a + b) = 0) (h2 : v = 2 → M 14 (8 * M 17 a + b) = 0)
    (m : ∀ f, f ∉ [11, 13, 14, 20, 32] → M2 f = M f) (m20 : ∀ i, M2 20 i = if i = a then 1 else M 20 i) (m14 : ∀ i, M2 14 i = if v = 0 ∧ i = 8 * M 17 a + b then 1 else M 14 i) (m11 : ∀ i, M2 11 i = if v = 1 ∧ i = 8 * M 17 a + b then z else M 11 i) (m13 : ∀ i, M2 13 i = if v = 2 ∧ i = 8 * M 17 a + b then 0 else M 13 i) (hlen : (L (F 4 (F 1 (aw a)))).length < 60) :
    WF kd (kFollow (up2 F 4 (aw a) 1) (upL L (F 4 (F 1 (aw a))) (L (F 4 (F 1 (aw a))) ++ [c9])) (F 1 (aw a)) c9) (upL L (F 4 (F 1 (aw a))) (L (F 4 (F 1 (aw a))) ++ [c9])) ∧
    RelG kd (kFollow (up2 F 4 (aw a) 1) (upL L (F 4 (F 1 (aw a))) (L (F 4 (F 1 (aw a))) ++ [c9])) (F 1 (aw a)) c9) (upL L (F 4 (F 1 (aw a))) (L (F 4 (F 1 (aw a))) ++ [c9])) h M2 tn lo aw co ct ow := by
  obtain ⟨x, y, hx, hy, hy3, e17, el1, hop⟩ := aw_lot hM hW ha
  rw [el1] at hlen ⊢
  rw [e17] at hp h0 h2 m14 m11 m13
  obtain ⟨kl, g2, g3, g4, g5, g6, hB, hR⟩ := hL x y hx hy
  have ka := (hW a ha).1
  have k3 : kd (F 3 (lo x y)) = 23 := hWF.ref kl rfl (by decide)
  have k4 : kd (F 4 (lo x y)) = 24 := hWF.ref kl rfl (by decide)
  have n34 : F 3 (lo x y) ≠ F 4 (lo x y) := fun e => by rw [e, k4] at k3; cases k3
  obtain ⟨o, o1, o2⟩ := hB.2.1 b hb hp
  have ko : kd o = 3 := el_kd hWF k3 o o1
  have nao : aw a ≠ o := fun e => by rw [e, ko] at ka; cases ka
  have hB1 : RelB (up2 F 4 (aw a) 1) (upL L (F 4 (lo x y)) (L (F 4 (lo x y)) ++ [c9])) ow M (lo x y) (3 * x + y) := hB.congr3 (by rw [up2_nf (by decide), upL_ne n34]) (fun o9 ho9 => ⟨fun f => up2_ne (fun e => by have := el_kd hWF k3 o9 ho9; rw [e, ka] at this; cases this), rfl⟩) rfl (fun _ _ _ _ => rfl) (Nat.le_refl _)
  have o1' : o ∈ (upL L (F 4 (lo x y)) (L (F 4 (lo x y)) ++ [c9])) (up2 F 4 (aw a) 1 3 (lo x y)) := by rw [up2_nf (by decide), upL_ne n34]; exact o1
  have ekf : kFollow (up2 F 4 (aw a) 1) (upL L (F 4 (lo x y)) (L (F 4 (lo x y)) ++ [c9])) (lo x y) c9 = if v = 1 then up2 (up2 F 4 (aw a) 1) 3 o z else if v = 2 then up2 (up2 F 4 (aw a) 1) 5 o 1 else up2 (up2 F 4 (aw a) 1) 5 o 3 := by
    have e1 := hB1.bid_some o1'
    rw [up2_nf (by decide), o2] at e1
    unfold kFollow
    rw [up2_nf (by decide), eb, e1]
    show (if up2 F 4 (aw a) 1 0 c9 = 1 then up2 (up2 F 4 (aw a) 1) 3 o (up2 F 4 (aw a) 1 2 c9) else if up2 F 4 (aw a) 1 0 c9 = 2 then up2 (up2 F 4 (aw a) 1) 5 o 1 else up2 (up2 F 4 (aw a) 1) 5 o 3) = _
    rw [up2_nf (by decide), up2_nf (by decide), ev, ez]
  have hz : z < 101 := by rw [← ez]; exact hWF.num (f := 2) ky rfl (by decide)
  have hWF3 : WF kd (kFollow (up2 F 4 (aw a) 1) (upL L (F 4 (lo x y)) (L (F 4 (lo x y)) ++ [c9])) (lo x y) c9) (upL L (F 4 (lo x y)) (L (F 4 (lo x y)) ++ [c9])) := by
    have w1 := hWF.put (f := 4) (v := 1) ka (Or.inr (by show 1 < 2; omega)) (Or.inl rfl)
    have w2 := w1.setL (a := F 4 (lo x y)) (vs := L (F 4 (lo x y)) ++ [c9]) k4 (by rw [List.length_append]; show _ + 1 ≤ 60; omega) (fun x9 hx9 => by
      rcases List.mem_append.mp hx9 with q | q
      · rw [el_kd hWF k4 x9 q]
      · rw [List.mem_singleton.mp q, ky])
    rw [ekf]
    by_cases q1 : v = 1
    · rw [if_pos q1]; exact w2.put (f := 3) ko (Or.inr (by show z < 101; omega)) (Or.inl rfl)
    · by_cases q2 : v = 2
      · rw [if_neg q1, if_pos q2]; exact w2.put (f := 5) ko (Or.inr (by show 1 < 4; omega)) (Or.inl rfl)
      · rw [if_neg q1, if_neg q2]; exact w2.put (f := 5) ko (Or.inr (by show 3 < 4; omega)) (Or.inl rfl)
  refine ⟨hWF3, ?_⟩
  clear hWF3
  have ff : ∀ f c, f ≠ 3 → f ≠ 4 → f ≠ 5 → kFollow (up2 F 4 (aw a) 1) (upL L (F 4 (lo x y)) (L (F 4 (lo x y)) ++ [c9])) (lo x y) c9 f c = F f c := fun f c q3 q4 q5 => by rw [kFollow_nf q3 q5, up2_nf q4]
  have f4 : ∀ c, c ≠ aw a → kFollow (up2 F 4 (aw a) 1) (upL L (F 4 (lo x y)) (L (F 4 (lo x y)) ++ [c9])) (lo x y) c9 4 c = F 4 c := fun c q => by rw [kFollow_nf (by decide) (by decide), up2_ne q]
  have f4a : kFollow (up2 F 4 (aw a) 1) (upL L (F 4 (lo x y)) (L (F 4 (lo x y)) ++ [c9])) (lo x y) c9 4 (aw a) = 1 := by rw [kFollow_nf (by decide) (by decide), up2_eq]
  have f3 : ∀ c, c ≠ o → kFollow (up2 F 4 (aw a) 1) (upL L (F 4 (lo x y)) (L (F 4 (lo x y)) ++ [c9])) (lo x y) c9 3 c = F 3 c := fun c q => by
    rw [ekf]
    split
    · rw [up2_ne q, up2_nf (by decide)]
    · split
      · rw [up2_ne q, up2_nf (by decide)]
      · rw [up2_ne q, up2_nf (by decide)]
  have f5 : ∀ c, c ≠ o → kFollow (up2 F 4 (aw a) 1) (upL L (F 4 (lo x y)) (L (F 4 (lo x y)) ++ [c9])) (lo x y) c9 5 c = F 5 c := fun c q => by
    rw [ekf]
    split
    · rw [up2_ne q, up2_nf (by decide)]
    · split
      · rw [up2_ne q, up2_nf (by decide)]
      · rw [up2_ne q, up2_nf (by decide)]
  have f3o : kFollow (up2 F 4 (aw a) 1) (upL L (F 4 (lo x y)) (L (F 4 (lo x y)) ++ [c9])) (lo x y) c9 3 o = if v = 1 then z else F 3 o := by
    rw [ekf]
    by_cases q1 : v = 1
    · rw [if_pos q1, if_pos q1, up2_eq]
    · rw [if_neg q1, if_neg q1]
      by_cases q2 : v = 2
      · rw [if_pos q2, up2_nf (by decide), up2_nf (by decide)]
      · rw [if_neg q2, up2_nf (by decide), up2_nf (by decide)]
  have f5o : kFollow (up2 F 4 (aw a) 1) (upL L (F 4 (lo x y)) (L (F 4 (lo x y)) ++ [c9])) (lo x y) c9 5 o = if v = 1 then F 5 o else if v = 2 then 1 else 3 := by
    rw [ekf]
    by_cases q1 : v = 1
    · rw [if_pos q1, if_pos q1, up2_nf (by decide), up2_nf (by decide)]
    · rw [if_neg q1, if_neg q1]
      by_cases q2 : v = 2
      · rw [if_pos q2, if_pos q2, up2_eq]
      · rw [if_neg q2, if_neg q2, up2_eq]
  clear ekf hB1 o1'
  generalize kFollow (up2 F 4 (aw a) 1) (upL L (F 4 (lo x y)) (L (F 4 (lo x y)) ++ [c9])) (lo x y) c9 = F3 at *
  have hall : ∀ c, c ≠ aw a → c ≠ o → ∀ f, F3 f c = F f c := fun c q1 q2 f => by
    by_cases h3 : f = 3
    · rw [h3]; exact f3 c q2
    · by_cases h4 : f = 4
      · rw [h4]; exact f4 c q1
      · by_cases h5 : f = 5
        · rw [h5]; exact f5 c q2
        · exact ff f c h3 h4 h5
  have hs : SmK kd F L kd F3 (upL L (F 4 (lo x y)) (L (F 4 (lo x y)) ++ [c9])) [4, 5, 6, 7, 8, 9, 11, 22, 23, 25, 26, 27, 28] := fun c hc =>
    ⟨rfl, fun f => hall c (fun e => by rw [e, ka] at hc; revert hc; decide) (fun e => by rw [e, ko] at hc; revert hc; decide) f, upL_ne (fun e => by rw [e, k4] at hc; revert hc; decide)⟩
  have mop : ∀ t, m_op M2 t = m_op M t := fun t => m_op_cong (m 4 (by decide)) (m 1 (by decide)) t
  have row : ∀ f g9 b9, g9 ≠ 3 * x + y → b9 < 8 → (f = 10 ∨ f = 11 ∨ f = 12 ∨ f = 13 ∨ f = 14) → M2 f (8 * g9 + b9) = M f (8 * g9 + b9) := fun f g9 b9 hg hb9 hf => by
    have hne : ¬ 8 * g9 + b9 = 8 * (3 * x + y) + b := by omega
    rcases hf with rfl | rfl | rfl | rfl | rfl
    · rw [m 10 (by decide)]
    · rw [m11, if_neg (fun q => hne q.2)]
    · rw [m 12 (by decide)]
    · rw [m13, if_neg (fun q => hne q.2)]
    · rw [m14, if_neg (fun q => hne q.2)]
  have row2 : ∀ b9, b9 ≠ b → ∀ f, (f = 11 ∨ f = 13 ∨ f = 14) → M2 f (8 * (3 * x + y) + b9) = M f (8 * (3 * x + y) + b9) := fun b9 hb9 f hf => by
    have hne : ¬ 8 * (3 * x + y) + b9 = 8 * (3 * x + y) + b := by omega
    rcases hf with rfl | rfl | rfl
    · rw [m11, if_neg (fun q => hne q.2)]
    · rw [m13, if_neg (fun q => hne q.2)]
    · rw [m14, if_neg (fun q => hne q.2)]
  have hawa : ∀ {o9 t k}, t < M 3 0 → k < M 8 t → o9 ∈ L (F 3 (lo t k)) → o9 ≠ aw a := fun {o9 t k} ht hk ho9 e => by
    have k39 : kd (F 3 (lo t k)) = 23 := hWF.ref (hL t k ht hk).1 rfl (by decide)
    have := el_kd hWF k39 o9 ho9
    rw [e, ka] at this; cases this
  have m20a : ∀ {i}, M2 20 i = 0 → i ≠ a ∧ M 20 i = 0 := fun {i} q => by
    rw [m20] at q
    by_cases hi : i = a
    · rw [if_pos hi] at q; cases q
    · rw [if_neg hi] at q; exact ⟨hi, q⟩
  have nlot : ∀ {i}, i < M 16 0 → M2 20 i = 0 → M 17 i ≠ 3 * x + y := fun {i} hi q e => by
    obtain ⟨q1, q2⟩ := m20a q
    exact q1 (hU.1 i a hi ha q2 h20 (e.trans e17.symm))
  refine ⟨hH.congr hWF hs (by decide) (by decide) (by decide) (by decide) (by decide) (by decide) (m 1 (by decide)) (m 2 (by decide)) (m 3 (by decide)) (m 16 (by decide)) (m 22 (by decide)) (m 29 (by decide)), hT.congr hWF hs (by decide) (by decide) (m 3 (by decide)) (m 4 (by decide)) (m 5 (by decide)) (m 6 (by decide)) (m 7 (by decide)) (m 8 (by decide)), fun t k ht hk => ?_, ⟨?_, fun g9 b9 hg9 hb9 => ?_⟩, fun i hi => ?_, ⟨fun i j hi hj q1 q2 q3 => ?_, fun i hi q1 => ?_⟩, hC.congr hs (by decide) (fun _ _ => rfl) (by rw [m 16 (by decide)]; exact Nat.le_refl _) (m 22 (by decide)) (m 23 (by decide)) (m 24 (by decide)) (m 25 (by decide)) (m 26 (by decide)) (m 27 (by decide)) (m 28 (by decide)), fun c hc => ?_, hK.congr hs (by decide) (fun _ _ => rfl) (by rw [m 16 (by decide)]; exact Nat.le_refl _) (m 29 (by decide)) (m 30 (by decide)) (m 31 (by decide)), hS.congr (m 16 (by decide)) (m 21 (by decide)) (m 29 (by decide)) (m 30 (by decide)), ⟨fun b9 hb9 => ?_, fun i hi q1 => ?_⟩, fun t k ht hk => ?_, ⟨?_, fun i hi => ?_, ?_⟩⟩
  · rw [m 3 (by decide)] at ht
    rw [m 8 (by decide)] at hk
    obtain ⟨r1, r2, r3, r4, r5, r6, r7, r8⟩ := hL t k ht hk
    have k3' : kd (F 3 (lo t k)) = 23 := hWF.ref r1 rfl (by decide)
    have k4' : kd (F 4 (lo t k)) = 24 := hWF.ref r1 rfl (by decide)
    obtain ⟨s1, s2, -⟩ := hs.at r1 (by decide)
    have h8 : M 8 t ≤ 3 := hM 8 t
    have el : (upL L (F 4 (lo x y)) (L (F 4 (lo x y)) ++ [c9])) (F3 3 (lo t k)) = L (F 3 (lo t k)) := by rw [s2]; exact (hs.at k3' (by decide)).2.2
    rw [m 9 (by decide), s2 0, s2 1, s2 2, s2 3, s2 4]
    refine ⟨s1, r2, r3, r4, r5, r6, ?_, ?_⟩
    · by_cases hn : t = x ∧ k = y
      · obtain ⟨rfl, rfl⟩ := hn
        obtain ⟨b1, b2, b3⟩ := hB
        unfold RelB
        rw [el, m 10 (by decide), m 12 (by decide), m 15 (by decide)]
        refine ⟨fun o9 ho9 => ?_, fun b9 hb9 hp9 => ?_, ?_⟩
        · obtain ⟨q1, q2, q3, q4, q5, q6, q7⟩ := b1 o9 ho9
          rw [ff 0 o9 (by decide) (by decide) (by decide), ff 1 o9 (by decide) (by decide) (by decide), mop]
          by_cases ho : o9 = o
          · subst ho
            have i14 := m14 (8 * (3 * t + k) + F 0 o9)
            have i13 := m13 (8 * (3 * t + k) + F 0 o9)
            have i11 := m11 (8 * (3 * t + k) + F 0 o9)
            rw [o2] at i14 i13 i11 q5 q6
            rw [f3o, f5o, o2]
            rw [o2] at q2 q3 q7
            refine ⟨q1, q2, q3, q4, ?_, ?_, q7⟩
            · rw [i11]
              by_cases v1 : v = 1
              · rw [if_pos v1, if_pos ⟨v1, rfl⟩]
              · rw [if_neg v1, if_neg (fun q => v1 q.1)]; exact q5
            · have hop2 : m_op M ((3 * t + k) / 3) = true := by rw [show (3 * t + k) / 3 = t by omega]; exact hop
              unfold stt at q6 ⊢
              rw [if_pos hop2] at q6 ⊢
              by_cases v1 : v = 1
              · have j14 : M2 14 (8 * (3 * t + k) + b) = M 14 (8 * (3 * t + k) + b) := i14.trans (if_neg (fun q => by omega))
                have j13 : M2 13 (8 * (3 * t + k) + b) = M 13 (8 * (3 * t + k) + b) := i13.trans (if_neg (fun q => by omega))
                rw [if_pos v1, j14, j13]; exact q6
              · rw [if_neg v1]
                by_cases v2 : v = 2
                · have j14 : M2 14 (8 * (3 * t + k) + b) = 0 := (i14.trans (if_neg (fun q => by omega))).trans (h2 v2)
                  have j13 : M2 13 (8 * (3 * t + k) + b) = 0 := i13.trans (if_pos ⟨v2, rfl⟩)
                  rw [if_pos v2, j14, j13]; rfl
                · have j14 : M2 14 (8 * (3 * t + k) + b) = 1 := i14.trans (if_pos ⟨by omega, rfl⟩)
                  rw [if_neg v2, j14]; rfl
          · have hne : F 0 o9 ≠ b := fun e => ho (r7.uniq ho9 o1 (e.trans o2.symm))
            rw [f3 o9 ho, f5 o9 ho]
            have j1 := row2 _ hne 11 (by decide)
            have j2 := row2 _ hne 13 (by decide)
            have j3 := row2 _ hne 14 (by decide)
            rw [j1]
            refine ⟨q1, q2, q3, q4, q5, ?_, q7⟩
            rw [q6]
            unfold stt
            rw [j2, j3]
        · obtain ⟨o9, ho9, he9⟩ := b2 b9 hb9 hp9
          exact ⟨o9, ho9, by rw [ff 0 o9 (by decide) (by decide) (by decide)]; exact he9⟩
        · refine List.Pairwise.imp_of_mem (fun {c d} _ _ q => ?_) b3
          rw [ff 0 c (by decide) (by decide) (by decide), ff 0 d (by decide) (by decide) (by decide)]; exact q
      · refine r7.congr3 el (fun o9 ho9 => ⟨hall o9 (hawa ht hk ho9) (fun e => ?_), rfl⟩) (mop _) (fun f b9 hb9 hf => row f _ b9 (fun q => hn ⟨by omega, by omega⟩) hb9 hf) (by rw [m 15 (by decide)]; exact Nat.le_refl _)
        have e1 := (r7.1 o9 ho9).1
        have e2 := (hB.1 o o1).1
        rw [e, e2] at e1
        obtain ⟨q1, q2⟩ := lo_inj hT hL hx hy ht hk e1
        exact hn ⟨q1.symm, q2.symm⟩
    · unfold RelR
      rw [el]
      intro o9 ho9
      have na := hawa ht hk ho9
      rw [ff 0 o9 (by decide) (by decide) (by decide), ff 2 o9 (by decide) (by decide) (by decide), f4 o9 na, s2 4]
      have hch : ∀ vs : List Nat, (∀ c ∈ vs, kd c = 4) → ∀ c ∈ vs, ∀ f, F3 f c = F f c := fun vs hvs c hc f => hall c (fun e => by have := hvs c hc; rw [e, ka] at this; cases this) (fun e => by have := hvs c hc; rw [e, ko] at this; cases this) f
      by_cases hn : t = x ∧ k = y
      · obtain ⟨rfl, rfl⟩ := hn
        have hch1 : ∀ c ∈ L (F 4 (lo t k)) ++ [c9], kd c = 4 := fun c hc => by
          rcases List.mem_append.mp hc with q | q
          · exact el_kd hWF k4 c q
          · rw [List.mem_singleton.mp q]; exact ky
        rw [upL_eq, kRep_congr (hch _ hch1) _ (Nat.le_refl _), List.length_append]
        show kRep F (L (F 4 (lo t k)) ++ [c9]) _ _ _ ((L (F 4 (lo t k))).length + 1) = _
        rw [kRep, gt_app2, kRep_app _ (Nat.le_refl _), r8 o9 ho9, ev, eb, ez]
        by_cases ho : o9 = o
        · subst ho
          rw [if_pos o2.symm, f3o, f5o]
          by_cases v1 : v = 1
          · rw [if_pos v1, if_pos v1, if_pos v1]
          · rw [if_neg v1, if_neg v1, if_neg v1]
            by_cases v2 : v = 2
            · rw [if_pos v2, if_pos v2]
            · rw [if_neg v2, if_neg v2]
        · have hne : ¬ b = F 0 o9 := fun e => ho (r7.uniq ho9 o1 (e.symm.trans o2.symm))
          rw [if_neg hne, f3 o9 ho, f5 o9 ho]
      · have no : o9 ≠ o := fun e => by
          have e1 := (r7.1 o9 ho9).1
          have e2 := (hB.1 o o1).1
          rw [e, e2] at e1
          obtain ⟨q1, q2⟩ := lo_inj hT hL hx hy ht hk e1
          exact hn ⟨q1.symm, q2.symm⟩
        have n4 : F 4 (lo t k) ≠ F 4 (lo x y) := fun e => by
          obtain ⟨q1, q2⟩ := lo_inj hT hL ht hk hx hy (by rw [← r6, e, g6])
          exact hn ⟨q1, q2⟩
        rw [upL_ne n4, kRep_congr (hch _ (el_kd hWF k4')) _ (Nat.le_refl _), f3 o9 no, f5 o9 no]
        exact r8 o9 ho9
  · rw [m 3 (by decide), m 8 (by decide)]; exact hX.1
  · obtain ⟨x1, x2, x3⟩ := hX.2 g9 b9 hg9 hb9
    rw [m 8 (by decide), m 10 (by decide), mop]
    by_cases hg : g9 = 3 * x + y
    · subst hg
      have d1 : (3 * x + y) / 3 = x := by omega
      have d2 : (3 * x + y) % 3 = y := by omega
      refine ⟨?_, fun q => ?_, x3⟩
      · by_cases hbb : b9 = b
        · subst hbb
          rw [m13, m14]
          by_cases v2 : v = 2
          · rw [if_pos ⟨v2, rfl⟩]; exact Or.inl rfl
          · rw [if_neg (fun q => v2 q.1)]
            by_cases v0 : v = 0
            · exact Or.inl (h0 v0)
            · rw [if_neg (fun q => v0 q.1)]; exact x1
        · rw [row2 b9 hbb 13 (by decide), row2 b9 hbb 14 (by decide)]; exact x1
      · rw [d1, d2] at q
        rcases q with q | q
        · omega
        · rw [hop] at q; cases q
    · rw [row 13 g9 b9 hg hb9 (by decide), row 14 g9 b9 hg hb9 (by decide)]
      exact ⟨x1, x2, x3⟩
  · rw [m 16 (by decide)] at hi
    obtain ⟨r1, r2, r3, r4, r5, r6, r7, r8, r9, r10, r11⟩ := hW i hi
    have kli : kd (F 1 (aw i)) = 7 := hWF.ref r1 rfl (by decide)
    have k3i : kd (F 3 (F 1 (aw i))) = 23 := hWF.ref kli rfl (by decide)
    have nio : aw i ≠ o := fun e => by rw [e, ko] at r1; cases r1
    rw [ff 0 (aw i) (by decide) (by decide) (by decide), ff 1 (aw i) (by decide) (by decide) (by decide), ff 2 (aw i) (by decide) (by decide) (by decide), f3 (aw i) nio, f5 (aw i) nio, ff 0 (F 2 (aw i)) (by decide) (by decide) (by decide), (hs.at kli (by decide)).2.1, (hs.at k3i (by decide)).2.2, m 17 (by decide), m 3 (by decide), m 8 (by decide), mop, m 18 (by decide), m_su_cong (m 19 (by decide)) (m 7 (by decide)) (m 17 (by decide)), m 21 (by decide), m20]
    refine ⟨r1, r2, r3, r4, r5, r6, r7, r8, r9, ?_, r11⟩
    by_cases hia : i = a
    · rw [if_pos hia, hia]; exact f4a
    · rw [if_neg hia, f4 _ (fun e => hia (aw_inj hW hi ha e))]; exact r10
  · rw [m 16 (by decide)] at hi hj
    rw [m 17 (by decide)] at q3
    exact hU.1 i j hi hj (m20a q1).2 (m20a q2).2 q3
  · rw [m 16 (by decide)] at hi
    rw [m 17 (by decide), m 18 (by decide), m13]
    split
    · rfl
    · exact hU.2 i hi (m20a q1).2
  · rw [m 22 (by decide)] at hc
    have c3 := (hC.1 c hc).2.2.1
    have h24 : M 24 c ≤ 7 := hM 24 c
    obtain ⟨d1, d2⟩ := hD c hc
    rw [m 26 (by decide), m 23 (by decide), m 25 (by decide), m 17 (by decide), m 24 (by decide), m 10 (by decide)]
    refine ⟨fun q => ?_, fun q5 q0 => ?_⟩
    · rw [m20, if_neg (fun e => hopen c hc e q)]; exact d1 q
    · rw [row 13 _ _ (nlot c3 q0) (by omega) (by decide)]
      exact d2 q5 (m20a q0).2
  · rw [hO.1 b9 hb9]
    refine sm_congr (fun j hj => ?_)
    unfold losts
    rw [ff 6 _ (by decide) (by decide) (by decide), ff 2 _ (by decide) (by decide) (by decide), ff 0 _ (by decide) (by decide) (by decide), ff 1 _ (by decide) (by decide) (by decide), ff 2 _ (by decide) (by decide) (by decide)]
  · rw [ff 6 _ (by decide) (by decide) (by decide)]; exact hO.2 i hi q1
  · rw [m 3 (by decide)] at ht
    rw [m 8 (by decide)] at hk
    have hN9 := hN t k ht hk
    have r1 := (hL t k ht hk).1
    have k4' : kd (F 4 (lo t k)) = 24 := hWF.ref r1 rfl (by decide)
    have h8 : M 8 t ≤ 3 := hM 8 t
    rw [(hs.at r1 (by decide)).2.1, m 16 (by decide), m 17 (by decide)]
    have himp : ∀ i, i < M 16 0 → (M 17 i = 3 * t + k ∧ M 20 i ≠ 0) → (M 17 i = 3 * t + k ∧ M2 20 i ≠ 0) := fun i _ q => ⟨q.1, fun q0 => q.2 (m20a q0).2⟩
    by_cases hn : t = x ∧ k = y
    · obtain ⟨rfl, rfl⟩ := hn
      rw [upL_eq, List.length_append]
      show _ + 1 ≤ _
      have := cn_lt (n := M 16 0) (k := a) himp ha ⟨e17, fun q0 => (m20a q0).1 rfl⟩ (fun q => q.2 h20)
      omega
    · have n4 : F 4 (lo t k) ≠ F 4 (lo x y) := fun e => by
        obtain ⟨q1, q2⟩ := lo_inj hT hL ht hk hx hy (by rw [← (hL t k ht hk).2.2.2.2.2.1, e, g6])
        exact hn ⟨q1, q2⟩
      rw [upL_ne n4]
      exact Nat.le_trans hN9 (cn_mono himp)
  · rw [m 22 (by decide), m 26 (by decide), m 27 (by decide), m 28 (by decide)]; exact hZ.1
  · rw [m 16 (by decide)] at hi
    rw [m20, if_neg (by omega), m 21 (by decide)]; exact hZ.2.1 i hi
  · rw [m 29 (by decide), m 31 (by decide)]; exact hZ.2.2
theorem u_sb (hM : MI M) (hM2 : MI M2) (hWF : WF kd F L) (hH : RelH kd F L h M tn aw co ct) (hT : RelT kd F L M tn lo ow) (hL : RelL kd F L M tn lo ow) (hX : RelX M) (hW : RelW kd F L M lo aw) (hU : RelU M) (hC : RelC kd F M aw co) (hD : RelD M) (hK : RelK kd F M aw ct) (hS : RelS M) (hN : RelN F L M lo) (hZ : RelZ M) (hO : RelO F M2 aw)
    {a : Nat} (ha : a < M 16 0) (h20 : M 20 a = 0) {c9 v b z : Nat} (ky : kd c9 = 4) (ev : F 0 c9 = v) (eb : F 1 c9 = b) (ez : F 2 c9 = z) (hv : v ≤ 2) (hb : b < 8) (hopen : ∀ c, c < M 22 0 → M 23 c = a → M 26 c ≠ 0) (hp : 0 < M 10 (8 * M 17 a + b)) (h0 : v = 0 → M 13 (8 * M 17 a + b) = 0) (h2 : v = 2 → M 14 (8 * M 17 a + b) = 0)
    (m : ∀ f, f ∉ [11, 13, 14, 20, 32] → M2 f = M f) (m20 : ∀ i, M2 20 i = if i = a then 1 else M 20 i) (m14 : ∀ i, M2 14 i = if v = 0 ∧ i = 8 * M 17 a + b then 1 else M 14 i) (m11 : ∀ i, M2 11 i = if v = 1 ∧ i = 8 * M 17 a + b then z else M 11 i) (m13 : ∀ i, M2 13 i = if v = 2 ∧ i = 8 * M 17 a + b then 0 else M 13 i) (hlen : (L (F 4 (F 1 (aw a)))).length < 60) (h60 : M 16 0 < 60)
    {ri : Int32} (hSB : SBr kd F L h (aw a) c9 ri kd2 F2 L2) : ri = m_gvr M2 (M 17 a) ∧ ∃ aw2, RelG kd2 F2 L2 h (m_gv M2 (M 17 a)) tn lo aw2 co ct ow := by
  obtain ⟨hWF3, G⟩ := u_void hM hWF hH hT hL hX hW hU hC hD hK hS hN hZ hO ha h20 ky ev eb ez hv hb hopen hp h0 h2 m m20 m14 m11 m13 hlen
  obtain ⟨x, y, hx, hy, hy3, e17, el1, hop⟩ := aw_lot hM hW ha
  have hA : AwB kd (kFollow (up2 F 4 (aw a) 1) (upL L (F 4 (F 1 (aw a))) (L (F 4 (F 1 (aw a))) ++ [c9])) (F 1 (aw a)) c9) (upL L (F 4 (F 1 (aw a))) (L (F 4 (F 1 (aw a))) ++ [c9])) h (F 1 (aw a)) ri kd2 F2 L2 := hSB
  rw [el1] at hA hWF3 G
  rw [e17]
  refine u_aw hM2 hWF3 G (by rw [m 3 (by decide)]; exact hx) (by rw [m 8 (by decide)]; exact hy) hy3 (by rw [m_op_cong (m 4 (by decide)) (m 1 (by decide))]; exact hop) (fun j hj q17 q20 => ?_) (by rw [m 16 (by decide)]; exact h60) hA
  rw [m 16 (by decide)] at hj
  rw [m 17 (by decide)] at q17
  rw [m20] at q20
  by_cases hja : j = a
  · rw [if_pos hja] at q20; cases q20
  · rw [if_neg hja] at q20
    exact hja (hU.1 j a hj ha q20 h20 (q17.trans e17.symm))
end UP
