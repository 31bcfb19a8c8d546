/-! what a change leaves of the relation -/
/-- objects and lists of these kinds are as they were -/
def SmK (kd : Nat → Nat) (F : Nat → Nat → Nat) (L : Nat → List Nat) (kd2 : Nat → Nat) (F2 : Nat → Nat → Nat) (L2 : Nat → List Nat) (S : List Nat) : Prop := ∀ a, kd a ∈ S → kd2 a = kd a ∧ (∀ f, F2 f a = F f a) ∧ L2 a = L a
section SM
variable {kd kd2 kd3 : Nat → Nat} {F F2 F3 : Nat → Nat → Nat} {L L2 L3 : Nat → List Nat} {S : List Nat}
theorem SmK.rf : SmK kd F L kd F L S := fun _ _ => ⟨rfl, fun _ => rfl, rfl⟩
theorem SmK.trans (h1 : SmK kd F L kd2 F2 L2 S) (h2 : SmK kd2 F2 L2 kd3 F3 L3 S) : SmK kd F L kd3 F3 L3 S := by
  intro a ha
  obtain ⟨a1, a2, a3⟩ := h1 a ha
  obtain ⟨b1, b2, b3⟩ := h2 a (by rw [a1]; exact ha)
  exact ⟨b1.trans a1, fun f => (b2 f).trans (a2 f), b3.trans a3⟩
theorem SmK.pu2 {f a v k : Nat} (hk : kd a = k) (hS : k ∉ S) : SmK kd F L kd (up2 F f a v) L S := fun b hb => ⟨rfl, fun _ => up2_ne (fun e => hS (by rw [← hk, ← e]; exact hb)), rfl⟩
theorem SmK.puL {a k : Nat} {vs : List Nat} (hk : kd a = k) (hS : k ∉ S) : SmK kd F L kd F (upL L a vs) S := fun b hb => ⟨rfl, fun _ => rfl, upL_ne (fun e => hS (by rw [← hk, ← e]; exact hb))⟩
theorem SmK.new {q k : Nat} {vals : List Nat} (hq : kd q = 0) (h0 : 0 ∉ S) : SmK kd F L (kdN kd q k) (FN F q vals) L S := fun b hb => by
  have hne : b ≠ q := fun e => h0 (by rw [← hq, ← e]; exact hb)
  exact ⟨kdN_ne hne, fun _ => FN_ne hne, rfl⟩
theorem SmK.newL {q k : Nat} {vs : List Nat} (hq : kd q = 0) (h0 : 0 ∉ S) : SmK kd F L (kdN kd q k) F (upL L q vs) S := fun b hb => by
  have hne : b ≠ q := fun e => h0 (by rw [← hq, ← e]; exact hb)
  exact ⟨kdN_ne hne, fun _ => rfl, upL_ne hne⟩
theorem SmK.at (h : SmK kd F L kd2 F2 L2 S) {a k : Nat} (hk : kd a = k) (hS : k ∈ S) : kd2 a = k ∧ (∀ f, F2 f a = F f a) ∧ L2 a = L a := by
  subst hk
  exact h a hS
theorem SmK.of_nz (h : SmK kd F L kd2 F2 L2 S) {T : List Nat} (hT : ∀ k ∈ T, k ∈ S) : SmK kd F L kd2 F2 L2 T := fun a ha => h a (hT _ ha)
variable {h : Nat} {M M2 : MS} {tn : Nat → Nat} {lo : Nat → Nat → Nat} {aw aw2 co ct ow : Nat → Nat}
theorem RelT.congr (hR : RelT kd F L M tn lo ow) (hWF : WF kd F L) (hs : SmK kd F L kd2 F2 L2 S) (h8 : 8 ∈ S) (h27 : 27 ∈ S) (e3 : M2 3 = M 3) (e4 : M2 4 = M 4) (e5 : M2 5 = M 5) (e6 : M2 6 = M 6) (e7 : M2 7 = M 7) (e8 : M2 8 = M 8) : RelT kd2 F2 L2 M2 tn lo ow := by
  intro t ht
  rw [e3] at ht
  obtain ⟨r1, r2, r3, r4, r5, r6, r7, r8⟩ := hR t ht
  obtain ⟨s1, s2, -⟩ := hs.at r1 h8
  have k5 : kd (F 5 (tn t)) = 27 := hWF.ref r1 rfl (by decide)
  rw [s2, s2, s2, s2, s2, s2, (hs.at k5 h27).2.2, e4, e5, e6, e7, e8]
  exact ⟨s1, r2, r3, r4, r5, r6, r7, r8⟩
theorem m_op_cong (e4 : M2 4 = M 4) (e1 : M2 1 = M 1) (t : Nat) : m_op M2 t = m_op M t := by
  unfold m_op
  rw [e4, e1]
theorem RelB.congr {a g : Nat} (hR : RelB F L ow M a g) (hWF : WF kd F L) (ha : kd a = 7) (hs : SmK kd F L kd2 F2 L2 S) (h7 : 7 ∈ S) (h23 : 23 ∈ S) (hk3 : 3 ∈ S) (e1 : M2 1 = M 1) (e4 : M2 4 = M 4) (e10 : M2 10 = M 10) (e11 : M2 11 = M 11) (e12 : M2 12 = M 12) (e13 : M2 13 = M 13) (e14 : M2 14 = M 14) (e15 : M 15 0 ≤ M2 15 0) : RelB F2 L2 ow M2 a g := by
  obtain ⟨b1, b2, b3⟩ := hR
  obtain ⟨s1, s2, -⟩ := hs.at ha h7
  have k3 : kd (F 3 a) = 23 := hWF.ref ha rfl (by decide)
  have el : L2 (F2 3 a) = L (F 3 a) := by rw [s2]; exact (hs.at k3 h23).2.2
  have ko : ∀ o ∈ L (F 3 a), ∀ f, F2 f o = F f o := fun o ho => (hs.at (el_kd hWF k3 o ho) hk3).2.1
  unfold RelB
  rw [el]
  refine ⟨fun o ho => ?_, fun b hb hp => ?_, ?_⟩
  · obtain ⟨r1, r2, r3, r4, r5, r6, r7⟩ := b1 o ho
    have ko := ko o ho
    rw [ko, ko, ko, ko, e10, e11, e12]
    refine ⟨r1, r2, r3, r4, r5, ?_, by omega⟩
    rw [r6]
    unfold stt
    rw [m_op_cong e4 e1, e13, e14]
  · rw [e10] at hp
    obtain ⟨o, ho, he⟩ := b2 b hb hp
    exact ⟨o, ho, by rw [ko o ho]; exact he⟩
  · refine List.Pairwise.imp_of_mem (fun {x y} hx hy q => ?_) b3
    rw [ko x hx, ko y hy, e12]; exact q
theorem kRep_congr {vs : List Nat} {b q s : Nat} (hv : ∀ y ∈ vs, ∀ f, F2 f y = F f y) : ∀ n, n ≤ vs.length → kRep F2 vs b q s n = kRep F vs b q s n
  | 0, _ => rfl
  | n + 1, hn => by
    have hg := hv _ (gt_mem (show n < vs.length by omega))
    rw [kRep, kRep, kRep_congr hv n (by omega), hg, hg, hg]
theorem RelR.congr {a : Nat} (hR : RelR F L a) (hWF : WF kd F L) (ha : kd a = 7) (hs : SmK kd F L kd2 F2 L2 S) (h7 : 7 ∈ S) (h23 : 23 ∈ S) (hk3 : 3 ∈ S) (h24 : 24 ∈ S) (hk4 : 4 ∈ S) : RelR F2 L2 a := by
  obtain ⟨s1, s2, -⟩ := hs.at ha h7
  have k3 : kd (F 3 a) = 23 := hWF.ref ha rfl (by decide)
  have k4 : kd (F 4 a) = 24 := hWF.ref ha rfl (by decide)
  have el : L2 (F2 3 a) = L (F 3 a) := by rw [s2]; exact (hs.at k3 h23).2.2
  have ec : L2 (F2 4 a) = L (F 4 a) := by rw [s2]; exact (hs.at k4 h24).2.2
  unfold RelR
  rw [el, ec]
  intro o ho
  have ko : ∀ f, F2 f o = F f o := (hs.at (el_kd hWF k3 o ho) hk3).2.1
  rw [ko, ko, ko, ko, ko, kRep_congr (fun y hy => (hs.at (el_kd hWF k4 y hy) hk4).2.1) _ (Nat.le_refl _)]
  exact hR o ho
theorem RelL.congr (hR : RelL kd F L M tn lo ow) (hWF : WF kd F L) (hs : SmK kd F L kd2 F2 L2 S) (h7 : 7 ∈ S) (h23 : 23 ∈ S) (hk3 : 3 ∈ S) (h24 : 24 ∈ S) (hk4 : 4 ∈ S) (e1 : M2 1 = M 1) (e3 : M2 3 = M 3) (e4 : M2 4 = M 4) (e8 : M2 8 = M 8) (e9 : M2 9 = M 9) (e10 : M2 10 = M 10) (e11 : M2 11 = M 11) (e12 : M2 12 = M 12) (e13 : M2 13 = M 13) (e14 : M2 14 = M 14) (e15 : M 15 0 ≤ M2 15 0) : RelL kd2 F2 L2 M2 tn lo ow := by
  intro t k ht hk
  rw [e3] at ht
  rw [e8] at hk
  obtain ⟨r1, r2, r3, r4, r5, r6, r7, r8⟩ := hR t k ht hk
  obtain ⟨s1, s2, -⟩ := hs.at r1 h7
  rw [s2, s2, s2, s2, s2, e9]
  exact ⟨s1, r2, r3, r4, r5, r6, r7.congr hWF r1 hs h7 h23 hk3 e1 e4 e10 e11 e12 e13 e14 e15, r8.congr hWF r1 hs h7 h23 hk3 h24 hk4⟩
theorem RelN.congr (hR : RelN F L M lo) (hL : RelL kd F L M tn lo ow) (hWF : WF kd F L) (hs : SmK kd F L kd2 F2 L2 S) (h7 : 7 ∈ S) (h24 : 24 ∈ S) (e3 : M2 3 = M 3) (e8 : M2 8 = M 8) (e16 : M2 16 = M 16) (e17 : M2 17 = M 17) (e20 : M2 20 = M 20) : RelN F2 L2 M2 lo := by
  intro t k ht hk
  rw [e3] at ht
  rw [e8] at hk
  have r1 := (hL t k ht hk).1
  have k4 : kd (F 4 (lo t k)) = 24 := hWF.ref r1 rfl (by decide)
  rw [(hs.at r1 h7).2.1, (hs.at k4 h24).2.2, e16, e17, e20]
  exact hR t k ht hk
theorem m_su_cong2 (e19 : M2 19 = M 19) (e7 : M2 7 = M 7) (e17 : M2 17 = M 17) (a : Nat) : m_su M2 a = m_su M a := m_su_cong e19 e7 e17 a
theorem RelW.congr (hR : RelW kd F L M lo aw) (hWF : WF kd F L) (hs : SmK kd F L kd2 F2 L2 S) (h2 : 2 ∈ S) (h7 : 7 ∈ S) (h23 : 23 ∈ S) (hk3 : 3 ∈ S) (e1 : M2 1 = M 1) (e3 : M2 3 = M 3) (e4 : M2 4 = M 4) (e7 : M2 7 = M 7) (e8 : M2 8 = M 8) (e16 : M2 16 = M 16) (e17 : M2 17 = M 17) (e18 : M2 18 = M 18) (e19 : M2 19 = M 19) (e20 : M2 20 = M 20) (e21 : M2 21 = M 21) : RelW kd2 F2 L2 M2 lo aw := by
  intro a ha
  rw [e16] at ha
  obtain ⟨r1, r2, r3, r4, r5, r6, r7, r8, r9, r10, r11⟩ := hR a ha
  obtain ⟨s1, s2, -⟩ := hs.at r1 h2
  have kl : kd (F 1 (aw a)) = 7 := hWF.ref r1 rfl (by decide)
  have kb : kd (F 2 (aw a)) = 3 := hWF.ref r1 rfl (by decide)
  have k3 : kd (F 3 (F 1 (aw a))) = 23 := hWF.ref kl rfl (by decide)
  have el : L2 (F2 3 (F 1 (aw a))) = L (F 3 (F 1 (aw a))) := by rw [(hs.at kl h7).2.1]; exact (hs.at k3 h23).2.2
  rw [s2, s2, s2, s2, s2, s2, el, (hs.at kb hk3).2.1, e17, e3, e8, m_op_cong e4 e1, e18, m_su_cong e19 e7 e17, e20, e21]
  exact ⟨s1, r2, r3, r4, r5, r6, r7, r8, r9, r10, r11⟩
theorem RelC.congr (hR : RelC kd F M aw co) (hs : SmK kd F L kd2 F2 L2 S) (h5 : 5 ∈ S) (he : ∀ a, a < M 16 0 → aw2 a = aw a) (e16 : M 16 0 ≤ M2 16 0) (e22 : M2 22 = M 22) (e23 : M2 23 = M 23) (e24 : M2 24 = M 24) (e25 : M2 25 = M 25) (e26 : M2 26 = M 26) (e27 : M2 27 = M 27) (e28 : M2 28 = M 28) : RelC kd2 F2 M2 aw2 co := by
  refine ⟨fun c hc => ?_, by rw [e22]; exact hR.2⟩
  rw [e22] at hc
  obtain ⟨r1, r2, r3, r4, r5, r6, r7, r8⟩ := hR.1 c hc
  obtain ⟨s1, s2, -⟩ := hs.at r1 h5
  rw [s2, s2, s2, s2, s2, s2, e23, e24, e25, e26, e27, e28, he _ r3]
  exact ⟨s1, r2, by omega, r4, r5, r6, r7, r8⟩
theorem RelK.congr (hR : RelK kd F M aw ct) (hs : SmK kd F L kd2 F2 L2 S) (h6 : 6 ∈ S) (he : ∀ a, a < M 16 0 → aw2 a = aw a) (e16 : M 16 0 ≤ M2 16 0) (e29 : M2 29 = M 29) (e30 : M2 30 = M 30) (e31 : M2 31 = M 31) : RelK kd2 F2 M2 aw2 ct := by
  refine ⟨fun c hc => ?_, by rw [e29]; exact hR.2⟩
  rw [e29] at hc
  obtain ⟨r1, r2, r3, r4⟩ := hR.1 c hc
  obtain ⟨s1, s2, -⟩ := hs.at r1 h6
  rw [s2, s2, e30, e31, he _ r2]
  exact ⟨s1, by omega, r3, r4⟩
theorem RelO.congr (hR : RelO F M aw) (hW : RelW kd F L M lo aw) (hWF : WF kd F L) (hs : SmK kd F L kd2 F2 L2 S) (h2 : 2 ∈ S) (h7 : 7 ∈ S) (hk3 : 3 ∈ S) (e16 : M2 16 = M 16) (e20 : M2 20 = M 20) (e32 : M2 32 = M 32) : RelO F2 M2 aw := by
  refine ⟨fun b hb => ?_, fun a ha h0 => by rw [e16] at ha; rw [e20] at h0; rw [(hs.at (hW a ha).1 h2).2.1]; exact hR.2 a ha h0⟩
  rw [e32, e16, hR.1 b hb]
  refine sm_congr (fun j hj => ?_)
  have r1 := (hW j hj).1
  have s2 := (hs.at r1 h2).2.1
  have kl : kd (F 1 (aw j)) = 7 := hWF.ref r1 rfl (by decide)
  have kb : kd (F 2 (aw j)) = 3 := hWF.ref r1 rfl (by decide)
  unfold losts
  rw [s2, s2, s2, (hs.at kb hk3).2.1, (hs.at kl h7).2.1]
theorem RelH.congr (hR : RelH kd F L h M tn aw co ct) (hWF : WF kd F L) (hs : SmK kd F L kd2 F2 L2 S) (h9 : 9 ∈ S) (h11 : 11 ∈ S) (h28 : 28 ∈ S) (h22 : 22 ∈ S) (h25 : 25 ∈ S) (h26 : 26 ∈ S) (e1 : M2 1 = M 1) (e2 : M2 2 = M 2) (e3 : M2 3 = M 3) (e16 : M2 16 = M 16) (e22 : M2 22 = M 22) (e29 : M2 29 = M 29) : RelH kd2 F2 L2 h M2 tn aw co ct := by
  obtain ⟨r1, r2, r3, r4, r5, r6, r7, r8⟩ := hR
  obtain ⟨s1, s2, -⟩ := hs.at r1 h9
  have k1 : kd (F 1 h) = 28 := hWF.ref r1 rfl (by decide)
  have k2 : kd (F 2 h) = 22 := hWF.ref r1 rfl (by decide)
  have k3 : kd (F 3 h) = 25 := hWF.ref r1 rfl (by decide)
  have k4 : kd (F 4 h) = 26 := hWF.ref r1 rfl (by decide)
  unfold RelH
  rw [s2, s2, s2, s2, s2, s2, (hs.at k1 h28).2.2, (hs.at k2 h22).2.2, (hs.at k3 h25).2.2, (hs.at k4 h26).2.2, e1, e2, e3, e16, e22, e29]
  exact ⟨s1, (hs.at r2 h11).1, r3, fun i hi => by rw [(hs.at r2 h11).2.1]; exact r4 i hi, r5, r6, r7, r8⟩
theorem RelX.congr (hR : RelX M) (e1 : M2 1 = M 1) (e3 : M2 3 = M 3) (e4 : M2 4 = M 4) (e8 : M2 8 = M 8) (e10 : M2 10 = M 10) (e13 : M2 13 = M 13) (e14 : M2 14 = M 14) : RelX M2 := by
  unfold RelX
  simp only [e3, e8, e10, e13, e14, m_op_cong e4 e1]
  exact hR
theorem RelU.congr (hR : RelU M) (e13 : M2 13 = M 13) (e16 : M2 16 = M 16) (e17 : M2 17 = M 17) (e18 : M2 18 = M 18) (e20 : M2 20 = M 20) : RelU M2 := by
  unfold RelU
  rw [e13, e16, e17, e18, e20]
  exact hR
theorem RelD.congr (hR : RelD M) (e10 : M2 10 = M 10) (e13 : M2 13 = M 13) (e17 : M2 17 = M 17) (e20 : M2 20 = M 20) (e22 : M2 22 = M 22) (e23 : M2 23 = M 23) (e24 : M2 24 = M 24) (e25 : M2 25 = M 25) (e26 : M2 26 = M 26) : RelD M2 := by
  unfold RelD
  rw [e10, e13, e17, e20, e22, e23, e24, e25, e26]
  exact hR
theorem RelS.congr (hR : RelS M) (e16 : M2 16 = M 16) (e21 : M2 21 = M 21) (e29 : M2 29 = M 29) (e30 : M2 30 = M 30) : RelS M2 := by
  unfold RelS
  rw [e16, e21, e29, e30]
  exact hR
end SM
