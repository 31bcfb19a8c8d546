/-! changes: awards lapse -/
theorem sm_one {f g : Nat → Nat} {n k d : Nat} (h : ∀ i, i < n → i ≠ k → g i = f i) (hk : k < n) (hd : g k = f k + d) : sm g n = sm f n + d := by
  induction n with
  | zero => omega
  | succ n ih =>
    rw [sm, sm]
    by_cases hkn : k = n
    · subst hkn
      rw [sm_congr (fun i hi => h i (by omega) (by omega)), hd]; omega
    · rw [ih (fun i hi => h i (by omega)) (by omega), h n (by omega) (fun q => hkn q.symm)]; omega
section UP
variable {kd kd2 : Nat → Nat} {F F2 : Nat → Nat → Nat} {L L2 : Nat → List Nat} {S : List Nat} {h : Nat} {M M2 : MS} {tn tn2 : Nat → Nat} {lo lo2 : Nat → Nat → Nat} {aw aw2 co co2 ct ct2 ow ow2 : Nat → Nat}
theorem RelW.six (hW : RelW kd F L M lo aw) {w v : Nat} : RelW kd (up2 F 6 w v) L M lo aw := by
  intro i hi
  obtain ⟨r1, r2, r3, r4, r5, r6, r7, r8, r9, r10, r11⟩ := hW i hi
  have f : ∀ f b, f ≠ 6 → up2 F 6 w v f b = F f b := fun f b hf => up2_nf hf
  rw [f 0 _ (by decide), f 1 _ (by decide), f 2 _ (by decide), f 3 _ (by decide), f 4 _ (by decide), f 5 _ (by decide), f 0 _ (by decide), f 3 _ (by decide)]
  exact ⟨r1, r2, r3, r4, r5, r6, r7, r8, r9, r10, r11⟩
theorem u_lapse (hM : MI M) (hWF : WF kd F L) (G : RelG kd F L h M tn lo aw co ct ow) {a : Nat} (ha : a < M 16 0) (hc : m_lpc M a = true) {z : Nat} (hz : m_lost M z) (hz2 : z + 10000 ≤ 1200000000) {q : Nat} (hq : kd q = 0) {ri : Int32} (hSB : SBr (kdN kd q 4) (FN (up2 F 6 (aw a) 1) q [0, F 0 (F 2 (aw a)), 0]) L h (aw a) q ri kd2 F2 L2) : ∃ aw2, RelG kd2 F2 L2 h (m_lp1 M a) tn lo aw2 co ct ow := by
  obtain ⟨hH, hT, hL, hX, hW, hU, hC, hD, hK, hS, hO, hN, hZ⟩ := G
  unfold m_lpc m_fn at hc
  simp only [Bool.and_eq_true, decide_eq_true_eq] at hc
  obtain ⟨⟨⟨c60, c21⟩, ⟨c20, coo⟩, csu⟩, c30⟩ := hc
  obtain ⟨x, y, hx, hy, hy3, e17, el1, hop⟩ := aw_lot hM hW ha
  obtain ⟨w1, w2, w3, w4, w5, w6, w7, w8, w9, w10, w11⟩ := hW a ha
  have h18 : M 18 a ≤ 7 := hM 18 a
  have h9 : M 9 (M 17 a) ≤ 10000 := hM 9 _
  have h32 : M 32 (M 18 a) ≤ z := hz _
  have ef : ∀ b, F 0 (F 2 (aw a)) = b → FN (up2 F 6 (aw a) 1) q [0, F 0 (F 2 (aw a)), 0] 1 q = b := fun b e => by rw [← e]; exact if_pos rfl
  have fq : ∀ f, FN (up2 F 6 (aw a) 1) q [0, F 0 (F 2 (aw a)), 0] f q = [0, F 0 (F 2 (aw a)), 0].getD f 0 := fun f => if_pos rfl
  have hp : 0 < M 10 (8 * M 17 a + M 18 a) := by
    rw [el1] at w7
    obtain ⟨-, -, b3, b4, -⟩ := (hL x y hx hy).2.2.2.2.2.2.1.1 _ w7
    rw [w8, ← e17] at b3
    omega
  have kwb : kd (F 2 (aw a)) = 3 := hWF.ref w1 rfl (by decide)
  have hb8 : F 0 (F 2 (aw a)) < 8 := by rw [w8]; omega
  -- the flag
  have hWF6 := hWF.put (f := 6) (v := 1) w1 (Or.inr (by show 1 < 2; omega)) (Or.inl rfl)
  have hWFq : WF (kdN kd q 4) (FN (up2 F 6 (aw a) 1) q [0, F 0 (F 2 (aw a)), 0]) L := hWF6.new hq (by decide) (fun f => by
    rcases f with _ | _ | _ | f
    · exact Or.inr (show 0 < 3 by omega)
    · exact Or.inr (show F 0 (F 2 (aw a)) < 8 by omega)
    · exact Or.inr (show 0 < 101 by omega)
    · exact Or.inl rfl) (fun f => by
    rcases f with _ | _ | _ | f <;> exact Or.inl rfl)
  have hO0 := hO
  have hW0 := hW
  have eM : ∀ f, f ∉ [14, 20, 32] → mu (mu (mu M 20 a 1) 32 (M 18 a) (M 32 (M 18 a) + M 9 (M 17 a))) 14 (8 * M 17 a + M 18 a) 1 f = M f := fun f hf => by
    rw [mu_nf _ (fun z => hf (by rw [z]; decide)), mu_nf _ (fun z => hf (by rw [z]; decide)), mu_nf _ (fun z => hf (by rw [z]; decide))]
  have e20 : ∀ i, mu (mu (mu M 20 a 1) 32 (M 18 a) (M 32 (M 18 a) + M 9 (M 17 a))) 14 (8 * M 17 a + M 18 a) 1 20 i = if i = a then 1 else M 20 i := fun i => by rw [mu_nf _ (by decide), mu_nf _ (by decide), mu_at]
  have e32 : ∀ i, mu (mu (mu M 20 a 1) 32 (M 18 a) (M 32 (M 18 a) + M 9 (M 17 a))) 14 (8 * M 17 a + M 18 a) 1 32 i = if i = M 18 a then M 32 (M 18 a) + M 9 (M 17 a) else M 32 i := fun i => by rw [mu_nf _ (by decide), mu_at, mu_nf _ (by decide)]
  have e14 : ∀ i, mu (mu (mu M 20 a 1) 32 (M 18 a) (M 32 (M 18 a) + M 9 (M 17 a))) 14 (8 * M 17 a + M 18 a) 1 14 i = if i = 8 * M 17 a + M 18 a then 1 else M 14 i := fun i => by rw [mu_at, mu_nf _ (by decide), mu_nf _ (by decide)]
  have hM2 : MI (mu (mu (mu M 20 a 1) 32 (M 18 a) (M 32 (M 18 a) + M 9 (M 17 a))) 14 (8 * M 17 a + M 18 a) 1) := MI_mu (MI_mu (MI_mu hM (by decide)) (by show _ ≤ 1200000000; omega)) (by decide)
  unfold m_lp1
  generalize mu (mu (mu M 20 a 1) 32 (M 18 a) (M 32 (M 18 a) + M 9 (M 17 a))) 14 (8 * M 17 a + M 18 a) 1 = M2 at *
  have hs1 : SmK kd F L kd (up2 F 6 (aw a) 1) L [3, 4, 5, 6, 7, 8, 9, 11, 22, 23, 24, 25, 26, 27, 28] := SmK.pu2 w1 (by decide)
  have hs2 : SmK kd (up2 F 6 (aw a) 1) L (kdN kd q 4) (FN (up2 F 6 (aw a) 1) q [0, F 0 (F 2 (aw a)), 0]) L [2, 3, 4, 5, 6, 7, 8, 9, 11, 22, 23, 24, 25, 26, 27, 28] := SmK.new hq (by decide)
  have hs : SmK kd F L (kdN kd q 4) (FN (up2 F 6 (aw a) 1) q [0, F 0 (F 2 (aw a)), 0]) L [3, 4, 5, 6, 7, 8, 9, 11, 22, 23, 24, 25, 26, 27, 28] := hs1.trans (hs2.of_nz (by decide))
  have hW6 : RelW (kdN kd q 4) (FN (up2 F 6 (aw a) 1) q [0, F 0 (F 2 (aw a)), 0]) L M lo aw := by
    have hW := hW.six (w := aw a) (v := 1)
    have hWF := hWF6
    have hs := hs2
    have m : ∀ f, f ∉ [99] → M f = M f := fun _ _ => rfl
    exact hW.congr hWF hs (by decide) (by decide) (by decide) (by decide) (m 1 (by decide)) (m 3 (by decide)) (m 4 (by decide)) (m 7 (by decide)) (m 8 (by decide)) (m 16 (by decide)) (m 17 (by decide)) (m 18 (by decide)) (m 19 (by decide)) (m 20 (by decide)) (m 21 (by decide))
  have nq : ∀ {b9 : Nat}, kd b9 ≠ 0 → b9 ≠ q := fun h9 e => h9 (by rw [e]; exact hq)
  have hO2 : RelO (FN (up2 F 6 (aw a) 1) q [0, F 0 (F 2 (aw a)), 0]) M2 aw := by
    refine ⟨fun b hb => ?_, fun j hj hj0 => ?_⟩
    · have elo : ∀ j, j < M 16 0 → j ≠ a → losts (FN (up2 F 6 (aw a) 1) q [0, F 0 (F 2 (aw a)), 0]) aw b j = losts F aw b j := fun j hj hja => by
        have k2 := (hW0 j hj).1
        have kl : kd (F 1 (aw j)) = 7 := hWF.ref k2 rfl (by decide)
        have kb : kd (F 2 (aw j)) = 3 := hWF.ref k2 rfl (by decide)
        have hne : aw j ≠ aw a := fun e => hja (aw_inj hW0 hj ha e)
        unfold losts
        rw [FN_ne (nq (by omega : kd (aw j) ≠ 0)), FN_ne (nq (by omega : kd (aw j) ≠ 0)), FN_ne (nq (by omega : kd (aw j) ≠ 0)), up2_ne hne, up2_ne hne, up2_ne hne, (hs.at kb (by decide)).2.1, (hs.at kl (by decide)).2.1]
      have kla : kd (F 1 (aw a)) = 7 := hWF.ref w1 rfl (by decide)
      have e0 : losts F aw b a = 0 := by
        unfold losts
        rw [if_neg (fun z => hO0.2 a ha c20 z.1)]
      have e1 : losts (FN (up2 F 6 (aw a) 1) q [0, F 0 (F 2 (aw a)), 0]) aw b a = if M 18 a = b then M 9 (M 17 a) else 0 := by
        have n6 : FN (up2 F 6 (aw a) 1) q [0, F 0 (F 2 (aw a)), 0] 6 (aw a) = 1 := by rw [FN_ne (nq (by omega : kd (aw a) ≠ 0)), up2_eq]
        have n2 : FN (up2 F 6 (aw a) 1) q [0, F 0 (F 2 (aw a)), 0] 2 (aw a) = F 2 (aw a) := by rw [FN_ne (nq (by omega : kd (aw a) ≠ 0)), up2_nf (by decide)]
        have n1 : FN (up2 F 6 (aw a) 1) q [0, F 0 (F 2 (aw a)), 0] 1 (aw a) = F 1 (aw a) := by rw [FN_ne (nq (by omega : kd (aw a) ≠ 0)), up2_nf (by decide)]
        unfold losts
        rw [n6, n2, n1, (hs.at kwb (by decide)).2.1, (hs.at kla (by decide)).2.1, w8, el1, (hL x y hx hy).2.2.2.1, ← e17]
        by_cases hb9 : M 18 a = b
        · rw [if_pos ⟨rfl, hb9⟩, if_pos hb9]
        · rw [if_neg (fun z => hb9 z.2), if_neg hb9]
      rw [e32, eM 16 (by decide), sm_one elo ha (d := if M 18 a = b then M 9 (M 17 a) else 0) (by rw [e1, e0, Nat.zero_add]), ← hO0.1 b hb]
      by_cases hb9 : M 18 a = b
      · rw [if_pos hb9.symm, if_pos hb9, hb9]
      · rw [if_neg (fun e => hb9 e.symm), if_neg hb9]; rfl
    · rw [eM 16 (by decide)] at hj
      rw [e20] at hj0
      by_cases hja : j = a
      · rw [if_pos hja] at hj0; cases hj0
      · rw [if_neg hja] at hj0
        have k2 := (hW0 j hj).1
        rw [FN_ne (nq (by omega : kd (aw j) ≠ 0)), up2_ne (fun e => hja (aw_inj hW0 hj ha e))]
        exact hO0.2 j hj hj0
  have m : ∀ f, f ∉ [99] → M f = M f := fun _ _ => rfl
  have aH := hH.congr hWF hs (by decide) (by decide) (by decide) (by decide) (by decide) (by decide) (m 1 (by decide)) (m 2 (by decide)) (m 3 (by decide)) (m 16 (by decide)) (m 22 (by decide)) (m 29 (by decide))
  have aT := hT.congr hWF hs (by decide) (by decide) (m 3 (by decide)) (m 4 (by decide)) (m 5 (by decide)) (m 6 (by decide)) (m 7 (by decide)) (m 8 (by decide))
  have aL := hL.congr hWF hs (by decide) (by decide) (by decide) (by decide) (by decide) (m 1 (by decide)) (m 3 (by decide)) (m 4 (by decide)) (m 8 (by decide)) (m 9 (by decide)) (m 10 (by decide)) (m 11 (by decide)) (m 12 (by decide)) (m 13 (by decide)) (m 14 (by decide)) (by rw [m 15 (by decide)]; exact Nat.le_refl _)
  have aC := hC.congr hs (by decide) (fun _ _ => rfl) (by rw [m 16 (by decide)]; exact Nat.le_refl _) (m 22 (by decide)) (m 23 (by decide)) (m 24 (by decide)) (m 25 (by decide)) (m 26 (by decide)) (m 27 (by decide)) (m 28 (by decide))
  have aK := hK.congr hs (by decide) (fun _ _ => rfl) (by rw [m 16 (by decide)]; exact Nat.le_refl _) (m 29 (by decide)) (m 30 (by decide)) (m 31 (by decide))
  have aN := hN.congr hL hWF hs (by decide) (by decide) (m 3 (by decide)) (m 8 (by decide)) (m 16 (by decide)) (m 17 (by decide)) (m 20 (by decide))
  have key := u_sb (a := a) (c9 := q) (v := 0) (b := M 18 a) (z := 0) (ri := ri) (kd2 := kd2) (F2 := F2) (L2 := L2) hM hM2 hWFq aH aT aL hX hW6 hU aC hD aK hS aN hZ hO2 ha c20 kdN_eq (fq 0) (ef _ w8) (fq 2) (by omega) (by omega) (fun d hd h23 h26 => by
      have hcn := cn_lt (P := fun _ : Nat => False) (Q := fun c => M 23 c = a ∧ M 26 c = 0) (n := M 22 0) (k := d) (fun _ _ w => w.elim) hd ⟨h23, h26⟩ (fun w => w)
      unfold m_oo at coo
      rw [m_oof_cn] at coo
      omega) hp (fun _ => hU.2 a ha c20) (fun e => by cases e) (fun f hf => eM f (fun w => hf (by
        rcases List.mem_cons.mp w with w | w
        · rw [w]; decide
        · rcases List.mem_cons.mp w with w | w
          · rw [w]; decide
          · rw [List.mem_singleton.mp w]; decide))) e20 (fun i => by
        rw [e14]
        by_cases hi : i = 8 * M 17 a + M 18 a
        · rw [if_pos hi, if_pos ⟨rfl, hi⟩]
        · rw [if_neg hi, if_neg (fun w => hi w.2)]) (fun i => by rw [eM 11 (by decide), if_neg (fun w => by cases w.1)]) (fun i => by rw [eM 13 (by decide), if_neg (fun w => by cases w.1)]) (ch_room hM aL hW6 aN ha c20) c60 hSB
  exact key.2
theorem m_gv_16 (M : MS) (g : Nat) : M 16 0 ≤ m_gv M g 16 0 := by
  unfold m_gv
  rcases m_rk M g 0 with _ | b
  · exact Nat.le_refl _
  · show _ ≤ mu _ 16 0 (M 16 0 + 1) 16 0
    rw [mu_z]; omega
theorem m_lp1_16 (M : MS) (a : Nat) : M 16 0 ≤ m_lp1 M a 16 0 := by
  have := m_gv_16 (mu (mu (mu M 20 a 1) 32 (M 18 a) (M 32 (M 18 a) + M 9 (M 17 a))) 14 (8 * M 17 a + M 18 a) 1) (M 17 a)
  rw [mu_nf _ (by decide), mu_nf _ (by decide), mu_nf _ (by decide)] at this
  exact this
theorem m_lpf_16 (M : MS) : ∀ a, M 16 0 ≤ m_lpf M a 16 0
  | 0 => Nat.le_refl _
  | a + 1 => by
    rw [m_lpf]
    split
    · exact Nat.le_trans (m_lpf_16 M a) (m_lp1_16 _ _)
    · exact m_lpf_16 M a
theorem m_lpn_mono (M : MS) {a : Nat} : ∀ d, m_lpn M a ≤ m_lpn M (a + d)
  | 0 => Nat.le_refl _
  | d + 1 => by
    have := m_lpn_mono M (a := a) d
    show _ ≤ m_lpn M (a + d + 1)
    rw [m_lpn]; omega
/-- once sixty awards are made none lapses -/
theorem m_lpf_stop (M : MS) {a : Nat} (h : ¬ m_lpf M a 16 0 < 60) : ∀ d, m_lpf M (a + d) = m_lpf M a ∧ m_lpn M (a + d) = m_lpn M a
  | 0 => ⟨rfl, rfl⟩
  | d + 1 => by
    obtain ⟨i1, i2⟩ := m_lpf_stop M h d
    have hc : m_lpc (m_lpf M (a + d)) (a + d) = false := by
      unfold m_lpc
      rw [i1, decide_eq_false h]; rfl
    refine ⟨?_, ?_⟩
    · show m_lpf M (a + d + 1) = _
      rw [m_lpf, hc]
      exact i1
    · show m_lpn M (a + d + 1) = _
      rw [m_lpn, hc]
      exact i2
def lpI (h : Nat) (M : MS) (i n : Nat) (kd : Nat → Nat) (F : Nat → Nat → Nat) (L : Nat → List Nat) : Prop := i ≤ M 16 0 ∧ n = m_lpn M i ∧ Rel kd F L h (m_lpf M i)
theorem lp_inst (hM : MI M) {z : Nat} (hz : m_lost M z) (hz2 : z + 600000 ≤ 1200000000) {h : Nat} : LpI h (M 16 0) (m_lpn M (M 16 0)) (lpI h M) := by
  rintro i n kd F L ⟨hi, rfl, tn, lo, aw, co, ct, ow, G⟩ hWF
  have h16 : M 16 0 ≤ 60 := hM 16 0
  obtain ⟨hMi, hzi⟩ := m_lpf_inv hM hz i (by omega)
  have hH := G.1
  have hW := G.2.2.2.2.1
  have hC := G.2.2.2.2.2.2.1
  have eL : L (F 2 h) = lsn aw (m_lpf M i 16 0) := hH.2.2.2.2.2.1
  have hmono := m_lpf_16 M i
  have hnn := m_lpn_mono M (a := i) (M 16 0 - i)
  rw [show i + (M 16 0 - i) = M 16 0 by omega] at hnn
  refine ⟨hH.1, by rw [eL, lsn_len]; exact hmono, hnn, fun hiE h60 => ?_⟩
  rw [eL, lsn_len] at h60
  have hgt : gt (L (F 2 h)) i = aw i := by rw [eL]; exact lsn_gt (by omega)
  have hai : i < m_lpf M i 16 0 := by omega
  obtain ⟨w1, w2, w3, w4, w5, w6, w7, w8, w9, w10, w11⟩ := hW i hai
  have hcond : kLapC F L h (aw i) ↔ m_lpc (m_lpf M i) i = true := by
    unfold kLapC
    rw [w11, w9, hH.2.2.1, rl_fin hH hW hC hai]
    unfold m_lpc
    simp only [Bool.and_eq_true, decide_eq_true_eq]
    constructor
    · rintro ⟨q1, q2, q3⟩; exact ⟨⟨⟨h60, q1⟩, q3⟩, q2⟩
    · rintro ⟨⟨⟨-, q1⟩, q3⟩, q2⟩; exact ⟨q1, q2, q3⟩
  rw [hgt]
  refine ⟨fun hn => ?_, fun hy => ?_⟩
  · have hc : m_lpc (m_lpf M i) i = false := by
      have := fun e => hn (hcond.mpr e)
      simpa using this
    refine ⟨by omega, ?_, ?_⟩
    · rw [m_lpn, hc]; rfl
    · rw [m_lpf, hc]
      exact ⟨tn, lo, aw, co, ct, ow, G⟩
  · have hc := hcond.mp hy
    have en : m_lpn M (i + 1) = m_lpn M i + 1 := by rw [m_lpn, if_pos hc]
    have ef : m_lpf M (i + 1) = m_lp1 (m_lpf M i) i := by rw [m_lpf, if_pos hc]
    have hn2 := m_lpn_mono M (a := i + 1) (M 16 0 - (i + 1))
    rw [show i + 1 + (M 16 0 - (i + 1)) = M 16 0 by omega, en] at hn2
    have h20 : m_lpf M i 20 i = 0 := by rw [← w10]; exact hy.2.2.1
    refine ⟨hn2, ch_room hMi G.2.2.1 hW G.2.2.2.2.2.2.2.2.2.2.2.1 hai h20, fun q ri kd2 F2 L2 hq hWF2 hSB => ?_⟩
    obtain ⟨aw2, G2⟩ := u_lapse hMi hWF G hai hc hzi (by omega) hq hSB
    refine ⟨by omega, by rw [en], ?_⟩
    rw [ef]
    exact ⟨tn, lo, aw2, co, ct, ow, G2⟩
theorem lp_end (hM : MI M) {i n : Nat} (hI : lpI h M i n kd F L) (hend : M 16 0 ≤ i ∨ 60 ≤ (L (F 2 h)).length) : n = m_lpn M (M 16 0) ∧ Rel kd F L h (m_lp M) := by
  obtain ⟨hi, hn, hR⟩ := hI
  by_cases q : M 16 0 ≤ i
  · have : i = M 16 0 := by omega
    rw [this] at hn hR
    exact ⟨hn, hR⟩
  · have h60 : 60 ≤ (L (F 2 h)).length := by
      rcases hend with w | w
      · exact absurd w q
      · exact w
    have hR0 := hR
    obtain ⟨tn, lo, aw, co, ct, ow, G⟩ := hR0
    have eL : L (F 2 h) = lsn aw (m_lpf M i 16 0) := G.1.2.2.2.2.2.1
    rw [eL, lsn_len] at h60
    obtain ⟨i1, i2⟩ := m_lpf_stop M (a := i) (by omega) (M 16 0 - i)
    rw [show i + (M 16 0 - i) = M 16 0 by omega] at i1 i2
    refine ⟨by rw [i2]; exact hn, ?_⟩
    unfold m_lp
    rw [i1]
    exact hR
end UP
