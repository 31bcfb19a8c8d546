/-! changes: tenders are opened, days pass -/
theorem kPap_cong {F F2 : Nat → Nat → Nat} {h b pp : Nat} (e0 : F2 0 h = F 0 h) (e5 : F2 5 h = F 5 h) (ep : ∀ f, F2 f (F 0 h) = F f (F 0 h)) : kPap F2 h b pp ↔ kPap F h b pp := by
  unfold kPap
  rw [e0, e5]
  simp only [ep]
/-- the state that a bid is opened in -/
def kPv (F : Nat → Nat → Nat) (h b pp : Nat) : Nat := if kPap F h b pp then 1 else 2
theorem kPv_cong {F F2 : Nat → Nat → Nat} {h b pp : Nat} (e0 : F2 0 h = F 0 h) (e5 : F2 5 h = F 5 h) (ep : ∀ f, F2 f (F 0 h) = F f (F 0 h)) : kPv F2 h b pp = kPv F h b pp := by
  unfold kPv
  by_cases q : kPap F h b pp
  · rw [if_pos q, if_pos ((kPap_cong e0 e5 ep).mpr q)]
  · rw [if_neg q, if_neg (fun z => q ((kPap_cong e0 e5 ep).mp z))]
def mHv (M : MS) (b t : Nat) : Nat := if m_hp M b t 6 = true then 0 else 1
section OP
variable {kd : Nat → Nat} {F : Nat → Nat → Nat} {L : Nat → List Nat} {h pp : Nat} {vs : List Nat}
theorem kOpB_at (hh : h ∉ vs) (h0 : F 0 h ∉ vs) {f o : Nat} (hf : f = 4 ∨ f = 5) : ∀ j, j ≤ vs.length → (∃ i, i < j ∧ gt vs i = o) → kOpB F h pp vs j f o = kPv F h (F 0 o) pp
  | 0, _, hi => by obtain ⟨i, hi, -⟩ := hi; omega
  | j + 1, hj, hi => by
    have e0 : kOpB F h pp vs j 0 h = F 0 h := kOpB_nf (by decide) (by decide) j
    have ec : kPv (kOpB F h pp vs j) h (kOpB F h pp vs j 0 (gt vs j)) pp = kPv F h (F 0 (gt vs j)) pp := by
      rw [kOpB_nf (by decide) (by decide) j]
      exact kPv_cong e0 (kOpB_ne hh j (by omega)) (fun f => kOpB_ne h0 j (by omega))
    rw [kOpB]
    by_cases ho : o = gt vs j
    · subst ho
      have hv : (if decide (kPap (kOpB F h pp vs j) h (kOpB F h pp vs j 0 (gt vs j)) pp) = true then 1 else 2) = kPv F h (F 0 (gt vs j)) pp := by
        rw [← ec]
        unfold kPv
        by_cases q : kPap (kOpB F h pp vs j) h (kOpB F h pp vs j 0 (gt vs j)) pp
        · rw [decide_eq_true q, if_pos rfl, if_pos q]
        · rw [decide_eq_false q, if_neg (show ¬ false = true by decide), if_neg q]
      unfold kOpn
      rw [hv]
      rcases hf with rfl | rfl
      · rw [up2_nf (by decide), up2_eq]
      · rw [up2_eq]
    · rw [kOpn_ne ho]
      obtain ⟨i, hi1, hi2⟩ := hi
      refine kOpB_at hh h0 hf j (by omega) ⟨i, ?_, hi2⟩
      have : i ≠ j := fun e => ho (by rw [← hi2, e])
      omega
theorem kOpB_in (hh : h ∉ vs) (h0 : F 0 h ∉ vs) {f o : Nat} (hf : f = 4 ∨ f = 5) (ho : o ∈ vs) : kOpB F h pp vs vs.length f o = kPv F h (F 0 o) pp := by
  obtain ⟨i, hi, he⟩ := mem_gt ho
  exact kOpB_at hh h0 hf _ (Nat.le_refl _) ⟨i, hi, he⟩
theorem kOpL_pap (hW : WF kd F L) (hv : ∀ x ∈ vs, kd x = 7) (hh : kd h = 9) (b : Nat) {j : Nat} (hj : j ≤ vs.length) : kPv (kOpL F L h vs pp j) h b pp = kPv F h b pp :=
  kPv_cong (kOpL_nf (by decide) (by decide) j) (kOpL_kd hW hv hh (by decide) j hj) (fun f => kOpL_kd hW hv (hW.ref hh rfl (by decide) : kd (F 0 h) = 11) (by decide) j hj)
theorem kOpL_at (hW : WF kd F L) (hv : ∀ x ∈ vs, kd x = 7) (hh : kd h = 9) {f o : Nat} (hf : f = 4 ∨ f = 5) : ∀ j, j ≤ vs.length → kOpL F L h vs pp j f o = if ∃ i, i < j ∧ o ∈ L (F 3 (gt vs i)) then kPv F h (F 0 o) pp else F f o
  | 0, _ => (if_neg (fun ⟨i, hi, _⟩ => Nat.not_lt_zero i hi)).symm
  | j + 1, hj => by
    have ih := kOpL_at hW hv hh hf j (by omega) (o := o)
    have wj := WF.opL hW (h := h) (pp := pp) hv j (by omega)
    have e3 : kOpL F L h vs pp j 3 (gt vs j) = F 3 (gt vs j) := kOpL_nf (by decide) (by decide) j
    have k3 : kd (F 3 (gt vs j)) = 23 := hW.ref (hv _ (gt_mem (by omega))) rfl (by decide)
    have k11 : kd (F 0 h) = 11 := hW.ref hh rfl (by decide)
    rw [kOpL, e3]
    by_cases ho : o ∈ L (F 3 (gt vs j))
    · rw [kOpB_in (notin_kd hW k3 hh (by decide)) (by rw [kOpL_nf (by decide) (by decide) j]; exact notin_kd hW k3 k11 (by decide)) hf ho, if_pos ⟨j, by omega, ho⟩, kOpL_nf (f := 0) (by decide) (by decide) j]
      exact kOpL_pap hW hv hh _ (by omega)
    · rw [kOpB_ne ho _ (Nat.le_refl _), ih]
      by_cases q : ∃ i, i < j ∧ o ∈ L (F 3 (gt vs i))
      · rw [if_pos q, if_pos (by obtain ⟨i, h1, h2⟩ := q; exact ⟨i, by omega, h2⟩)]
      · rw [if_neg q, if_neg (fun z => by
          obtain ⟨i, h1, h2⟩ := z
          by_cases hij : i = j
          · rw [hij] at h2; exact ho h2
          · exact q ⟨i, by omega, h2⟩)]
end OP
/-- the reference's rows of a lot that is opened -/
theorem m_opb_at (M : MS) (t k : Nat) : ∀ n i, m_opb M t k n 13 i = if ∃ b, b < n ∧ i = 8 * (3 * t + k) + b then mHv M (i - 8 * (3 * t + k)) t else M 13 i
  | 0, i => (if_neg (fun ⟨b, hb, _⟩ => Nat.not_lt_zero b hb)).symm
  | n + 1, i => by
    have ehp : ∀ b n9, m_hp (m_opb M t k n) b t n9 = m_hp M b t n9 := fun b n9 => by
      induction n9 with
      | zero => rfl
      | succ n9 ih => rw [m_hp, m_hp, ih, m_opb_8 M t k (by decide), m_opb_8 M t k (by decide), m_opb_8 M t k (by decide)]
    have ehv : (if m_hp (m_opb M t k n) n t 6 = true then 0 else 1) = mHv M n t := by unfold mHv; rw [ehp]
    rw [m_opb, mu_at, ehv, m_opb_at M t k n i]
    by_cases hi : i = 8 * (3 * t + k) + n
    · rw [if_pos hi, if_pos ⟨n, by omega, hi⟩, show i - 8 * (3 * t + k) = n by omega]
    · rw [if_neg hi]
      by_cases q : ∃ b, b < n ∧ i = 8 * (3 * t + k) + b
      · rw [if_pos q, if_pos (by obtain ⟨b, h1, h2⟩ := q; exact ⟨b, by omega, h2⟩)]
      · rw [if_neg q, if_neg (fun z => by
          obtain ⟨b, h1, h2⟩ := z
          by_cases hbn : b = n
          · exact hi (by rw [← hbn]; exact h2)
          · exact q ⟨b, by omega, h2⟩)]
theorem m_opl_at (M : MS) (t : Nat) : ∀ n k b, k < 3 → b < 8 → ∀ t9, m_opl M t n 13 (8 * (3 * t9 + k) + b) = if n ≤ 3 ∧ t9 = t ∧ k < n then mHv M b t else if n ≤ 3 then M 13 (8 * (3 * t9 + k) + b) else m_opl M t n 13 (8 * (3 * t9 + k) + b)
  | 0, k, b, _, _, t9 => by rw [if_neg (fun q => Nat.not_lt_zero k q.2.2), if_pos (Nat.zero_le _)]; rfl
  | n + 1, k, b, hk, hb, t9 => by
    by_cases hn : n + 1 ≤ 3
    · have ehp : ∀ b n9, m_hp (m_opl M t n) b t n9 = m_hp M b t n9 := fun b n9 => by
        induction n9 with
        | zero => rfl
        | succ n9 ih => rw [m_hp, m_hp, ih, m_opl_8 M t (by decide), m_opl_8 M t (by decide), m_opl_8 M t (by decide)]
      have ih := m_opl_at M t n k b hk hb t9
      have ehv : ∀ b, mHv (m_opl M t n) b t = mHv M b t := fun b => by unfold mHv; rw [ehp]
      rw [if_pos hn, m_opl, m_opb_at, ehv, ih, if_pos (show n ≤ 3 by omega)]
      by_cases q : t9 = t ∧ k = n
      · obtain ⟨rfl, rfl⟩ := q
        rw [if_pos ⟨b, hb, rfl⟩, if_pos ⟨hn, rfl, by omega⟩, show 8 * (3 * t9 + k) + b - 8 * (3 * t9 + k) = b by omega]
      · rw [if_neg (fun z => by
          obtain ⟨b9, h1, h2⟩ := z
          exact q ⟨by omega, by omega⟩)]
        by_cases q2 : t9 = t ∧ k < n
        · rw [if_pos ⟨by omega, q2⟩, if_pos ⟨hn, q2.1, by omega⟩]
        · rw [if_neg (fun z => q2 z.2), if_neg (fun z => q2 ⟨z.2.1, by have : k ≠ n := fun e => q ⟨z.2.1, e⟩; omega⟩)]
    · rw [if_neg (fun q => hn q.1), if_neg hn]
theorem m_opt_at (M : MS) (h8 : ∀ t, M 8 t ≤ 3) : ∀ n t k b, k < 3 → b < 8 → m_opt M n 13 (8 * (3 * t + k) + b) = if t < n ∧ M 4 t = M 1 0 ∧ k < M 8 t then mHv M b t else M 13 (8 * (3 * t + k) + b)
  | 0, t, k, b, _, _ => (if_neg (fun q => Nat.not_lt_zero t q.1)).symm
  | n + 1, t, k, b, hk, hb => by
    have ih := m_opt_at M h8 n t k b hk hb
    have ehp : ∀ b n9, m_hp (m_opt M n) b n n9 = m_hp M b n n9 := fun b n9 => by
      induction n9 with
      | zero => rfl
      | succ n9 ih => rw [m_hp, m_hp, ih, m_opt_nf M (by decide), m_opt_nf M (by decide), m_opt_nf M (by decide)]
    have ehv : mHv (m_opt M n) b n = mHv M b n := by unfold mHv; rw [ehp]
    rw [m_opt, m_opt_nf M (by decide), m_opt_nf M (by decide), m_opt_nf M (by decide)]
    by_cases hc : M 4 n = M 1 0
    · rw [if_pos hc, m_opl_at _ _ _ _ _ hk hb, if_pos (h8 n), ehv]
      by_cases q : t = n ∧ k < M 8 n
      · obtain ⟨rfl, q2⟩ := q
        rw [if_pos ⟨h8 t, rfl, q2⟩, if_pos ⟨by omega, hc, q2⟩]
      · rw [if_neg (fun z => q z.2), ih]
        by_cases q2 : t < n ∧ M 4 t = M 1 0 ∧ k < M 8 t
        · rw [if_pos q2, if_pos ⟨by omega, q2.2⟩]
        · rw [if_neg q2, if_neg (fun z => by
            by_cases htn : t = n
            · subst htn; exact q ⟨rfl, z.2.2⟩
            · exact q2 ⟨by omega, z.2⟩)]
    · rw [if_neg hc, ih]
      by_cases q2 : t < n ∧ M 4 t = M 1 0 ∧ k < M 8 t
      · rw [if_pos q2, if_pos ⟨by omega, q2.2⟩]
      · rw [if_neg q2, if_neg (fun z => by
          by_cases htn : t = n
          · subst htn; exact hc z.2.1
          · exact q2 ⟨by omega, z.2⟩)]
theorem m_hp_iff (M : MS) (b t : Nat) : ∀ n, m_hp M b t n = true ↔ ∀ k, k < n → (M 5 t / 2 ^ k % 2 = 0 ∨ M 4 t < M 2 (6 * b + k))
  | 0 => ⟨fun _ k hk => absurd hk (Nat.not_lt_zero k), fun _ => rfl⟩
  | n + 1 => by
    rw [m_hp]
    simp only [Bool.and_eq_true, Bool.or_eq_true, decide_eq_true_eq]
    rw [m_hp_iff M b t n]
    constructor
    · rintro ⟨h1, h2⟩ k hk
      by_cases hkn : k = n
      · rw [hkn]; exact h2
      · exact h1 k (by omega)
    · exact fun h1 => ⟨fun k hk => h1 k (by omega), h1 n (by omega)⟩
section UP
variable {kd kd2 : Nat → Nat} {F F2 : Nat → Nat → Nat} {L L2 : Nat → List Nat} {S : List Nat} {h : Nat} {M M2 : MS} {tn tn2 : Nat → Nat} {lo lo2 : Nat → Nat → Nat} {aw aw2 co co2 ct ct2 ow ow2 : Nat → Nat}
/-- what opening does to the bids of a lot; F is after the day's change -/
theorem kOpT_at (hWF : WF kd F L) (hh : kd h = 9) (hT : RelT kd F L M tn lo ow) (hL : RelL kd F L M tn lo ow) {f : Nat} (hf : f = 4 ∨ f = 5) : ∀ j, j ≤ M 3 0 → ∀ t k, t < M 3 0 → k < M 8 t → ∀ o, o ∈ L (F 3 (lo t k)) → kOpT F L h (lsn tn (M 3 0)) j f o = if t < j ∧ M 4 t = F 5 h then kPv F h (F 0 o) (M 5 t) else F f o
  | 0, _, t, _, _, _, _, _ => (if_neg (fun q => Nat.not_lt_zero t q.1)).symm
  | j + 1, hj, t, k, ht, hk, o, ho => by
    have ih := kOpT_at hWF hh hT hL hf j (by omega) t k ht hk o ho
    have hgt : gt (lsn tn (M 3 0)) j = tn j := lsn_gt (by omega)
    obtain ⟨t1, t2, t3, t4, -, -, t7, t8⟩ := hT j (by omega)
    have hv : ∀ x ∈ lsn tn (M 3 0), kd x = 8 := fun x hx => by
      obtain ⟨i, hi, rfl⟩ := lsn_mem.mp hx
      exact (hT i hi).1
    have wj := WF.opT hWF (h := h) hv j (by rw [lsn_len]; omega)
    have k27 : kd (F 5 (tn j)) = 27 := hWF.ref t1 rfl (by decide)
    have e5 : kOpT F L h (lsn tn (M 3 0)) j 5 (tn j) = F 5 (tn j) := kOpT_kd hWF hv t1 (by decide) j (by rw [lsn_len]; omega)
    have eh5 : kOpT F L h (lsn tn (M 3 0)) j 5 h = F 5 h := kOpT_kd hWF hv hh (by decide) j (by rw [lsn_len]; omega)
    have k11 : kd (F 0 h) = 11 := hWF.ref hh rfl (by decide)
    rw [kOpT, hgt, kOpT_nf (by decide) (by decide) j, t3]
    by_cases hc : M 4 j = F 5 h
    · rw [if_pos hc]
      unfold kOpT1
      rw [e5, kOpT_nf (f := 2) (by decide) (by decide) j, t4, t7, kOpL_at wj (by
        intro x hx
        obtain ⟨i, hi, rfl⟩ := lsn_mem.mp hx
        exact (hL j i (by omega) hi).1) hh hf _ (Nat.le_refl _), lsn_len]
      by_cases htj : t = j
      · subst htj
        rw [if_pos ⟨k, hk, by rw [lsn_gt hk, kOpT_nf (by decide) (by decide) t]; exact ho⟩, if_pos ⟨by omega, hc⟩, kOpT_nf (f := 0) (by decide) (by decide) t]
        exact kPv_cong (kOpT_nf (by decide) (by decide) t) eh5 (fun f => kOpT_kd hWF hv k11 (by decide) t (by rw [lsn_len]; omega))
      · rw [if_neg (fun z => by
          obtain ⟨i, h1, h2⟩ := z
          rw [lsn_gt h1, kOpT_nf (by decide) (by decide) j] at h2
          have o1 := ((hL t k ht hk).2.2.2.2.2.2.1.1 o ho).1
          have o2 := ((hL j i (by omega) h1).2.2.2.2.2.2.1.1 o h2).1
          exact htj (lo_inj hT hL ht hk (by omega) h1 (o1.symm.trans o2)).1), ih]
        by_cases q2 : t < j ∧ M 4 t = F 5 h
        · rw [if_pos q2, if_pos ⟨by omega, q2.2⟩]
        · rw [if_neg q2, if_neg (fun z => q2 ⟨by omega, z.2⟩)]
    · rw [if_neg hc, ih]
      by_cases q2 : t < j ∧ M 4 t = F 5 h
      · rw [if_pos q2, if_pos ⟨by omega, q2.2⟩]
      · rw [if_neg q2, if_neg (fun z => by
          by_cases htj : t = j
          · subst htj; exact hc z.2
          · exact q2 ⟨by omega, z.2⟩)]
theorem u_open (hM : MI M) (hWF : WF kd F L) (G : RelG kd F L h M tn lo aw co ct ow) (h20 : M 1 0 < 2000) : RelG kd (kOpT (up2 F 5 h (F 5 h + 1)) L h (L (F 1 h)) (L (F 1 h)).length) L h (m_dy0 M) tn lo aw co ct ow := by
  obtain ⟨hH, hT, hL, hX, hW, hU, hC, hD, hK, hS, hO, hN, hZ⟩ := G
  have hh := hH.1
  have eL : L (F 1 h) = lsn tn (M 3 0) := hH.2.2.2.2.1
  have e5h : F 5 h = M 1 0 := hH.2.2.1
  have hW1 := hWF.put (f := 5) (v := F 5 h + 1) hh (Or.inr (by show F 5 h + 1 < 2001; omega)) (Or.inl rfl)
  have hs1 : SmK kd F L kd (up2 F 5 h (F 5 h + 1)) L [2, 3, 4, 5, 6, 7, 8, 11, 22, 23, 24, 25, 26, 27, 28] := SmK.pu2 hh (by decide)
  have hT1 : RelT kd (up2 F 5 h (F 5 h + 1)) L M tn lo ow := by
    have hs := hs1
    have m : ∀ f, f ∉ [99] → M f = M f := fun _ _ => rfl
    exact hT.congr hWF hs (by decide) (by decide) (m 3 (by decide)) (m 4 (by decide)) (m 5 (by decide)) (m 6 (by decide)) (m 7 (by decide)) (m 8 (by decide))
  have hL1 : RelL kd (up2 F 5 h (F 5 h + 1)) L M tn lo ow := by
    have hs := hs1
    have m : ∀ f, f ∉ [99] → M f = M f := fun _ _ => rfl
    exact hL.congr hWF hs (by decide) (by decide) (by decide) (by decide) (by decide) (m 1 (by decide)) (m 3 (by decide)) (m 4 (by decide)) (m 8 (by decide)) (m 9 (by decide)) (m 10 (by decide)) (m 11 (by decide)) (m 12 (by decide)) (m 13 (by decide)) (m 14 (by decide)) (by rw [m 15 (by decide)]; exact Nat.le_refl _)
  have hv : ∀ x ∈ lsn tn (M 3 0), kd x = 8 := fun x hx => by
    obtain ⟨i, hi, rfl⟩ := lsn_mem.mp hx
    exact (hT i hi).1
  rw [eL, lsn_len]
  have ff : ∀ f b, f ≠ 4 → f ≠ 5 → kOpT (up2 F 5 h (F 5 h + 1)) L h (lsn tn (M 3 0)) (M 3 0) f b = F f b := fun f b h4 h5 => by rw [kOpT_nf h4 h5, up2_nf h5]
  have fk : ∀ f b, kd b ≠ 3 → b ≠ h → kOpT (up2 F 5 h (F 5 h + 1)) L h (lsn tn (M 3 0)) (M 3 0) f b = F f b := fun f b hb hbh => by rw [kOpT_kd hW1 hv rfl hb _ (by rw [lsn_len]; exact Nat.le_refl _), up2_ne hbh]
  have fh : kOpT (up2 F 5 h (F 5 h + 1)) L h (lsn tn (M 3 0)) (M 3 0) 5 h = M 1 0 + 1 := by rw [kOpT_kd hW1 hv hh (by decide) _ (by rw [lsn_len]; exact Nat.le_refl _), up2_eq, e5h]
  have fh4 : kOpT (up2 F 5 h (F 5 h + 1)) L h (lsn tn (M 3 0)) (M 3 0) 4 h = F 4 h := by rw [kOpT_kd hW1 hv hh (by decide) _ (by rw [lsn_len]; exact Nat.le_refl _), up2_nf (by decide)]
  have k11 : kd (F 0 h) = 11 := hH.2.1
  have n0h : F 0 h ≠ h := fun e => by rw [e, hh] at k11; cases k11
  have hpap : ∀ t b, M 4 t = M 1 0 + 1 → b < 8 → kPv (up2 F 5 h (M 1 0 + 1)) h b (M 5 t) = mHv M b t + 1 := fun t b h4 hb => by
    have key : kPap (up2 F 5 h (M 1 0 + 1)) h b (M 5 t) ↔ m_hp M b t 6 = true := by
      rw [m_hp_iff]
      unfold kPap
      rw [up2_nf (by decide), up2_eq, h4]
      refine forall_congr' (fun k9 => forall_congr' (fun hk9 => ?_))
      have e1 : up2 F 5 h (M 1 0 + 1) (b * 6 + k9) (F 0 h) = F (b * 6 + k9) (F 0 h) := up2_ne n0h
      rw [e1, hH.2.2.2.1 (b * 6 + k9) (by omega), show 6 * b + k9 = b * 6 + k9 by omega]
      have : M 5 t / 2 ^ k9 % 2 < 2 := Nat.mod_lt _ (by decide)
      omega
    unfold kPv mHv
    by_cases q : m_hp M b t 6 = true
    · rw [if_pos q, if_pos (key.mpr q)]
    · rw [if_neg q, if_neg (fun z => q (key.mp z))]
  have fo : ∀ f, f = 4 ∨ f = 5 → ∀ t k, t < M 3 0 → k < M 8 t → ∀ o, o ∈ L (F 3 (lo t k)) → kOpT (up2 F 5 h (F 5 h + 1)) L h (lsn tn (M 3 0)) (M 3 0) f o = if M 4 t = M 1 0 + 1 then mHv M (F 0 o) t + 1 else F f o := fun f hf t k ht hk o ho => by
    have r1 := (hL t k ht hk).1
    have k3 : kd (F 3 (lo t k)) = 23 := hWF.ref r1 rfl (by decide)
    have koh : o ≠ h := fun e => by have := el_kd hWF k3 o ho; rw [e, hh] at this; cases this
    have ob := ((hL t k ht hk).2.2.2.2.2.2.1.1 o ho).2.1
    rw [kOpT_at hW1 hh hT1 hL1 hf _ (Nat.le_refl _) t k ht hk o (by rw [up2_nf (by decide)]; exact ho), up2_eq, e5h, up2_ne koh, up2_ne koh]
    by_cases h4 : M 4 t = M 1 0 + 1
    · rw [if_pos ⟨ht, h4⟩, if_pos h4]
      exact hpap t (F 0 o) h4 ob
    · rw [if_neg (fun z => h4 z.2), if_neg h4]
  generalize kOpT (up2 F 5 h (F 5 h + 1)) L h (lsn tn (M 3 0)) (M 3 0) = F3 at *
  -- the reference
  have ehp : ∀ b t n9, m_hp (mu M 1 0 (M 1 0 + 1)) b t n9 = m_hp M b t n9 := fun b t n9 => by
    induction n9 with
    | zero => rfl
    | succ n9 ih => rw [m_hp, m_hp, ih, mu_nf _ (by decide), mu_nf _ (by decide), mu_nf _ (by decide)]
  have ehv : ∀ b t, mHv (mu M 1 0 (M 1 0 + 1)) b t = mHv M b t := fun b t => by unfold mHv; rw [ehp]
  have n4 : mu M 1 0 (M 1 0 + 1) 4 = M 4 := mu_nf _ (by decide)
  have n8 : mu M 1 0 (M 1 0 + 1) 8 = M 8 := mu_nf _ (by decide)
  have n13 : mu M 1 0 (M 1 0 + 1) 13 = M 13 := mu_nf _ (by decide)
  have m13 : ∀ t k b, k < 3 → b < 8 → m_dy0 M 13 (8 * (3 * t + k) + b) = if t < M 3 0 ∧ M 4 t = M 1 0 + 1 ∧ k < M 8 t then mHv M b t else M 13 (8 * (3 * t + k) + b) := fun t k b hk hb => by
    unfold m_dy0
    rw [m_opt_at _ (fun t => by rw [mu_nf _ (by decide)]; exact hM 8 t) _ t k b hk hb, ehv, n4, n8, n13, mu_z]
  have m : ∀ f, f ∉ [1, 13] → m_dy0 M f = M f := fun f hf => by
    unfold m_dy0
    rw [m_opt_nf _ (fun e => hf (by rw [e]; decide)), mu_nf _ (fun e => hf (by rw [e]; decide))]
  have m1 : m_dy0 M 1 0 = M 1 0 + 1 := m_dy0_1 M
  generalize m_dy0 M = M2 at *
  have mop : ∀ t, m_op M2 t = true ↔ (m_op M t = true ∨ M 4 t = M 1 0 + 1) := fun t => by
    unfold m_op
    rw [m 4 (by decide), m1, decide_eq_true_eq, decide_eq_true_eq]
    omega
  have hopf : ∀ t, M 4 t = M 1 0 + 1 → m_op M t = false := fun t h4 => by
    unfold m_op
    exact decide_eq_false (by omega)
  have hs : SmK kd F L kd F3 L [2, 4, 5, 6, 7, 8, 11, 22, 23, 24, 25, 26, 27, 28] := fun b hb => ⟨rfl, fun f => fk f b (fun e => by rw [e] at hb; revert hb; decide) (fun e => by rw [e, hh] at hb; revert hb; decide), rfl⟩
  have row : ∀ t, m_op M t = true → ∀ k b, k < 3 → b < 8 → M2 13 (8 * (3 * t + k) + b) = M 13 (8 * (3 * t + k) + b) := fun t hop k b hk hb => by
    rw [m13 t k b hk hb, if_neg (fun q => by have := hopf t q.2.1; rw [hop] at this; cases this)]
  refine ⟨⟨hh, by rw [ff 0 h (by decide) (by decide)]; exact k11, by rw [fh, m1], fun i hi => ?_, ?_, ?_, ?_, ?_⟩, hT.congr hWF hs (by decide) (by decide) (m 3 (by decide)) (m 4 (by decide)) (m 5 (by decide)) (m 6 (by decide)) (m 7 (by decide)) (m 8 (by decide)), fun t k ht hk => ?_, ⟨?_, fun g9 b9 hg9 hb9 => ?_⟩, fun i hi => ?_, ⟨?_, fun i hi q1 => ?_⟩, hC.congr hs (by decide) (fun _ _ => rfl) (by rw [m 16 (by decide)]; exact Nat.le_refl _) (m 22 (by decide)) (m 23 (by decide)) (m 24 (by decide)) (m 25 (by decide)) (m 26 (by decide)) (m 27 (by decide)) (m 28 (by decide)), fun c hc => ?_, hK.congr hs (by decide) (fun _ _ => rfl) (by rw [m 16 (by decide)]; exact Nat.le_refl _) (m 29 (by decide)) (m 30 (by decide)) (m 31 (by decide)), hS.congr (m 16 (by decide)) (m 21 (by decide)) (m 29 (by decide)) (m 30 (by decide)), ⟨fun b9 hb9 => ?_, fun i hi q1 => ?_⟩, hN.congr hL hWF hs (by decide) (by decide) (m 3 (by decide)) (m 8 (by decide)) (m 16 (by decide)) (m 17 (by decide)) (m 20 (by decide)), hZ.congr (m 16 (by decide)) (m 20 (by decide)) (m 21 (by decide)) (m 22 (by decide)) (m 26 (by decide)) (m 27 (by decide)) (m 28 (by decide)) (m 29 (by decide)) (m 31 (by decide))⟩
  · rw [ff 0 h (by decide) (by decide), fk i _ (by omega) n0h, m 2 (by decide)]; exact hH.2.2.2.1 i hi
  · rw [ff 1 h (by decide) (by decide), m 3 (by decide)]; exact eL
  · rw [ff 2 h (by decide) (by decide), m 16 (by decide)]; exact hH.2.2.2.2.2.1
  · rw [ff 3 h (by decide) (by decide), m 22 (by decide)]; exact hH.2.2.2.2.2.2.1
  · rw [fh4, m 29 (by decide)]; exact hH.2.2.2.2.2.2.2
  · rw [m 3 (by decide)] at ht
    rw [m 8 (by decide)] at hk
    obtain ⟨r1, r2, r3, r4, r5, r6, r7, r8⟩ := hL t k ht hk
    have h8 : M 8 t ≤ 3 := hM 8 t
    have h36 : M 3 0 ≤ 6 := hM 3 0
    have k3 : kd (F 3 (lo t k)) = 23 := hWF.ref r1 rfl (by decide)
    have k4 : kd (F 4 (lo t k)) = 24 := hWF.ref r1 rfl (by decide)
    obtain ⟨s1, s2, -⟩ := hs.at r1 (by decide)
    have d3 : (3 * t + k) / 3 = t := by omega
    obtain ⟨b1, b2, b3⟩ := r7
    rw [m 9 (by decide), s2 0, s2 1, s2 2, s2 3, s2 4]
    refine ⟨s1, r2, r3, r4, r5, r6, ?_, ?_⟩
    · unfold RelB
      rw [s2 3, m 10 (by decide), m 11 (by decide), m 12 (by decide), m 15 (by decide), d3]
      refine ⟨fun o ho => ?_, fun b hb hp => ?_, ?_⟩
      · obtain ⟨q1, q2, q3, q4, q5, q6, q7⟩ := b1 o ho
        rw [ff 0 o (by decide) (by decide), ff 1 o (by decide) (by decide), ff 3 o (by decide) (by decide), fo 5 (Or.inr rfl) t k ht hk o ho]
        refine ⟨q1, q2, q3, q4, q5, ?_, q7⟩
        have e13 := m13 t k (F 0 o) (by omega) q2
        unfold stt
        rw [m 14 (by decide)]
        by_cases h4 : M 4 t = M 1 0 + 1
        · have e14 := ((hX.2 (3 * t + k) (F 0 o) (by omega) q2).2.1 (Or.inr (by rw [d3]; exact hopf t h4))).2
          rw [if_pos ⟨ht, h4, hk⟩] at e13
          rw [if_pos h4, if_pos ((mop t).mpr (Or.inr h4)), e14, if_pos rfl, e13]
          unfold mHv
          split <;> rfl
        · rw [if_neg (fun z => h4 z.2.1)] at e13
          rw [if_neg h4, e13, q6, d3]
          unfold stt
          by_cases q : m_op M t = true
          · rw [if_pos q, if_pos ((mop t).mpr (Or.inl q))]
          · rw [if_neg q, if_neg (fun z => by
              rcases (mop t).mp z with w | w
              · exact q w
              · exact h4 w)]
      · obtain ⟨o, ho, he⟩ := b2 b hb hp
        exact ⟨o, ho, by rw [ff 0 o (by decide) (by decide)]; exact he⟩
      · refine List.Pairwise.imp_of_mem (fun {c d} _ _ q => ?_) b3
        rw [ff 0 c (by decide) (by decide), ff 0 d (by decide) (by decide)]; exact q
    · unfold RelR
      rw [s2 3, s2 4]
      intro o ho
      have q8 := r8 o ho
      rw [ff 0 o (by decide) (by decide), ff 2 o (by decide) (by decide), ff 3 o (by decide) (by decide), fo 4 (Or.inl rfl) t k ht hk o ho, fo 5 (Or.inr rfl) t k ht hk o ho]
      by_cases h4 : M 4 t = M 1 0 + 1
      · have hch := noch hW hN ht hk (by omega) (hopf t h4)
        rw [hch] at q8 ⊢
        rw [if_pos h4, if_pos h4]
        have e23 : F 2 o = F 3 o := congrArg Prod.fst q8
        rw [e23]; rfl
      · rw [if_neg h4, if_neg h4, kRep_congr (fun y hy f => (hs.at (el_kd hWF k4 y hy) (by decide)).2.1 f) _ (Nat.le_refl _)]
        exact q8
  · rw [m 3 (by decide), m 8 (by decide)]; exact hX.1
  · obtain ⟨x1, x2, x3⟩ := hX.2 g9 b9 hg9 hb9
    have e13 := m13 (g9 / 3) (g9 % 3) b9 (by omega) hb9
    rw [show 3 * (g9 / 3) + g9 % 3 = g9 by omega] at e13
    rw [m 8 (by decide), m 10 (by decide), m 14 (by decide), e13]
    by_cases q : g9 / 3 < M 3 0 ∧ M 4 (g9 / 3) = M 1 0 + 1 ∧ g9 % 3 < M 8 (g9 / 3)
    · rw [if_pos q]
      have e14 := (x2 (Or.inr (hopf _ q.2.1))).2
      refine ⟨Or.inr e14, fun z => ?_, x3⟩
      rcases z with z | z
      · omega
      · rw [(mop _).mpr (Or.inr q.2.1)] at z; cases z
    · rw [if_neg q]
      refine ⟨x1, fun z => x2 (z.imp id (fun z => ?_)), x3⟩
      by_cases w : m_op M (g9 / 3) = true
      · rw [(mop _).mpr (Or.inl w)] at z; cases z
      · simpa using w
  · rw [m 16 (by decide)] at hi
    obtain ⟨r1, r2, r3, r4, r5, r6, r7, r8, r9, r10, r11⟩ := hW i hi
    have kl : kd (F 1 (aw i)) = 7 := hWF.ref r1 rfl (by decide)
    obtain ⟨s1, s2, -⟩ := hs.at r1 (by decide)
    rw [s2, s2, s2, s2, s2, s2, (hs.at kl (by decide)).2.1, ff 0 (F 2 (aw i)) (by decide) (by decide), m 17 (by decide), m 3 (by decide), m 8 (by decide), m 18 (by decide), m_su_cong (m 19 (by decide)) (m 7 (by decide)) (m 17 (by decide)), m 20 (by decide), m 21 (by decide)]
    exact ⟨s1, r2, r3, r4, r5, (mop _).mpr (Or.inl r6), r7, r8, r9, r10, r11⟩
  · rw [m 16 (by decide), m 17 (by decide), m 20 (by decide)]; exact hU.1
  · rw [m 16 (by decide)] at hi
    rw [m 20 (by decide)] at q1
    have h18 : M 18 i ≤ 7 := hM 18 i
    have hr := row (M 17 i / 3) (hW i hi).2.2.2.2.2.1 (M 17 i % 3) (M 18 i) (by omega) (by omega)
    rw [show 3 * (M 17 i / 3) + M 17 i % 3 = M 17 i by omega] at hr
    rw [m 17 (by decide), m 18 (by decide), hr]
    exact hU.2 i hi q1
  · rw [m 22 (by decide)] at hc
    have c3 := (hC.1 c hc).2.2.1
    have h24 : M 24 c ≤ 7 := hM 24 c
    have hr := row (M 17 (M 23 c) / 3) (hW _ c3).2.2.2.2.2.1 (M 17 (M 23 c) % 3) (M 24 c) (by omega) (by omega)
    rw [show 3 * (M 17 (M 23 c) / 3) + M 17 (M 23 c) % 3 = M 17 (M 23 c) by omega] at hr
    rw [m 26 (by decide), m 20 (by decide), m 23 (by decide), m 25 (by decide), m 17 (by decide), m 24 (by decide), m 10 (by decide), hr]
    exact hD c hc
  · rw [m 32 (by decide), m 16 (by decide), hO.1 b9 hb9]
    refine sm_congr (fun j hj => ?_)
    unfold losts
    rw [ff 6 _ (by decide) (by decide), ff 2 _ (by decide) (by decide), ff 0 _ (by decide) (by decide), ff 1 _ (by decide) (by decide), ff 2 _ (by decide) (by decide)]
  · rw [m 16 (by decide)] at hi
    rw [m 20 (by decide)] at q1
    rw [ff 6 _ (by decide) (by decide)]; exact hO.2 i hi q1
theorem m_dyn_mono (M : MS) {a : Nat} : ∀ d, m_dyn M a ≤ m_dyn M (a + d)
  | 0 => Nat.le_refl _
  | d + 1 => by
    have := m_dyn_mono M (a := a) d
    show _ ≤ m_dyn M (a + d + 1)
    rw [m_dyn]; omega
def dyI (h : Nat) (M : MS) (k n : Nat) (kd : Nat → Nat) (F : Nat → Nat → Nat) (L : Nat → List Nat) : Prop := n = m_dyn M k ∧ Rel kd F L h (m_dyf M k)
/-- the lapses of k days, where days is what is asked for -/
def dyN (M : MS) (dd : Int32) (k : Nat) : Nat := if k_pass M dd = 0 ∧ M 1 0 + k ≤ 2000 then m_dyn M k else 0
theorem dy_inst (hM : MI M) (hLB : m_LB M) {dd : Int32} (hk : k_pass M dd = 0) {days : Nat} (hd : M 1 0 + days ≤ 2000) {h : Nat} : DyI h days (dyN M dd) (dyI h M) := by
  rintro k n kd F L hkd ⟨hn, tn, lo, aw, co, ct, ow, G⟩ hWF
  have eN : ∀ j, j ≤ days → dyN M dd j = m_dyn M j := fun j hj => if_pos ⟨hk, by omega⟩
  have hm1 := m_dyn_mono M (a := k) (days - k)
  rw [show k + (days - k) = days by omega] at hm1
  rw [eN k hkd, eN days (Nat.le_refl _)]
  refine ⟨G.1.1, hm1, fun hlt => ?_⟩
  obtain ⟨iM, iL, i1⟩ := m_dyf_inv hM hLB k (by omega)
  have e5 : F 5 h = M 1 0 + k := by rw [G.1.2.2.1, i1]
  have hm2 := m_dyn_mono M (a := k) 1
  have hm3 := m_dyn_mono M (a := k + 1) (days - (k + 1))
  rw [show k + 1 + (days - (k + 1)) = days by omega] at hm3
  rw [eN (k + 1) hlt]
  have G1 := u_open iM hWF G (by omega)
  have iM0 := MI_dy0 iM (by omega)
  have eL : L (F 2 h) = lsn aw (m_dyf M k 16 0) := G.1.2.2.2.2.2.1
  have e16 : m_dy0 (m_dyf M k) 16 = m_dyf M k 16 := by
    unfold m_dy0
    rw [m_opt_nf _ (by decide), mu_nf _ (by decide)]
  have hz : m_lost (m_dy0 (m_dyf M k)) (1200000000 - 600000) := by
    intro b
    have h9 := iL b
    rw [m_dy0_32]
    omega
  have eStep : m_dyn M (k + 1) = m_dyn M k + m_lpn (m_dy0 (m_dyf M k)) (m_dy0 (m_dyf M k) 16 0) := rfl
  have eS2 : m_dyn M (k + 1) - m_dyn M k = m_lpn (m_dy0 (m_dyf M k)) (m_dy0 (m_dyf M k) 16 0) := by omega
  refine ⟨by omega, hm2, hm3, lpI h (m_dy0 (m_dyf M k)), ?_, ⟨Nat.zero_le _, rfl, tn, lo, aw, co, ct, ow, G1⟩, fun i n2 kd2 F2 L2 hi hend hI hWF2 => ?_⟩
  · rw [eL, lsn_len, ← e16, eS2]
    exact lp_inst iM0 hz (by omega)
  · rw [eL, lsn_len, ← e16] at hend
    obtain ⟨q1, q2⟩ := lp_end iM0 hI hend
    exact ⟨by rw [eStep, hn, q1], q2⟩
theorem kPass (hH : RelH kd F L h M tn aw co ct) (dd : Int32) : w23 (ks (kArg dd (nI 1) (nI 100)) (if F 5 h + dd.toNatClampNeg ≤ 2000 then 0 else 3)) = k_pass M dd ∧ (ks (kArg dd (nI 1) (nI 100)) (if F 5 h + dd.toNatClampNeg ≤ 2000 then 0 else 3) = 0 → k_pass M dd = 0 ∧ M 1 0 + dd.toNatClampNeg ≤ 2000) := by
  rw [hH.2.2.1]
  unfold k_pass
  rcases i_in_arg (v := dd) (lo := 1) (hi := 100) (by decide) (by decide) with ⟨u1, u2⟩ | ⟨qn, q1, q2, -, u1, u2, u3⟩
  · rw [ks_l (by rw [u2]; decide), u2, u1, if_pos rfl]
    exact ⟨rfl, fun z => by cases z⟩
  · rw [ks_r u2, u1, u3, if_neg (show ¬ true = false by decide)]
    by_cases q : M 1 0 + qn ≤ 2000
    · rw [if_pos q, if_neg (by omega)]; exact ⟨rfl, fun _ => ⟨rfl, q⟩⟩
    · rw [if_neg q, if_pos (by omega)]; exact ⟨rfl, fun z => by cases z⟩
theorem pass_end {dd : Int32} (hk : k_pass M dd = 0) {n : Nat} (hI : dyI h M dd.toNatClampNeg n kd F L) : nI n = r_pass M dd ∧ Rel kd F L h (g_pass M dd) := by
  unfold r_pass g_pass
  rw [if_pos hk, if_pos hk]
  exact ⟨by rw [hI.1], hI.2⟩
theorem dyN_le (hM : MI M) (hLB : m_LB M) (dd : Int32) (k : Nat) : dyN M dd k ≤ 100000 * 2 := by
  unfold dyN
  split
  · next q =>
    have := m_dyn_le hM hLB k q.2
    omega
  · exact Nat.zero_le _
end UP
