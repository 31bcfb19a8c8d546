/-! the bids of a lot against the reference's rows -/
def stt (op : Bool) (M : MS) (z : Nat) : Nat := if op = true then (if M 14 z = 0 then (if M 13 z = 0 then 1 else 2) else 3) else 0
def RelB (F : Nat → Nat → Nat) (L : Nat → List Nat) (ow : Nat → Nat) (M : MS) (a g : Nat) : Prop :=
  (∀ o ∈ L (F 3 a), ow o = a ∧ F 0 o < 8 ∧ F 1 o = M 10 (8 * g + F 0 o) ∧ 0 < F 1 o ∧ F 3 o = M 11 (8 * g + F 0 o) ∧ F 5 o = stt (m_op M (g / 3)) M (8 * g + F 0 o) ∧ M 12 (8 * g + F 0 o) < M 15 0) ∧
  (∀ b, b < 8 → 0 < M 10 (8 * g + b) → ∃ o ∈ L (F 3 a), F 0 o = b) ∧
  (L (F 3 a)).Pairwise (fun x y => M 12 (8 * g + F 0 x) < M 12 (8 * g + F 0 y))
section RB
variable {F : Nat → Nat → Nat} {L : Nat → List Nat} {ow : Nat → Nat} {M : MS} {a g : Nat}
theorem RelB.dist (h : RelB F L ow M a g) : (L (F 3 a)).Pairwise (fun x y => F 0 x ≠ F 0 y) := h.2.2.imp (fun q e => by rw [e] at q; exact Nat.lt_irrefl _ q)
theorem RelB.uniq (h : RelB F L ow M a g) {x y : Nat} (hx : x ∈ L (F 3 a)) (hy : y ∈ L (F 3 a)) (e : F 0 x = F 0 y) : x = y := by
  obtain ⟨i, hi, rfl⟩ := mem_gt hx
  obtain ⟨j, hj, rfl⟩ := mem_gt hy
  rcases Nat.lt_trichotomy i j with q | q | q
  · exact absurd e (pw_gt h.dist q hj)
  · rw [q]
  · exact absurd e.symm (pw_gt h.dist q hi)
theorem at_div {b : Nat} (hb : b < 8) : (8 * g + b) / 8 = g := by omega
theorem RelB.tp (h : RelB F L ow M a g) {b : Nat} (hb : b < 8) : m_tp M (8 * g + b) = true ↔ ∃ o ∈ L (F 3 a), F 0 o = b ∧ F 5 o = 1 := by
  unfold m_tp
  rw [at_div hb]
  simp only [Bool.and_eq_true, decide_eq_true_eq]
  constructor
  · rintro ⟨⟨⟨h1, h2⟩, h3⟩, h4⟩
    obtain ⟨o, ho, he⟩ := h.2.1 b hb h2
    refine ⟨o, ho, he, ?_⟩
    rw [(h.1 o ho).2.2.2.2.2.1, he, stt, if_pos h1, if_pos h4, if_pos h3]
  · rintro ⟨o, ho, he, h5⟩
    obtain ⟨-, -, h1, h2, -, h6, -⟩ := h.1 o ho
    rw [he] at h1 h6
    rw [h6, stt] at h5
    by_cases q1 : m_op M (g / 3) = true
    · rw [if_pos q1] at h5
      by_cases q2 : M 14 (8 * g + b) = 0
      · rw [if_pos q2] at h5
        by_cases q3 : M 13 (8 * g + b) = 0
        · exact ⟨⟨⟨q1, by omega⟩, q3⟩, q2⟩
        · rw [if_neg q3] at h5; cases h5
      · rw [if_neg q2] at h5; cases h5
    · rw [if_neg q1] at h5; cases h5
theorem RelB.tpo (h : RelB F L ow M a g) {o : Nat} (ho : o ∈ L (F 3 a)) : m_tp M (8 * g + F 0 o) = true ↔ F 5 o = 1 := by
  rw [h.tp (h.1 o ho).2.1]
  constructor
  · rintro ⟨x, hx, e, h5⟩
    rw [← h.uniq hx ho e]; exact h5
  · exact fun h5 => ⟨o, ho, rfl, h5⟩
theorem kLeast_sp (F : Nat → Nat → Nat) (L : Nat → List Nat) (a x : Nat) : ∀ n, kLeast F L a x n ≤ F 1 x ∧ (∀ i, i < n → F 5 (gt (L (F 3 a)) i) = 1 → kLeast F L a x n ≤ F 1 (gt (L (F 3 a)) i)) ∧ (kLeast F L a x n = F 1 x ∨ ∃ i, i < n ∧ F 5 (gt (L (F 3 a)) i) = 1 ∧ kLeast F L a x n = F 1 (gt (L (F 3 a)) i))
  | 0 => ⟨Nat.le_refl _, fun i hi => absurd hi (Nat.not_lt_zero i), Or.inl rfl⟩
  | n + 1 => by
    obtain ⟨h1, h2, h3⟩ := kLeast_sp F L a x n
    by_cases hc : F 5 (gt (L (F 3 a)) n) = 1 ∧ F 1 (gt (L (F 3 a)) n) < kLeast F L a x n
    · rw [kLeast, if_pos hc]
      refine ⟨by omega, fun i hi h5 => ?_, Or.inr ⟨n, by omega, hc.1, rfl⟩⟩
      by_cases hin : i = n
      · rw [hin]; exact Nat.le_refl _
      · have := h2 i (by omega) h5; omega
    · rw [kLeast, if_neg hc]
      refine ⟨h1, fun i hi h5 => ?_, ?_⟩
      · by_cases hin : i = n
        · subst hin
          exact Nat.not_lt.mp (fun q => hc ⟨h5, q⟩)
        · exact h2 i (by omega) h5
      · rcases h3 with h3 | ⟨i, hi, h5, h6⟩
        · exact Or.inl h3
        · exact Or.inr ⟨i, by omega, h5, h6⟩
theorem m_lst_sp (M : MS) (z : Nat) : ∀ n, m_lst M z n ≤ M 10 z ∧ (∀ i, i < n → m_tp M (8 * (z / 8) + i) = true → m_lst M z n ≤ M 10 (8 * (z / 8) + i)) ∧ (m_lst M z n = M 10 z ∨ ∃ i, i < n ∧ m_tp M (8 * (z / 8) + i) = true ∧ m_lst M z n = M 10 (8 * (z / 8) + i))
  | 0 => ⟨Nat.le_refl _, fun i hi => absurd hi (Nat.not_lt_zero i), Or.inl rfl⟩
  | n + 1 => by
    obtain ⟨h1, h2, h3⟩ := m_lst_sp M z n
    by_cases hc : m_tp M (8 * (z / 8) + n) = true ∧ M 10 (8 * (z / 8) + n) < m_lst M z n
    · rw [m_lst, if_pos hc]
      refine ⟨by omega, fun i hi h5 => ?_, Or.inr ⟨n, by omega, hc.1, rfl⟩⟩
      by_cases hin : i = n
      · rw [hin]; exact Nat.le_refl _
      · have := h2 i (by omega) h5; omega
    · rw [m_lst, if_neg hc]
      refine ⟨h1, fun i hi h5 => ?_, ?_⟩
      · by_cases hin : i = n
        · subst hin
          exact Nat.not_lt.mp (fun q => hc ⟨h5, q⟩)
        · exact h2 i (by omega) h5
      · rcases h3 with h3 | ⟨i, hi, h5, h6⟩
        · exact Or.inl h3
        · exact Or.inr ⟨i, by omega, h5, h6⟩
theorem RelB.least (h : RelB F L ow M a g) {o : Nat} (ho : o ∈ L (F 3 a)) : kLeast F L a o (L (F 3 a)).length = m_lst M (8 * g + F 0 o) 8 := by
  obtain ⟨hw, h8, hp, hp0, hq, hst, hmo⟩ := h.1 o ho
  obtain ⟨a1, a2, a3⟩ := kLeast_sp F L a o (L (F 3 a)).length
  obtain ⟨b1, b2, b3⟩ := m_lst_sp M (8 * g + F 0 o) 8
  rw [at_div h8] at b2 b3
  refine Nat.le_antisymm ?_ ?_
  · rcases b3 with b3 | ⟨i, hi, ht, b3⟩
    · rw [b3, ← hp]; exact a1
    · obtain ⟨x, hx, he, h5⟩ := (h.tp hi).mp ht
      obtain ⟨j, hj, rfl⟩ := mem_gt hx
      rw [b3, ← he, ← (h.1 _ hx).2.2.1]
      exact a2 j hj h5
  · rcases a3 with a3 | ⟨i, hi, h5, a3⟩
    · rw [a3, hp]; exact b1
    · have hx := gt_mem hi
      rw [a3, (h.1 _ hx).2.2.1]
      exact b2 _ (h.1 _ hx).2.1 ((h.tpo hx).mpr h5)
theorem RelB.score (h : RelB F L ow M a g) (hw : F 3 (F 0 a) = M 6 (g / 3)) {o : Nat} (ho : o ∈ L (F 3 a)) : kScore F L a o = m_sc M (8 * g + F 0 o) := by
  obtain ⟨-, h8, hp, hp0, hq, hst, hmo⟩ := h.1 o ho
  unfold kScore m_sc
  rw [h.least ho, hw, at_div h8, ← hp, ← hq]
theorem m_bt_iff (M : MS) (x y : Nat) : m_bt M x y = true ↔ (m_sc M y < m_sc M x ∨ (m_sc M x = m_sc M y ∧ (M 10 x < M 10 y ∨ (M 10 x = M 10 y ∧ M 12 x < M 12 y)))) := by
  unfold m_bt
  by_cases h1 : m_sc M x = m_sc M y
  · rw [if_neg (fun q => q h1)]
    by_cases h2 : M 10 x = M 10 y
    · rw [if_neg (fun q => q h2), decide_eq_true_eq]; omega
    · rw [if_pos h2, decide_eq_true_eq]; omega
  · rw [if_pos h1, decide_eq_true_eq]; omega
theorem m_ah_cn (M : MS) (g b : Nat) : ∀ n, m_ah M g b n = cn (fun o => m_tp M (8 * g + b) = true ∧ m_tp M (8 * g + o) = true ∧ o ≠ b ∧ m_bt M (8 * g + o) (8 * g + b) = true) n
  | 0 => rfl
  | n + 1 => by rw [m_ah, cn, m_ah_cn M g b n]
theorem RelB.better (h : RelB F L ow M a g) (hw : F 3 (F 0 a) = M 6 (g / 3)) {j : Nat} (hj : j < (L (F 3 a)).length) (h5 : F 5 (gt (L (F 3 a)) j) = 1) : kBetter F L a j (gt (L (F 3 a)) j) = m_ah M g (F 0 (gt (L (F 3 a)) j)) 8 := by
  have ho := gt_mem hj
  have htp := (h.tpo ho).mpr h5
  unfold kBetter
  rw [m_ah_cn, cn_congr (P := fun k9 => kBeats F L a j (gt (L (F 3 a)) j) k9) (Q := fun k9 => F 5 (gt (L (F 3 a)) k9) = 1 ∧ m_bt M (8 * g + F 0 (gt (L (F 3 a)) k9)) (8 * g + F 0 (gt (L (F 3 a)) j)) = true) (fun i hi => ?_)]
  · refine cn_list (P := fun x => F 5 x = 1 ∧ m_bt M (8 * g + F 0 x) (8 * g + F 0 (gt (L (F 3 a)) j)) = true) (g := F 0) (N := 8) _ h.dist (fun x hx => (h.1 x hx).2.1) (fun b hb => ?_)
    constructor
    · rintro ⟨-, h2, h3, h4⟩
      obtain ⟨x, hx, he, h6⟩ := (h.tp hb).mp h2
      exact ⟨x, hx, he, h6, by rw [he]; exact h4⟩
    · rintro ⟨x, hx, he, h6, h4⟩
      subst he
      refine ⟨htp, (h.tpo hx).mpr h6, fun q => ?_, h4⟩
      rw [q, m_bt_iff] at h4
      omega
  · have hx := gt_mem hi
    show (F 5 _ = 1 ∧ _) ↔ _
    rw [h.score hw hx, h.score hw ho, m_bt_iff, (h.1 _ hx).2.2.1, (h.1 _ ho).2.2.1]
    have key : i < j ↔ M 12 (8 * g + F 0 (gt (L (F 3 a)) i)) < M 12 (8 * g + F 0 (gt (L (F 3 a)) j)) := by
      constructor
      · exact fun q => pw_gt h.2.2 q hj
      · intro q
        rcases Nat.lt_trichotomy i j with z | z | z
        · exact z
        · subst z; exact absurd q (Nat.lt_irrefl _)
        · have := pw_gt h.2.2 z hi; omega
    rw [key]
/-- two bids that are in have not as many ahead -/
theorem RelB.rank_inj (h : RelB F L ow M a g) {x y : Nat} (hx : x < 8) (hy : y < 8) (tx : m_tp M (8 * g + x) = true) (ty : m_tp M (8 * g + y) = true) (e : m_ah M g x 8 = m_ah M g y 8) : x = y := by
  have key : ∀ x y, x < 8 → y < 8 → m_tp M (8 * g + x) = true → m_tp M (8 * g + y) = true → x ≠ y → m_bt M (8 * g + x) (8 * g + y) = true → m_ah M g x 8 < m_ah M g y 8 := by
    intro x y hx hy tx ty hne hb
    rw [m_ah_cn, m_ah_cn]
    refine cn_lt (k := x) (fun i hi => ?_) hx ⟨ty, tx, hne, hb⟩ (fun q => q.2.2.1 rfl)
    rintro ⟨-, h2, h3, h4⟩
    rw [m_bt_iff] at h4 hb
    refine ⟨ty, h2, fun q => ?_, by rw [m_bt_iff]; omega⟩
    rw [q] at h4; omega
  by_cases hxy : x = y
  · exact hxy
  · exfalso
    obtain ⟨ox, hox, ex, -⟩ := (h.tp hx).mp tx
    obtain ⟨oy, hoy, ey, -⟩ := (h.tp hy).mp ty
    have hmm : M 12 (8 * g + x) ≠ M 12 (8 * g + y) := by
      obtain ⟨i, hi, rfl⟩ := mem_gt hox
      obtain ⟨j, hj, rfl⟩ := mem_gt hoy
      rw [← ex, ← ey]
      rcases Nat.lt_trichotomy i j with z | z | z
      · have := pw_gt h.2.2 z hj; omega
      · subst z; exact absurd (ex.symm.trans ey) hxy
      · have := pw_gt h.2.2 z hi; omega
    have h1 := key x y hx hy tx ty hxy
    have h2 := key y x hy hx ty tx (fun q => hxy q.symm)
    rw [m_bt_iff] at h1 h2
    have : ¬ (m_sc M (8 * g + y) < m_sc M (8 * g + x) ∨ (m_sc M (8 * g + x) = m_sc M (8 * g + y) ∧ (M 10 (8 * g + x) < M 10 (8 * g + y) ∨ (M 10 (8 * g + x) = M 10 (8 * g + y) ∧ M 12 (8 * g + x) < M 12 (8 * g + y))))) := fun q => by have := h1 q; omega
    have : ¬ (m_sc M (8 * g + x) < m_sc M (8 * g + y) ∨ (m_sc M (8 * g + y) = m_sc M (8 * g + x) ∧ (M 10 (8 * g + y) < M 10 (8 * g + x) ∨ (M 10 (8 * g + y) = M 10 (8 * g + x) ∧ M 12 (8 * g + y) < M 12 (8 * g + x))))) := fun q => by have := h2 q; omega
    omega
theorem m_rkf_eq {M : MS} {g z b : Nat} : ∀ n, b < n → m_tp M (8 * g + b) = true → m_ah M g b 8 = z → (∀ c, c < n → m_tp M (8 * g + c) = true → m_ah M g c 8 = z → c = b) → m_rkf M g z n = some b
  | 0, h, _, _, _ => by omega
  | n + 1, h, h1, h2, h3 => by
    rw [m_rkf]
    by_cases hc : m_tp M (8 * g + n) = true ∧ m_ah M g n 8 = z
    · rw [if_pos hc, h3 n (by omega) hc.1 hc.2]
    · rw [if_neg hc]
      have hbn : b ≠ n := fun q => hc (by rw [← q]; exact ⟨h1, h2⟩)
      exact m_rkf_eq n (by omega) h1 h2 (fun c hcn => h3 c (by omega))
theorem RelB.place (h : RelB F L ow M a g) (hw : F 3 (F 0 a) = M 6 (g / 3)) (z : Nat) (hz : z < 2 ^ 31) (hlen : (L (F 3 a)).length ≤ 60) : (kPlace F L a (nI z)).map (F 0) = m_rk M g z := by
  have hle : ∀ j, kBetter F L a j (gt (L (F 3 a)) j) < 2 ^ 31 := fun j => by have := cn_le (fun k9 => kBeats F L a j (gt (L (F 3 a)) j) k9) (L (F 3 a)).length; unfold kBetter; omega
  unfold kPlace m_rk
  rcases hf : fr (fun j => F 5 (gt (L (F 3 a)) j) = 1 ∧ nI (kBetter F L a j (gt (L (F 3 a)) j)) = nI z) (L (F 3 a)).length with _ | j
  · show none = _
    rcases hr : m_rkf M g z 8 with _ | b
    · rfl
    · exfalso
      obtain ⟨h1, h2, h3⟩ := m_rkf_lt M g z 8 b hr
      obtain ⟨o, ho, he, h5⟩ := (h.tp h1).mp h2
      obtain ⟨j, hj, rfl⟩ := mem_gt ho
      refine fr_iff_none hf j hj ⟨h5, ?_⟩
      rw [h.better hw hj h5, he, h3]
  · have hj := fr_lt hf
    obtain ⟨h5, h6⟩ := fr_spec (P := fun j => F 5 (gt (L (F 3 a)) j) = 1 ∧ nI (kBetter F L a j (gt (L (F 3 a)) j)) = nI z) hf
    have ho := gt_mem hj
    have h6 : kBetter F L a j (gt (L (F 3 a)) j) = z := (nI_eq (hle j) hz).mp h6
    rw [h.better hw hj h5] at h6
    show some (F 0 (gt (L (F 3 a)) j)) = _
    refine (m_rkf_eq 8 (h.1 _ ho).2.1 ((h.tpo ho).mpr h5) h6 (fun c hc t1 t2 => ?_)).symm
    exact h.rank_inj hc (h.1 _ ho).2.1 t1 ((h.tpo ho).mpr h5) (t2.trans h6.symm)
theorem RelB.bid (h : RelB F L ow M a g) {b : Nat} (hb : b < 8) : (kBid F L a b = none ∧ M 10 (8 * g + b) = 0) ∨ ∃ o, kBid F L a b = some o ∧ o ∈ L (F 3 a) ∧ F 0 o = b := by
  unfold kBid
  rcases hf : fr (fun j => F 0 (gt (L (F 3 a)) j) = b) (L (F 3 a)).length with _ | j
  · left
    refine ⟨rfl, ?_⟩
    by_cases h0 : M 10 (8 * g + b) = 0
    · exact h0
    · obtain ⟨o, ho, he⟩ := h.2.1 b hb (by omega)
      obtain ⟨j, hj, rfl⟩ := mem_gt ho
      exact absurd he (fr_iff_none hf j hj)
  · right
    exact ⟨_, rfl, gt_mem (fr_lt hf), fr_spec (P := fun j => F 0 (gt (L (F 3 a)) j) = b) hf⟩
theorem RelB.bid_some (h : RelB F L ow M a g) {o : Nat} (ho : o ∈ L (F 3 a)) : kBid F L a (F 0 o) = some o := by
  rcases h.bid (h.1 o ho).2.1 with ⟨-, h1⟩ | ⟨x, h1, h2, h3⟩
  · have := (h.1 o ho).2.2.1; have := (h.1 o ho).2.2.2.1; omega
  · rw [h1, h.uniq h2 ho h3]
theorem RelB.len8 (h : RelB F L ow M a g) : (L (F 3 a)).length ≤ 8 := by
  have h1 := cn_list (P := fun _ => True) (Q := fun b => (L (F 3 a)).any (fun x => F 0 x == b) = true) (g := F 0) (N := 8) (L (F 3 a)) h.dist (fun x hx => (h.1 x hx).2.1) (fun b hb => by
    simp [List.any_eq_true])
  have h2 : cn (fun j => True) (L (F 3 a)).length = (L (F 3 a)).length := by
    have : ∀ n, cn (fun _ => True) n = n := by
      intro n
      induction n with
      | zero => rfl
      | succ n ih => rw [cn, ih]; rfl
    exact this _
  have h3 := cn_le (fun b => (L (F 3 a)).any (fun x => F 0 x == b) = true) 8
  omega
end RB
