/-! ranks: the best one, the best one of the others .. -/
def bsK (tk : Nat → Bool) (ka : Nat → Nat) (z : Nat) : Nat → Option Nat
  | 0 => none
  | k + 1 => if z / 2 ^ k % 2 = 1 ∨ tk k = false then bsK tk ka z k else match bsK tk ka z k with
    | none => some k
    | some f => if ka k < ka f then some k else some f
def seK (tk : Nat → Bool) (ka : Nat → Nat) : Nat → Nat
  | 0 => 0
  | p + 1 => match bsK tk ka (seK tk ka p) 4 with
    | none => seK tk ka p
    | some f => seK tk ka p ||| 2 ^ f
def ahK (tk : Nat → Bool) (ka : Nat → Nat) (b : Nat) : Nat → Nat
  | 0 => 0
  | o + 1 => ahK tk ka b o + if tk o = true ∧ ka o < ka b then 1 else 0
def rkK (tk : Nat → Bool) (ka : Nat → Nat) (p : Nat) : Nat → Option Nat
  | 0 => none
  | b + 1 => if tk b = true ∧ ahK tk ka b 4 = p then some b else rkK tk ka p b
theorem bsK_lt {tk : Nat → Bool} {ka : Nat → Nat} {z : Nat} : ∀ n f, bsK tk ka z n = some f → f < n ∧ tk f = true
  | 0, f, h => by cases h
  | n + 1, f, h => by
    rw [bsK] at h
    have i := bsK_lt (tk := tk) (ka := ka) (z := z) n
    split at h
    · have := i f h
      exact ⟨by omega, this.2⟩
    · next c =>
      have ct : tk n = true := by
        rcases hq : tk n with _ | _
        · exact absurd (Or.inr hq) c
        · rfl
      split at h
      · obtain rfl : n = f := Option.some.inj h
        exact ⟨by omega, ct⟩
      · next f2 e2 =>
        split at h
        · obtain rfl : n = f := Option.some.inj h
          exact ⟨by omega, ct⟩
        · obtain rfl : f2 = f := Option.some.inj h
          have := i f2 e2
          exact ⟨by omega, this.2⟩
section CK
variable {tk tk2 : Nat → Bool} {ka ka2 : Nat → Nat} (h : ∀ b, b < 4 → tk b = tk2 b ∧ ka b = ka2 b)
theorem bsK_c (h : ∀ b, b < 4 → tk b = tk2 b ∧ ka b = ka2 b) (z : Nat) : ∀ n, n ≤ 4 → bsK tk ka z n = bsK tk2 ka2 z n
  | 0, _ => rfl
  | n + 1, hn => by
    have i := bsK_c h z n (by omega)
    rw [bsK, bsK, i, (h n (by omega)).1]
    split
    · rfl
    · rcases e : bsK tk2 ka2 z n with _ | f
      · rfl
      · have hf := (bsK_lt n f e).1
        show (if ka n < ka f then some n else some f) = if ka2 n < ka2 f then some n else some f
        rw [(h n (by omega)).2, (h f (by omega)).2]
theorem seK_c (h : ∀ b, b < 4 → tk b = tk2 b ∧ ka b = ka2 b) : ∀ p, seK tk ka p = seK tk2 ka2 p
  | 0 => rfl
  | p + 1 => by rw [seK, seK, seK_c h p, bsK_c h _ 4 (by omega)]
theorem ahK_c (h : ∀ b, b < 4 → tk b = tk2 b ∧ ka b = ka2 b) {b : Nat} (hb : b < 4) : ∀ n, n ≤ 4 → ahK tk ka b n = ahK tk2 ka2 b n
  | 0, _ => rfl
  | n + 1, hn => by rw [ahK, ahK, ahK_c h hb n (by omega), (h n (by omega)).1, (h n (by omega)).2, (h b hb).2]
theorem rkK_c (h : ∀ b, b < 4 → tk b = tk2 b ∧ ka b = ka2 b) (p : Nat) : ∀ n, n ≤ 4 → rkK tk ka p n = rkK tk2 ka2 p n
  | 0, _ => rfl
  | n + 1, hn => by rw [rkK, rkK, rkK_c h p n (by omega), (h n (by omega)).1, ahK_c h (by omega) 4 (by omega)]
end CK
def cdT (m b : Nat) : Bool := decide (m / 2 ^ b % 2 = 1)
def cdK (c b : Nat) : Nat := c / 4 ^ b % 4
def cdD (c : Nat) : Bool := decide (cdK c 0 ≠ cdK c 1) && decide (cdK c 0 ≠ cdK c 2) && decide (cdK c 0 ≠ cdK c 3) && decide (cdK c 1 ≠ cdK c 2) && decide (cdK c 1 ≠ cdK c 3) && decide (cdK c 2 ≠ cdK c 3)
def cdA (m c : Nat) : Bool := !cdD c || (List.range 5).all (fun p => decide (bsK (cdT m) (cdK c) (seK (cdT m) (cdK c) p) 4 = rkK (cdT m) (cdK c) p 4))
set_option maxRecDepth 100000 in
theorem cd_all : (List.range 16).all (fun m => (List.range 256).all (fun c => cdA m c)) = true := by decide +kernel
theorem rank_K {tk : Nat → Bool} {ka : Nat → Nat} (hk : ∀ b, b < 4 → ka b < 4) (hi : ∀ a b, a < 4 → b < 4 → a ≠ b → ka a ≠ ka b) {p : Nat} (hp : p < 5) : bsK tk ka (seK tk ka p) 4 = rkK tk ka p 4 := by
  have k0 := hk 0 (by decide)
  have k1 := hk 1 (by decide)
  have k2 := hk 2 (by decide)
  have k3 := hk 3 (by decide)
  have n01 := hi 0 1 (by decide) (by decide) (by decide)
  have n02 := hi 0 2 (by decide) (by decide) (by decide)
  have n03 := hi 0 3 (by decide) (by decide) (by decide)
  have n12 := hi 1 2 (by decide) (by decide) (by decide)
  have n13 := hi 1 3 (by decide) (by decide) (by decide)
  have n23 := hi 2 3 (by decide) (by decide) (by decide)
  obtain ⟨c, hc, c0, c1, c2, c3⟩ : ∃ c, c < 256 ∧ cdK c 0 = ka 0 ∧ cdK c 1 = ka 1 ∧ cdK c 2 = ka 2 ∧ cdK c 3 = ka 3 := by
    refine ⟨ka 0 + 4 * ka 1 + 16 * ka 2 + 64 * ka 3, by omega, ?_, ?_, ?_, ?_⟩
    · show (ka 0 + 4 * ka 1 + 16 * ka 2 + 64 * ka 3) / 1 % 4 = _
      omega
    · show (ka 0 + 4 * ka 1 + 16 * ka 2 + 64 * ka 3) / 4 % 4 = _
      omega
    · show (ka 0 + 4 * ka 1 + 16 * ka 2 + 64 * ka 3) / 16 % 4 = _
      omega
    · show (ka 0 + 4 * ka 1 + 16 * ka 2 + 64 * ka 3) / 64 % 4 = _
      omega
  obtain ⟨m, hm, m0, m1, m2, m3⟩ : ∃ m, m < 16 ∧ cdT m 0 = tk 0 ∧ cdT m 1 = tk 1 ∧ cdT m 2 = tk 2 ∧ cdT m 3 = tk 3 := by
    rcases tk 0 <;> rcases tk 1 <;> rcases tk 2 <;> rcases tk 3
    · exact ⟨0, by decide⟩
    · exact ⟨8, by decide⟩
    · exact ⟨4, by decide⟩
    · exact ⟨12, by decide⟩
    · exact ⟨2, by decide⟩
    · exact ⟨10, by decide⟩
    · exact ⟨6, by decide⟩
    · exact ⟨14, by decide⟩
    · exact ⟨1, by decide⟩
    · exact ⟨9, by decide⟩
    · exact ⟨5, by decide⟩
    · exact ⟨13, by decide⟩
    · exact ⟨3, by decide⟩
    · exact ⟨11, by decide⟩
    · exact ⟨7, by decide⟩
    · exact ⟨15, by decide⟩
  have ha : cdA m c = true := by
    have h1 := List.all_eq_true.mp cd_all m (List.mem_range.mpr hm)
    exact List.all_eq_true.mp h1 c (List.mem_range.mpr hc)
  have hd : cdD c = true := by
    unfold cdD
    rw [c0, c1, c2, c3]
    simp [n01, n02, n03, n12, n13, n23]
  have hc4 : ∀ b, b < 4 → tk b = cdT m b ∧ ka b = cdK c b := fun b hb => by
    rcases (show b = 0 ∨ b = 1 ∨ b = 2 ∨ b = 3 by omega) with rfl | rfl | rfl | rfl
    · exact ⟨m0.symm, c0.symm⟩
    · exact ⟨m1.symm, c1.symm⟩
    · exact ⟨m2.symm, c2.symm⟩
    · exact ⟨m3.symm, c3.symm⟩
  unfold cdA at ha
  rw [hd] at ha
  have h2 : ∀ x, x < 5 → bsK (cdT m) (cdK c) (seK (cdT m) (cdK c) x) 4 = rkK (cdT m) (cdK c) x 4 := by simpa using ha
  rw [seK_c hc4, bsK_c hc4 _ 4 (by decide), rkK_c hc4 p 4 (by decide)]
  exact h2 p hp
section RK
variable {M T : MS}
/-- the order of a lot's bids, with their places last -/
def oR (M : MS) (g a b : Nat) : Prop := m_sc M (8 * g + b) < m_sc M (8 * g + a) ∨ m_sc M (8 * g + b) = m_sc M (8 * g + a) ∧ (M 10 (8 * g + a) < M 10 (8 * g + b) ∨ M 10 (8 * g + a) = M 10 (8 * g + b) ∧ (M 12 (8 * g + a) < M 12 (8 * g + b) ∨ M 12 (8 * g + a) = M 12 (8 * g + b) ∧ a < b))
abbrev oK (M : MS) (g b : Nat) : Nat := cn (fun o => m_sc M (8 * g + b) < m_sc M (8 * g + o) ∨ m_sc M (8 * g + b) = m_sc M (8 * g + o) ∧ (M 10 (8 * g + o) < M 10 (8 * g + b) ∨ M 10 (8 * g + o) = M 10 (8 * g + b) ∧ (M 12 (8 * g + o) < M 12 (8 * g + b) ∨ M 12 (8 * g + o) = M 12 (8 * g + b) ∧ o < b))) 4
theorem oR_lt {g a b : Nat} (ha : a < 4) (h : oR M g a b) : oK M g a < oK M g b := by
  refine cn_lt (k := a) (fun i _ hi => ?_) ha h (by omega)
  unfold oR at h
  omega
theorem oR_tot {g a b : Nat} (h : a ≠ b) : oR M g a b ∨ oR M g b a := by
  unfold oR
  omega
theorem oK_iff {g a b : Nat} (ha : a < 4) (hb : b < 4) (h : a ≠ b) : oK M g a < oK M g b ↔ oR M g a b := by
  constructor
  · intro h1
    rcases oR_tot (M := M) (g := g) h with h2 | h2
    · exact h2
    · have := oR_lt hb h2
      omega
  · exact oR_lt ha
theorem oK_4 {g b : Nat} (hb : b < 4) : oK M g b < 4 := by
  have h1 : oK M g b < cn (fun _ => True) 4 := cn_lt (k := b) (fun _ _ _ => trivial) hb trivial (by omega)
  have h2 : cn (fun _ => True) 4 = 4 := by decide
  omega
theorem oK_ne {g a b : Nat} (ha : a < 4) (hb : b < 4) (h : a ≠ b) : oK M g a ≠ oK M g b := by
  rcases oR_tot (M := M) (g := g) h with h2 | h2
  · have := oR_lt ha h2
    omega
  · have := oR_lt hb h2
    omega
abbrev tkM (M : MS) (g b : Nat) : Bool := m_tp M (8 * g + b)
theorem LR.bt (h : LR M T) (hM : MI M) {j a b : Nat} (hj : j < 4) (h3 : j / 2 < M 3 0) (ha : a < 4) (hb : b < 4) (hab : b < a) (ta : tkM M (ml j) a = true) (tb : tkM M (ml j) b = true) : t_bt T (4 * j + a) (4 * j + b) ↔ oK M (ml j) a < oK M (ml j) b := by
  have ea := mq_at (j := j) ha
  have eb := mq_at (j := j) hb
  have ta2 : m_tp M (mq (4 * j + a)) = true := by rw [ea]; exact ta
  have tb2 : m_tp M (mq (4 * j + b)) = true := by rw [eb]; exact tb
  have na := ((h.2.2.2.2.1.1 (4 * j + a) (by omega)).2.2 (m_tp_10 ta2)).1
  have nb := ((h.2.2.2.2.1.1 (4 * j + b) (by omega)).2.2 (m_tp_10 tb2)).1
  rw [oK_iff ha hb (by omega)]
  unfold t_bt oR
  rw [h.po hM (by omega) ta2 (by omega), h.po hM (by omega) tb2 (by omega), h.pr (by omega), h.pr (by omega), na, nb, ea, eb]
  omega
theorem LR.bsf (h : LR M T) (hM : MI M) {j : Nat} (hj : j < 4) (h3 : j / 2 < M 3 0) (z : Nat) : ∀ n, n ≤ 4 → t_bsf T j z n = (bsK (tkM M (ml j)) (oK M (ml j)) z n).map (4 * j + ·)
  | 0, _ => rfl
  | n + 1, hn => by
    have i := h.bsf hM hj h3 z n (by omega)
    have e1 : t_tk T (4 * j + n) = tkM M (ml j) n := by rw [h.tk (by omega), mq_at (by omega)]
    rw [t_bsf, bsK, i, e1]
    split
    · rfl
    · next c =>
      have ct : tkM M (ml j) n = true := by
        rcases hq : tkM M (ml j) n with _ | _
        · exact absurd (Or.inr hq) c
        · rfl
      rcases e : bsK (tkM M (ml j)) (oK M (ml j)) z n with _ | f
      · rfl
      · obtain ⟨hf, tf⟩ := bsK_lt n f e
        show (if t_bt T (4 * j + n) (4 * j + f) then some (4 * j + n) else some (4 * j + f)) = (if oK M (ml j) n < oK M (ml j) f then some n else some f).map (4 * j + ·)
        by_cases c2 : oK M (ml j) n < oK M (ml j) f
        · rw [if_pos c2, if_pos ((h.bt hM hj h3 (by omega) (by omega) hf ct tf).mpr c2)]; rfl
        · rw [if_neg c2, if_neg (fun q => c2 ((h.bt hM hj h3 (by omega) (by omega) hf ct tf).mp q))]; rfl
theorem LR.bset (h : LR M T) (hM : MI M) {j : Nat} (hj : j < 4) (h3 : j / 2 < M 3 0) : ∀ p, t_sts T j p = seK (tkM M (ml j)) (oK M (ml j)) p
  | 0 => rfl
  | p + 1 => by
    rw [t_sts, seK, h.bset hM hj h3 p, t_best, h.bsf hM hj h3 _ 4 (by omega)]
    rcases e : bsK (tkM M (ml j)) (oK M (ml j)) (seK (tkM M (ml j)) (oK M (ml j)) p) 4 with _ | f
    · rfl
    · have hf := (bsK_lt 4 f e).1
      show _ ||| 2 ^ ((4 * j + f) % 4) = _
      rw [show (4 * j + f) % 4 = f by omega]
theorem LR.ah (h : LR M T) {j b : Nat} (hj : j < 4) (hb : b < 4) (tb : tkM M (ml j) b = true) : ∀ n, n ≤ 4 → m_ah M (ml j) b n = ahK (tkM M (ml j)) (oK M (ml j)) b n
  | 0, _ => rfl
  | n + 1, hn => by
    rw [m_ah, ahK, h.ah hj hb tb n (by omega)]
    congr 1
    by_cases e : n = b
    · subst e
      rw [if_neg (fun q => q.2.2.1 rfl), if_neg (fun q => Nat.lt_irrefl _ q.2)]
    · by_cases tn : tkM M (ml j) n = true
      · have k := oK_iff (M := M) (g := ml j) (a := n) (b := b) (by omega) hb e
        have en := mq_at (j := j) (b := n) (by omega)
        have eb := mq_at (j := j) hb
        have d12 : M 12 (8 * ml j + n) = M 12 (8 * ml j + b) → n = b := fun q => by
          have := h.2.2.2.2.1.2.1 (4 * j + n) (4 * j + b) (by omega) (by omega) (by rw [en]; exact m_tp_10 tn) (by rw [eb]; exact m_tp_10 tb) (by rw [en, eb]; exact q)
          omega
        have kb : m_bt M (8 * ml j + n) (8 * ml j + b) = true ↔ oR M (ml j) n b := by
          unfold m_bt oR
          split
          · rw [decide_eq_true_eq]; omega
          · split
            · rw [decide_eq_true_eq]; omega
            · rw [decide_eq_true_eq]; omega
        by_cases c : oR M (ml j) n b
        · rw [if_pos ⟨tb, tn, e, kb.mpr c⟩, if_pos ⟨tn, k.mpr c⟩]
        · rw [if_neg (fun q => c (kb.mp q.2.2.2)), if_neg (fun q => c (k.mp q.2))]
      · rw [if_neg (fun q => tn q.2.1), if_neg (fun q => tn q.1)]
theorem LR.ah8 (h : LR M T) {j b : Nat} (hj : j < 4) : m_ah M (ml j) b 8 = m_ah M (ml j) b 4 := by
  have k : ∀ d, d ≤ 4 → m_ah M (ml j) b (4 + d) = m_ah M (ml j) b 4 := by
    intro d
    induction d with
    | zero => intro _; rfl
    | succ d ih =>
      intro hd
      show m_ah M (ml j) b ((4 + d) + 1) = _
      rw [m_ah, ih (by omega), if_neg (fun q => by have := h.no4 (g := ml j) (b := 4 + d) (by omega) (by omega); rw [this] at q; exact absurd q.2.1 (by decide)), Nat.add_zero]
  exact k 4 (by omega)
theorem LR.rkf (h : LR M T) {j p : Nat} (hj : j < 4) : ∀ n, n ≤ 4 → m_rkf M (ml j) p n = rkK (tkM M (ml j)) (oK M (ml j)) p n
  | 0, _ => rfl
  | n + 1, hn => by
    rw [m_rkf, rkK, h.rkf hj n (by omega), h.ah8 hj]
    by_cases tn : tkM M (ml j) n = true
    · rw [h.ah hj (by omega) tn 4 (by omega)]
    · rw [if_neg (fun q => tn q.1), if_neg (fun q => tn q.1)]
theorem LR.rk8 (h : LR M T) {j p : Nat} (hj : j < 4) : m_rk M (ml j) p = rkK (tkM M (ml j)) (oK M (ml j)) p 4 := by
  have k : ∀ d, d ≤ 4 → m_rkf M (ml j) p (4 + d) = m_rkf M (ml j) p 4 := by
    intro d
    induction d with
    | zero => intro _; rfl
    | succ d ih =>
      intro hd
      show m_rkf M (ml j) p ((4 + d) + 1) = _
      rw [m_rkf, ih (by omega), if_neg (fun q => by have := h.no4 (g := ml j) (b := 4 + d) (by omega) (by omega); rw [this] at q; exact absurd q.1 (by decide))]
  unfold m_rk
  rw [k 4 (by omega), h.rkf hj 4 (by omega)]
/-- the p-th of a lot, both ways -/
theorem LR.rank (h : LR M T) (hM : MI M) {j p : Nat} (hj : j < 4) (h3 : j / 2 < M 3 0) (hp : p < 5) : t_best T j (t_sts T j p) = (m_rk M (ml j) p).map (4 * j + ·) := by
  unfold t_best
  rw [h.bsf hM hj h3 _ 4 (by omega), h.bset hM hj h3, h.rk8 hj, rank_K (fun b hb => oK_4 hb) (fun a b ha hb e => oK_ne ha hb e) hp]
theorem LR.best0 (h : LR M T) (hM : MI M) {j : Nat} (hj : j < 4) (h3 : j / 2 < M 3 0) : t_best T j 0 = (m_rk M (ml j) 0).map (4 * j + ·) := h.rank hM hj h3 (p := 0) (by decide)
end RK
