/-! the class's state against the reference's: lists, counting, the bids of a lot -/
def lsn (f : Nat → Nat) (n : Nat) : List Nat := (List.range n).map f
theorem lsn_len (f : Nat → Nat) (n : Nat) : (lsn f n).length = n := by simp [lsn]
theorem lsn_gt {f : Nat → Nat} {n i : Nat} (h : i < n) : gt (lsn f n) i = f i := by
  unfold gt lsn
  rw [List.getD_eq_getElem?_getD, List.getElem?_map, List.getElem?_range h]; rfl
theorem lsn_mem {f : Nat → Nat} {n x : Nat} : x ∈ lsn f n ↔ ∃ i, i < n ∧ f i = x := by
  unfold lsn
  simp [List.mem_map, List.mem_range]
theorem lsn_congr {f g : Nat → Nat} {n : Nat} (h : ∀ i, i < n → f i = g i) : lsn f n = lsn g n := List.map_congr_left (fun i hi => h i (List.mem_range.mp hi))
def fpush (f : Nat → Nat) (n q : Nat) : Nat → Nat := fun i => if i = n then q else f i
theorem fpush_eq {f : Nat → Nat} {n q : Nat} : fpush f n q n = q := if_pos rfl
theorem fpush_ne {f : Nat → Nat} {n q i : Nat} (h : i ≠ n) : fpush f n q i = f i := if_neg h
theorem lsn_push {f : Nat → Nat} {n q : Nat} : lsn f n ++ [q] = lsn (fpush f n q) (n + 1) := by
  unfold lsn
  rw [List.range_succ, List.map_append]
  congr 1
  · exact List.map_congr_left (fun i hi => by rw [fpush_ne (by have := List.mem_range.mp hi; omega)])
  · show [q] = [fpush f n q n]
    rw [fpush_eq]
theorem cn_congr {P Q : Nat → Prop} [DecidablePred P] [DecidablePred Q] {n : Nat} (h : ∀ i, i < n → (P i ↔ Q i)) : cn P n = cn Q n := by
  induction n with
  | zero => rfl
  | succ n ih =>
    rw [cn, cn, ih (fun i hi => h i (by omega))]
    by_cases hp : P n
    · rw [if_pos hp, if_pos ((h n (by omega)).mp hp)]
    · rw [if_neg hp, if_neg (fun q => hp ((h n (by omega)).mpr q))]
theorem cn_mono {P Q : Nat → Prop} [DecidablePred P] [DecidablePred Q] {n : Nat} (h : ∀ i, i < n → P i → Q i) : cn P n ≤ cn Q n := by
  induction n with
  | zero => exact Nat.le_refl _
  | succ n ih =>
    have i1 := ih (fun i hi => h i (by omega))
    rw [cn, cn]
    by_cases hp : P n
    · rw [if_pos hp, if_pos (h n (by omega) hp)]; omega
    · rw [if_neg hp]; omega
theorem cn_lt {P Q : Nat → Prop} [DecidablePred P] [DecidablePred Q] {n k : Nat} (h : ∀ i, i < n → P i → Q i) (hk : k < n) (h1 : Q k) (h2 : ¬ P k) : cn P n < cn Q n := by
  induction n with
  | zero => omega
  | succ n ih =>
    rw [cn, cn]
    by_cases hkn : k = n
    · subst hkn
      have := cn_mono (P := P) (Q := Q) (n := k) (fun i hi => h i (by omega))
      rw [if_neg h2, if_pos h1]; omega
    · have i1 := ih (fun i hi => h i (by omega)) (by omega)
      by_cases hp : P n
      · rw [if_pos hp, if_pos (h n (by omega) hp)]; omega
      · rw [if_neg hp]; omega
/-- one more place -/
theorem cn_one {P Q : Nat → Prop} [DecidablePred P] [DecidablePred Q] {n k : Nat} (h : ∀ i, i < n → i ≠ k → (P i ↔ Q i)) (hk : k < n) (hp : ¬ P k) : cn Q n = cn P n + if Q k then 1 else 0 := by
  induction n with
  | zero => omega
  | succ n ih =>
    rw [cn, cn]
    by_cases hkn : k = n
    · subst hkn
      rw [cn_congr (P := Q) (Q := P) (fun i hi => (h i (by omega) (by omega)).symm), if_neg hp]; rfl
    · rw [ih (fun i hi => h i (by omega)) (by omega)]
      have hn := h n (by omega) (fun q => hkn q.symm)
      by_cases hpn : P n
      · rw [if_pos hpn, if_pos (hn.mp hpn)]; omega
      · rw [if_neg hpn, if_neg (fun q => hpn (hn.mpr q)), Nat.add_zero, Nat.add_zero]
/-- counting the places of a list, or what they name -/
theorem cn_list {P Q : Nat → Prop} [DecidablePred P] [DecidablePred Q] {g : Nat → Nat} {N : Nat} (vs : List Nat) (hd : vs.Pairwise (fun x y => g x ≠ g y)) (hN : ∀ x ∈ vs, g x < N) (hQ : ∀ b, b < N → (Q b ↔ ∃ x ∈ vs, g x = b ∧ P x)) : cn (fun j => P (gt vs j)) vs.length = cn Q N := by
  have key : ∀ (n : Nat) (vs : List Nat), vs.length = n → ∀ (Q : Nat → Prop) [DecidablePred Q], vs.Pairwise (fun x y => g x ≠ g y) → (∀ x ∈ vs, g x < N) → (∀ b, b < N → (Q b ↔ ∃ x ∈ vs, g x = b ∧ P x)) → cn (fun j => P (gt vs j)) vs.length = cn Q N := by
    intro n
    induction n with
    | zero =>
      intro vs hl Q _ hd hN hQ
      have : vs = [] := List.length_eq_zero_iff.mp hl
      subst this
      show 0 = _
      have h0 : cn Q N = cn (fun _ => False) N := cn_congr (fun b hb => ⟨fun q => (by obtain ⟨x, hx, -⟩ := (hQ b hb).mp q; cases hx), fun q => q.elim⟩)
      rw [h0]
      have : ∀ n, cn (fun _ => False) n = 0 := by
        intro n
        induction n with
        | zero => rfl
        | succ n ih => rw [cn, ih]; rfl
      rw [this]
    | succ n ih =>
      intro vs hl Q _ hd hN hQ
      obtain ⟨ws, x, rfl⟩ : ∃ ws x, vs = ws ++ [x] := by
        rcases List.eq_nil_or_concat vs with h | ⟨ws, x, h⟩
        · subst h; cases hl
        · exact ⟨ws, x, by rw [h, List.concat_eq_append]⟩
      have hwl : ws.length = n := by rw [List.length_append] at hl; simpa using hl
      have hd2 := List.pairwise_append.mp hd
      have hx : ∀ y ∈ ws, g y ≠ g x := fun y hy => hd2.2.2 y hy x (List.mem_singleton.mpr rfl)
      have i1 := ih ws hwl (fun b => Q b ∧ b ≠ g x) hd2.1 (fun y hy => hN y (List.mem_append_left _ hy)) (fun b hb => by
        constructor
        · rintro ⟨q1, q2⟩
          obtain ⟨y, hy, h1, h2⟩ := (hQ b hb).mp q1
          rcases List.mem_append.mp hy with hy | hy
          · exact ⟨y, hy, h1, h2⟩
          · rw [List.mem_singleton.mp hy] at h1; exact absurd h1.symm q2
        · rintro ⟨y, hy, h1, h2⟩
          exact ⟨(hQ b hb).mpr ⟨y, List.mem_append_left _ hy, h1, h2⟩, fun q => hx y hy (h1.trans q)⟩)
      have i2 : cn Q N = cn (fun b => Q b ∧ b ≠ g x) N + if Q (g x) then 1 else 0 := cn_one (fun i hi hne => ⟨fun q => q.1, fun q => ⟨q, hne⟩⟩) (hN x (List.mem_append_right _ (List.mem_singleton.mpr rfl))) (fun q => q.2 rfl)
      have i3 : Q (g x) ↔ P x := by
        rw [hQ _ (hN x (List.mem_append_right _ (List.mem_singleton.mpr rfl)))]
        constructor
        · rintro ⟨y, hy, h1, h2⟩
          rcases List.mem_append.mp hy with hy | hy
          · exact absurd h1 (hx y hy)
          · rw [← List.mem_singleton.mp hy]; exact h2
        · exact fun q => ⟨x, List.mem_append_right _ (List.mem_singleton.mpr rfl), rfl, q⟩
      rw [i2, ← i1, List.length_append]
      show cn _ (ws.length + 1) = _
      rw [cn, gt_app2, cn_congr (P := fun j => P (gt (ws ++ [x]) j)) (Q := fun j => P (gt ws j)) (fun i hi => by rw [gt_app1 hi])]
      by_cases hp : P x
      · rw [if_pos hp, if_pos (i3.mpr hp)]
      · rw [if_neg hp, if_neg (fun q => hp (i3.mp q))]
  exact key vs.length vs rfl Q hd hN hQ
/-- the places of a list in order -/
theorem pw_gt {R : Nat → Nat → Prop} {vs : List Nat} (h : vs.Pairwise R) {i j : Nat} (hij : i < j) (hj : j < vs.length) : R (gt vs i) (gt vs j) := by
  have h1 := List.pairwise_iff_getElem.mp h i j (by omega) hj hij
  unfold gt
  rw [List.getD_eq_getElem?_getD, List.getD_eq_getElem?_getD, List.getElem?_eq_getElem hj, List.getElem?_eq_getElem (show i < vs.length by omega)]
  exact h1
theorem mem_gt {vs : List Nat} {x : Nat} (h : x ∈ vs) : ∃ i, i < vs.length ∧ gt vs i = x := by
  obtain ⟨i, hi, h1⟩ := List.getElem_of_mem h
  refine ⟨i, hi, ?_⟩
  unfold gt
  rw [List.getD_eq_getElem?_getD, List.getElem?_eq_getElem hi]
  exact h1
theorem fr_iff_none {P : Nat → Prop} [DecidablePred P] {n : Nat} (h : fr P n = none) : ∀ i, i < n → ¬ P i := by
  intro i hi hp
  unfold fr at h
  rw [List.find?_eq_none] at h
  exact h i (List.mem_range.mpr hi) (by simpa using hp)
