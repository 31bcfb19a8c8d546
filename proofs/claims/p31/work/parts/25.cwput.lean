/-! what a write, a new object, a longer list make of the class's objects -/
def up2 (F : Nat → Nat → Nat) (f a v : Nat) : Nat → Nat → Nat := fun g b => if g = f ∧ b = a then v else F g b
def upL (L : Nat → List Nat) (a : Nat) (vs : List Nat) : Nat → List Nat := fun b => if b = a then vs else L b
def kdN (kd : Nat → Nat) (q k : Nat) : Nat → Nat := fun b => if b = q then k else kd b
def FN (F : Nat → Nat → Nat) (q : Nat) (vals : List Nat) : Nat → Nat → Nat := fun f b => if b = q then vals.getD f 0 else F f b
theorem up2_eq {F : Nat → Nat → Nat} {f a v : Nat} : up2 F f a v f a = v := if_pos ⟨rfl, rfl⟩
theorem up2_ne {F : Nat → Nat → Nat} {f a v g b : Nat} (h : b ≠ a) : up2 F f a v g b = F g b := if_neg (fun q => h q.2)
theorem up2_nf {F : Nat → Nat → Nat} {f a v g b : Nat} (h : g ≠ f) : up2 F f a v g b = F g b := if_neg (fun q => h q.1)
theorem FN_ne {F : Nat → Nat → Nat} {q : Nat} {vals : List Nat} {f b : Nat} (h : b ≠ q) : FN F q vals f b = F f b := if_neg h
theorem kdN_eq {kd : Nat → Nat} {q k : Nat} : kdN kd q k q = k := if_pos rfl
theorem kdN_ne {kd : Nat → Nat} {q k b : Nat} (h : b ≠ q) : kdN kd q k b = kd b := if_neg h
theorem upL_eq {L : Nat → List Nat} {a : Nat} {vs : List Nat} : upL L a vs a = vs := if_pos rfl
theorem upL_ne {L : Nat → List Nat} {a b : Nat} {vs : List Nat} (h : b ≠ a) : upL L a vs b = L b := if_neg h
section WP
variable {cI cO : ClassId} {eA : Nat} {st own own2 kd : Nat → Nat} {F : Nat → Nat → Nat} {L : Nat → List Nat} {ws ws2 : va_W} {A : Nat → Prop}
theorem CW.put (h : CW cI cO eA st own kd F L ws) (hD : va_D A ws) {a k f v : Nat} {x : va_E} (hk : kd a = k) (h0 : k ≠ 0) (h2 : k < 20) (hx : ent st cI k (up2 F f a v) a = x) : CW cI cO eA st own kd (up2 F f a v) L (wup ws a x) := by
  refine ⟨fun b hb1 hb2 => ?_, fun b hb => Lst_up hD (h.2 b hb) (h.at hk h0 h2) (ent_plain _ _ _ _ _)⟩
  by_cases hq : b = a
  · subst hq
    subst hk
    subst hx
    exact wup_eq (h.1 b hb1 hb2)
  · rw [ent_congr (G := F) (fun g => up2_ne hq)]
    exact wup_ne (h.1 b hb1 hb2) hq
theorem WF.put (h : WF kd F L) {a k f v : Nat} (hk : kd a = k) (h1 : rg k f = 0 ∨ v < rg k f) (h2 : rk k f = 0 ∨ kd v = rk k f) : WF kd (up2 F f a v) L := by
  subst hk
  refine ⟨fun b g => ?_, fun b g => ?_, h.2.2⟩
  · by_cases hq : g = f ∧ b = a
    · obtain ⟨rfl, rfl⟩ := hq
      rw [up2_eq]; exact h1
    · show _ ∨ (if g = f ∧ b = a then v else F g b) < _
      rw [if_neg hq]; exact h.1 b g
  · by_cases hq : g = f ∧ b = a
    · obtain ⟨rfl, rfl⟩ := hq
      rw [up2_eq]; exact h2
    · show _ ∨ kd (if g = f ∧ b = a then v else F g b) = _
      rw [if_neg hq]; exact h.2.1 b g
theorem CW.setL (h : CW cI cO eA st own kd F L ws) {a : Nat} {vs : List Nat} (hK : Keeps cO eA own ws own2 ws2 a) (hL : Lst cO eA own2 ws2 a vs) : CW cI cO eA st own2 kd F (upL L a vs) ws2 := by
  refine ⟨fun b hb1 hb2 => hK.1 b _ (ent_plain _ _ _ _ _) (h.1 b hb1 hb2), fun b hb => ?_⟩
  by_cases hq : b = a
  · subst hq
    rw [upL_eq]; exact hL
  · rw [upL_ne hq]; exact hK.2 b _ hq (h.2 b hb)
theorem WF.setL (h : WF kd F L) {a k : Nat} {vs : List Nat} (hk : kd a = k) (hl : vs.length ≤ 60) (hv : ∀ x ∈ vs, kd x + 20 = k) : WF kd F (upL L a vs) := by
  subst hk
  refine ⟨h.1, h.2.1, fun b hb => ?_⟩
  obtain ⟨h1, h2, h3, h4⟩ := h.2.2 b hb
  by_cases hq : b = a
  · subst hq
    rw [upL_eq]; exact ⟨h1, h2, hl, hv⟩
  · rw [upL_ne hq]; exact ⟨h1, h2, h3, h4⟩
theorem CW.fresh (h : CW cI cO eA st own kd F L ws) {q : Nat} {x : va_E} (hD : va_D A (ws ++ [(q, x)])) : kd q = 0 := by
  by_cases h0 : kd q = 0
  · exact h0
  · by_cases h2 : kd q < 20
    · exact absurd rfl (w_new hD (h.1 q h0 h2))
    · obtain ⟨mc, r, h1, -⟩ := h.2 q (by omega)
      exact absurd rfl (w_new hD h1)
theorem CW.new (h : CW cI cO eA st own kd F L ws) {q k : Nat} {vals : List Nat} {x : va_E} (hD : va_D A (ws ++ [(q, x)])) (h2 : k < 20) (hx : ent st cI k (FN F q vals) q = x) : CW cI cO eA st own (kdN kd q k) (FN F q vals) L (ws ++ [(q, x)]) := by
  refine ⟨fun b hb1 hb2 => ?_, fun b hb => ?_⟩
  · by_cases hq : b = q
    · subst hq
      rw [kdN_eq, hx]
      exact List.mem_append_right _ (List.mem_singleton.mpr rfl)
    · rw [kdN_ne hq] at hb1 hb2 ⊢
      rw [ent_congr (G := F) (fun g => FN_ne hq)]
      exact List.mem_append_left _ (h.1 b hb1 hb2)
  · by_cases hq : b = q
    · subst hq
      rw [kdN_eq] at hb
      omega
    · rw [kdN_ne hq] at hb
      exact Lst_app (h.2 b hb)
theorem WF.new (h : WF kd F L) {q k : Nat} {vals : List Nat} (hq : kd q = 0) (h2 : k < 20) (hr : ∀ f, rg k f = 0 ∨ vals.getD f 0 < rg k f) (hk : ∀ f, rk k f = 0 ∨ kd (vals.getD f 0) = rk k f) : WF (kdN kd q k) (FN F q vals) L := by
  have ne : ∀ {v : Nat}, kd v ≠ 0 → v ≠ q := fun hv he => hv (by rw [he]; exact hq)
  refine ⟨fun b g => ?_, fun b g => ?_, fun b hb => ?_⟩
  · by_cases hb : b = q
    · subst hb
      rw [kdN_eq]
      show _ ∨ (if b = b then vals.getD g 0 else F g b) < _
      rw [if_pos rfl]; exact hr g
    · rw [kdN_ne hb, FN_ne hb]; exact h.1 b g
  · by_cases hb : b = q
    · subst hb
      rw [kdN_eq]
      rcases hk g with h1 | h1
      · exact Or.inl h1
      · by_cases h3 : rk k g = 0
        · exact Or.inl h3
        · right
          show kdN kd b k (if b = b then vals.getD g 0 else F g b) = _
          rw [if_pos rfl, kdN_ne (ne (by rw [h1]; exact h3))]; exact h1
    · rw [kdN_ne hb, FN_ne hb]
      rcases h.2.1 b g with h1 | h1
      · exact Or.inl h1
      · by_cases h3 : rk (kd b) g = 0
        · exact Or.inl h3
        · right
          rw [kdN_ne (ne (by rw [h1]; exact h3))]; exact h1
  · by_cases hbq : b = q
    · subst hbq
      rw [kdN_eq] at hb
      omega
    · rw [kdN_ne hbq] at hb ⊢
      obtain ⟨g1, g2, g3, g4⟩ := h.2.2 b hb
      refine ⟨g1, g2, g3, fun x hx => ?_⟩
      have := g4 x hx
      rw [kdN_ne (ne (by omega))]; exact this
/-- a new list, empty -/
theorem CW.newL (h : CW cI cO eA st own kd F L ws) {q k : Nat} {mc : Int32} (hD : va_D A (ws ++ [(q, eL mc eA 0)])) (h2 : 20 ≤ k) : CW cI cO eA st own (kdN kd q k) F (upL L q []) (ws ++ [(q, eL mc eA 0)]) := by
  refine ⟨fun b hb1 hb2 => ?_, fun b hb => ?_⟩
  · by_cases hq : b = q
    · subst hq
      rw [kdN_eq] at hb2
      omega
    · rw [kdN_ne hq] at hb1 hb2 ⊢
      exact List.mem_append_left _ (h.1 b hb1 hb2)
  · by_cases hq : b = q
    · subst hq
      rw [upL_eq]
      exact ⟨mc, eA, List.mem_append_right _ (List.mem_singleton.mpr rfl), Or.inl ⟨rfl, rfl⟩⟩
    · rw [kdN_ne hq] at hb
      rw [upL_ne hq]
      exact Lst_app (h.2 b hb)
end WP
