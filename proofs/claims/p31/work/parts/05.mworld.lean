/-! the reference's world: its fields and arrays hold whole numbers, M f i: field f, place i (0 for a number) -/
abbrev MS : Type := Nat → Nat → Nat
def mu (M : MS) (f i v : Nat) : MS := fun g j => if g = f ∧ j = i then v else M g j
theorem mu_eq (M : MS) (f i v : Nat) : mu M f i v f i = v := by simp [mu]
theorem mu_nf (M : MS) {f i v g : Nat} (h : g ≠ f) : mu M f i v g = M g := by funext j; simp [mu, h]
theorem mu_f (M : MS) (f i v : Nat) : mu M f i v f = fun j => if j = i then v else M f j := by funext j; simp [mu]
theorem my_Dc {A : Nat → Prop} {w1 w2 : va_W} (h : va_D A w1) (e : w2.map (·.1) = w1.map (·.1)) : va_D A w2 := by
  have key : ∀ (k : Nat) (q : Nat × va_E), w2[k]? = some q → ∃ q1, w1[k]? = some q1 ∧ q1.1 = q.1 := by
    intro k q hk
    have h2 : (w2.map (·.1))[k]? = some q.1 := by rw [List.getElem?_map, hk]; rfl
    rw [e, List.getElem?_map] at h2
    cases h3 : w1[k]? with
    | none => rw [h3] at h2; cases h2
    | some q1 => rw [h3] at h2; exact ⟨q1, rfl, Option.some.inj h2⟩
  refine ⟨fun i j x y hi hj hxy => ?_, fun k q hk => ?_⟩
  · obtain ⟨x1, a1, b1⟩ := key i x hi
    obtain ⟨y1, a2, b2⟩ := key j y hj
    exact h.1 i j x1 y1 a1 a2 (b1.trans (hxy.trans b2.symm))
  · obtain ⟨q1, a1, b1⟩ := key k q hk
    rw [← b1]
    exact h.2 k q1 a1
