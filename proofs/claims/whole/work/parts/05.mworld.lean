/-! the reference's world: its fields and arrays hold whole numbers, M f i: field f, place i (0 for a number) -/
abbrev MS : Type := Nat → Nat → Nat
def mu (M : MS) (f i v : Nat) : MS := fun g j => if g = f ∧ j = i then v else M g j
theorem mu_eq (M : MS) (f i v : Nat) : mu M f i v f i = v := by simp [mu]
theorem mu_nf (M : MS) {f i v g : Nat} (h : g ≠ f) : mu M f i v g = M g := by funext j; simp [mu, h]
theorem mu_f (M : MS) (f i v : Nat) : mu M f i v f = fun j => if j = i then v else M f j := by funext j; simp [mu]
abbrev mfs (ad : Nat → Nat) (th : Nat) (M : MS) : List Value := [.int (nI th), .int (nI (M 1 0)), .ref (ad 2), .int (nI (M 3 0)), .ref (ad 4), .ref (ad 5), .ref (ad 6), .ref (ad 7), .ref (ad 8), .ref (ad 9), .ref (ad 10), .ref (ad 11), .ref (ad 12), .ref (ad 13), .ref (ad 14), .int (nI (M 15 0)), .int (nI (M 16 0)), .ref (ad 17), .ref (ad 18), .ref (ad 19), .ref (ad 20), .ref (ad 21), .int (nI (M 22 0)), .ref (ad 23), .ref (ad 24), .ref (ad 25), .ref (ad 26), .ref (ad 27), .ref (ad 28), .int (nI (M 29 0)), .ref (ad 30), .ref (ad 31), .ref (ad 32), .int (nI (M 33 0)), .ref (ad 34)]
abbrev mrow (c : ClassId) (n f : Nat) (M : MS) : va_E := .inl (c, n, .inl (fun i => nI (M f i)))
abbrev mws (ad : Nat → Nat) (cI cZ cC : ClassId) (th : Nat) (M : MS) : va_W := [(ad 0, .inr (10, mfs ad th M)), (ad 2, mrow cI 48 2 M), (ad 4, mrow cI 6 4 M), (ad 5, mrow cI 6 5 M), (ad 6, mrow cI 6 6 M), (ad 7, mrow cI 6 7 M), (ad 8, mrow cI 6 8 M), (ad 9, mrow cI 18 9 M), (ad 10, mrow cI 144 10 M), (ad 11, mrow cI 144 11 M), (ad 12, mrow cI 144 12 M), (ad 13, mrow cZ 144 13 M), (ad 14, mrow cZ 144 14 M), (ad 17, mrow cI 60 17 M), (ad 18, mrow cI 60 18 M), (ad 19, mrow cI 60 19 M), (ad 20, mrow cZ 60 20 M), (ad 21, mrow cI 60 21 M), (ad 23, mrow cI 60 23 M), (ad 24, mrow cI 60 24 M), (ad 25, mrow cI 60 25 M), (ad 26, mrow cI 60 26 M), (ad 27, mrow cI 60 27 M), (ad 28, mrow cZ 60 28 M), (ad 30, mrow cI 60 30 M), (ad 31, mrow cI 60 31 M), (ad 32, mrow cI 8 32 M), (ad 34, mrow cC 20 34 M)]
abbrev mty (cI cZ cC : ClassId) : List (ClassId × FieldType) := [(cI, .int), (cZ, .boolean), (cC, .char)]
/-- the addresses are apart, and in A -/
def mDis (A : Nat → Prop) (ad : Nat → Nat) : Prop := va_D A (mws ad 0 0 0 0 (fun _ _ => 0))
theorem my_Dc {A : Nat → Prop} {w1 w2 : va_W} (h : va_D A w1) (e : w2.map (·.1) = w1.map (·.1)) : va_D A w2 := by
  have key : ∀ (k : Nat) (q : Nat × va_E), w2[k]? = some q → ∃ q1, w1[k]? = some q1 ∧ q1.1 = q.1 := by
    intro k q hk
    have h2 : (w2.map (·.1))[k]? = some q.1 := by rw [List.getElem?_map, hk]; rfl
    rw [e, List.getElem?_map] at h2
    cases h3 : w1[k]? with
    | none => rw [h3] at h2; cases h2
    | some q1 => rw [h3] at h2; exact ⟨q1, rfl, Option.some.inj h2⟩
  refine ⟨fun i j x y hi hj hxy => ?_, fun k q hk => ?_⟩
  · obtain ⟨x1, a1, b1⟩ := key i x hi
    obtain ⟨y1, a2, b2⟩ := key j y hj
    exact h.1 i j x1 y1 a1 a2 (b1.trans (hxy.trans b2.symm))
  · obtain ⟨q1, a1, b1⟩ := key k q hk
    rw [← b1]
    exact h.2 k q1 a1
theorem mDis.at {A : Nat → Prop} {ad : Nat → Nat} (h : mDis A ad) (cI cZ cC : ClassId) (th : Nat) (M : MS) : va_D A (mws ad cI cZ cC th M) := my_Dc h rfl
/-- the reference stands in U -/
def mB (D : va_G) (ad : Nat → Nat) (cI cZ cC : ClassId) (th : Nat) (M : MS) : State → Prop := fun U => va_P D vwCl (mws ad cI cZ cC th M) U.heap ∧ va_K D vwCl (mty cI cZ cC) U
theorem mB_blind {D : va_G} {ad : Nat → Nat} {cI cZ cC : ClassId} {th : Nat} {M : MS} {av : List Value} : FrameBlind (va_Pc av (mB D ad cI cZ cC th M)) := fun a U g mk q => ⟨q.1, q.2.1, va_K.moved (u := U) (U := U.calling g mk a) (Vm.Alike.refl U.vm) q.2.2⟩
theorem mset_1 (ad : Nat → Nat) (cI cZ cC : ClassId) (th : Nat) (M : MS) (v : Nat) : (mws ad cI cZ cC th M).set 0 (ad 0, .inr (10, (mfs ad th M).set 1 (.int (nI v)))) = mws ad cI cZ cC th (mu M 1 0 v) := by
  simp [mu]
theorem mset_2 (ad : Nat → Nat) (cI cZ cC : ClassId) (th : Nat) (M : MS) (j v : Nat) : (mws ad cI cZ cC th M).set 1 (ad 2, .inl (cI, 48, .inl (upd (fun i => nI (M 2 i)) j (nI v)))) = mws ad cI cZ cC th (mu M 2 j v) := by
  have e : upd (fun i => nI (M 2 i)) j (nI v) = fun i => nI (if i = j then v else M 2 i) := by funext i; by_cases h : i = j <;> simp [upd, h]
  rw [e]
  simp [mu]
theorem mset_3 (ad : Nat → Nat) (cI cZ cC : ClassId) (th : Nat) (M : MS) (v : Nat) : (mws ad cI cZ cC th M).set 0 (ad 0, .inr (10, (mfs ad th M).set 3 (.int (nI v)))) = mws ad cI cZ cC th (mu M 3 0 v) := by
  simp [mu]
theorem mset_4 (ad : Nat → Nat) (cI cZ cC : ClassId) (th : Nat) (M : MS) (j v : Nat) : (mws ad cI cZ cC th M).set 2 (ad 4, .inl (cI, 6, .inl (upd (fun i => nI (M 4 i)) j (nI v)))) = mws ad cI cZ cC th (mu M 4 j v) := by
  have e : upd (fun i => nI (M 4 i)) j (nI v) = fun i => nI (if i = j then v else M 4 i) := by funext i; by_cases h : i = j <;> simp [upd, h]
  rw [e]
  simp [mu]
theorem mset_5 (ad : Nat → Nat) (cI cZ cC : ClassId) (th : Nat) (M : MS) (j v : Nat) : (mws ad cI cZ cC th M).set 3 (ad 5, .inl (cI, 6, .inl (upd (fun i => nI (M 5 i)) j (nI v)))) = mws ad cI cZ cC th (mu M 5 j v) := by
  have e : upd (fun i => nI (M 5 i)) j (nI v) = fun i => nI (if i = j then v else M 5 i) := by funext i; by_cases h : i = j <;> simp [upd, h]
  rw [e]
  simp [mu]
theorem mset_6 (ad : Nat → Nat) (cI cZ cC : ClassId) (th : Nat) (M : MS) (j v : Nat) : (mws ad cI cZ cC th M).set 4 (ad 6, .inl (cI, 6, .inl (upd (fun i => nI (M 6 i)) j (nI v)))) = mws ad cI cZ cC th (mu M 6 j v) := by
  have e : upd (fun i => nI (M 6 i)) j (nI v) = fun i => nI (if i = j then v else M 6 i) := by funext i; by_cases h : i = j <;> simp [upd, h]
  rw [e]
  simp [mu]
theorem mset_7 (ad : Nat → Nat) (cI cZ cC : ClassId) (th : Nat) (M : MS) (j v : Nat) : (mws ad cI cZ cC th M).set 5 (ad 7, .inl (cI, 6, .inl (upd (fun i => nI (M 7 i)) j (nI v)))) = mws ad cI cZ cC th (mu M 7 j v) := by
  have e : upd (fun i => nI (M 7 i)) j (nI v) = fun i => nI (if i = j then v else M 7 i) := by funext i; by_cases h : i = j <;> simp [upd, h]
  rw [e]
  simp [mu]
theorem mset_8 (ad : Nat → Nat) (cI cZ cC : ClassId) (th : Nat) (M : MS) (j v : Nat) : (mws ad cI cZ cC th M).set 6 (ad 8, .inl (cI, 6, .inl (upd (fun i => nI (M 8 i)) j (nI v)))) = mws ad cI cZ cC th (mu M 8 j v) := by
  have e : upd (fun i => nI (M 8 i)) j (nI v) = fun i => nI (if i = j then v else M 8 i) := by funext i; by_cases h : i = j <;> simp [upd, h]
  rw [e]
  simp [mu]
theorem mset_9 (ad : Nat → Nat) (cI cZ cC : ClassId) (th : Nat) (M : MS) (j v : Nat) : (mws ad cI cZ cC th M).set 7 (ad 9, .inl (cI, 18, .inl (upd (fun i => nI (M 9 i)) j (nI v)))) = mws ad cI cZ cC th (mu M 9 j v) := by
  have e : upd (fun i => nI (M 9 i)) j (nI v) = fun i => nI (if i = j then v else M 9 i) := by funext i; by_cases h : i = j <;> simp [upd, h]
  rw [e]
  simp [mu]
theorem mset_10 (ad : Nat → Nat) (cI cZ cC : ClassId) (th : Nat) (M : MS) (j v : Nat) : (mws ad cI cZ cC th M).set 8 (ad 10, .inl (cI, 144, .inl (upd (fun i => nI (M 10 i)) j (nI v)))) = mws ad cI cZ cC th (mu M 10 j v) := by
  have e : upd (fun i => nI (M 10 i)) j (nI v) = fun i => nI (if i = j then v else M 10 i) := by funext i; by_cases h : i = j <;> simp [upd, h]
  rw [e]
  simp [mu]
theorem mset_11 (ad : Nat → Nat) (cI cZ cC : ClassId) (th : Nat) (M : MS) (j v : Nat) : (mws ad cI cZ cC th M).set 9 (ad 11, .inl (cI, 144, .inl (upd (fun i => nI (M 11 i)) j (nI v)))) = mws ad cI cZ cC th (mu M 11 j v) := by
  have e : upd (fun i => nI (M 11 i)) j (nI v) = fun i => nI (if i = j then v else M 11 i) := by funext i; by_cases h : i = j <;> simp [upd, h]
  rw [e]
  simp [mu]
theorem mset_12 (ad : Nat → Nat) (cI cZ cC : ClassId) (th : Nat) (M : MS) (j v : Nat) : (mws ad cI cZ cC th M).set 10 (ad 12, .inl (cI, 144, .inl (upd (fun i => nI (M 12 i)) j (nI v)))) = mws ad cI cZ cC th (mu M 12 j v) := by
  have e : upd (fun i => nI (M 12 i)) j (nI v) = fun i => nI (if i = j then v else M 12 i) := by funext i; by_cases h : i = j <;> simp [upd, h]
  rw [e]
  simp [mu]
theorem mset_13 (ad : Nat → Nat) (cI cZ cC : ClassId) (th : Nat) (M : MS) (j v : Nat) : (mws ad cI cZ cC th M).set 11 (ad 13, .inl (cZ, 144, .inl (upd (fun i => nI (M 13 i)) j (nI v)))) = mws ad cI cZ cC th (mu M 13 j v) := by
  have e : upd (fun i => nI (M 13 i)) j (nI v) = fun i => nI (if i = j then v else M 13 i) := by funext i; by_cases h : i = j <;> simp [upd, h]
  rw [e]
  simp [mu]
theorem mset_14 (ad : Nat → Nat) (cI cZ cC : ClassId) (th : Nat) (M : MS) (j v : Nat) : (mws ad cI cZ cC th M).set 12 (ad 14, .inl (cZ, 144, .inl (upd (fun i => nI (M 14 i)) j (nI v)))) = mws ad cI cZ cC th (mu M 14 j v) := by
  have e : upd (fun i => nI (M 14 i)) j (nI v) = fun i => nI (if i = j then v else M 14 i) := by funext i; by_cases h : i = j <;> simp [upd, h]
  rw [e]
  simp [mu]
theorem mset_15 (ad : Nat → Nat) (cI cZ cC : ClassId) (th : Nat) (M : MS) (v : Nat) : (mws ad cI cZ cC th M).set 0 (ad 0, .inr (10, (mfs ad th M).set 15 (.int (nI v)))) = mws ad cI cZ cC th (mu M 15 0 v) := by
  simp [mu]
theorem mset_16 (ad : Nat → Nat) (cI cZ cC : ClassId) (th : Nat) (M : MS) (v : Nat) : (mws ad cI cZ cC th M).set 0 (ad 0, .inr (10, (mfs ad th M).set 16 (.int (nI v)))) = mws ad cI cZ cC th (mu M 16 0 v) := by
  simp [mu]
theorem mset_17 (ad : Nat → Nat) (cI cZ cC : ClassId) (th : Nat) (M : MS) (j v : Nat) : (mws ad cI cZ cC th M).set 13 (ad 17, .inl (cI, 60, .inl (upd (fun i => nI (M 17 i)) j (nI v)))) = mws ad cI cZ cC th (mu M 17 j v) := by
  have e : upd (fun i => nI (M 17 i)) j (nI v) = fun i => nI (if i = j then v else M 17 i) := by funext i; by_cases h : i = j <;> simp [upd, h]
  rw [e]
  simp [mu]
theorem mset_18 (ad : Nat → Nat) (cI cZ cC : ClassId) (th : Nat) (M : MS) (j v : Nat) : (mws ad cI cZ cC th M).set 14 (ad 18, .inl (cI, 60, .inl (upd (fun i => nI (M 18 i)) j (nI v)))) = mws ad cI cZ cC th (mu M 18 j v) := by
  have e : upd (fun i => nI (M 18 i)) j (nI v) = fun i => nI (if i = j then v else M 18 i) := by funext i; by_cases h : i = j <;> simp [upd, h]
  rw [e]
  simp [mu]
theorem mset_19 (ad : Nat → Nat) (cI cZ cC : ClassId) (th : Nat) (M : MS) (j v : Nat) : (mws ad cI cZ cC th M).set 15 (ad 19, .inl (cI, 60, .inl (upd (fun i => nI (M 19 i)) j (nI v)))) = mws ad cI cZ cC th (mu M 19 j v) := by
  have e : upd (fun i => nI (M 19 i)) j (nI v) = fun i => nI (if i = j then v else M 19 i) := by funext i; by_cases h : i = j <;> simp [upd, h]
  rw [e]
  simp [mu]
theorem mset_20 (ad : Nat → Nat) (cI cZ cC : ClassId) (th : Nat) (M : MS) (j v : Nat) : (mws ad cI cZ cC th M).set 16 (ad 20, .inl (cZ, 60, .inl (upd (fun i => nI (M 20 i)) j (nI v)))) = mws ad cI cZ cC th (mu M 20 j v) := by
  have e : upd (fun i => nI (M 20 i)) j (nI v) = fun i => nI (if i = j then v else M 20 i) := by funext i; by_cases h : i = j <;> simp [upd, h]
  rw [e]
  simp [mu]
theorem mset_21 (ad : Nat → Nat) (cI cZ cC : ClassId) (th : Nat) (M : MS) (j v : Nat) : (mws ad cI cZ cC th M).set 17 (ad 21, .inl (cI, 60, .inl (upd (fun i => nI (M 21 i)) j (nI v)))) = mws ad cI cZ cC th (mu M 21 j v) := by
  have e : upd (fun i => nI (M 21 i)) j (nI v) = fun i => nI (if i = j then v else M 21 i) := by funext i; by_cases h : i = j <;> simp [upd, h]
  rw [e]
  simp [mu]
theorem mset_22 (ad : Nat → Nat) (cI cZ cC : ClassId) (th : Nat) (M : MS) (v : Nat) : (mws ad cI cZ cC th M).set 0 (ad 0, .inr (10, (mfs ad th M).set 22 (.int (nI v)))) = mws ad cI cZ cC th (mu M 22 0 v) := by
  simp [mu]
theorem mset_23 (ad : Nat → Nat) (cI cZ cC : ClassId) (th : Nat) (M : MS) (j v : Nat) : (mws ad cI cZ cC th M).set 18 (ad 23, .inl (cI, 60, .inl (upd (fun i => nI (M 23 i)) j (nI v)))) = mws ad cI cZ cC th (mu M 23 j v) := by
  have e : upd (fun i => nI (M 23 i)) j (nI v) = fun i => nI (if i = j then v else M 23 i) := by funext i; by_cases h : i = j <;> simp [upd, h]
  rw [e]
  simp [mu]
theorem mset_24 (ad : Nat → Nat) (cI cZ cC : ClassId) (th : Nat) (M : MS) (j v : Nat) : (mws ad cI cZ cC th M).set 19 (ad 24, .inl (cI, 60, .inl (upd (fun i => nI (M 24 i)) j (nI v)))) = mws ad cI cZ cC th (mu M 24 j v) := by
  have e : upd (fun i => nI (M 24 i)) j (nI v) = fun i => nI (if i = j then v else M 24 i) := by funext i; by_cases h : i = j <;> simp [upd, h]
  rw [e]
  simp [mu]
theorem mset_25 (ad : Nat → Nat) (cI cZ cC : ClassId) (th : Nat) (M : MS) (j v : Nat) : (mws ad cI cZ cC th M).set 20 (ad 25, .inl (cI, 60, .inl (upd (fun i => nI (M 25 i)) j (nI v)))) = mws ad cI cZ cC th (mu M 25 j v) := by
  have e : upd (fun i => nI (M 25 i)) j (nI v) = fun i => nI (if i = j then v else M 25 i) := by funext i; by_cases h : i = j <;> simp [upd, h]
  rw [e]
  simp [mu]
theorem mset_26 (ad : Nat → Nat) (cI cZ cC : ClassId) (th : Nat) (M : MS) (j v : Nat) : (mws ad cI cZ cC th M).set 21 (ad 26, .inl (cI, 60, .inl (upd (fun i => nI (M 26 i)) j (nI v)))) = mws ad cI cZ cC th (mu M 26 j v) := by
  have e : upd (fun i => nI (M 26 i)) j (nI v) = fun i => nI (if i = j then v else M 26 i) := by funext i; by_cases h : i = j <;> simp [upd, h]
  rw [e]
  simp [mu]
theorem mset_27 (ad : Nat → Nat) (cI cZ cC : ClassId) (th : Nat) (M : MS) (j v : Nat) : (mws ad cI cZ cC th M).set 22 (ad 27, .inl (cI, 60, .inl (upd (fun i => nI (M 27 i)) j (nI v)))) = mws ad cI cZ cC th (mu M 27 j v) := by
  have e : upd (fun i => nI (M 27 i)) j (nI v) = fun i => nI (if i = j then v else M 27 i) := by funext i; by_cases h : i = j <;> simp [upd, h]
  rw [e]
  simp [mu]
theorem mset_28 (ad : Nat → Nat) (cI cZ cC : ClassId) (th : Nat) (M : MS) (j v : Nat) : (mws ad cI cZ cC th M).set 23 (ad 28, .inl (cZ, 60, .inl (upd (fun i => nI (M 28 i)) j (nI v)))) = mws ad cI cZ cC th (mu M 28 j v) := by
  have e : upd (fun i => nI (M 28 i)) j (nI v) = fun i => nI (if i = j then v else M 28 i) := by funext i; by_cases h : i = j <;> simp [upd, h]
  rw [e]
  simp [mu]
theorem mset_29 (ad : Nat → Nat) (cI cZ cC : ClassId) (th : Nat) (M : MS) (v : Nat) : (mws ad cI cZ cC th M).set 0 (ad 0, .inr (10, (mfs ad th M).set 29 (.int (nI v)))) = mws ad cI cZ cC th (mu M 29 0 v) := by
  simp [mu]
theorem mset_30 (ad : Nat → Nat) (cI cZ cC : ClassId) (th : Nat) (M : MS) (j v : Nat) : (mws ad cI cZ cC th M).set 24 (ad 30, .inl (cI, 60, .inl (upd (fun i => nI (M 30 i)) j (nI v)))) = mws ad cI cZ cC th (mu M 30 j v) := by
  have e : upd (fun i => nI (M 30 i)) j (nI v) = fun i => nI (if i = j then v else M 30 i) := by funext i; by_cases h : i = j <;> simp [upd, h]
  rw [e]
  simp [mu]
theorem mset_31 (ad : Nat → Nat) (cI cZ cC : ClassId) (th : Nat) (M : MS) (j v : Nat) : (mws ad cI cZ cC th M).set 25 (ad 31, .inl (cI, 60, .inl (upd (fun i => nI (M 31 i)) j (nI v)))) = mws ad cI cZ cC th (mu M 31 j v) := by
  have e : upd (fun i => nI (M 31 i)) j (nI v) = fun i => nI (if i = j then v else M 31 i) := by funext i; by_cases h : i = j <;> simp [upd, h]
  rw [e]
  simp [mu]
theorem mset_32 (ad : Nat → Nat) (cI cZ cC : ClassId) (th : Nat) (M : MS) (j v : Nat) : (mws ad cI cZ cC th M).set 26 (ad 32, .inl (cI, 8, .inl (upd (fun i => nI (M 32 i)) j (nI v)))) = mws ad cI cZ cC th (mu M 32 j v) := by
  have e : upd (fun i => nI (M 32 i)) j (nI v) = fun i => nI (if i = j then v else M 32 i) := by funext i; by_cases h : i = j <;> simp [upd, h]
  rw [e]
  simp [mu]
theorem mset_33 (ad : Nat → Nat) (cI cZ cC : ClassId) (th : Nat) (M : MS) (v : Nat) : (mws ad cI cZ cC th M).set 0 (ad 0, .inr (10, (mfs ad th M).set 33 (.int (nI v)))) = mws ad cI cZ cC th (mu M 33 0 v) := by
  simp [mu]
theorem mset_34 (ad : Nat → Nat) (cI cZ cC : ClassId) (th : Nat) (M : MS) (j v : Nat) : (mws ad cI cZ cC th M).set 27 (ad 34, .inl (cC, 20, .inl (upd (fun i => nI (M 34 i)) j (nI v)))) = mws ad cI cZ cC th (mu M 34 j v) := by
  have e : upd (fun i => nI (M 34 i)) j (nI v) = fun i => nI (if i = j then v else M 34 i) := by funext i; by_cases h : i = j <;> simp [upd, h]
  rw [e]
  simp [mu]
theorem mT1 : ∀ k, k < 35 → (TX9 k).1 = RX9 := by decide +kernel
section MR
variable {p : Program} {l : Launch} {e : Env} {R : Room} {s : State} {m : MethodId} {args : Array Value} {below : List Frame} {meth : Method} {c : Code} {H H0 : Heap} {locs : List Loc} {cells slots : Nat} {Q : State → Prop}
variable {cc : ByteArray} {pc : Nat} {ls : Array Slot} {rest : List Value} {D : va_G} {A : Nat → Prop} {ad : Nat → Nat} {cI cZ cC : ClassId} {th : Nat} {M : MS} {Ts : List Cond}
theorem m_get (hx : p.tables.exec = Jvm.exec) (hb : c.code = cc) (hts : ∀ w ∈ Ts, w.before args s = true) (hin : ∀ w ∈ wsX90, w ∈ Ts) (hown : s.vm.findClass RX9 = some m.cls) (hK : va_K D vwCl (mty cI cZ cC) s) (hP : va_P D vwCl (mws ad cI cZ cC th M) H) {index : Nat} (k : Nat) (hk : k < 35) (hlink : (Cond.fieldLink RX9 index RX9 (TX9 k).2.1 (TX9 k).2.2.1).before args s = true) {v : Value} (hv : (mfs ad th M)[k]? = some v) (hdg : decode cc pc = .ok (.getfield index, 3))
    (kk : W p l e R s m args below meth c H locs cells slots Q (F0 m (pc + 3) ls (v :: rest))) : W p l e R s m args below meth c H locs cells slots Q (F0 m pc ls (.ref (ad 0) :: rest)) :=
  va_get hx hb hts hin hown hK hP 0 rfl rfl k hk hlink (fun x h => mT1 k hk ▸ h) hv hdg kk
theorem m_put (hx : p.tables.exec = Jvm.exec) (hb : c.code = cc) (hts : ∀ w ∈ Ts, w.before args s = true) (hin : ∀ w ∈ wsX90, w ∈ Ts) (hown : s.vm.findClass RX9 = some m.cls) (hK : va_K D vwCl (mty cI cZ cC) s) (hP : va_P D vwCl (mws ad cI cZ cC th M) H) (hD : mDis A ad) (hS : va_S A H0 H locs) {index : Nat} (k : Nat) (hk : k < 35) (hlink : (Cond.fieldLink RX9 index RX9 (TX9 k).2.1 (TX9 k).2.2.1).before args s = true) (hfin : (TX9 k).2.2.2 = false) (hd : parseFieldDescriptor (TX9 k).2.2.1 = some .int) {v : Nat} (he : (mws ad cI cZ cC th M).set 0 (ad 0, .inr (10, (mfs ad th M).set k (.int (nI v)))) = mws ad cI cZ cC th (mu M k 0 v)) (hdg : decode cc pc = .ok (.putfield index, 3))
    (kk : ∀ (H1 : Heap) (locs1 : List Loc), va_P D vwCl (mws ad cI cZ cC th (mu M k 0 v)) H1 → va_S A H0 H1 locs1 → W p l e R s m args below meth c H1 locs1 cells slots Q (F0 m (pc + 3) ls rest)) : W p l e R s m args below meth c H locs cells slots Q (F0 m pc ls (.int (nI v) :: .ref (ad 0) :: rest)) :=
  va_put (ty := .int) hx hb hts hin tyX9 tyX9_ok nmX9 hown hK hP (hD.at cI cZ cC th M) hS 0 rfl rfl k hk hlink (fun x h => mT1 k hk ▸ h) hfin hd rfl rfl hk hdg (fun H1 locs1 hP1 _ hS1 => kk H1 locs1 (he ▸ hP1) hS1)
theorem m_putT (hx : p.tables.exec = Jvm.exec) (hb : c.code = cc) (hts : ∀ w ∈ Ts, w.before args s = true) (hin : ∀ w ∈ wsX90, w ∈ Ts) (hown : s.vm.findClass RX9 = some m.cls) (hK : va_K D vwCl (mty cI cZ cC) s) (hP : va_P D vwCl (mws ad cI cZ cC th M) H) (hD : mDis A ad) (hS : va_S A H0 H locs) {index : Nat} (hlink : (Cond.fieldLink RX9 index RX9 (TX9 0).2.1 (TX9 0).2.2.1).before args s = true) {v : Nat} (hdg : decode cc pc = .ok (.putfield index, 3))
    (kk : ∀ (H1 : Heap) (locs1 : List Loc), va_P D vwCl (mws ad cI cZ cC v M) H1 → va_S A H0 H1 locs1 → W p l e R s m args below meth c H1 locs1 cells slots Q (F0 m (pc + 3) ls rest)) : W p l e R s m args below meth c H locs cells slots Q (F0 m pc ls (.int (nI v) :: .ref (ad 0) :: rest)) :=
  va_put (ty := .int) hx hb hts hin tyX9 tyX9_ok nmX9 hown hK hP (hD.at cI cZ cC th M) hS 0 rfl rfl 0 (by decide) hlink (fun x h => mT1 0 (by decide) ▸ h) rfl (by decide +kernel) rfl rfl (Nat.succ_pos _) hdg (fun H1 locs1 hP1 _ hS1 => kk H1 locs1 hP1 hS1)
theorem m_iald (hx : p.tables.exec = Jvm.exec) (hb : c.code = cc) (hK : va_K D vwCl (mty cI cZ cC) s) (hP : va_P D vwCl (mws ad cI cZ cC th M) H) {f n i : Nat} (q : Nat) (hq : (mws ad cI cZ cC th M)[q]? = some (ad f, mrow cI n f M)) (hi : i < n) (hn : n < 2 ^ 31) (hdg : decode cc pc = .ok (.iaload, 1))
    (kk : W p l e R s m args below meth c H locs cells slots Q (F0 m (pc + 1) ls (.int (nI (M f i)) :: rest))) : W p l e R s m args below meth c H locs cells slots Q (F0 m pc ls (.int (nI i) :: .ref (ad f) :: rest)) :=
  va_iald hx hb hK hP q 0 hq rfl (vp_in_nI hi hn) hdg (by rw [nI_clamp (by omega)]; exact kk)
theorem m_zald (hx : p.tables.exec = Jvm.exec) (hb : c.code = cc) (hK : va_K D vwCl (mty cI cZ cC) s) (hP : va_P D vwCl (mws ad cI cZ cC th M) H) {f n i : Nat} (q : Nat) (hq : (mws ad cI cZ cC th M)[q]? = some (ad f, mrow cZ n f M)) (hi : i < n) (hn : n < 2 ^ 31) (hdg : decode cc pc = .ok (.baload, 1))
    (kk : W p l e R s m args below meth c H locs cells slots Q (F0 m (pc + 1) ls (.int (nI (M f i)) :: rest))) : W p l e R s m args below meth c H locs cells slots Q (F0 m pc ls (.int (nI i) :: .ref (ad f) :: rest)) :=
  va_zald hx hb hK hP q 1 hq rfl (vp_in_nI hi hn) hdg (by rw [nI_clamp (by omega)]; exact kk)
theorem m_cald (hx : p.tables.exec = Jvm.exec) (hb : c.code = cc) (hK : va_K D vwCl (mty cI cZ cC) s) (hP : va_P D vwCl (mws ad cI cZ cC th M) H) {f n i : Nat} (q : Nat) (hq : (mws ad cI cZ cC th M)[q]? = some (ad f, mrow cC n f M)) (hi : i < n) (hn : n < 2 ^ 31) (hdg : decode cc pc = .ok (.caload, 1))
    (kk : W p l e R s m args below meth c H locs cells slots Q (F0 m (pc + 1) ls (.int (nI (M f i)) :: rest))) : W p l e R s m args below meth c H locs cells slots Q (F0 m pc ls (.int (nI i) :: .ref (ad f) :: rest)) :=
  va_cald hx hb hK hP q 2 hq rfl (vp_in_nI hi hn) hdg (by rw [nI_clamp (by omega)]; exact kk)
theorem m_iast (hx : p.tables.exec = Jvm.exec) (hb : c.code = cc) (hK : va_K D vwCl (mty cI cZ cC) s) (hP : va_P D vwCl (mws ad cI cZ cC th M) H) (hD : mDis A ad) (hS : va_S A H0 H locs) {f n i v : Nat} (q : Nat) (hq : (mws ad cI cZ cC th M)[q]? = some (ad f, mrow cI n f M)) (hi : i < n) (hn : n < 2 ^ 31) (he : (mws ad cI cZ cC th M).set q (ad f, .inl (cI, n, .inl (upd (fun i => nI (M f i)) i (nI v)))) = mws ad cI cZ cC th (mu M f i v)) (hdg : decode cc pc = .ok (.iastore, 1))
    (kk : ∀ (H1 : Heap) (locs1 : List Loc), va_P D vwCl (mws ad cI cZ cC th (mu M f i v)) H1 → va_S A H0 H1 locs1 → W p l e R s m args below meth c H1 locs1 cells slots Q (F0 m (pc + 1) ls rest)) : W p l e R s m args below meth c H locs cells slots Q (F0 m pc ls (.int (nI v) :: .int (nI i) :: .ref (ad f) :: rest)) :=
  va_iast hx hb hK hP (hD.at cI cZ cC th M) hS q 0 hq rfl (vp_in_nI hi hn) hdg (fun H1 locs1 hP1 _ hS1 => kk H1 locs1 (by rw [nI_clamp (by omega), he] at hP1; exact hP1) hS1)
theorem m_zast (hx : p.tables.exec = Jvm.exec) (hb : c.code = cc) (hK : va_K D vwCl (mty cI cZ cC) s) (hP : va_P D vwCl (mws ad cI cZ cC th M) H) (hD : mDis A ad) (hS : va_S A H0 H locs) {f n i v : Nat} (q : Nat) (hq : (mws ad cI cZ cC th M)[q]? = some (ad f, mrow cZ n f M)) (hi : i < n) (hn : n < 2 ^ 31) (hv : vp_nar .boolean (nI v) = nI v) (he : (mws ad cI cZ cC th M).set q (ad f, .inl (cZ, n, .inl (upd (fun i => nI (M f i)) i (nI v)))) = mws ad cI cZ cC th (mu M f i v)) (hdg : decode cc pc = .ok (.bastore, 1))
    (kk : ∀ (H1 : Heap) (locs1 : List Loc), va_P D vwCl (mws ad cI cZ cC th (mu M f i v)) H1 → va_S A H0 H1 locs1 → W p l e R s m args below meth c H1 locs1 cells slots Q (F0 m (pc + 1) ls rest)) : W p l e R s m args below meth c H locs cells slots Q (F0 m pc ls (.int (nI v) :: .int (nI i) :: .ref (ad f) :: rest)) :=
  va_zast hx hb hK hP (hD.at cI cZ cC th M) hS q 1 hq rfl (vp_in_nI hi hn) hdg (fun H1 locs1 hP1 _ hS1 => kk H1 locs1 (by rw [nI_clamp (by omega), hv, he] at hP1; exact hP1) hS1)
theorem m_cast (hx : p.tables.exec = Jvm.exec) (hb : c.code = cc) (hK : va_K D vwCl (mty cI cZ cC) s) (hP : va_P D vwCl (mws ad cI cZ cC th M) H) (hD : mDis A ad) (hS : va_S A H0 H locs) {f n i v : Nat} (q : Nat) (hq : (mws ad cI cZ cC th M)[q]? = some (ad f, mrow cC n f M)) (hi : i < n) (hn : n < 2 ^ 31) (hv : vp_nar .char (nI v) = nI v) (he : (mws ad cI cZ cC th M).set q (ad f, .inl (cC, n, .inl (upd (fun i => nI (M f i)) i (nI v)))) = mws ad cI cZ cC th (mu M f i v)) (hdg : decode cc pc = .ok (.castore, 1))
    (kk : ∀ (H1 : Heap) (locs1 : List Loc), va_P D vwCl (mws ad cI cZ cC th (mu M f i v)) H1 → va_S A H0 H1 locs1 → W p l e R s m args below meth c H1 locs1 cells slots Q (F0 m (pc + 1) ls rest)) : W p l e R s m args below meth c H locs cells slots Q (F0 m pc ls (.int (nI v) :: .int (nI i) :: .ref (ad f) :: rest)) :=
  va_cast hx hb hK hP (hD.at cI cZ cC th M) hS q 2 hq rfl (vp_in_nI hi hn) hdg (fun H1 locs1 hP1 _ hS1 => kk H1 locs1 (by rw [nI_clamp (by omega), hv, he] at hP1; exact hP1) hS1)
end MR
theorem m_recv {D : va_G} {ad : Nat → Nat} {cI cZ cC : ClassId} {th : Nat} {M : MS} {s : State} {H : Heap} (hK : va_K D vwCl (mty cI cZ cC) s) (hP : va_P D vwCl (mws ad cI cZ cC th M) H) : ∃ cell : Cell, H[ad 0]? = some cell ∧ cell.vm.isStatics = false ∧ s.vm.findClass RX9 = some cell.cls := va_recv hK hP (ci := 10) (q0 := 0) rfl rfl
theorem m_pre {D : va_G} {ad : Nat → Nat} {cI cZ cC : ClassId} {th : Nat} {M : MS} {s : State} {H : Heap} (hK : va_K D vwCl (mty cI cZ cC) s) (hP : va_P D vwCl (mws ad cI cZ cC th M) H) (av : List Value) : ∀ U : State, U.heap = H → s.WarmedH U.vm → va_Pc av (mB D ad cI cZ cC th M) av.toArray U := fun U hU hW => ⟨rfl, by rw [hU]; exact hP, va_K.moved hW.alike hK⟩
theorem kd_X9_init : yX9_init.cls ≠ "java/lang/invoke/MethodHandle" ∧ yX9_init.cls ≠ "java/lang/invoke/VarHandle" ∧ (parseMethodDescriptor yX9_init.desc).map (fun d => d.parameters.length) = some 0 := by decide +kernel
theorem kd_X9_thrown : yX9_thrown.cls = RX9 ∧ yX9_thrown.cls ≠ "java/lang/invoke/MethodHandle" ∧ yX9_thrown.cls ≠ "java/lang/invoke/VarHandle" ∧ (parseMethodDescriptor yX9_thrown.desc).map (fun d => d.parameters.length) = some 0 := by decide +kernel
theorem kd_X9_in : yX9_in.cls ≠ "java/lang/invoke/MethodHandle" ∧ yX9_in.cls ≠ "java/lang/invoke/VarHandle" ∧ (parseMethodDescriptor yX9_in.desc).map (fun d => d.parameters.length) = some 3 := by decide +kernel
theorem kd_X9_isBidder : yX9_isBidder.cls ≠ "java/lang/invoke/MethodHandle" ∧ yX9_isBidder.cls ≠ "java/lang/invoke/VarHandle" ∧ (parseMethodDescriptor yX9_isBidder.desc).map (fun d => d.parameters.length) = some 1 := by decide +kernel
theorem kd_X9_isTender : yX9_isTender.cls = RX9 ∧ yX9_isTender.cls ≠ "java/lang/invoke/MethodHandle" ∧ yX9_isTender.cls ≠ "java/lang/invoke/VarHandle" ∧ (parseMethodDescriptor yX9_isTender.desc).map (fun d => d.parameters.length) = some 1 := by decide +kernel
theorem kd_X9_isLot : yX9_isLot.cls = RX9 ∧ yX9_isLot.cls ≠ "java/lang/invoke/MethodHandle" ∧ yX9_isLot.cls ≠ "java/lang/invoke/VarHandle" ∧ (parseMethodDescriptor yX9_isLot.desc).map (fun d => d.parameters.length) = some 2 := by decide +kernel
theorem kd_X9_isOpened : yX9_isOpened.cls = RX9 ∧ yX9_isOpened.cls ≠ "java/lang/invoke/MethodHandle" ∧ yX9_isOpened.cls ≠ "java/lang/invoke/VarHandle" ∧ (parseMethodDescriptor yX9_isOpened.desc).map (fun d => d.parameters.length) = some 1 := by decide +kernel
theorem kd_X9_addTender : yX9_addTender.cls = RX9 ∧ yX9_addTender.cls ≠ "java/lang/invoke/MethodHandle" ∧ yX9_addTender.cls ≠ "java/lang/invoke/VarHandle" ∧ (parseMethodDescriptor yX9_addTender.desc).map (fun d => d.parameters.length) = some 4 := by decide +kernel
theorem kd_X9_addLot : yX9_addLot.cls = RX9 ∧ yX9_addLot.cls ≠ "java/lang/invoke/MethodHandle" ∧ yX9_addLot.cls ≠ "java/lang/invoke/VarHandle" ∧ (parseMethodDescriptor yX9_addLot.desc).map (fun d => d.parameters.length) = some 2 := by decide +kernel
theorem kd_X9_paper : yX9_paper.cls = RX9 ∧ yX9_paper.cls ≠ "java/lang/invoke/MethodHandle" ∧ yX9_paper.cls ≠ "java/lang/invoke/VarHandle" ∧ (parseMethodDescriptor yX9_paper.desc).map (fun d => d.parameters.length) = some 3 := by decide +kernel
theorem kd_X9_bidsFor : yX9_bidsFor.cls = RX9 ∧ yX9_bidsFor.cls ≠ "java/lang/invoke/MethodHandle" ∧ yX9_bidsFor.cls ≠ "java/lang/invoke/VarHandle" ∧ (parseMethodDescriptor yX9_bidsFor.desc).map (fun d => d.parameters.length) = some 1 := by decide +kernel
theorem kd_X9_bid : yX9_bid.cls = RX9 ∧ yX9_bid.cls ≠ "java/lang/invoke/MethodHandle" ∧ yX9_bid.cls ≠ "java/lang/invoke/VarHandle" ∧ (parseMethodDescriptor yX9_bid.desc).map (fun d => d.parameters.length) = some 5 := by decide +kernel
theorem kd_X9_withdraw : yX9_withdraw.cls = RX9 ∧ yX9_withdraw.cls ≠ "java/lang/invoke/MethodHandle" ∧ yX9_withdraw.cls ≠ "java/lang/invoke/VarHandle" ∧ (parseMethodDescriptor yX9_withdraw.desc).map (fun d => d.parameters.length) = some 3 := by decide +kernel
theorem kd_X9_hasPapers : yX9_hasPapers.cls = RX9 ∧ yX9_hasPapers.cls ≠ "java/lang/invoke/MethodHandle" ∧ yX9_hasPapers.cls ≠ "java/lang/invoke/VarHandle" ∧ (parseMethodDescriptor yX9_hasPapers.desc).map (fun d => d.parameters.length) = some 2 := by decide +kernel
theorem kd_X9_opens : yX9_opens.cls = RX9 ∧ yX9_opens.cls ≠ "java/lang/invoke/MethodHandle" ∧ yX9_opens.cls ≠ "java/lang/invoke/VarHandle" ∧ (parseMethodDescriptor yX9_opens.desc).map (fun d => d.parameters.length) = some 1 := by decide +kernel
theorem kd_X9_takesPart : yX9_takesPart.cls = RX9 ∧ yX9_takesPart.cls ≠ "java/lang/invoke/MethodHandle" ∧ yX9_takesPart.cls ≠ "java/lang/invoke/VarHandle" ∧ (parseMethodDescriptor yX9_takesPart.desc).map (fun d => d.parameters.length) = some 1 := by decide +kernel
theorem kd_X9_scoreOf : yX9_scoreOf.cls = RX9 ∧ yX9_scoreOf.cls ≠ "java/lang/invoke/MethodHandle" ∧ yX9_scoreOf.cls ≠ "java/lang/invoke/VarHandle" ∧ (parseMethodDescriptor yX9_scoreOf.desc).map (fun d => d.parameters.length) = some 1 := by decide +kernel
theorem kd_X9_isBetter : yX9_isBetter.cls = RX9 ∧ yX9_isBetter.cls ≠ "java/lang/invoke/MethodHandle" ∧ yX9_isBetter.cls ≠ "java/lang/invoke/VarHandle" ∧ (parseMethodDescriptor yX9_isBetter.desc).map (fun d => d.parameters.length) = some 2 := by decide +kernel
theorem kd_X9_rankedAt : yX9_rankedAt.cls = RX9 ∧ yX9_rankedAt.cls ≠ "java/lang/invoke/MethodHandle" ∧ yX9_rankedAt.cls ≠ "java/lang/invoke/VarHandle" ∧ (parseMethodDescriptor yX9_rankedAt.desc).map (fun d => d.parameters.length) = some 2 := by decide +kernel
theorem kd_X9_today : yX9_today.cls = RX9 ∧ yX9_today.cls ≠ "java/lang/invoke/MethodHandle" ∧ yX9_today.cls ≠ "java/lang/invoke/VarHandle" ∧ (parseMethodDescriptor yX9_today.desc).map (fun d => d.parameters.length) = some 0 := by decide +kernel
theorem kd_X9_asksBid : yX9_asksBid.cls = RX9 ∧ yX9_asksBid.cls ≠ "java/lang/invoke/MethodHandle" ∧ yX9_asksBid.cls ≠ "java/lang/invoke/VarHandle" ∧ (parseMethodDescriptor yX9_asksBid.desc).map (fun d => d.parameters.length) = some 3 := by decide +kernel
theorem kd_X9_isIn : yX9_isIn.cls = RX9 ∧ yX9_isIn.cls ≠ "java/lang/invoke/MethodHandle" ∧ yX9_isIn.cls ≠ "java/lang/invoke/VarHandle" ∧ (parseMethodDescriptor yX9_isIn.desc).map (fun d => d.parameters.length) = some 3 := by decide +kernel
theorem kd_X9_score : yX9_score.cls = RX9 ∧ yX9_score.cls ≠ "java/lang/invoke/MethodHandle" ∧ yX9_score.cls ≠ "java/lang/invoke/VarHandle" ∧ (parseMethodDescriptor yX9_score.desc).map (fun d => d.parameters.length) = some 3 := by decide +kernel
theorem kd_X9_ranked : yX9_ranked.cls = RX9 ∧ yX9_ranked.cls ≠ "java/lang/invoke/MethodHandle" ∧ yX9_ranked.cls ≠ "java/lang/invoke/VarHandle" ∧ (parseMethodDescriptor yX9_ranked.desc).map (fun d => d.parameters.length) = some 3 := by decide +kernel
theorem kd_X9_openOnes : yX9_openOnes.cls = RX9 ∧ yX9_openOnes.cls ≠ "java/lang/invoke/MethodHandle" ∧ yX9_openOnes.cls ≠ "java/lang/invoke/VarHandle" ∧ (parseMethodDescriptor yX9_openOnes.desc).map (fun d => d.parameters.length) = some 1 := by decide +kernel
theorem kd_X9_standsUntil : yX9_standsUntil.cls = RX9 ∧ yX9_standsUntil.cls ≠ "java/lang/invoke/MethodHandle" ∧ yX9_standsUntil.cls ≠ "java/lang/invoke/VarHandle" ∧ (parseMethodDescriptor yX9_standsUntil.desc).map (fun d => d.parameters.length) = some 1 := by decide +kernel
theorem kd_X9_isFinalNow : yX9_isFinalNow.cls = RX9 ∧ yX9_isFinalNow.cls ≠ "java/lang/invoke/MethodHandle" ∧ yX9_isFinalNow.cls ≠ "java/lang/invoke/VarHandle" ∧ (parseMethodDescriptor yX9_isFinalNow.desc).map (fun d => d.parameters.length) = some 1 := by decide +kernel
theorem kd_X9_awardFor : yX9_awardFor.cls = RX9 ∧ yX9_awardFor.cls ≠ "java/lang/invoke/MethodHandle" ∧ yX9_awardFor.cls ≠ "java/lang/invoke/VarHandle" ∧ (parseMethodDescriptor yX9_awardFor.desc).map (fun d => d.parameters.length) = some 1 := by decide +kernel
theorem kd_X9_gives : yX9_gives.cls = RX9 ∧ yX9_gives.cls ≠ "java/lang/invoke/MethodHandle" ∧ yX9_gives.cls ≠ "java/lang/invoke/VarHandle" ∧ (parseMethodDescriptor yX9_gives.desc).map (fun d => d.parameters.length) = some 1 := by decide +kernel
theorem kd_X9_lapses : yX9_lapses.cls = RX9 ∧ yX9_lapses.cls ≠ "java/lang/invoke/MethodHandle" ∧ yX9_lapses.cls ≠ "java/lang/invoke/VarHandle" ∧ (parseMethodDescriptor yX9_lapses.desc).map (fun d => d.parameters.length) = some 0 := by decide +kernel
theorem kd_X9_pass : yX9_pass.cls = RX9 ∧ yX9_pass.cls ≠ "java/lang/invoke/MethodHandle" ∧ yX9_pass.cls ≠ "java/lang/invoke/VarHandle" ∧ (parseMethodDescriptor yX9_pass.desc).map (fun d => d.parameters.length) = some 1 := by decide +kernel
theorem kd_X9_award : yX9_award.cls = RX9 ∧ yX9_award.cls ≠ "java/lang/invoke/MethodHandle" ∧ yX9_award.cls ≠ "java/lang/invoke/VarHandle" ∧ (parseMethodDescriptor yX9_award.desc).map (fun d => d.parameters.length) = some 2 := by decide +kernel
theorem kd_X9_awardOf : yX9_awardOf.cls = RX9 ∧ yX9_awardOf.cls ≠ "java/lang/invoke/MethodHandle" ∧ yX9_awardOf.cls ≠ "java/lang/invoke/VarHandle" ∧ (parseMethodDescriptor yX9_awardOf.desc).map (fun d => d.parameters.length) = some 2 := by decide +kernel
theorem kd_X9_asksAward : yX9_asksAward.cls = RX9 ∧ yX9_asksAward.cls ≠ "java/lang/invoke/MethodHandle" ∧ yX9_asksAward.cls ≠ "java/lang/invoke/VarHandle" ∧ (parseMethodDescriptor yX9_asksAward.desc).map (fun d => d.parameters.length) = some 1 := by decide +kernel
theorem kd_X9_winner : yX9_winner.cls = RX9 ∧ yX9_winner.cls ≠ "java/lang/invoke/MethodHandle" ∧ yX9_winner.cls ≠ "java/lang/invoke/VarHandle" ∧ (parseMethodDescriptor yX9_winner.desc).map (fun d => d.parameters.length) = some 1 := by decide +kernel
theorem kd_X9_isVoid : yX9_isVoid.cls = RX9 ∧ yX9_isVoid.cls ≠ "java/lang/invoke/MethodHandle" ∧ yX9_isVoid.cls ≠ "java/lang/invoke/VarHandle" ∧ (parseMethodDescriptor yX9_isVoid.desc).map (fun d => d.parameters.length) = some 1 := by decide +kernel
theorem kd_X9_isFinal : yX9_isFinal.cls = RX9 ∧ yX9_isFinal.cls ≠ "java/lang/invoke/MethodHandle" ∧ yX9_isFinal.cls ≠ "java/lang/invoke/VarHandle" ∧ (parseMethodDescriptor yX9_isFinal.desc).map (fun d => d.parameters.length) = some 1 := by decide +kernel
theorem kd_X9_winnerAnew : yX9_winnerAnew.cls = RX9 ∧ yX9_winnerAnew.cls ≠ "java/lang/invoke/MethodHandle" ∧ yX9_winnerAnew.cls ≠ "java/lang/invoke/VarHandle" ∧ (parseMethodDescriptor yX9_winnerAnew.desc).map (fun d => d.parameters.length) = some 2 := by decide +kernel
theorem kd_X9_writes : yX9_writes.cls = RX9 ∧ yX9_writes.cls ≠ "java/lang/invoke/MethodHandle" ∧ yX9_writes.cls ≠ "java/lang/invoke/VarHandle" ∧ (parseMethodDescriptor yX9_writes.desc).map (fun d => d.parameters.length) = some 1 := by decide +kernel
theorem kd_X9_writesLine : yX9_writesLine.cls = RX9 ∧ yX9_writesLine.cls ≠ "java/lang/invoke/MethodHandle" ∧ yX9_writesLine.cls ≠ "java/lang/invoke/VarHandle" ∧ (parseMethodDescriptor yX9_writesLine.desc).map (fun d => d.parameters.length) = some 1 := by decide +kernel
theorem kd_X9_line : yX9_line.cls = RX9 ∧ yX9_line.cls ≠ "java/lang/invoke/MethodHandle" ∧ yX9_line.cls ≠ "java/lang/invoke/VarHandle" ∧ (parseMethodDescriptor yX9_line.desc).map (fun d => d.parameters.length) = some 1 := by decide +kernel
theorem kd_X9_lineChar : yX9_lineChar.cls = RX9 ∧ yX9_lineChar.cls ≠ "java/lang/invoke/MethodHandle" ∧ yX9_lineChar.cls ≠ "java/lang/invoke/VarHandle" ∧ (parseMethodDescriptor yX9_lineChar.desc).map (fun d => d.parameters.length) = some 2 := by decide +kernel
theorem kd_X9_mayComplain : yX9_mayComplain.cls = RX9 ∧ yX9_mayComplain.cls ≠ "java/lang/invoke/MethodHandle" ∧ yX9_mayComplain.cls ≠ "java/lang/invoke/VarHandle" ∧ (parseMethodDescriptor yX9_mayComplain.desc).map (fun d => d.parameters.length) = some 3 := by decide +kernel
theorem kd_X9_complain : yX9_complain.cls = RX9 ∧ yX9_complain.cls ≠ "java/lang/invoke/MethodHandle" ∧ yX9_complain.cls ≠ "java/lang/invoke/VarHandle" ∧ (parseMethodDescriptor yX9_complain.desc).map (fun d => d.parameters.length) = some 3 := by decide +kernel
theorem kd_X9_upholds : yX9_upholds.cls = RX9 ∧ yX9_upholds.cls ≠ "java/lang/invoke/MethodHandle" ∧ yX9_upholds.cls ≠ "java/lang/invoke/VarHandle" ∧ (parseMethodDescriptor yX9_upholds.desc).map (fun d => d.parameters.length) = some 2 := by decide +kernel
theorem kd_X9_isComplaint : yX9_isComplaint.cls = RX9 ∧ yX9_isComplaint.cls ≠ "java/lang/invoke/MethodHandle" ∧ yX9_isComplaint.cls ≠ "java/lang/invoke/VarHandle" ∧ (parseMethodDescriptor yX9_isComplaint.desc).map (fun d => d.parameters.length) = some 1 := by decide +kernel
theorem kd_X9_rule : yX9_rule.cls = RX9 ∧ yX9_rule.cls ≠ "java/lang/invoke/MethodHandle" ∧ yX9_rule.cls ≠ "java/lang/invoke/VarHandle" ∧ (parseMethodDescriptor yX9_rule.desc).map (fun d => d.parameters.length) = some 3 := by decide +kernel
theorem kd_X9_appeal : yX9_appeal.cls = RX9 ∧ yX9_appeal.cls ≠ "java/lang/invoke/MethodHandle" ∧ yX9_appeal.cls ≠ "java/lang/invoke/VarHandle" ∧ (parseMethodDescriptor yX9_appeal.desc).map (fun d => d.parameters.length) = some 1 := by decide +kernel
theorem kd_X9_stateOf : yX9_stateOf.cls = RX9 ∧ yX9_stateOf.cls ≠ "java/lang/invoke/MethodHandle" ∧ yX9_stateOf.cls ≠ "java/lang/invoke/VarHandle" ∧ (parseMethodDescriptor yX9_stateOf.desc).map (fun d => d.parameters.length) = some 1 := by decide +kernel
theorem kd_X9_sign : yX9_sign.cls = RX9 ∧ yX9_sign.cls ≠ "java/lang/invoke/MethodHandle" ∧ yX9_sign.cls ≠ "java/lang/invoke/VarHandle" ∧ (parseMethodDescriptor yX9_sign.desc).map (fun d => d.parameters.length) = some 1 := by decide +kernel
theorem kd_X9_isContract : yX9_isContract.cls = RX9 ∧ yX9_isContract.cls ≠ "java/lang/invoke/MethodHandle" ∧ yX9_isContract.cls ≠ "java/lang/invoke/VarHandle" ∧ (parseMethodDescriptor yX9_isContract.desc).map (fun d => d.parameters.length) = some 1 := by decide +kernel
theorem kd_X9_runs : yX9_runs.cls = RX9 ∧ yX9_runs.cls ≠ "java/lang/invoke/MethodHandle" ∧ yX9_runs.cls ≠ "java/lang/invoke/VarHandle" ∧ (parseMethodDescriptor yX9_runs.desc).map (fun d => d.parameters.length) = some 1 := by decide +kernel
theorem kd_X9_priceOf : yX9_priceOf.cls = RX9 ∧ yX9_priceOf.cls ≠ "java/lang/invoke/MethodHandle" ∧ yX9_priceOf.cls ≠ "java/lang/invoke/VarHandle" ∧ (parseMethodDescriptor yX9_priceOf.desc).map (fun d => d.parameters.length) = some 1 := by decide +kernel
theorem kd_X9_call : yX9_call.cls = RX9 ∧ yX9_call.cls ≠ "java/lang/invoke/MethodHandle" ∧ yX9_call.cls ≠ "java/lang/invoke/VarHandle" ∧ (parseMethodDescriptor yX9_call.desc).map (fun d => d.parameters.length) = some 2 := by decide +kernel
theorem kd_X9_running : yX9_running.cls = RX9 ∧ yX9_running.cls ≠ "java/lang/invoke/MethodHandle" ∧ yX9_running.cls ≠ "java/lang/invoke/VarHandle" ∧ (parseMethodDescriptor yX9_running.desc).map (fun d => d.parameters.length) = some 1 := by decide +kernel
theorem kd_X9_owes : yX9_owes.cls = RX9 ∧ yX9_owes.cls ≠ "java/lang/invoke/MethodHandle" ∧ yX9_owes.cls ≠ "java/lang/invoke/VarHandle" ∧ (parseMethodDescriptor yX9_owes.desc).map (fun d => d.parameters.length) = some 1 := by decide +kernel
theorem kd_X9_hasContract : yX9_hasContract.cls = RX9 ∧ yX9_hasContract.cls ≠ "java/lang/invoke/MethodHandle" ∧ yX9_hasContract.cls ≠ "java/lang/invoke/VarHandle" ∧ (parseMethodDescriptor yX9_hasContract.desc).map (fun d => d.parameters.length) = some 1 := by decide +kernel
theorem kd_X9_held : yX9_held.cls = RX9 ∧ yX9_held.cls ≠ "java/lang/invoke/MethodHandle" ∧ yX9_held.cls ≠ "java/lang/invoke/VarHandle" ∧ (parseMethodDescriptor yX9_held.desc).map (fun d => d.parameters.length) = some 1 := by decide +kernel
theorem kd_X9_lost : yX9_lost.cls = RX9 ∧ yX9_lost.cls ≠ "java/lang/invoke/MethodHandle" ∧ yX9_lost.cls ≠ "java/lang/invoke/VarHandle" ∧ (parseMethodDescriptor yX9_lost.desc).map (fun d => d.parameters.length) = some 1 := by decide +kernel
