/-! the class's objects by kinds: fields F f a, lists L a, kinds kd a (an object's place in vwCl, 11 the papers, 20 + k a list of kind k) -/
def ent (st : Nat → Nat) (cI : ClassId) (k : Nat) (F : Nat → Nat → Nat) (a : Nat) : va_E := match k with
  | 2 => .inr (2, [.int (nI (F 0 a)), .ref (F 1 a), .ref (F 2 a), .int (nI (F 3 a)), .int (nI (F 4 a)), .int (nI (F 5 a)), .int (nI (F 6 a))])
  | 3 => .inr (3, [.int (nI (F 0 a)), .int (nI (F 1 a)), .int (nI (F 2 a)), .int (nI (F 3 a)), .ref (st (F 4 a)), .ref (st (F 5 a))])
  | 4 => .inr (4, [.int (nI (F 0 a)), .int (nI (F 1 a)), .int (nI (F 2 a))])
  | 5 => .inr (5, [.int (nI (F 0 a)), .ref (F 1 a), .int (nI (F 2 a)), .int (nI (F 3 a)), .int (nI (F 4 a)), .int (nI (F 5 a))])
  | 6 => .inr (6, [.ref (F 0 a), .int (nI (F 1 a))])
  | 7 => .inr (7, [.ref (F 0 a), .int (nI (F 1 a)), .int (nI (F 2 a)), .ref (F 3 a), .ref (F 4 a)])
  | 8 => .inr (8, [.int (nI (F 0 a)), .int (nI (F 1 a)), .int (nI (F 2 a)), .int (nI (F 3 a)), .int (nI (F 4 a)), .ref (F 5 a)])
  | 9 => .inr (9, [.ref (F 0 a), .ref (F 1 a), .ref (F 2 a), .ref (F 3 a), .ref (F 4 a), .int (nI (F 5 a))])
  | _ => .inl (cI, 48, .inl (fun i => nI (F i a) - 1))
theorem ent_plain (st : Nat → Nat) (cI : ClassId) (k : Nat) (F : Nat → Nat → Nat) (a : Nat) : plainE (ent st cI k F a) := by
  unfold ent
  split <;> first | exact trivial | (show _ ≠ 1; decide)
theorem ent_congr {st : Nat → Nat} {cI : ClassId} {k : Nat} {F G : Nat → Nat → Nat} {a : Nat} (h : ∀ f, F f a = G f a) : ent st cI k F a = ent st cI k G a := by
  unfold ent
  split <;> simp only [h]
/-- the bounds of the numbers; 0 = none -/
def rg (k f : Nat) : Nat := match k, f with
  | 2, 0 => 64 | 2, 3 => 3000 | 2, 4 => 2 | 2, 5 => 2 | 2, 6 => 2
  | 3, 0 => 8 | 3, 1 => 100001 | 3, 2 => 101 | 3, 3 => 101 | 3, 4 => 4 | 3, 5 => 4
  | 4, 0 => 3 | 4, 1 => 8 | 4, 2 => 101
  | 5, 0 => 8 | 5, 2 => 3 | 5, 3 => 4 | 5, 4 => 2001 | 5, 5 => 2
  | 6, 1 => 100001
  | 7, 1 => 3 | 7, 2 => 10001
  | 8, 0 => 6 | 8, 1 => 1001 | 8, 2 => 64 | 8, 3 => 101 | 8, 4 => 31
  | 9, 5 => 2001
  | 11, _ => 2002
  | _, _ => 0
/-- the kinds of the references; 0 = none -/
def rk (k f : Nat) : Nat := match k, f with
  | 2, 1 => 7 | 2, 2 => 3
  | 5, 1 => 2
  | 6, 0 => 2
  | 7, 0 => 8 | 7, 3 => 23 | 7, 4 => 24
  | 8, 5 => 27
  | 9, 0 => 11 | 9, 1 => 28 | 9, 2 => 22 | 9, 3 => 25 | 9, 4 => 26
  | _, _ => 0
def WF (kd : Nat → Nat) (F : Nat → Nat → Nat) (L : Nat → List Nat) : Prop :=
  (∀ a f, rg (kd a) f = 0 ∨ F f a < rg (kd a) f) ∧ (∀ a f, rk (kd a) f = 0 ∨ kd (F f a) = rk (kd a) f) ∧ ∀ a, 20 ≤ kd a → kd a ≤ 28 ∧ 22 ≤ kd a ∧ (L a).length ≤ 60 ∧ ∀ x ∈ L a, kd x + 20 = kd a
def CW (cI cO : ClassId) (eA : Nat) (st own kd : Nat → Nat) (F : Nat → Nat → Nat) (L : Nat → List Nat) (ws : va_W) : Prop :=
  (∀ a, kd a ≠ 0 → kd a < 20 → (a, ent st cI (kd a) F a) ∈ ws) ∧ ∀ a, 20 ≤ kd a → Lst cO eA own ws a (L a)
def gt (vs : List Nat) (i : Nat) : Nat := vs.getD i 0
theorem gt_some {vs : List Nat} {i : Nat} (h : i < vs.length) : vs[i]? = some (gt vs i) := by
  unfold gt
  rw [List.getD_eq_getElem?_getD, List.getElem?_eq_getElem h]; rfl
theorem gt_mem {vs : List Nat} {i : Nat} (h : i < vs.length) : gt vs i ∈ vs := List.mem_of_getElem? (gt_some h)
section WFS
variable {cI cO : ClassId} {eA : Nat} {st own kd : Nat → Nat} {F : Nat → Nat → Nat} {L : Nat → List Nat} {ws : va_W}
theorem WF.num (h : WF kd F L) {a k f r : Nat} (hk : kd a = k) (hr : rg k f = r) (h0 : r ≠ 0) : F f a < r := by
  subst hk; subst hr
  rcases h.1 a f with h1 | h1
  · exact absurd h1 h0
  · exact h1
theorem WF.ref (h : WF kd F L) {a k f r : Nat} (hk : kd a = k) (hr : rk k f = r) (h0 : r ≠ 0) : kd (F f a) = r := by
  subst hk; subst hr
  rcases h.2.1 a f with h1 | h1
  · exact absurd h1 h0
  · exact h1
theorem WF.len (h : WF kd F L) {a k : Nat} (hk : kd a = k) (h0 : 20 ≤ k) : (L a).length ≤ 60 := (h.2.2 a (by omega)).2.2.1
theorem WF.el (h : WF kd F L) {a k i : Nat} (hk : kd a = k + 20) (hi : i < (L a).length) : kd (gt (L a) i) = k := by
  have := (h.2.2 a (by omega)).2.2.2 _ (gt_mem hi)
  omega
theorem CW.at (h : CW cI cO eA st own kd F L ws) {a k : Nat} (hk : kd a = k) (h0 : k ≠ 0) (h2 : k < 20) : (a, ent st cI k F a) ∈ ws := by
  subst hk
  exact h.1 a h0 h2
theorem CW.lst (h : CW cI cO eA st own kd F L ws) {a k : Nat} (hk : kd a = k) (h2 : 20 ≤ k) : Lst cO eA own ws a (L a) := h.2 a (by omega)
theorem CW.obj (h : CW cI cO eA st own kd F L ws) {a k : Nat} (hk : kd a = k) (h2 : 20 ≤ k) : ∃ fs, (a, .inr (1, fs)) ∈ ws := by
  obtain ⟨mc, r, h1, -⟩ := h.lst hk h2
  exact ⟨_, h1⟩
theorem CW.elt (h : CW cI cO eA st own kd F L ws) {a : Nat} (h2 : 2 ≤ kd a) (h8 : kd a ≤ 8) : Elt ws a := by
  have hh := h.1 a (by omega) (by omega)
  have h9 : kd a = 2 ∨ kd a = 3 ∨ kd a = 4 ∨ kd a = 5 ∨ kd a = 6 ∨ kd a = 7 ∨ kd a = 8 := by omega
  rcases h9 with e | e | e | e | e | e | e <;> rw [e] at hh <;> exact ⟨_, _, by decide, by decide, hh⟩
theorem CW.els (h : CW cI cO eA st own kd F L ws) (hW : WF kd F L) {a k : Nat} (hk : kd a = k) (h2 : 20 ≤ k) : ∀ y ∈ L a, Elt ws y := by
  intro y hy
  have h1 := hW.2.2 a (by omega)
  have h3 := h1.2.2.2 y hy
  exact h.elt (by omega) (by omega)
end WFS
/-- the first place below n that has P -/
def fr (P : Nat → Prop) [DecidablePred P] (n : Nat) : Option Nat := (List.range n).find? (fun j => decide (P j))
def nall (P : Nat → Prop) (n : Nat) : Prop := ∀ j, j < n → ¬ P j
theorem nall.zero {P : Nat → Prop} : nall P 0 := fun j h => absurd h (Nat.not_lt_zero j)
theorem nall.succ {P : Nat → Prop} {n : Nat} (h : nall P n) (h2 : ¬ P n) : nall P (n + 1) := by
  intro j hj
  by_cases h3 : j = n
  · subst h3; exact h2
  · exact h j (by omega)
theorem fr_none {P : Nat → Prop} [DecidablePred P] {n : Nat} (h : nall P n) : fr P n = none := by
  unfold fr
  rw [List.find?_eq_none]
  intro x hx
  rw [List.mem_range] at hx
  simpa using h x hx
theorem fr_some {P : Nat → Prop} [DecidablePred P] {n i : Nat} (h : nall P i) (hi : i < n) (hp : P i) : fr P n = some i := by
  unfold fr
  rw [List.find?_range_eq_some]
  exact ⟨by simpa using hp, List.mem_range.mpr hi, fun j hj => by simpa using h j hj⟩
/-- how many places below n have P -/
def cn (P : Nat → Prop) [DecidablePred P] : Nat → Nat
  | 0 => 0
  | i + 1 => cn P i + if P i then 1 else 0
theorem cn_le (P : Nat → Prop) [DecidablePred P] (n : Nat) : cn P n ≤ n := by
  induction n with
  | zero => exact Nat.le_refl _
  | succ n ih => unfold cn; split <;> omega
def sm (g : Nat → Nat) : Nat → Nat
  | 0 => 0
  | i + 1 => sm g i + g i
theorem sm_le {g : Nat → Nat} {b : Nat} (n : Nat) (h : ∀ i, i < n → g i ≤ b) : sm g n ≤ b * n := by
  induction n with
  | zero => exact Nat.le_refl _
  | succ n ih =>
    have h1 := ih (fun i hi => h i (by omega))
    have h2 := h n (by omega)
    unfold sm
    rw [Nat.mul_succ]
    omega
section LP
variable {p : Program} {l : Launch} {e0 : Env} {R : Room} {s : State} {m : MethodId} {args : Array Value} {below : List Frame} {meth : Method} {c : Code} {H : Heap} {locs : List Loc} {cells slots : Nat} {Q : State → Prop}
theorem w_loopX {σ : Type} {nL n head : Nat} {sk : List Value} (I : Nat → σ → List (Nat × Value)) (J : Nat → σ → Heap → List Loc → Prop) (cf sf : Nat → Nat) (step : ∀ i, i ≤ n → ∀ (x : σ) (H : Heap) (locs : List Loc), J i x H locs → (i < n → ∀ (x : σ) (H : Heap) (locs : List Loc), J (i + 1) x H locs → ∀ ls, lv_has ls nL (I (i + 1) x) → W p l e0 R s m args below meth c H locs (cf (i + 1)) (sf (i + 1)) Q (F0 m head ls sk)) → ∀ ls, lv_has ls nL (I i x) → W p l e0 R s m args below meth c H locs (cf i) (sf i) Q (F0 m head ls sk)) : ∀ i, i ≤ n → ∀ (x : σ) (H : Heap) (locs : List Loc), J i x H locs → ∀ ls, lv_has ls nL (I i x) → W p l e0 R s m args below meth c H locs (cf i) (sf i) Q (F0 m head ls sk) := by
  have key : ∀ k i, i ≤ n → n < i + k → ∀ (x : σ) (H : Heap) (locs : List Loc), J i x H locs → ∀ ls, lv_has ls nL (I i x) → W p l e0 R s m args below meth c H locs (cf i) (sf i) Q (F0 m head ls sk) := by
    intro k
    induction k with
    | zero => intro i h1 h2; omega
    | succ k ih => intro i h1 h2 x H locs hJ ls hl; exact step i h1 x H locs hJ (fun h3 x H locs hJ ls hl => ih (i + 1) h3 (by omega) x H locs hJ ls hl) ls hl
  intro i hi
  exact key (n + 1) i hi (by omega)
theorem w_loopJ {nL n head : Nat} {sk : List Value} (J : Nat → Prop) (I : Nat → List (Nat × Value)) (step : ∀ i, i ≤ n → J i → (i < n → J (i + 1) → ∀ ls, lv_has ls nL (I (i + 1)) → W p l e0 R s m args below meth c H locs cells slots Q (F0 m head ls sk)) → ∀ ls, lv_has ls nL (I i) → W p l e0 R s m args below meth c H locs cells slots Q (F0 m head ls sk)) : ∀ i, i ≤ n → J i → ∀ ls, lv_has ls nL (I i) → W p l e0 R s m args below meth c H locs cells slots Q (F0 m head ls sk) := by
  have key : ∀ k i, i ≤ n → n < i + k → J i → ∀ ls, lv_has ls nL (I i) → W p l e0 R s m args below meth c H locs cells slots Q (F0 m head ls sk) := by
    intro k
    induction k with
    | zero => intro i h1 h2; omega
    | succ k ih => intro i h1 h2 hJ ls hl; exact step i h1 hJ (fun h3 hJ ls hl => ih (i + 1) h3 (by omega) hJ ls hl) ls hl
  intro i hi
  exact key (n + 1) i hi (by omega)
variable {cc : ByteArray} {pc : Nat} {ls : Array Slot} {rest : List Value}
theorem r_acmp_ne (hx : p.tables.exec = Jvm.exec) (hb : c.code = cc) {x y : Nat} {off : Int} {tgt : Nat} (hdg : decode cc pc = .ok (.if_acmp .ne off, 3)) (ht : (pc : Int) + off = (tgt : Int))
    (kt : ¬ x = y → W p l e0 R s m args below meth c H locs cells slots Q (F0 m tgt ls rest)) (kf : x = y → W p l e0 R s m args below meth c H locs cells slots Q (F0 m (pc + 3) ls rest)) : W p l e0 R s m args below meth c H locs cells slots Q (F0 m pc ls (.ref y :: .ref x :: rest)) :=
  lv_acmp_ne (rx := some x) (ry := some y) hx hb hdg ht (fun h => kt (fun q => h (congrArg some q))) (fun h => kf (Option.some.inj h))
theorem r_acmp_eq (hx : p.tables.exec = Jvm.exec) (hb : c.code = cc) {x y : Nat} {off : Int} {tgt : Nat} (hdg : decode cc pc = .ok (.if_acmp .eq off, 3)) (ht : (pc : Int) + off = (tgt : Int))
    (kt : x = y → W p l e0 R s m args below meth c H locs cells slots Q (F0 m tgt ls rest)) (kf : ¬ x = y → W p l e0 R s m args below meth c H locs cells slots Q (F0 m (pc + 3) ls rest)) : W p l e0 R s m args below meth c H locs cells slots Q (F0 m pc ls (.ref y :: .ref x :: rest)) :=
  lv_acmp_eq (rx := some x) (ry := some y) hx hb hdg ht (fun h => kt (Option.some.inj h)) (fun h => kf (fun q => h (congrArg some q)))
def sInj (st : Nat → Nat) : Prop := ∀ i j, i < 4 → j < 4 → st i = st j → i = j
theorem s_acmp_ne (hx : p.tables.exec = Jvm.exec) (hb : c.code = cc) {st : Nat → Nat} (hs : sInj st) {x y : Nat} (h1 : x < 4) (h2 : y < 4) {off : Int} {tgt : Nat} (hdg : decode cc pc = .ok (.if_acmp .ne off, 3)) (ht : (pc : Int) + off = (tgt : Int))
    (kt : ¬ x = y → W p l e0 R s m args below meth c H locs cells slots Q (F0 m tgt ls rest)) (kf : x = y → W p l e0 R s m args below meth c H locs cells slots Q (F0 m (pc + 3) ls rest)) : W p l e0 R s m args below meth c H locs cells slots Q (F0 m pc ls (.ref (st y) :: .ref (st x) :: rest)) :=
  r_acmp_ne hx hb hdg ht (fun h => kt (fun q => h (congrArg st q))) (fun h => kf (hs _ _ h1 h2 h))
theorem s_acmp_eq (hx : p.tables.exec = Jvm.exec) (hb : c.code = cc) {st : Nat → Nat} (hs : sInj st) {x y : Nat} (h1 : x < 4) (h2 : y < 4) {off : Int} {tgt : Nat} (hdg : decode cc pc = .ok (.if_acmp .eq off, 3)) (ht : (pc : Int) + off = (tgt : Int))
    (kt : x = y → W p l e0 R s m args below meth c H locs cells slots Q (F0 m tgt ls rest)) (kf : ¬ x = y → W p l e0 R s m args below meth c H locs cells slots Q (F0 m (pc + 3) ls rest)) : W p l e0 R s m args below meth c H locs cells slots Q (F0 m pc ls (.ref (st y) :: .ref (st x) :: rest)) :=
  r_acmp_eq hx hb hdg ht (fun h => kt (hs _ _ h1 h2 h)) (fun h => kf (fun q => h (congrArg st q)))
end LP
