/-! the law's arrays as cells -/
abbrev lrow (c : ClassId) (n f : Nat) (T : MS) : va_E := .inl (c, n, .inl (fun i => nI (T f i)))
abbrev aws (ad : Nat → Nat) (cI : ClassId) (T : MS) : va_W := [(ad 0, lrow cI 24 0 T), (ad 1, lrow cI 2 1 T), (ad 2, .inl (cI, 4, .inl (fun i => nI (T 2 i) - 1))), (ad 3, lrow cI 16 3 T), (ad 4, lrow cI 16 4 T), (ad 5, lrow cI 16 5 T), (ad 6, lrow cI 60 6 T), (ad 7, lrow cI 32 7 T), (ad 8, lrow cI 32 8 T), (ad 9, lrow cI 32 9 T), (ad 10, lrow cI 4 10 T), (ad 11, lrow cI 7 11 T)]
def aDis (A : Nat → Prop) (ad : Nat → Nat) : Prop := va_D A (aws ad 0 (fun _ _ => 0))
theorem aDis.at {A : Nat → Prop} {ad : Nat → Nat} (h : aDis A ad) (cI : ClassId) (T : MS) : va_D A (aws ad cI T) := my_Dc h rfl
def aB (D : va_G) (ad : Nat → Nat) (cI : ClassId) (T : MS) : State → Prop := fun U => va_P D vwCl (aws ad cI T) U.heap ∧ va_K D vwCl [(cI, .int)] U
theorem aB_blind {D : va_G} {ad : Nat → Nat} {cI : ClassId} {T : MS} {av : List Value} : FrameBlind (va_Pc av (aB D ad cI T)) := fun a U g mk q => ⟨q.1, q.2.1, va_K.moved (u := U) (U := U.calling g mk a) (Vm.Alike.refl U.vm) q.2.2⟩
theorem a_pre {D : va_G} {ad : Nat → Nat} {cI : ClassId} {T : MS} {s : State} {H : Heap} (hK : va_K D vwCl [(cI, .int)] s) (hP : va_P D vwCl (aws ad cI T) H) (av : List Value) : ∀ U : State, U.heap = H → s.WarmedH U.vm → va_Pc av (aB D ad cI T) av.toArray U := fun U hU hW => ⟨rfl, by rw [hU]; exact hP, va_K.moved hW.alike hK⟩
theorem aset_0 (ad : Nat → Nat) (cI : ClassId) (T : MS) (j v : Nat) : (aws ad cI T).set 0 (ad 0, .inl (cI, 24, .inl (upd (fun i => nI (T 0 i)) j (nI v)))) = aws ad cI (mu T 0 j v) := by
  have e : upd (fun i => nI (T 0 i)) j (nI v) = fun i => nI (if i = j then v else T 0 i) := by funext i; by_cases h : i = j <;> simp [upd, h]
  rw [e]
  simp [mu]
theorem aset_1 (ad : Nat → Nat) (cI : ClassId) (T : MS) (j v : Nat) : (aws ad cI T).set 1 (ad 1, .inl (cI, 2, .inl (upd (fun i => nI (T 1 i)) j (nI v)))) = aws ad cI (mu T 1 j v) := by
  have e : upd (fun i => nI (T 1 i)) j (nI v) = fun i => nI (if i = j then v else T 1 i) := by funext i; by_cases h : i = j <;> simp [upd, h]
  rw [e]
  simp [mu]
theorem aset_2 (ad : Nat → Nat) (cI : ClassId) (T : MS) (j v : Nat) : (aws ad cI T).set 2 (ad 2, .inl (cI, 4, .inl (upd (fun i => nI (T 2 i) - 1) j (nI v)))) = aws ad cI (mu T 2 j (v + 1)) := by
  have e : upd (fun i => nI (T 2 i) - 1) j (nI v) = fun i => nI (if i = j then v + 1 else T 2 i) - 1 := by funext i; by_cases h : i = j <;> simp [upd, h, nI_pred]
  rw [e]
  simp [mu]
theorem aset_3 (ad : Nat → Nat) (cI : ClassId) (T : MS) (j v : Nat) : (aws ad cI T).set 3 (ad 3, .inl (cI, 16, .inl (upd (fun i => nI (T 3 i)) j (nI v)))) = aws ad cI (mu T 3 j v) := by
  have e : upd (fun i => nI (T 3 i)) j (nI v) = fun i => nI (if i = j then v else T 3 i) := by funext i; by_cases h : i = j <;> simp [upd, h]
  rw [e]
  simp [mu]
theorem aset_4 (ad : Nat → Nat) (cI : ClassId) (T : MS) (j v : Nat) : (aws ad cI T).set 4 (ad 4, .inl (cI, 16, .inl (upd (fun i => nI (T 4 i)) j (nI v)))) = aws ad cI (mu T 4 j v) := by
  have e : upd (fun i => nI (T 4 i)) j (nI v) = fun i => nI (if i = j then v else T 4 i) := by funext i; by_cases h : i = j <;> simp [upd, h]
  rw [e]
  simp [mu]
theorem aset_5 (ad : Nat → Nat) (cI : ClassId) (T : MS) (j v : Nat) : (aws ad cI T).set 5 (ad 5, .inl (cI, 16, .inl (upd (fun i => nI (T 5 i)) j (nI v)))) = aws ad cI (mu T 5 j v) := by
  have e : upd (fun i => nI (T 5 i)) j (nI v) = fun i => nI (if i = j then v else T 5 i) := by funext i; by_cases h : i = j <;> simp [upd, h]
  rw [e]
  simp [mu]
theorem aset_6 (ad : Nat → Nat) (cI : ClassId) (T : MS) (j v : Nat) : (aws ad cI T).set 6 (ad 6, .inl (cI, 60, .inl (upd (fun i => nI (T 6 i)) j (nI v)))) = aws ad cI (mu T 6 j v) := by
  have e : upd (fun i => nI (T 6 i)) j (nI v) = fun i => nI (if i = j then v else T 6 i) := by funext i; by_cases h : i = j <;> simp [upd, h]
  rw [e]
  simp [mu]
theorem aset_7 (ad : Nat → Nat) (cI : ClassId) (T : MS) (j v : Nat) : (aws ad cI T).set 7 (ad 7, .inl (cI, 32, .inl (upd (fun i => nI (T 7 i)) j (nI v)))) = aws ad cI (mu T 7 j v) := by
  have e : upd (fun i => nI (T 7 i)) j (nI v) = fun i => nI (if i = j then v else T 7 i) := by funext i; by_cases h : i = j <;> simp [upd, h]
  rw [e]
  simp [mu]
theorem aset_8 (ad : Nat → Nat) (cI : ClassId) (T : MS) (j v : Nat) : (aws ad cI T).set 8 (ad 8, .inl (cI, 32, .inl (upd (fun i => nI (T 8 i)) j (nI v)))) = aws ad cI (mu T 8 j v) := by
  have e : upd (fun i => nI (T 8 i)) j (nI v) = fun i => nI (if i = j then v else T 8 i) := by funext i; by_cases h : i = j <;> simp [upd, h]
  rw [e]
  simp [mu]
theorem aset_9 (ad : Nat → Nat) (cI : ClassId) (T : MS) (j v : Nat) : (aws ad cI T).set 9 (ad 9, .inl (cI, 32, .inl (upd (fun i => nI (T 9 i)) j (nI v)))) = aws ad cI (mu T 9 j v) := by
  have e : upd (fun i => nI (T 9 i)) j (nI v) = fun i => nI (if i = j then v else T 9 i) := by funext i; by_cases h : i = j <;> simp [upd, h]
  rw [e]
  simp [mu]
theorem aset_10 (ad : Nat → Nat) (cI : ClassId) (T : MS) (j v : Nat) : (aws ad cI T).set 10 (ad 10, .inl (cI, 4, .inl (upd (fun i => nI (T 10 i)) j (nI v)))) = aws ad cI (mu T 10 j v) := by
  have e : upd (fun i => nI (T 10 i)) j (nI v) = fun i => nI (if i = j then v else T 10 i) := by funext i; by_cases h : i = j <;> simp [upd, h]
  rw [e]
  simp [mu]
theorem aset_11 (ad : Nat → Nat) (cI : ClassId) (T : MS) (j v : Nat) : (aws ad cI T).set 11 (ad 11, .inl (cI, 7, .inl (upd (fun i => nI (T 11 i)) j (nI v)))) = aws ad cI (mu T 11 j v) := by
  have e : upd (fun i => nI (T 11 i)) j (nI v) = fun i => nI (if i = j then v else T 11 i) := by funext i; by_cases h : i = j <;> simp [upd, h]
  rw [e]
  simp [mu]
section AR
variable {p : Program} {l : Launch} {e : Env} {R : Room} {s : State} {m : MethodId} {args : Array Value} {below : List Frame} {meth : Method} {c : Code} {H H0 : Heap} {locs : List Loc} {cells slots : Nat} {Q : State → Prop}
variable {cc : ByteArray} {pc : Nat} {ls : Array Slot} {rest : List Value} {D : va_G} {A : Nat → Prop} {ad : Nat → Nat} {cI : ClassId} {T : MS}
theorem a_iald (hx : p.tables.exec = Jvm.exec) (hb : c.code = cc) (hK : va_K D vwCl [(cI, .int)] s) (hP : va_P D vwCl (aws ad cI T) H) {f n i : Nat} (hq : (aws ad cI T)[f]? = some (ad f, lrow cI n f T)) (hi : i < n) (hn : n < 2 ^ 31) (hdg : decode cc pc = .ok (.iaload, 1))
    (kk : W p l e R s m args below meth c H locs cells slots Q (F0 m (pc + 1) ls (.int (nI (T f i)) :: rest))) : W p l e R s m args below meth c H locs cells slots Q (F0 m pc ls (.int (nI i) :: .ref (ad f) :: rest)) :=
  va_iald hx hb hK hP f 0 hq rfl (vp_in_nI hi hn) hdg (by rw [nI_clamp (by omega)]; exact kk)
theorem a_iald2 (hx : p.tables.exec = Jvm.exec) (hb : c.code = cc) (hK : va_K D vwCl [(cI, .int)] s) (hP : va_P D vwCl (aws ad cI T) H) {i : Nat} (hi : i < 4) (hdg : decode cc pc = .ok (.iaload, 1))
    (kk : W p l e R s m args below meth c H locs cells slots Q (F0 m (pc + 1) ls (.int (nI (T 2 i) - 1) :: rest))) : W p l e R s m args below meth c H locs cells slots Q (F0 m pc ls (.int (nI i) :: .ref (ad 2) :: rest)) :=
  va_iald hx hb hK hP 2 0 (f := fun i => nI (T 2 i) - 1) rfl rfl (vp_in_nI hi (by decide)) hdg (by rw [nI_clamp (by omega)]; exact kk)
theorem a_iast (hx : p.tables.exec = Jvm.exec) (hb : c.code = cc) (hK : va_K D vwCl [(cI, .int)] s) (hP : va_P D vwCl (aws ad cI T) H) (hD : aDis A ad) (hS : va_S A H0 H locs) {f n i v : Nat} (hq : (aws ad cI T)[f]? = some (ad f, lrow cI n f T)) (hi : i < n) (hn : n < 2 ^ 31) (he : (aws ad cI T).set f (ad f, .inl (cI, n, .inl (upd (fun i => nI (T f i)) i (nI v)))) = aws ad cI (mu T f i v)) (hdg : decode cc pc = .ok (.iastore, 1))
    (kk : ∀ (H1 : Heap) (locs1 : List Loc), va_P D vwCl (aws ad cI (mu T f i v)) H1 → va_S A H0 H1 locs1 → W p l e R s m args below meth c H1 locs1 cells slots Q (F0 m (pc + 1) ls rest)) : W p l e R s m args below meth c H locs cells slots Q (F0 m pc ls (.int (nI v) :: .int (nI i) :: .ref (ad f) :: rest)) :=
  va_iast hx hb hK hP (hD.at cI T) hS f 0 hq rfl (vp_in_nI hi hn) hdg (fun H1 locs1 hP1 _ hS1 => kk H1 locs1 (by rw [nI_clamp (by omega), he] at hP1; exact hP1) hS1)
theorem a_iast2 (hx : p.tables.exec = Jvm.exec) (hb : c.code = cc) (hK : va_K D vwCl [(cI, .int)] s) (hP : va_P D vwCl (aws ad cI T) H) (hD : aDis A ad) (hS : va_S A H0 H locs) {i v : Nat} (hi : i < 4) (hdg : decode cc pc = .ok (.iastore, 1))
    (kk : ∀ (H1 : Heap) (locs1 : List Loc), va_P D vwCl (aws ad cI (mu T 2 i (v + 1))) H1 → va_S A H0 H1 locs1 → W p l e R s m args below meth c H1 locs1 cells slots Q (F0 m (pc + 1) ls rest)) : W p l e R s m args below meth c H locs cells slots Q (F0 m pc ls (.int (nI v) :: .int (nI i) :: .ref (ad 2) :: rest)) :=
  va_iast hx hb hK hP (hD.at cI T) hS 2 0 (f := fun i => nI (T 2 i) - 1) rfl rfl (vp_in_nI hi (by decide)) hdg (fun H1 locs1 hP1 _ hS1 => kk H1 locs1 (by rw [nI_clamp (by omega), aset_2] at hP1; exact hP1) hS1)
theorem n_if_geT (hexec : p.tables.exec = Jvm.exec) (hb : c.code = cc) {a : Nat} {off : Int} {tgt : Nat} (hdg : decode cc pc = .ok (.ifCond .ge off, 3)) (ht : (pc : Int) + off = (tgt : Int)) (ha : a < 2 ^ 31)
    (kt : W p l e R s m args below meth c H locs cells slots Q (F0 m tgt ls rest)) : W p l e R s m args below meth c H locs cells slots Q (F0 m pc ls (.int (nI a) :: rest)) :=
  lv_if_ge hexec hb hdg ht (fun _ => kt) (fun h => absurd (nI_pos' ha) h)
theorem n_if_ltF (hexec : p.tables.exec = Jvm.exec) (hb : c.code = cc) {a : Nat} {off : Int} {tgt : Nat} (hdg : decode cc pc = .ok (.ifCond .lt off, 3)) (ht : (pc : Int) + off = (tgt : Int)) (ha : a < 2 ^ 31)
    (kf : W p l e R s m args below meth c H locs cells slots Q (F0 m (pc + 3) ls rest)) : W p l e R s m args below meth c H locs cells slots Q (F0 m pc ls (.int (nI a) :: rest)) :=
  lv_if_lt hexec hb hdg ht (fun h => absurd h (nI_pos ha)) (fun _ => kf)
/-- a loop that ends because a measure falls -/
theorem w_meas {nL head : Nat} {sk : List Value} (I : Nat → List (Nat × Value)) (J : Nat → Prop) (mz : Nat → Nat) (step : ∀ i, J i → (∀ j, J j → mz j < mz i → ∀ ls, lv_has ls nL (I j) → W p l e R s m args below meth c H locs cells slots Q (F0 m head ls sk)) → ∀ ls, lv_has ls nL (I i) → W p l e R s m args below meth c H locs cells slots Q (F0 m head ls sk)) : ∀ i, J i → ∀ ls, lv_has ls nL (I i) → W p l e R s m args below meth c H locs cells slots Q (F0 m head ls sk) := by
  have key : ∀ n i, mz i < n → J i → ∀ ls, lv_has ls nL (I i) → W p l e R s m args below meth c H locs cells slots Q (F0 m head ls sk) := by
    intro n
    induction n with
    | zero => intro i h; omega
    | succ n ih => intro i h hJ ls hl; exact step i hJ (fun j hj hm ls hl => ih j (by omega) hj ls hl) ls hl
  intro i hJ
  exact key (mz i + 1) i (by omega) hJ
theorem a_loopJ {nL n head : Nat} {sk : List Value} (J : Nat → Prop) (I : Nat → List (Nat × Value)) (step : ∀ i, i ≤ n → J i → (i < n → J (i + 1) → ∀ ls, lv_has ls nL (I (i + 1)) → W p l e R s m args below meth c H locs cells slots Q (F0 m head ls sk)) → ∀ ls, lv_has ls nL (I i) → W p l e R s m args below meth c H locs cells slots Q (F0 m head ls sk)) : ∀ i, i ≤ n → J i → ∀ ls, lv_has ls nL (I i) → W p l e R s m args below meth c H locs cells slots Q (F0 m head ls sk) := by
  have key : ∀ k i, i ≤ n → n < i + k → J i → ∀ ls, lv_has ls nL (I i) → W p l e R s m args below meth c H locs cells slots Q (F0 m head ls sk) := by
    intro k
    induction k with
    | zero => intro i h1 h2; omega
    | succ k ih => intro i h1 h2 hJ ls hl; exact step i h1 hJ (fun h3 hJ ls hl => ih (i + 1) h3 (by omega) hJ ls hl) ls hl
  intro i hi
  exact key (n + 1) i hi (by omega)
/-- a loop that writes: TT i the law's numbers at its head -/
theorem a_loop {nL n head : Nat} {sk : List Value} (I : Nat → List (Nat × Value)) (TT : Nat → MS) (step : ∀ i, i ≤ n → (i < n → ∀ (H : Heap) (locs : List Loc) ls, va_P D vwCl (aws ad cI (TT (i + 1))) H → va_S A H0 H locs → lv_has ls nL (I (i + 1)) → W p l e R s m args below meth c H locs cells slots Q (F0 m head ls sk)) → ∀ (H : Heap) (locs : List Loc) ls, va_P D vwCl (aws ad cI (TT i)) H → va_S A H0 H locs → lv_has ls nL (I i) → W p l e R s m args below meth c H locs cells slots Q (F0 m head ls sk)) : ∀ i, i ≤ n → ∀ (H : Heap) (locs : List Loc) ls, va_P D vwCl (aws ad cI (TT i)) H → va_S A H0 H locs → lv_has ls nL (I i) → W p l e R s m args below meth c H locs cells slots Q (F0 m head ls sk) := by
  have key : ∀ k i, i ≤ n → n < i + k → ∀ (H : Heap) (locs : List Loc) ls, va_P D vwCl (aws ad cI (TT i)) H → va_S A H0 H locs → lv_has ls nL (I i) → W p l e R s m args below meth c H locs cells slots Q (F0 m head ls sk) := by
    intro k
    induction k with
    | zero => intro i h1 h2; omega
    | succ k ih => intro i h1 h2 H locs ls hP hS hl; exact step i h1 (fun h3 H locs ls hP hS hl => ih (i + 1) h3 (by omega) H locs ls hP hS hl) H locs ls hP hS hl
  intro i hi
  exact key (n + 1) i hi (by omega)
end AR
theorem n_shrK {a k q9 : Nat} (ha : a < 2 ^ 31) (hk : k < 32) (hp : 2 ^ k = q9) : nI a >>> (nI k &&& 31) = nI (a / q9) := by rw [n_shr ha hk, hp]
theorem n_m32 (m : Nat) (h : m < 2 ^ 32) : (nI m).toBitVec.toNat = m := pk_tn h
theorem n_andK {a k m q9 : Nat} (ha : a < 2 ^ 32) (hm : m = 2 ^ k - 1) (hm2 : m < 2 ^ 32) (hp : 2 ^ k = q9) : nI a &&& nI m = nI (a % q9) := by rw [pk_andN ha k (by rw [n_m32 m hm2, hm]), hp]
theorem n_s31 : ∀ n, n < 32 → ((nI n &&& 31).toBitVec.smod 32).toNat = n := by decide +kernel
theorem n_shlK {a k q9 : Nat} (hk : k < 32) (hp : 2 ^ k = q9) (h : a * q9 < 2 ^ 32) : nI a <<< (nI k &&& 31) = nI (a * q9) := by rw [pk_shlN _ k (n_s31 k hk) (by rw [hp]; exact h), hp]
theorem n_or (a b : Nat) : nI a ||| nI b = nI (a ||| b) := by
  apply Int32.toBitVec_inj.mp
  rw [Int32.toBitVec_or]
  show BitVec.ofNat 32 a ||| BitVec.ofNat 32 b = BitVec.ofNat 32 (a ||| b)
  apply BitVec.eq_of_getLsbD_eq
  intro i hi
  simp [BitVec.getLsbD_or, BitVec.getLsbD_ofNat, Nat.testBit_or, hi]
/-- a number with a gap of k places above the first i, and what fills it -/
theorem or_gap {i k h v r : Nat} (hr : r < 2 ^ i) (hv : v < 2 ^ k) : (2 ^ (i + k) * h + r) ||| 2 ^ i * v = 2 ^ (i + k) * h + (2 ^ i * v + r) := by
  have hvr : 2 ^ i * v + r < 2 ^ (i + k) := by
    rw [Nat.pow_add]
    have h1 : 2 ^ i * v + 2 ^ i ≤ 2 ^ i * 2 ^ k := by
      rw [← Nat.mul_succ]
      exact Nat.mul_le_mul_left _ hv
    omega
  have hr2 : r < 2 ^ (i + k) := by omega
  rw [Nat.two_pow_add_eq_or_of_lt hr2, Nat.two_pow_add_eq_or_of_lt hvr, Nat.two_pow_add_eq_or_of_lt hr, Nat.or_assoc, Nat.or_comm r]
/-- what the law draws from a number -/
def lowN (v : Int32) (n : Nat) : Nat := v.toBitVec.toNat / 2 % n
theorem lowN_lt (v : Int32) {n : Nat} (h : 0 < n) : lowN v n < n := Nat.mod_lt _ h
theorem n_of32 (x : Int32) : x = nI x.toBitVec.toNat := Int32.toBitVec_inj.mp (by show _ = BitVec.ofNat 32 _; simp)
theorem n_ushr1 (x : Int32) : (x.toUInt32 >>> ((nI 1).toUInt32 &&& Int32.toUInt32 31)).toInt32 = nI (x.toBitVec.toNat / 2) := by
  have h : x.toBitVec.toNat < 2 ^ 32 := x.toBitVec.isLt
  conv => lhs; rw [n_of32 x]
  rw [pk_ushrN h (nI 1) 1 (by decide)]
/-- the bounds of the law's numbers -/
def LT (T : MS) : Prop := (∀ f i, T f i ≤ lcap f) ∧ T 11 1 ≤ 2 ∧ T 11 3 ≤ 60 ∧ T 11 4 ≤ 32 ∧ T 11 5 ≤ 32 ∧ T 11 6 ≤ 32
theorem t_lsf_le {T : MS} {q k : Nat} (hq : t_tk T (q / 4 * 4 + k) = true) : ∀ n, k < n → t_lsf T q n ≤ t_pr T (q / 4 * 4 + k)
  | 0, h => by omega
  | n + 1, h => by
    rw [t_lsf]
    by_cases e : k = n
    · subst e
      split
      · exact Nat.le_refl _
      · next c =>
        have c2 : ¬ t_pr T (q / 4 * 4 + k) < t_lsf T q k := fun c3 => c ⟨hq, c3⟩
        omega
    · have i := t_lsf_le hq n (by omega)
      split <;> omega
theorem t_lsf_20 {T : MS} {q : Nat} : ∀ n, t_lsf T q n ≤ 1048576
  | 0 => Nat.le_refl _
  | n + 1 => by
    have i := t_lsf_20 (T := T) (q := q) n
    rw [t_lsf]
    split
    · have : t_pr T (q / 4 * 4 + n) < 1048576 := Nat.mod_lt _ (by decide)
      omega
    · exact i
theorem t_quf_le {T : MS} (h : ∀ f i, T f i ≤ lcap f) (q : Nat) : ∀ n, t_quf T q n ≤ 127
  | 0 => by
    have h3 : T 3 q ≤ 134217727 := h 3 q
    rw [t_quf]; omega
  | n + 1 => by
    have h6 : T 6 n ≤ 8191 := h 6 n
    have i := t_quf_le h q n
    rw [t_quf]
    split <;> omega
theorem t_po_lt {T : MS} (h : ∀ f i, T f i ≤ lcap f) {q : Nat} (ht : t_tk T q = true) (hw : t_we T (q / 8) ≤ 100) : t_po T q < 300000 := by
  have e : q / 4 * 4 + q % 4 = q := by omega
  have h1 : t_lsf T q 4 ≤ t_pr T q := by
    have := t_lsf_le (q := q) (k := q % 4) (by rw [e]; exact ht) 4 (by omega)
    rw [e] at this
    exact this
  have h2 : t_lsf T q 4 * 1000 / t_pr T q ≤ 1000 := Nat.div_le_of_le_mul (Nat.mul_le_mul_right 1000 h1)
  have h3 := Nat.mul_le_mul h2 hw
  have h4 : t_qu T q ≤ 127 := t_quf_le h q _
  have h5 : 10 * t_qu T q * (100 - t_we T (q / 8)) ≤ 1270 * 100 := Nat.mul_le_mul (by omega) (by omega)
  unfold t_po
  omega
theorem t_tkf_3 {T : MS} {q : Nat} (h : T 3 q = 0) (hn : ∀ k, k < T 11 3 → T 6 k / 4 % 16 ≠ q) : t_tk T q = false := by
  unfold t_tk
  rw [t_tkf_no _ hn, h]
  simp
theorem t_bsf_some {T : MS} {lot z : Nat} : ∀ n f, t_bsf T lot z n = some f → 4 * lot ≤ f ∧ f < 4 * lot + n ∧ t_tk T f = true
  | 0, f, h => by cases h
  | n + 1, f, h => by
    have i := t_bsf_some (T := T) (lot := lot) (z := z) n
    rw [t_bsf] at h
    split at h
    · have := i f h
      exact ⟨this.1, by omega, this.2.2⟩
    · next c =>
      have ct : t_tk T (4 * lot + n) = true := by
        rcases hq : t_tk T (4 * lot + n) with _ | _
        · exact absurd (Or.inr hq) c
        · rfl
      split at h
      · obtain rfl := Option.some.inj h
        exact ⟨by omega, by omega, ct⟩
      · next f2 e2 =>
        split at h
        · obtain rfl := Option.some.inj h
          exact ⟨by omega, by omega, ct⟩
        · obtain rfl := Option.some.inj h
          have := i _ e2
          exact ⟨this.1, by omega, this.2.2⟩
