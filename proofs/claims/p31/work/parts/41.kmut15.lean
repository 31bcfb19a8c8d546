/-! the class: lapses, days -/
section LPY
variable {p : Program} {l : Launch} {e0 : Env} {R : Room} {s : State} {m : MethodId} {args : Array Value} {below : List Frame} {meth : Method} {c : Code} {Q : State → Prop}
theorem w_loopY {σ : Type} {nL n head : Nat} {sk : List Value} (I : Nat → σ → List (Nat × Value)) (J : Nat → σ → Heap → List Loc → Prop) (cf sf : σ → Nat) (step : ∀ i, i ≤ n → ∀ (x : σ) (H : Heap) (locs : List Loc), J i x H locs → (i < n → ∀ (x : σ) (H : Heap) (locs : List Loc), J (i + 1) x H locs → ∀ ls, lv_has ls nL (I (i + 1) x) → W p l e0 R s m args below meth c H locs (cf x) (sf x) Q (F0 m head ls sk)) → ∀ ls, lv_has ls nL (I i x) → W p l e0 R s m args below meth c H locs (cf x) (sf x) Q (F0 m head ls sk)) : ∀ i, i ≤ n → ∀ (x : σ) (H : Heap) (locs : List Loc), J i x H locs → ∀ ls, lv_has ls nL (I i x) → W p l e0 R s m args below meth c H locs (cf x) (sf x) Q (F0 m head ls sk) := by
  have key : ∀ k i, i ≤ n → n < i + k → ∀ (x : σ) (H : Heap) (locs : List Loc), J i x H locs → ∀ ls, lv_has ls nL (I i x) → W p l e0 R s m args below meth c H locs (cf x) (sf x) Q (F0 m head ls sk) := by
    intro k
    induction k with
    | zero => intro i h1 h2; omega
    | succ k ih => intro i h1 h2 x H locs hJ ls hl; exact step i h1 x H locs hJ (fun h3 x H locs hJ ls hl => ih (i + 1) h3 (by omega) x H locs hJ ls hl) ls hl
  intro i hi
  exact key (n + 1) i hi (by omega)
end LPY
/-- the class's state, its number of lapses -/
abbrev CSt : Type := Nat × va_W × (Nat → Nat) × (Nat → Nat) × (Nat → Nat → Nat) × (Nat → List Nat)
/-- what sending an award back does, without cells -/
def SBr (kd : Nat → Nat) (F : Nat → Nat → Nat) (L : Nat → List Nat) (h w y : Nat) (ri : Int32) (kd2 : Nat → Nat) (F2 : Nat → Nat → Nat) (L2 : Nat → List Nat) : Prop :=
  match kPlace (kFollow (up2 F 4 w 1) (upL L (F 4 (F 1 w)) (L (F 4 (F 1 w)) ++ [y])) (F 1 w) y) (upL L (F 4 (F 1 w)) (L (F 4 (F 1 w)) ++ [y])) (F 1 w) (nI 0) with
  | none => ri = -1 ∧ kd2 = kd ∧ F2 = kFollow (up2 F 4 w 1) (upL L (F 4 (F 1 w)) (L (F 4 (F 1 w)) ++ [y])) (F 1 w) y ∧ L2 = upL L (F 4 (F 1 w)) (L (F 4 (F 1 w)) ++ [y])
  | some o => ∃ q, kd q = 0 ∧ ri = nI (upL L (F 4 (F 1 w)) (L (F 4 (F 1 w)) ++ [y]) (kFollow (up2 F 4 w 1) (upL L (F 4 (F 1 w)) (L (F 4 (F 1 w)) ++ [y])) (F 1 w) y 2 h)).length ∧ kd2 = kdN kd q 2 ∧ F2 = FN (kFollow (up2 F 4 w 1) (upL L (F 4 (F 1 w)) (L (F 4 (F 1 w)) ++ [y])) (F 1 w) y) q [(upL L (F 4 (F 1 w)) (L (F 4 (F 1 w)) ++ [y]) (kFollow (up2 F 4 w 1) (upL L (F 4 (F 1 w)) (L (F 4 (F 1 w)) ++ [y])) (F 1 w) y 2 h)).length, F 1 w, o, kFollow (up2 F 4 w 1) (upL L (F 4 (F 1 w)) (L (F 4 (F 1 w)) ++ [y])) (F 1 w) y 5 h + kFollow (up2 F 4 w 1) (upL L (F 4 (F 1 w)) (L (F 4 (F 1 w)) ++ [y])) (F 1 w) y 4 (kFollow (up2 F 4 w 1) (upL L (F 4 (F 1 w)) (L (F 4 (F 1 w)) ++ [y])) (F 1 w) y 0 (F 1 w)), 0, 0, 0] ∧ L2 = upL (upL L (F 4 (F 1 w)) (L (F 4 (F 1 w)) ++ [y])) (kFollow (up2 F 4 w 1) (upL L (F 4 (F 1 w)) (L (F 4 (F 1 w)) ++ [y])) (F 1 w) y 2 h) (upL L (F 4 (F 1 w)) (L (F 4 (F 1 w)) ++ [y]) (kFollow (up2 F 4 w 1) (upL L (F 4 (F 1 w)) (L (F 4 (F 1 w)) ++ [y])) (F 1 w) y 2 h) ++ [q])
theorem SBr_of {cI cO : ClassId} {eA : Nat} {st kd : Nat → Nat} {F : Nat → Nat → Nat} {L : Nat → List Nat} {A : Nat → Prop} {h w y : Nat} {ri : Int32} {u : va_W × (Nat → Nat) × Nat} (hu : pSB cI cO eA st kd F L A h w y ri u) : ∃ own kd2 F2 L2, CW cI cO eA st own kd2 F2 L2 u.1 ∧ WF kd2 F2 L2 ∧ va_D A u.1 ∧ SBr kd F L h w y ri kd2 F2 L2 := by
  obtain ⟨own, hu⟩ := hu
  unfold pBest at hu
  unfold SBr
  split at hu
  · next q =>
    rw [q]
    exact ⟨own, _, _, _, hu.2.1, hu.2.2.1, hu.2.2.2, hu.1, rfl, rfl, rfl⟩
  · next o q =>
    rw [q]
    exact ⟨u.2.1, _, _, _, hu.2.1, hu.2.2.1, hu.2.2.2.2, u.2.2, hu.2.2.2.1, hu.1, rfl, rfl, rfl⟩
abbrev kLapC (F : Nat → Nat → Nat) (L : Nat → List Nat) (h w : Nat) : Prop := F 5 w = 0 ∧ F 3 w + 30 ≤ F 5 h ∧ kFin F L h w
/-- what the caller knows of the rounds of lapses: E awards are looked at, at most N lapse -/
def LpI (h E N : Nat) (I : Nat → Nat → (Nat → Nat) → (Nat → Nat → Nat) → (Nat → List Nat) → Prop) : Prop :=
  ∀ i n kd F L, I i n kd F L → WF kd F L → kd h = 9 ∧ E ≤ (L (F 2 h)).length ∧ n ≤ N ∧ (i < E → (L (F 2 h)).length < 60 →
    (¬ kLapC F L h (gt (L (F 2 h)) i) → I (i + 1) n kd F L) ∧
    (kLapC F L h (gt (L (F 2 h)) i) → n + 1 ≤ N ∧ (L (F 4 (F 1 (gt (L (F 2 h)) i)))).length < 60 ∧ ∀ q ri kd2 F2 L2, kd q = 0 → WF kd2 F2 L2 → SBr (kdN kd q 4) (FN (up2 F 6 (gt (L (F 2 h)) i) 1) q [0, F 0 (F 2 (gt (L (F 2 h)) i)), 0]) L h (gt (L (F 2 h)) i) q ri kd2 F2 L2 → I (i + 1) (n + 1) kd2 F2 L2))
/-- what the caller knows of the days: Nc k awards lapse at most in the first k days -/
def DyI (h days : Nat) (Nc : Nat → Nat) (I2 : Nat → Nat → (Nat → Nat) → (Nat → Nat → Nat) → (Nat → List Nat) → Prop) : Prop :=
  ∀ k n kd F L, k ≤ days → I2 k n kd F L → WF kd F L → kd h = 9 ∧ Nc k ≤ Nc days ∧ (k < days → F 5 h < 2000 ∧ Nc k ≤ Nc (k + 1) ∧ Nc (k + 1) ≤ Nc days ∧ ∃ I, LpI h (L (F 2 h)).length (Nc (k + 1) - Nc k) I ∧ I 0 0 kd (kOpT (up2 F 5 h (F 5 h + 1)) L h (L (F 1 h)) (L (F 1 h)).length) L ∧
    ∀ i n2 kd2 F2 L2, i ≤ (L (F 2 h)).length → ((L (F 2 h)).length ≤ i ∨ 60 ≤ (L2 (F2 2 h)).length) → I i n2 kd2 F2 L2 → WF kd2 F2 L2 → I2 (k + 1) (n + n2) kd2 F2 L2)
set_option maxHeartbeats 4000000 in
set_option maxRecDepth 100000 in
theorem cv_lapseAwards (l : Launch) (D : va_G) (cI cO cb : ClassId) (eA mi : Nat) (st : Nat → Nat) {A : Nat → Prop} (ws : va_W) (hD : va_D A ws) {own kd : Nat → Nat} {F : Nat → Nat → Nat} {L : Nat → List Nat} (hC : CW cI cO eA st own kd F L ws) (hW : WF kd F L) (hs : sInj st)  (h : Nat) (hk_h : kd h = 9) (N : Nat) (hN : N ≤ 100000) (E : Nat) (hE9 : E = (L (F 2 h)).length) (I : Nat → Nat → (Nat → Nat) → (Nat → Nat → Nat) → (Nat → List Nat) → Prop) (hLp : LpI h E N I) (hI0 : I 0 0 kd F L) : Met l yX8_lapseAwards wsX8_lapseAwards ({ frames := 9, cells := (4 * N), slots := (202 * N), locals := 236 }) (va_Pc [.ref h] (cB D cI cO cb eA mi st A ws)) (va_Qi (fun (ri : Int32) (u : va_W) => ∃ i n own kd F L, i ≤ E ∧ (E ≤ i ∨ 60 ≤ (L (F 2 h)).length) ∧ ri = nI n ∧ I i n kd F L ∧ CW cI cO eA st own kd F L u ∧ WF kd F L ∧ va_D A u) (fun u U9 => va_P D vwCl u U9.heap) A) (4 * N) (202 * N) A := by
  refine Met.ofW (cc := cX8_lapseAwards) (maxL := 5) (ret := (some .int)) (by decide) rfl ?_
  intro p e s m args below meth c s₁ B hml hv
  obtain ⟨rfl, hP, hK, hG, hA⟩ := hv
  have hx := B.exec
  have hb := B.bytes
  have hr := B.returns
  have hts := atoms_spec (ws := wsX8_lapseAwards) B.pre
  have hown : s.vm.findClass RX8 = some m.cls := findClass_of_methodNamed B.named
  have hlocks := B.notSynchronized
  have hin_X0 : ∀ w ∈ wsX00, w ∈ wsX8_lapseAwards := fun w h => List.mem_cons_of_mem _ (List.mem_append_left _ (List.mem_append_left _ (List.mem_append_left _ (List.mem_append_left _ (List.mem_append_left _ (List.mem_append_left _ (List.mem_append_right _ h)))))))
  have hin_X1 : ∀ w ∈ wsX10, w ∈ wsX8_lapseAwards := fun w h => List.mem_cons_of_mem _ (List.mem_append_left _ (List.mem_append_left _ (List.mem_append_left _ (List.mem_append_left _ (List.mem_append_right _ h)))))
  have hin_X2 : ∀ w ∈ wsX20, w ∈ wsX8_lapseAwards := fun w h => List.mem_cons_of_mem _ (List.mem_append_left _ (List.mem_append_left _ (List.mem_append_left _ (List.mem_append_left _ (List.mem_append_left _ (List.mem_append_right _ h))))))
  have hin_X8 : ∀ w ∈ wsX80, w ∈ wsX8_lapseAwards := fun w h => List.mem_cons_of_mem _ (List.mem_append_left _ (List.mem_append_left _ (List.mem_append_left _ (List.mem_append_left _ (List.mem_append_left _ (List.mem_append_left _ (List.mem_append_left _ (List.mem_append_right _ h))))))))
  have l_20 := (hts (.fieldLink RX8 20 "TenderHall" "awards" "Ljava/util/ArrayList;") (List.mem_of_getElem? (i := 1) rfl))
  have l_221 := (hts (.fieldLink RX8 221 "TenderHall$Award" "signed" "Z") (List.mem_of_getElem? (i := 3) rfl))
  have l_29 := (hts (.fieldLink RX8 29 "TenderHall" "day" "I") (List.mem_of_getElem? (i := 4) rfl))
  have l_184 := (hts (.fieldLink RX8 184 "TenderHall$Award" "finalFrom" "I") (List.mem_of_getElem? (i := 5) rfl))
  have l_248 := (hts (.fieldLink RX8 248 "TenderHall$Award" "lapsed" "Z") (List.mem_of_getElem? (i := 6) rfl))
  have l_152 := (hts (.fieldLink RX8 152 "TenderHall$Award" "bid" "LTenderHall$Bid;") (List.mem_of_getElem? (i := 10) rfl))
  have l_156 := (hts (.fieldLink RX8 156 "TenderHall$Bid" "bidder" "I") (List.mem_of_getElem? (i := 11) rfl))
  have hS : va_S A s.heap s.heap [] := va_S.rf
  have hD0 := hD
  have hl := lv_entry ([.ref h]) (n := 5) (Nat.le_of_ble_eq_true rfl)
  rw [lg_entry_eq]
  generalize (lg_sl ([.ref h]) ++ List.replicate (5 - (lg_sl ([.ref h])).length) Slot.unset).toArray = ls at hl ⊢
  have hl : lv_has ls 5 [(0, .ref h)] := hl
  have hk2 : kd (F 2 h) = 22 := hW.ref hk_h rfl (by decide)
  have hl2 : (L (F 2 h)).length ≤ 60 := hW.len hk2 (by decide)
  have hW0 := hW
  have hEl := hE9
  refine lv_iconst (v := nI 0) hx hb dX8_lapseAwards_0 (by decide) ?_
  refine lv_istore_n (lv' := [(1, .int (nI 0)), (0, .ref h)]) hx hb dX8_lapseAwards_1 rfl hl (by decide) rfl (fun ls hl => ?_)
  refine lv_aload_n hx hb dX8_lapseAwards_2 rfl (lv_at hl 1 rfl) ?_
  have hm_1 : (h, .inr (9, [.ref (F 0 h), .ref (F 1 h), .ref (F 2 h), .ref (F 3 h), .ref (F 4 h), .int (nI (F 5 h))])) ∈ ws := hC.at hk_h (by decide) (by decide)
  refine c_get (C := RX8) (T := TX8) (N := 6) hx hb hts hin_X8 hown hK hP hm_1 rfl 2 (by decide) l_20 (fun _ h9 => h9) rfl dX8_lapseAwards_3 ?_
  obtain ⟨fs_hm_2, hm_2⟩ := hC.obj hk2 (by decide)
  refine vp_callSi (W.runV (As := []) (rest := []) ⟨hx, hb, hml, hown, hts⟩ ((cl_size l D cI cO cb eA mi st ws hD (F 2 h) (L (F 2 h)) (hC.lst hk2 (by decide)))) (cwV 0 hts gX8_lapseAwards_Jx4a65c_size_8abf5 rfl rfl rfl kd_Jx4a65c_size_8abf5 ⟨Nat.le_of_ble_eq_true rfl, Nat.le_of_ble_eq_true rfl⟩) ⟨cB_blind, c_recv hK hP rfl hm_2, cB_pre hK hG hA hS hP _⟩ rfl rfl hl.1 rfl (lv_room (Nat.le_of_ble_eq_true rfl)) dX8_lapseAwards_6 ⟨by show _ ≤ 4 * N; omega, by show _ ≤ 202 * N; omega⟩) (fun r_3 hr_3 => ?_)
  subst hr_3
  refine lv_istore_n (lv' := [(2, .int (nI ((L (F 2 h)).length))), (1, .int (nI 0)), (0, .ref h)]) hx hb dX8_lapseAwards_9 rfl hl (by decide) rfl (fun ls hl => ?_)
  refine lv_iconst (v := nI 0) hx hb dX8_lapseAwards_10 (by decide) ?_
  refine lv_istore_n (lv' := [(3, .int (nI 0)), (2, .int (nI ((L (F 2 h)).length))), (1, .int (nI 0)), (0, .ref h)]) hx hb dX8_lapseAwards_11 rfl hl (by decide) rfl (fun ls hl => ?_)
  rw [← hE9] at hl
  refine w_loopY (σ := CSt) (n := E) (nL := 5) (fun i x9 => [(0, .ref h), (1, .int (nI x9.1)), (2, .int (nI E)), (3, .int (nI i))]) (fun i x9 H locs => I i x9.1 x9.2.2.2.1 x9.2.2.2.2.1 x9.2.2.2.2.2 ∧ CW cI cO eA st x9.2.2.1 x9.2.2.2.1 x9.2.2.2.2.1 x9.2.2.2.2.2 x9.2.1 ∧ WF x9.2.2.2.1 x9.2.2.2.2.1 x9.2.2.2.2.2 ∧ va_D A x9.2.1 ∧ va_P D vwCl x9.2.1 H ∧ va_S A s.heap H locs) (fun x9 => 4 * x9.1) (fun x9 => 202 * x9.1) (fun i hb9 x9 H locs hJ9 ih9 ls hl => ?_) 0 (Nat.zero_le _) (0, ws, own, kd, F, L) _ _ ⟨hI0, hC, hW, hD, hP, hS⟩ ls (lv_sub hl [3, 2, 1, 0] rfl)
  clear hC hW hD hP hS
  clear hk_h hEl hE9 hW0 hk2 hl2 hI0
  obtain ⟨n, ws, own, kd, F, L⟩ := x9
  obtain ⟨hI, hC, hW, hD, hP, hS⟩ := hJ9
  replace hC : CW cI cO eA st own kd F L ws := hC
  replace hW : WF kd F L := hW
  replace hD : va_D A ws := hD
  replace hP : va_P D vwCl ws H := hP
  replace hI : I i n kd F L := hI
  show W _ _ _ _ _ _ _ _ _ _ _ _ (4 * n) (202 * n) _ _
  replace hl : lv_has ls 5 [(0, .ref h), (1, .int (nI n)), (2, .int (nI E)), (3, .int (nI i))] := hl
  obtain ⟨hk_h, hEl, hnN, hstep⟩ := hLp i n kd F L hI hW
  have hk2 : kd (F 2 h) = 22 := hW.ref hk_h rfl (by decide)
  have hl2 : (L (F 2 h)).length ≤ 60 := hW.len hk2 (by decide)
  refine lv_iload_n hx hb dX8_lapseAwards_12 rfl (lv_at hl 3 rfl) ?_
  refine lv_iload_n hx hb dX8_lapseAwards_13 rfl (lv_at hl 2 rfl) ?_
  refine n_icmp_ge (tgt := 113) hx hb dX8_lapseAwards_14 (by decide) (by omega) (by omega) (fun c_4 => ?_) (fun c_4 => ?_)
  · refine lv_iload_n hx hb dX8_lapseAwards_113 rfl (lv_at hl 1 rfl) ?_
    refine W.widen (k := 4 * N) (n := 202 * N) (by omega) (by omega) ?_
    exact W.iret (v := nI n) hx hb hr (fun U9 ht hW9 => ⟨⟨_, ws, rfl, ⟨i, n, own, kd, F, L, by omega, by omega, rfl, hI, hC, hW, hD⟩, by show va_P D vwCl _ U9.heap; rw [ht]; exact hP⟩, hS.F ht⟩) hS.2.2 dX8_lapseAwards_114
  · refine lv_aload_n hx hb dX8_lapseAwards_17 rfl (lv_at hl 0 rfl) ?_
    have hm_5 : (h, .inr (9, [.ref (F 0 h), .ref (F 1 h), .ref (F 2 h), .ref (F 3 h), .ref (F 4 h), .int (nI (F 5 h))])) ∈ ws := hC.at hk_h (by decide) (by decide)
    refine c_get (C := RX8) (T := TX8) (N := 6) hx hb hts hin_X8 hown hK hP hm_5 rfl 2 (by decide) l_20 (fun _ h9 => h9) rfl dX8_lapseAwards_18 ?_
    obtain ⟨fs_hm_6, hm_6⟩ := hC.obj hk2 (by decide)
    refine vp_callSi (W.runV (As := []) (rest := []) ⟨hx, hb, hml, hown, hts⟩ ((cl_size l D cI cO cb eA mi st ws hD (F 2 h) (L (F 2 h)) (hC.lst hk2 (by decide)))) (cwV 0 hts gX8_lapseAwards_Jx4a65c_size_8abf5 rfl rfl rfl kd_Jx4a65c_size_8abf5 ⟨Nat.le_of_ble_eq_true rfl, Nat.le_of_ble_eq_true rfl⟩) ⟨cB_blind, c_recv hK hP rfl hm_6, cB_pre hK hG hA hS hP _⟩ rfl rfl hl.1 rfl (lv_room (Nat.le_of_ble_eq_true rfl)) dX8_lapseAwards_21 ⟨by show _ ≤ 4 * N; omega, by show _ ≤ 202 * N; omega⟩) (fun r_7 hr_7 => ?_)
    subst hr_7
    refine lv_bipush (v := nI 60) hx hb dX8_lapseAwards_24 (by decide) ?_
    refine n_icmp_ge (tgt := 113) hx hb dX8_lapseAwards_26 (by decide) (by omega) (by decide) (fun c_8 => ?_) (fun c_8 => ?_)
    · refine lv_iload_n hx hb dX8_lapseAwards_113 rfl (lv_at hl 1 rfl) ?_
      refine W.widen (k := 4 * N) (n := 202 * N) (by omega) (by omega) ?_
      exact W.iret (v := nI n) hx hb hr (fun U9 ht hW9 => ⟨⟨_, ws, rfl, ⟨i, n, own, kd, F, L, by omega, by omega, rfl, hI, hC, hW, hD⟩, by show va_P D vwCl _ U9.heap; rw [ht]; exact hP⟩, hS.F ht⟩) hS.2.2 dX8_lapseAwards_114
    · refine lv_aload_n hx hb dX8_lapseAwards_29 rfl (lv_at hl 0 rfl) ?_
      refine c_get (C := RX8) (T := TX8) (N := 6) hx hb hts hin_X8 hown hK hP hm_5 rfl 2 (by decide) l_20 (fun _ h9 => h9) rfl dX8_lapseAwards_30 ?_
      refine lv_iload_n hx hb dX8_lapseAwards_33 rfl (lv_at hl 3 rfl) ?_
      obtain ⟨fs_hm_9, hm_9⟩ := hC.obj hk2 (by decide)
      refine va_csr (W.runV (As := [.int (nI i)]) (rest := []) ⟨hx, hb, hml, hown, hts⟩ ((cl_get l D cI cO cb eA mi st ws hD (F 2 h) (L (F 2 h)) (hC.lst hk2 (by decide)) i (gt (L (F 2 h)) i) (gt_some (by omega)))) (cwV 1 hts gX8_lapseAwards_Jx4a65c_get_915e3 rfl rfl rfl kd_Jx4a65c_get_915e3 ⟨Nat.le_of_ble_eq_true rfl, Nat.le_of_ble_eq_true rfl⟩) ⟨cB_blind, c_recv hK hP rfl hm_9, cB_pre hK hG hA hS hP _⟩ rfl rfl hl.1 rfl (lv_room (Nat.le_of_ble_eq_true rfl)) dX8_lapseAwards_34 ⟨by show _ ≤ 4 * N; omega, by show _ ≤ 202 * N; omega⟩) (fun r_10 hr_10 => ?_)
      subst hr_10
      have hk_11 : kd (gt (L (F 2 h)) i) = 2 := hW.el hk2 (by omega)
      have hm_12 : (gt (L (F 2 h)) i, .inr (2, [.int (nI (F 0 (gt (L (F 2 h)) i))), .ref (F 1 (gt (L (F 2 h)) i)), .ref (F 2 (gt (L (F 2 h)) i)), .int (nI (F 3 (gt (L (F 2 h)) i))), .int (nI (F 4 (gt (L (F 2 h)) i))), .int (nI (F 5 (gt (L (F 2 h)) i))), .int (nI (F 6 (gt (L (F 2 h)) i)))])) ∈ ws := hC.at hk_11 (by decide) (by decide)
      refine va_castE hx hb hown (hts (.classLink RX8 144 "TenderHall$Award") (List.mem_of_getElem? (i := 2) rfl)) (c_recv hK hP (ci := 2) rfl hm_12) dX8_lapseAwards_37 ?_
      refine lv_astore (lv' := [(4, .ref (gt (L (F 2 h)) i)), (0, .ref h), (1, .int (nI n)), (2, .int (nI E)), (3, .int (nI i))]) hx hb dX8_lapseAwards_40 hl (by decide) rfl (fun ls hl => ?_)
      refine lv_aload hx hb dX8_lapseAwards_42 (lv_at hl 0 rfl) ?_
      refine c_get (C := RX0) (T := TX0) (N := 7) hx hb hts hin_X0 hown hK hP hm_12 rfl 5 (by decide) l_221 (fun _ h9 => h9) rfl dX8_lapseAwards_44 ?_
      have hn_13 : F 5 (gt (L (F 2 h)) i) < 2 := hW.num (f := 5) hk_11 rfl (by decide)
      refine n_if_ne (tgt := 107) hx hb dX8_lapseAwards_47 (by decide) (by omega) (fun c_14 => ?_) (fun c_14 => ?_)
      · refine n_iinc (k := 4) (lv' := [(3, .int (nI (i + 1))), (4, .ref (gt (L (F 2 h)) i)), (0, .ref h), (1, .int (nI n)), (2, .int (nI E))]) hx hb dX8_lapseAwards_107 hl rfl (by decide) rfl (fun ls hl => ?_)
        refine lv_goto (tgt := 12) hx hb dX8_lapseAwards_110 (by decide) ?_
        exact ih9 (by omega) (n, ws, own, kd, F, L) _ _ ⟨(hstep (by omega) (by omega)).1 (by rintro ⟨q1, q2, q3⟩; first | omega | contradiction), hC, hW, hD, hP, hS⟩ ls (lv_sub hl [2, 3, 4, 0] rfl)
      · refine lv_aload_n hx hb dX8_lapseAwards_50 rfl (lv_at hl 1 rfl) ?_
        refine c_get (C := RX8) (T := TX8) (N := 6) hx hb hts hin_X8 hown hK hP hm_5 rfl 5 (by decide) l_29 (fun _ h9 => h9) rfl dX8_lapseAwards_51 ?_
        have hn_15 : F 5 h < 2001 := hW.num (f := 5) hk_h rfl (by decide)
        refine lv_aload hx hb dX8_lapseAwards_54 (lv_at hl 0 rfl) ?_
        refine c_get (C := RX0) (T := TX0) (N := 7) hx hb hts hin_X0 hown hK hP hm_12 rfl 3 (by decide) l_184 (fun _ h9 => h9) rfl dX8_lapseAwards_56 ?_
        have hn_16 : F 3 (gt (L (F 2 h)) i) < 3000 := hW.num (f := 3) hk_11 rfl (by decide)
        refine lv_bipush (v := nI 30) hx hb dX8_lapseAwards_59 (by decide) ?_
        refine n_iadd hx hb dX8_lapseAwards_61 (z := (F 3 (gt (L (F 2 h)) i)) + 30) rfl ?_
        refine n_icmp_lt (tgt := 107) hx hb dX8_lapseAwards_62 (by decide) (by omega) (by omega) (fun c_17 => ?_) (fun c_17 => ?_)
        · refine n_iinc (k := 4) (lv' := [(3, .int (nI (i + 1))), (4, .ref (gt (L (F 2 h)) i)), (0, .ref h), (1, .int (nI n)), (2, .int (nI E))]) hx hb dX8_lapseAwards_107 hl rfl (by decide) rfl (fun ls hl => ?_)
          refine lv_goto (tgt := 12) hx hb dX8_lapseAwards_110 (by decide) ?_
          exact ih9 (by omega) (n, ws, own, kd, F, L) _ _ ⟨(hstep (by omega) (by omega)).1 (by rintro ⟨q1, q2, q3⟩; first | omega | contradiction), hC, hW, hD, hP, hS⟩ ls (lv_sub hl [2, 3, 4, 0] rfl)
        · refine lv_aload_n hx hb dX8_lapseAwards_65 rfl (lv_at hl 1 rfl) ?_
          refine lv_aload hx hb dX8_lapseAwards_66 (lv_at hl 0 rfl) ?_
          refine vp_callSi (W.runV (As := [.ref (gt (L (F 2 h)) i)]) (rest := []) ⟨hx, hb, hml, hown, hts⟩ (ck_hasBecomeFinal l D cI cO cb eA mi st ws hD hC hW hs h hk_h (gt (L (F 2 h)) i) hk_11) (cwV 1 hts gX8_lapseAwards_X8_hasBecomeFinal rfl rfl rfl kd_X8_hasBecomeFinal ⟨Nat.le_of_ble_eq_true rfl, Nat.le_of_ble_eq_true rfl⟩) ⟨cB_blind, c_recv hK hP rfl hm_5, cB_pre hK hG hA hS hP _⟩ rfl rfl hl.1 rfl (lv_room (Nat.le_of_ble_eq_true rfl)) dX8_lapseAwards_68 ⟨by show _ ≤ 4 * N; omega, by show _ ≤ 202 * N; omega⟩) (fun r_18 hr_18 => ?_)
          subst hr_18
          refine b_if_eq (tgt := 107) hx hb dX8_lapseAwards_71 (by decide)  (fun c_19 => ?_) (fun c_19 => ?_)
          · have dd_c_19 := of_decide_eq_false c_19
            refine n_iinc (k := 4) (lv' := [(3, .int (nI (i + 1))), (4, .ref (gt (L (F 2 h)) i)), (0, .ref h), (1, .int (nI n)), (2, .int (nI E))]) hx hb dX8_lapseAwards_107 hl rfl (by decide) rfl (fun ls hl => ?_)
            refine lv_goto (tgt := 12) hx hb dX8_lapseAwards_110 (by decide) ?_
            exact ih9 (by omega) (n, ws, own, kd, F, L) _ _ ⟨(hstep (by omega) (by omega)).1 (by rintro ⟨q1, q2, q3⟩; first | omega | contradiction), hC, hW, hD, hP, hS⟩ ls (lv_sub hl [2, 3, 4, 0] rfl)
          · have dd_c_19 := of_decide_eq_true c_19
            have hyes := (hstep (by omega) (by omega)).2 ⟨by omega, by omega, by assumption⟩
            have hkw : kd (gt (L (F 2 h)) i) = 2 := hW.el hk2 (by omega)
            have hkl : kd (F 1 (gt (L (F 2 h)) i)) = 7 := hW.ref hkw rfl (by decide)
            refine lv_aload hx hb dX8_lapseAwards_74 (lv_at hl 0 rfl) ?_
            refine lv_iconst (v := nI 1) hx hb dX8_lapseAwards_76 (by decide) ?_
            have hC9 := hC.put (f := 6) (v := 1) (x := .inr (2, [.int (nI (F 0 (gt (L (F 2 h)) i))), .ref (F 1 (gt (L (F 2 h)) i)), .ref (F 2 (gt (L (F 2 h)) i)), .int (nI (F 3 (gt (L (F 2 h)) i))), .int (nI (F 4 (gt (L (F 2 h)) i))), .int (nI (F 5 (gt (L (F 2 h)) i))), .int (nI 1)])) hD hk_11 (by decide) (by decide) (by simp [ent, up2])
            have hW9 := hW.put (f := 6) (v := 1) hk_11 (Or.inr (by show 1 < 2; omega)) (Or.inl rfl)
            refine c_put (C := RX0) (T := TX0) (N := 7) (v := .int (nI 1)) (ty := .boolean) (fs2 := [.int (nI (F 0 (gt (L (F 2 h)) i))), .ref (F 1 (gt (L (F 2 h)) i)), .ref (F 2 (gt (L (F 2 h)) i)), .int (nI (F 3 (gt (L (F 2 h)) i))), .int (nI (F 4 (gt (L (F 2 h)) i))), .int (nI (F 5 (gt (L (F 2 h)) i))), .int (nI 1)]) hx hb hts hin_X0 tyX0 tyX0_ok nmX0 hown hK hP hD hS hm_12 rfl 6 (by decide) l_248 (fun _ h9 => h9) rfl (by decide +kernel) rfl rfl (Nat.le_of_ble_eq_true rfl) rfl dX8_lapseAwards_77 (fun H locs hP hD hS => ?_)
            replace hC := hC9
            replace hW := hW9
            clear hC9 hW9
            refine lv_aload_n hx hb dX8_lapseAwards_80 rfl (lv_at hl 1 rfl) ?_
            refine lv_aload hx hb dX8_lapseAwards_81 (lv_at hl 0 rfl) ?_
            have hC0 := hC
            refine va_new (ci := 4) (fs := [.int (nI 0), .int (nI 0), .int (nI 0)]) hx hb hts hin_X2 tyX2 tyX2_ok hown (hts (.classLink RX8 273 RX2) (List.mem_of_getElem? (i := 7) rfl)) (hts (.instantiable RX2 3) (List.mem_of_getElem? (i := 8) rfl)) (hts (.initialized RX2) (List.mem_of_getElem? (i := 9) rfl)) hK hP hD hS hA rfl (fun j9 h9 => by rcases j9 with _ | _ | _ | j9 <;> first | rfl | omega) (by show _ ≤ 4 * N; omega) (by show _ ≤ 202 * N; omega) dX8_lapseAwards_83 (fun q H hP hD hS => ?_)
            have hq0 := hC0.fresh hD
            have hC := hC0.app (ws2 := [(q, .inr (4, [.int (nI 0), .int (nI 0), .int (nI 0)]))])
            have hq1 : (q, .inr (4, [.int (nI 0), .int (nI 0), .int (nI 0)])) ∈ (wup ws (gt (L (F 2 h)) i) (.inr (2, [.int (nI (F 0 (gt (L (F 2 h)) i))), .ref (F 1 (gt (L (F 2 h)) i)), .ref (F 2 (gt (L (F 2 h)) i)), .int (nI (F 3 (gt (L (F 2 h)) i))), .int (nI (F 4 (gt (L (F 2 h)) i))), .int (nI (F 5 (gt (L (F 2 h)) i))), .int (nI 1)])) ++ [(q, .inr (4, [.int (nI 0), .int (nI 0), .int (nI 0)]))]) := List.mem_append_right _ (List.mem_singleton.mpr rfl)
            refine lv_dup hx hb dX8_lapseAwards_86 rfl ?_
            refine lv_iconst (v := nI 0) hx hb dX8_lapseAwards_87 (by decide) ?_
            refine lv_aload hx hb dX8_lapseAwards_88 (lv_at hl 0 rfl) ?_
            have hm_20 : (gt (L (F 2 h)) i, .inr (2, [.int (nI (F 0 (gt (L (F 2 h)) i))), .ref (F 1 (gt (L (F 2 h)) i)), .ref (F 2 (gt (L (F 2 h)) i)), .int (nI (F 3 (gt (L (F 2 h)) i))), .int (nI (F 4 (gt (L (F 2 h)) i))), .int (nI (F 5 (gt (L (F 2 h)) i))), .int (nI ((up2 F 6 (gt (L (F 2 h)) i) 1) 6 (gt (L (F 2 h)) i)))])) ∈ (wup ws (gt (L (F 2 h)) i) (.inr (2, [.int (nI (F 0 (gt (L (F 2 h)) i))), .ref (F 1 (gt (L (F 2 h)) i)), .ref (F 2 (gt (L (F 2 h)) i)), .int (nI (F 3 (gt (L (F 2 h)) i))), .int (nI (F 4 (gt (L (F 2 h)) i))), .int (nI (F 5 (gt (L (F 2 h)) i))), .int (nI 1)])) ++ [(q, .inr (4, [.int (nI 0), .int (nI 0), .int (nI 0)]))]) := hC.at hk_11 (by decide) (by decide)
            refine c_get (C := RX0) (T := TX0) (N := 7) hx hb hts hin_X0 hown hK hP hm_20 rfl 2 (by decide) l_152 (fun _ h9 => h9) rfl dX8_lapseAwards_90 ?_
            have hk_21 : kd (F 2 (gt (L (F 2 h)) i)) = 3 := hW.ref (f := 2) hk_11 rfl (by decide)
            have hm_22 : (F 2 (gt (L (F 2 h)) i), .inr (3, [.int (nI (F 0 (F 2 (gt (L (F 2 h)) i)))), .int (nI (F 1 (F 2 (gt (L (F 2 h)) i)))), .int (nI (F 2 (F 2 (gt (L (F 2 h)) i)))), .int (nI (F 3 (F 2 (gt (L (F 2 h)) i)))), .ref (st (F 4 (F 2 (gt (L (F 2 h)) i)))), .ref (st (F 5 (F 2 (gt (L (F 2 h)) i))))])) ∈ (wup ws (gt (L (F 2 h)) i) (.inr (2, [.int (nI (F 0 (gt (L (F 2 h)) i))), .ref (F 1 (gt (L (F 2 h)) i)), .ref (F 2 (gt (L (F 2 h)) i)), .int (nI (F 3 (gt (L (F 2 h)) i))), .int (nI (F 4 (gt (L (F 2 h)) i))), .int (nI (F 5 (gt (L (F 2 h)) i))), .int (nI 1)])) ++ [(q, .inr (4, [.int (nI 0), .int (nI 0), .int (nI 0)]))]) := hC.at hk_21 (by decide) (by decide)
            refine c_get (C := RX1) (T := TX1) (N := 6) hx hb hts hin_X1 hown hK hP hm_22 rfl 0 (by decide) l_156 (fun _ h9 => h9) rfl dX8_lapseAwards_93 ?_
            have hn_23 : F 0 (F 2 (gt (L (F 2 h)) i)) < 8 := hW.num (f := 0) hk_21 rfl (by decide)
            refine lv_iconst (v := nI 0) hx hb dX8_lapseAwards_96 (by decide) ?_
            refine va_callv (va_runI (As := [.int (nI 0), .int (nI (F 0 (F 2 (gt (L (F 2 h)) i)))), .int (nI 0)]) (rest := [.ref q, .ref (gt (L (F 2 h)) i), .ref h]) ⟨hx, hb, hml, hown, hts⟩ (ci_X2 l D cI cO cb eA mi st (wup ws (gt (L (F 2 h)) i) (.inr (2, [.int (nI (F 0 (gt (L (F 2 h)) i))), .ref (F 1 (gt (L (F 2 h)) i)), .ref (F 2 (gt (L (F 2 h)) i)), .int (nI (F 3 (gt (L (F 2 h)) i))), .int (nI (F 4 (gt (L (F 2 h)) i))), .int (nI (F 5 (gt (L (F 2 h)) i))), .int (nI 1)])) ++ [(q, .inr (4, [.int (nI 0), .int (nI 0), .int (nI 0)]))]) hD q hq1 0 (F 0 (F 2 (gt (L (F 2 h)) i))) 0) (cwI 3 hts ggX8_lapseAwards_X2_init rfl rfl rfl (hts (.initialized RX2) (List.mem_of_getElem? (i := 9) rfl)) (hts (.methodLink RX8 275 yX2_init) (List.mem_of_getElem? (i := 49) rfl)) (hts (.instanceMethod yX2_init) (List.mem_of_getElem? (i := 50) rfl)) rfl kd_X2_init ⟨Nat.le_of_ble_eq_true rfl, Nat.le_of_ble_eq_true rfl⟩) ⟨cB_blind, cB_pre hK hG hA hS hP _⟩ rfl rfl hl.1 rfl (lv_room (Nat.le_of_ble_eq_true rfl)) dX8_lapseAwards_97 ⟨by show _ ≤ 4 * N; omega, by show _ ≤ 202 * N; omega⟩) hS (fun _ _ h => h) (fun _ h => h) (fun u U8 H1 locs1 ht hvm hu hB hz1 hk1 hS1 => ?_)
            obtain ⟨hD1, hB⟩ := hB
            rw [ht] at hB
            clear hS
            have hS := hS1
            replace hP := hB
            replace hD := hD1
            generalize H1 = H at hP hS ⊢
            rw [wup_app hD] at hP hD
            have hC := hC0.new (k := 4) (vals := [0, F 0 (F 2 (gt (L (F 2 h)) i)), 0]) hD (by decide) (by simp [ent, FN])
            have hr9 : ∀ f9, rg 4 f9 = 0 ∨ ([0, F 0 (F 2 (gt (L (F 2 h)) i)), 0] : List Nat).getD f9 0 < rg 4 f9 := by
              intro f9
              rcases f9 with _ | _ | _ | f9
              · exact Or.inr (show 0 < 3 by omega)
              · exact Or.inr (show F 0 (F 2 (gt (L (F 2 h)) i)) < 8 by omega)
              · exact Or.inr (show 0 < 101 by omega)
              · exact Or.inl rfl
            have hr8 : ∀ f9, rk 4 f9 = 0 ∨ kd (([0, F 0 (F 2 (gt (L (F 2 h)) i)), 0] : List Nat).getD f9 0) = rk 4 f9 := by
              intro f9
              rcases f9 with _ | _ | _ | f9
              · exact Or.inl rfl
              · exact Or.inl rfl
              · exact Or.inl rfl
              · exact Or.inl rfl
            have hW := hW.new (k := 4) hq0 (by decide) hr9 hr8
            have hm_24 : (h, .inr (9, [.ref ((FN (up2 F 6 (gt (L (F 2 h)) i) 1) q [0, F 0 (F 2 (gt (L (F 2 h)) i)), 0]) 0 h), .ref ((FN (up2 F 6 (gt (L (F 2 h)) i) 1) q [0, F 0 (F 2 (gt (L (F 2 h)) i)), 0]) 1 h), .ref ((FN (up2 F 6 (gt (L (F 2 h)) i) 1) q [0, F 0 (F 2 (gt (L (F 2 h)) i)), 0]) 2 h), .ref ((FN (up2 F 6 (gt (L (F 2 h)) i) 1) q [0, F 0 (F 2 (gt (L (F 2 h)) i)), 0]) 3 h), .ref ((FN (up2 F 6 (gt (L (F 2 h)) i) 1) q [0, F 0 (F 2 (gt (L (F 2 h)) i)), 0]) 4 h), .int (nI ((FN (up2 F 6 (gt (L (F 2 h)) i) 1) q [0, F 0 (F 2 (gt (L (F 2 h)) i)), 0]) 5 h))])) ∈ wup ws (gt (L (F 2 h)) i) (.inr (2, [.int (nI (F 0 (gt (L (F 2 h)) i))), .ref (F 1 (gt (L (F 2 h)) i)), .ref (F 2 (gt (L (F 2 h)) i)), .int (nI (F 3 (gt (L (F 2 h)) i))), .int (nI (F 4 (gt (L (F 2 h)) i))), .int (nI (F 5 (gt (L (F 2 h)) i))), .int (nI 1)])) ++ [(q, .inr (4, [.int (nI 0), .int (nI (F 0 (F 2 (gt (L (F 2 h)) i)))), .int (nI 0)]))] := hC.at (kdN_old hq0 hk_h (by decide)) (by decide) (by decide)
            refine va_calli (va_runV (As := [.ref (gt (L (F 2 h)) i), .ref q]) (rest := []) ⟨hx, hb, hml, hown, hts⟩ (cv_sendBack l D cI cO cb eA mi st (wup ws (gt (L (F 2 h)) i) (.inr (2, [.int (nI (F 0 (gt (L (F 2 h)) i))), .ref (F 1 (gt (L (F 2 h)) i)), .ref (F 2 (gt (L (F 2 h)) i)), .int (nI (F 3 (gt (L (F 2 h)) i))), .int (nI (F 4 (gt (L (F 2 h)) i))), .int (nI (F 5 (gt (L (F 2 h)) i))), .int (nI 1)])) ++ [(q, .inr (4, [.int (nI 0), .int (nI (F 0 (F 2 (gt (L (F 2 h)) i)))), .int (nI 0)]))]) hD hC hW hs h (kdN_old hq0 hk_h (by decide)) (gt (L (F 2 h)) i) (kdN_old hq0 hk_11 (by decide)) q kdN_eq (by rw [FN_ne (ne_q hq0 hk_h (by decide))]; show (L (F 2 h)).length < 60; omega) (by rw [FN_ne (ne_q hq0 hkw (by decide)), show up2 F 6 (gt (L (F 2 h)) i) 1 1 (gt (L (F 2 h)) i) = F 1 (gt (L (F 2 h)) i) from rfl, FN_ne (ne_q hq0 hkl (by decide))]; exact hyes.2.1)) (cwV 2 hts gX8_lapseAwards_X8_sendBack rfl rfl rfl kd_X8_sendBack ⟨Nat.le_of_ble_eq_true rfl, Nat.le_of_ble_eq_true rfl⟩) ⟨cB_blind, c_recv hK hP rfl hm_24, cB_pre hK hG hA hS hP _⟩ rfl rfl hl.1 rfl (lv_room (Nat.le_of_ble_eq_true rfl)) dX8_lapseAwards_100 ⟨by show _ ≤ 4 * N; omega, by show _ ≤ 202 * N; omega⟩) hS (fun _ _ h => h) (fun _ h => h) (fun ri u U8 H1 locs1 ht hvm hu hB hz1 hk1 hS1 => ?_)
            rw [ht] at hB
            clear hS
            have hS := hS1
            replace hP := hB
            generalize H1 = H at hP hS ⊢
            refine lv_pop hx hb dX8_lapseAwards_103 rfl ?_
            refine n_iinc (k := 2) (lv' := [(1, .int (nI (n + 1))), (4, .ref (gt (L (F 2 h)) i)), (0, .ref h), (2, .int (nI E)), (3, .int (nI i))]) hx hb dX8_lapseAwards_104 hl rfl (by decide) rfl (fun ls hl => ?_)
            refine n_iinc (k := 4) (lv' := [(3, .int (nI (i + 1))), (1, .int (nI (n + 1))), (4, .ref (gt (L (F 2 h)) i)), (0, .ref h), (2, .int (nI E))]) hx hb dX8_lapseAwards_107 hl rfl (by decide) rfl (fun ls hl => ?_)
            refine lv_goto (tgt := 12) hx hb dX8_lapseAwards_110 (by decide) ?_
            obtain ⟨own9, kd9, F9, L9, hC9, hW9, hD9, hB9⟩ := SBr_of hu
            refine W.widen (k := 4 * (n + 1)) (n := 202 * (n + 1)) (by omega) (by omega) ?_
            exact ih9 (by omega) (n + 1, u.1, own9, kd9, F9, L9) _ _ ⟨hyes.2.2 q _ _ _ _ hq0 hW9 hB9, hC9, hW9, hD9, hP, hS⟩ ls (lv_sub hl [3, 1, 4, 0] rfl)
set_option maxHeartbeats 4000000 in
set_option maxRecDepth 100000 in
theorem cm_pass (l : Launch) (hst : l.stackTraces = false) (D : va_G) (cI cO cb : ClassId) (eA mi : Nat) (st : Nat → Nat) {A : Nat → Prop} (ws : va_W) (hD : va_D A ws) {own kd : Nat → Nat} {F : Nat → Nat → Nat} {L : Nat → List Nat} (hC : CW cI cO eA st own kd F L ws) (hW : WF kd F L) (hs : sInj st)  (h : Nat) (hk_h : kd h = 9) (dd : Int32) (Nc : Nat → Nat) (hN0 : Nc 0 = 0) (hN9 : ∀ k, Nc k ≤ 100000) (I2 : Nat → Nat → (Nat → Nat) → (Nat → Nat → Nat) → (Nat → List Nat) → Prop) (hDy : ks (kArg dd (nI 1) (nI 100)) (if F 5 h + dd.toNatClampNeg ≤ 2000 then 0 else 3) = 0 → DyI h dd.toNatClampNeg Nc I2) (hI0 : I2 0 0 kd F L) : vx_Met l yX8_pass wsX8_pass ({ frames := 10, cells := (4 * Nc dd.toNatClampNeg + 1), slots := (202 * Nc dd.toNatClampNeg + 6), locals := 260 }) (va_Pc [.ref h, .int dd] (cB D cI cO cb eA mi st A ws)) (va_Qi (fun (ri : Int32) (u : va_W) => ks (kArg dd (nI 1) (nI 100)) (if F 5 h + dd.toNatClampNeg ≤ 2000 then 0 else 3) = 0 ∧ ∃ n own kd F L, ri = nI n ∧ I2 dd.toNatClampNeg n kd F L ∧ CW cI cO eA st own kd F L u ∧ WF kd F L ∧ va_D A u) (fun u U9 => va_P D vwCl u U9.heap) A) (XK D ws A (ks (kArg dd (nI 1) (nI 100)) (if F 5 h + dd.toNatClampNeg ≤ 2000 then 0 else 3))) (4 * Nc dd.toNatClampNeg + 1) (202 * Nc dd.toNatClampNeg + 6) A := by
  refine vx_ofW (cc := cX8_pass) (maxL := 4) (ret := (some .int)) (by decide) rfl ?_
  intro p e s m args below meth c s₁ B hml htab hv
  obtain ⟨rfl, hP, hK, hG, hA⟩ := hv
  have hx := B.exec
  have hb := B.bytes
  have hr := B.returns
  have hts := atoms_spec (ws := wsX8_pass) B.pre
  have hown : s.vm.findClass RX8 = some m.cls := findClass_of_methodNamed B.named
  have hlocks := B.notSynchronized
  have hin_X8 : ∀ w ∈ wsX80, w ∈ wsX8_pass := fun w h => List.mem_cons_of_mem _ (List.mem_append_left _ (List.mem_append_left _ (List.mem_append_left _ (List.mem_append_left _ (List.mem_append_left _ (List.mem_append_left _ (List.mem_append_left _ (List.mem_append_left _ (List.mem_append_left _ (List.mem_append_right _ h))))))))))
  have l_29 := (hts (.fieldLink RX8 29 "TenderHall" "day" "I") (List.mem_of_getElem? (i := 5) rfl))
  have hS : va_S A s.heap s.heap [] := va_S.rf
  have hD0 := hD
  have hl := lv_entry ([.ref h, .int dd]) (n := 4) (Nat.le_of_ble_eq_true rfl)
  rw [lg_entry_eq]
  generalize (lg_sl ([.ref h, .int dd]) ++ List.replicate (4 - (lg_sl ([.ref h, .int dd])).length) Slot.unset).toArray = ls at hl ⊢
  have hl : lv_has ls 4 [(0, .ref h), (1, .int dd)] := hl
  refine lv_iload_n hx hb dX8_pass_0 rfl (lv_at hl 1 rfl) ?_
  refine lv_iconst (v := nI 1) hx hb dX8_pass_1 (by decide) ?_
  refine lv_bipush (v := nI 100) hx hb dX8_pass_2 (by decide) ?_
  refine vp_callSi (W.runS (As := [.int dd, .int (nI 1), .int (nI 100)]) (rest := []) ⟨hx, hb, hml, hown, hts⟩ (ck_isOutside l dd (nI 1) (nI 100)) (va_cwS 3 hts gX8_pass_X8_isOutside rfl rfl rfl kd_X8_isOutside ⟨Nat.le_of_ble_eq_true rfl, Nat.le_of_ble_eq_true rfl⟩) ⟨fun _ _ _ _ q => q, fun U hU hW => ⟨rfl, trivial⟩⟩ rfl rfl hl.1 rfl (lv_room (Nat.le_of_ble_eq_true rfl)) dX8_pass_4 ⟨by show _ ≤ 4 * _ + 1; omega, by show _ ≤ 202 * _ + 6; omega⟩) (fun r_1 hr_1 => ?_)
  subst hr_1
  refine b_if_eq (tgt := 18) hx hb dX8_pass_7 (by decide)  (fun c_2 => ?_) (fun c_2 => ?_)
  · have dd_c_2 := of_decide_eq_false c_2
    obtain ⟨x, hlo_x, hhi_x, rfl⟩ := out_nat (by decide) (by decide) dd_c_2
    have hcl_x : (nI x).toNatClampNeg = x := nI_clamp (by omega)
    rw [hcl_x]
    rw [hcl_x] at hDy
    refine lv_aload_n hx hb dX8_pass_18 rfl (lv_at hl 0 rfl) ?_
    have hm_3 : (h, .inr (9, [.ref (F 0 h), .ref (F 1 h), .ref (F 2 h), .ref (F 3 h), .ref (F 4 h), .int (nI (F 5 h))])) ∈ ws := hC.at hk_h (by decide) (by decide)
    refine c_get (C := RX8) (T := TX8) (N := 6) hx hb hts hin_X8 hown hK hP hm_3 rfl 5 (by decide) l_29 (fun _ h9 => h9) rfl dX8_pass_19 ?_
    have hn_4 : F 5 h < 2001 := hW.num (f := 5) hk_h rfl (by decide)
    refine lv_iload_n hx hb dX8_pass_22 rfl (lv_at hl 1 rfl) ?_
    refine n_iadd hx hb dX8_pass_23 (z := (F 5 h) + x) rfl ?_
    refine lv_sipush (v := nI 2000) hx hb dX8_pass_24 (by decide) ?_
    refine n_icmp_le (tgt := 38) hx hb dX8_pass_27 (by decide) (by omega) (by decide) (fun c_5 => ?_) (fun c_5 => ?_)
    · have hk9 : ks (kArg (nI x) (nI 1) (nI 100)) (if F 5 h + x ≤ 2000 then 0 else 3) = 0 := by exact (ks_r (if_neg dd_c_2)).trans (if_pos (by omega))
      replace hDy := hDy hk9
      refine lv_iconst (v := nI 0) hx hb dX8_pass_38 (by decide) ?_
      refine lv_istore_n (lv' := [(2, .int (nI 0)), (0, .ref h), (1, .int (nI x))]) hx hb dX8_pass_39 rfl hl (by decide) rfl (fun ls hl => ?_)
      refine lv_iconst (v := nI 0) hx hb dX8_pass_40 (by decide) ?_
      refine W.widen (k := 4 * Nc 0) (n := 202 * Nc 0) (by omega) (by omega) ?_
      refine lv_istore_n (lv' := [(3, .int (nI 0)), (2, .int (nI 0)), (0, .ref h), (1, .int (nI x))]) hx hb dX8_pass_41 rfl hl (by decide) rfl (fun ls hl => ?_)
      refine w_loopX (σ := CSt) (n := x) (nL := 4) (fun k x9 => [(0, .ref h), (1, .int (nI x)), (2, .int (nI x9.1)), (3, .int (nI k))]) (fun k x9 H locs => I2 k x9.1 x9.2.2.2.1 x9.2.2.2.2.1 x9.2.2.2.2.2 ∧ CW cI cO eA st x9.2.2.1 x9.2.2.2.1 x9.2.2.2.2.1 x9.2.2.2.2.2 x9.2.1 ∧ WF x9.2.2.2.1 x9.2.2.2.2.1 x9.2.2.2.2.2 ∧ va_D A x9.2.1 ∧ va_P D vwCl x9.2.1 H ∧ va_S A s.heap H locs) (fun k => 4 * Nc k) (fun k => 202 * Nc k) (fun k hb9 x9 H locs hJ9 ih9 ls hl => ?_) 0 (Nat.zero_le _) (0, ws, own, kd, F, L) _ _ ⟨hI0, hC, hW, hD, hP, hS⟩ ls (lv_sub hl [2, 3, 1, 0] rfl)
      clear hC hW hD hP hS
      clear hk_h hI0
      obtain ⟨n, ws, own, kd, F, L⟩ := x9
      obtain ⟨hI, hC, hW, hD, hP, hS⟩ := hJ9
      replace hC : CW cI cO eA st own kd F L ws := hC
      replace hW : WF kd F L := hW
      replace hD : va_D A ws := hD
      replace hP : va_P D vwCl ws H := hP
      replace hI : I2 k n kd F L := hI
      show W _ _ _ _ _ _ _ _ _ _ _ _ (4 * Nc k) (202 * Nc k) _ _
      replace hl : lv_has ls 4 [(0, .ref h), (1, .int (nI x)), (2, .int (nI n)), (3, .int (nI k))] := hl
      obtain ⟨hk_h, hNx, hstep⟩ := hDy k n kd F L hb9 hI hW
      refine lv_iload_n hx hb dX8_pass_42 rfl (lv_at hl 3 rfl) ?_
      refine lv_iload_n hx hb dX8_pass_43 rfl (lv_at hl 1 rfl) ?_
      refine n_icmp_ge (tgt := 74) hx hb dX8_pass_44 (by decide) (by omega) (by omega) (fun c_6 => ?_) (fun c_6 => ?_)
      · refine lv_iload_n hx hb dX8_pass_74 rfl (lv_at hl 2 rfl) ?_
        refine W.widen (k := 4 * Nc x + 1) (n := 202 * Nc x + 6) (by omega) (by omega) ?_
        refine vx_ret ?_
        have hkx : k = x := by omega
        rw [hkx] at hI
        exact W.iret (v := nI n) hx hb hr (fun U9 ht hW9 => ⟨⟨_, ws, rfl, ⟨hk9, n, own, kd, F, L, rfl, hI, hC, hW, hD⟩, by show va_P D vwCl _ U9.heap; rw [ht]; exact hP⟩, hS.F ht⟩) hS.2.2 dX8_pass_75
      · obtain ⟨hd2000, hn1, hn2, I9, hLp9, hI9, hfin9⟩ := hstep (by omega)
        have hn9 := hN9 (k + 1)
        refine lv_aload_n hx hb dX8_pass_47 rfl (lv_at hl 0 rfl) ?_
        refine lv_dup hx hb dX8_pass_48 rfl ?_
        have hm_7 : (h, .inr (9, [.ref (F 0 h), .ref (F 1 h), .ref (F 2 h), .ref (F 3 h), .ref (F 4 h), .int (nI (F 5 h))])) ∈ ws := hC.at hk_h (by decide) (by decide)
        refine c_get (C := RX8) (T := TX8) (N := 6) hx hb hts hin_X8 hown hK hP hm_7 rfl 5 (by decide) l_29 (fun _ h9 => h9) rfl dX8_pass_49 ?_
        have hn_8 : F 5 h < 2001 := hW.num (f := 5) hk_h rfl (by decide)
        refine lv_iconst (v := nI 1) hx hb dX8_pass_52 (by decide) ?_
        refine n_iadd hx hb dX8_pass_53 (z := (F 5 h) + 1) rfl ?_
        have hC9 := hC.put (f := 5) (v := (F 5 h) + 1) (x := .inr (9, [.ref (F 0 h), .ref (F 1 h), .ref (F 2 h), .ref (F 3 h), .ref (F 4 h), .int (nI ((F 5 h) + 1))])) hD hk_h (by decide) (by decide) (by simp [ent, up2])
        have hW9 := hW.put (f := 5) (v := (F 5 h) + 1) hk_h (Or.inr (by show (F 5 h) + 1 < 2001; omega)) (Or.inl rfl)
        refine c_put (C := RX8) (T := TX8) (N := 6) (v := .int (nI ((F 5 h) + 1))) (ty := .int) (fs2 := [.ref (F 0 h), .ref (F 1 h), .ref (F 2 h), .ref (F 3 h), .ref (F 4 h), .int (nI ((F 5 h) + 1))]) hx hb hts hin_X8 tyX8 tyX8_ok nmX8 hown hK hP hD hS hm_7 rfl 5 (by decide) l_29 (fun _ h9 => h9) rfl (by decide +kernel) rfl rfl (Nat.le_of_ble_eq_true rfl) rfl dX8_pass_54 (fun H locs hP hD hS => ?_)
        replace hC := hC9
        replace hW := hW9
        clear hC9 hW9
        refine lv_aload_n hx hb dX8_pass_57 rfl (lv_at hl 0 rfl) ?_
        have hm_10 : (h, .inr (9, [.ref (F 0 h), .ref (F 1 h), .ref (F 2 h), .ref (F 3 h), .ref (F 4 h), .int (nI ((up2 F 5 h ((F 5 h) + 1)) 5 h))])) ∈ wup ws h (.inr (9, [.ref (F 0 h), .ref (F 1 h), .ref (F 2 h), .ref (F 3 h), .ref (F 4 h), .int (nI ((F 5 h) + 1))])) := hC.at hk_h (by decide) (by decide)
        refine va_callv (va_runV (As := []) (rest := []) ⟨hx, hb, hml, hown, hts⟩ (cv_openTenders l D cI cO cb eA mi st (wup ws h (.inr (9, [.ref (F 0 h), .ref (F 1 h), .ref (F 2 h), .ref (F 3 h), .ref (F 4 h), .int (nI ((F 5 h) + 1))]))) hD hC hW hs h hk_h) (cwV 0 hts gX8_pass_X8_openTenders rfl rfl rfl kd_X8_openTenders ⟨Nat.le_of_ble_eq_true rfl, Nat.le_of_ble_eq_true rfl⟩) ⟨cB_blind, c_recv hK hP rfl hm_10, cB_pre hK hG hA hS hP _⟩ rfl rfl hl.1 rfl (lv_room (Nat.le_of_ble_eq_true rfl)) dX8_pass_58 ⟨by show _ ≤ 4 * _ + 1; omega, by show _ ≤ 202 * _ + 6; omega⟩) hS (fun _ _ h => h) (fun _ h => h) (fun uw_9 U8 H1 locs1 ht hvm hu hB hz1 hk1 hS1 => ?_)
        obtain ⟨hC, hW, hD⟩ := hu
        rw [ht] at hB
        clear hS
        have hS := hS1
        replace hP := hB
        generalize H1 = H at hP hS ⊢
        refine lv_iload_n hx hb dX8_pass_61 rfl (lv_at hl 2 rfl) ?_
        refine lv_aload_n hx hb dX8_pass_62 rfl (lv_at hl 0 rfl) ?_
        have hm_11 : (h, .inr (9, [.ref ((kOpT (up2 F 5 h ((F 5 h) + 1)) L h (L ((up2 F 5 h ((F 5 h) + 1)) 1 h)) (L ((up2 F 5 h ((F 5 h) + 1)) 1 h)).length) 0 h), .ref ((kOpT (up2 F 5 h ((F 5 h) + 1)) L h (L ((up2 F 5 h ((F 5 h) + 1)) 1 h)) (L ((up2 F 5 h ((F 5 h) + 1)) 1 h)).length) 1 h), .ref ((kOpT (up2 F 5 h ((F 5 h) + 1)) L h (L ((up2 F 5 h ((F 5 h) + 1)) 1 h)) (L ((up2 F 5 h ((F 5 h) + 1)) 1 h)).length) 2 h), .ref ((kOpT (up2 F 5 h ((F 5 h) + 1)) L h (L ((up2 F 5 h ((F 5 h) + 1)) 1 h)) (L ((up2 F 5 h ((F 5 h) + 1)) 1 h)).length) 3 h), .ref ((kOpT (up2 F 5 h ((F 5 h) + 1)) L h (L ((up2 F 5 h ((F 5 h) + 1)) 1 h)) (L ((up2 F 5 h ((F 5 h) + 1)) 1 h)).length) 4 h), .int (nI ((kOpT (up2 F 5 h ((F 5 h) + 1)) L h (L ((up2 F 5 h ((F 5 h) + 1)) 1 h)) (L ((up2 F 5 h ((F 5 h) + 1)) 1 h)).length) 5 h))])) ∈ uw_9 := hC.at hk_h (by decide) (by decide)
        refine va_calli (va_runV (As := []) (rest := [.int (nI n)]) ⟨hx, hb, hml, hown, hts⟩ (cv_lapseAwards l D cI cO cb eA mi st uw_9 hD hC hW hs h hk_h (Nc (k + 1) - Nc k) (by omega) (L (F 2 h)).length (by rw [kOpT_nf (by decide) (by decide)]; rfl) I9 hLp9 hI9) (cwV 0 hts gX8_pass_X8_lapseAwards rfl rfl rfl kd_X8_lapseAwards ⟨Nat.le_of_ble_eq_true rfl, Nat.le_of_ble_eq_true rfl⟩) ⟨cB_blind, c_recv hK hP rfl hm_11, cB_pre hK hG hA hS hP _⟩ rfl rfl hl.1 rfl (lv_room (Nat.le_of_ble_eq_true rfl)) dX8_pass_63 ⟨by show _ ≤ 4 * _ + 1; omega, by show _ ≤ 202 * _ + 6; omega⟩) hS (fun _ _ h => h) (fun _ h => h) (fun ri u U8 H1 locs1 ht hvm hu hB hz1 hk1 hS1 => ?_)
        obtain ⟨i2, n2, own2, kd2, F2, L2, hi2, hi60, hri, hI2, hC2, hW2, hD2⟩ := hu
        subst hri
        rw [ht] at hB
        clear hS
        have hS := hS1
        replace hP := hB
        generalize H1 = H at hP hS ⊢
        refine n_iadd hx hb dX8_pass_66 (z := n + n2) rfl ?_
        refine lv_istore_n (lv' := [(2, .int (nI (n + n2))), (0, .ref h), (1, .int (nI x)), (3, .int (nI k))]) hx hb dX8_pass_67 rfl hl (by decide) rfl (fun ls hl => ?_)
        refine n_iinc (k := 3) (lv' := [(3, .int (nI (k + 1))), (2, .int (nI (n + n2))), (0, .ref h), (1, .int (nI x))]) hx hb dX8_pass_68 hl rfl (by decide) rfl (fun ls hl => ?_)
        refine lv_goto (tgt := 42) hx hb dX8_pass_71 (by decide) ?_
        refine W.widen (k := 4 * Nc (k + 1)) (n := 202 * Nc (k + 1)) (by omega) (by omega) ?_
        exact ih9 (by omega) (n + n2, u, own2, kd2, F2, L2) _ _ ⟨hfin9 i2 n2 kd2 F2 L2 hi2 hi60 hI2 hW2, hC2, hW2, hD2, hP, hS⟩ ls (lv_sub hl [2, 3, 1, 0] rfl)
    · have hkx : ks (kArg (nI x) (nI 1) (nI 100)) (if F 5 h + x ≤ 2000 then 0 else 3) = 3 := by exact (ks_r (if_neg dd_c_2)).trans (if_neg (by omega))
      exact vx_throw0 (A := A) (own := RX8) (cls := "java/lang/IllegalStateException") (names := ["java/lang/RuntimeException", "java/lang/Exception"]) (ik := 44) (ic := 46) hx hb hst hown (by decide +kernel) (by decide +kernel) (hts (.classLink RX8 44 "java/lang/IllegalStateException") (List.mem_of_getElem? (i := 3) rfl)) (hts (.initialized "java/lang/IllegalStateException") (List.mem_of_getElem? (i := 4) rfl)) (vx_hat (L := vx_at0 RX8 46 "java/lang/IllegalStateException" ["java/lang/RuntimeException", "java/lang/Exception"]) (fun w9 h9 => hts w9 (List.mem_cons_of_mem _ (List.mem_append_right _ h9))) gB3 (gB_of (by decide +kernel) hG.2.2.2.2.2.2.1)) (by decide +kernel) hG.1 hG.2.1 hS (hl.1.trans hml.symm) dX8_pass_30 dX8_pass_33 dX8_pass_34 dX8_pass_37 (fun z9 h9 => (htab z9 h9).elim) (Nat.lt_of_succ_le (Nat.le_of_ble_eq_true rfl)) (Nat.le_of_ble_eq_true rfl) (by show _ ≤ 4 * _ + 1; omega) (by show _ ≤ 202 * _ + 6; omega) hlocks (fun t9 _ g2 g3 => ⟨(), trivial, ⟨by rw [hkx]; rfl, by rw [hkx]; decide, (x_keep hS hP g2 g3).1⟩, (x_keep hS hP g2 g3).2⟩) hS.2.2 (by omega) (by omega)
  · have dd_c_2 := of_decide_eq_true c_2
    have hkx : ks (kArg dd (nI 1) (nI 100)) (if F 5 h + dd.toNatClampNeg ≤ 2000 then 0 else 3) = 2 := by exact (ks_l (by rw [kArg, if_pos dd_c_2]; decide)).trans (if_pos dd_c_2)
    exact vx_throw0 (A := A) (own := RX8) (cls := "java/lang/IllegalArgumentException") (names := ["java/lang/RuntimeException", "java/lang/Exception"]) (ik := 37) (ic := 39) hx hb hst hown (by decide +kernel) (by decide +kernel) (hts (.classLink RX8 37 "java/lang/IllegalArgumentException") (List.mem_of_getElem? (i := 1) rfl)) (hts (.initialized "java/lang/IllegalArgumentException") (List.mem_of_getElem? (i := 2) rfl)) (vx_hat (L := vx_at0 RX8 39 "java/lang/IllegalArgumentException" ["java/lang/RuntimeException", "java/lang/Exception"]) (fun w9 h9 => hts w9 (List.mem_cons_of_mem _ (List.mem_append_left _ (List.mem_append_right _ h9)))) gB2 (gB_of (by decide +kernel) hG.2.2.2.2.2.2.1)) (by decide +kernel) hG.1 hG.2.1 hS (hl.1.trans hml.symm) dX8_pass_10 dX8_pass_13 dX8_pass_14 dX8_pass_17 (fun z9 h9 => (htab z9 h9).elim) (Nat.lt_of_succ_le (Nat.le_of_ble_eq_true rfl)) (Nat.le_of_ble_eq_true rfl) (by show _ ≤ 4 * _ + 1; omega) (by show _ ≤ 202 * _ + 6; omega) hlocks (fun t9 _ g2 g3 => ⟨(), trivial, ⟨by rw [hkx]; rfl, by rw [hkx]; decide, (x_keep hS hP g2 g3).1⟩, (x_keep hS hP g2 g3).2⟩) hS.2.2 (by omega) (by omega)
