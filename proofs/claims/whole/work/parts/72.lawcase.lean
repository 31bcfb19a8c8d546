/-! the law: its cases -/
/-- what stays through the law -/
def LC (p : Program) (s : State) (m : MethodId) (args : Array Value) (c : Code) (b L : Nat) (xs : Nat → Int32) (D : va_G) (cI cO cb cZ cC cJ : ClassId) (eA mi : Nat) (st ad : Nat → Nat) (dO dT : Nat) (vF : Value) (oa : Nat) : Prop :=
  p.tables.exec = Jvm.exec ∧ c.code = cL_law ∧ c.maxLocals = 7 ∧ s.vm.findClass RL = some m.cls ∧ (∀ w ∈ wsL_law, w.before args s = true) ∧ va_X b L xs s s.heap ∧ b < s.heap.size ∧ va_K D vwCl (cty cI cO cb) s ∧ va_K D vwCl (mty cI cZ cC) s ∧ va_K D vwCl [(cJ, .long)] s ∧ gS eA mi st (fun q => s.heap.size ≤ q) s s.heap ∧ gT dO dT vF (fun q => s.heap.size ≤ q) s s.heap ∧ lNc s ∧ sInj st ∧ mDis (mA ad) ad ∧ (∀ q, mA ad q → s.heap.size ≤ q) ∧ s.heap.size ≤ oa ∧ ¬ mA ad oa
/-- what holds at the head after n calls -/
def LI (D : va_G) (cI cO : ClassId) (eA : Nat) (st : Nat → Nat) (cZ cC cJ : ClassId) (s : State) (ad : Nat → Nat) (h oa n : Nat) (M : MS) (ws : va_W) (th : Nat) (x : Int64) (H : Heap) (locs : List Loc) : Prop :=
  cSt cI cO eA st (lA s.heap.size ad oa) h M ws ∧ MI M ∧ m_LB M ∧ M 15 0 ≤ n ∧ va_P D vwCl ws H ∧ va_P D vwCl (mws ad cI cZ cC th M) H ∧ va_at D vwCl (oa, oE cJ x) H ∧ va_S (fun q => s.heap.size ≤ q) s.heap H locs
theorem fresh_lA {D : va_G} {cI cZ cC cJ : ClassId} {s : State} {ad : Nat → Nat} {oa th : Nat} {M : MS} {x : Int64} {H : Heap} {locs : List Loc} (hPm : va_P D vwCl (mws ad cI cZ cC th M) H) (ho : va_at D vwCl (oa, oE cJ x) H) (hS : va_S (fun q => s.heap.size ≤ q) s.heap H locs) : ∀ q : Nat, H.size ≤ q → lA s.heap.size ad oa q := fun q hq => by
  refine ⟨Nat.le_trans hS.1 hq, fun hm => ?_, fun e => ?_⟩
  · obtain ⟨k, y, h1, h2⟩ := hm
    have e : (mws ad cI cZ cC th M).map (·.1) = (mws ad 0 0 0 0 (fun _ _ => 0)).map (·.1) := rfl
    have h3 : ((mws ad cI cZ cC th M).map (·.1))[k]? = some y.1 := by rw [e, List.getElem?_map, h1]; rfl
    rw [List.getElem?_map] at h3
    rcases h4 : (mws ad cI cZ cC th M)[k]? with _ | z
    · rw [h4] at h3; cases h3
    · rw [h4] at h3
      have h5 : z.1 = y.1 := Option.some.inj h3
      have := (hPm k z h4).lt
      omega
  · have := ho.lt
    have h9 : oa < H.size := this
    omega
theorem cSt.sign {cI cO : ClassId} {eA : Nat} {st : Nat → Nat} {A : Nat → Prop} {h : Nat} {M : MS} {ws : va_W} (hc : cSt cI cO eA st A h M ws) (hM : MI M) : ∀ a, a < M 16 0 → M 21 a = 0 → M 29 0 < 60 := by
  obtain ⟨_, _, _, _, _, _, ⟨_, _, _, _, _, _, G⟩, _⟩ := hc
  exact fun a ha h21 => sign_room hM G.2.2.2.2.2.2.2.2.2.1 ha h21
theorem kd_L_addTender : yL_addTender.cls ≠ "java/lang/invoke/MethodHandle" ∧ yL_addTender.cls ≠ "java/lang/invoke/VarHandle" ∧ (parseMethodDescriptor yL_addTender.desc).map (fun d => d.parameters.length) = some 6 := by decide +kernel
theorem kd_L_addLot : yL_addLot.cls ≠ "java/lang/invoke/MethodHandle" ∧ yL_addLot.cls ≠ "java/lang/invoke/VarHandle" ∧ (parseMethodDescriptor yL_addLot.desc).map (fun d => d.parameters.length) = some 4 := by decide +kernel
theorem kd_L_paper : yL_paper.cls ≠ "java/lang/invoke/MethodHandle" ∧ yL_paper.cls ≠ "java/lang/invoke/VarHandle" ∧ (parseMethodDescriptor yL_paper.desc).map (fun d => d.parameters.length) = some 5 := by decide +kernel
theorem kd_L_bid : yL_bid.cls ≠ "java/lang/invoke/MethodHandle" ∧ yL_bid.cls ≠ "java/lang/invoke/VarHandle" ∧ (parseMethodDescriptor yL_bid.desc).map (fun d => d.parameters.length) = some 7 := by decide +kernel
theorem kd_L_withdraw : yL_withdraw.cls ≠ "java/lang/invoke/MethodHandle" ∧ yL_withdraw.cls ≠ "java/lang/invoke/VarHandle" ∧ (parseMethodDescriptor yL_withdraw.desc).map (fun d => d.parameters.length) = some 5 := by decide +kernel
theorem kd_L_pass : yL_pass.cls ≠ "java/lang/invoke/MethodHandle" ∧ yL_pass.cls ≠ "java/lang/invoke/VarHandle" ∧ (parseMethodDescriptor yL_pass.desc).map (fun d => d.parameters.length) = some 3 := by decide +kernel
theorem kd_L_isIn : yL_isIn.cls ≠ "java/lang/invoke/MethodHandle" ∧ yL_isIn.cls ≠ "java/lang/invoke/VarHandle" ∧ (parseMethodDescriptor yL_isIn.desc).map (fun d => d.parameters.length) = some 5 := by decide +kernel
theorem kd_L_score : yL_score.cls ≠ "java/lang/invoke/MethodHandle" ∧ yL_score.cls ≠ "java/lang/invoke/VarHandle" ∧ (parseMethodDescriptor yL_score.desc).map (fun d => d.parameters.length) = some 5 := by decide +kernel
theorem kd_L_ranked : yL_ranked.cls ≠ "java/lang/invoke/MethodHandle" ∧ yL_ranked.cls ≠ "java/lang/invoke/VarHandle" ∧ (parseMethodDescriptor yL_ranked.desc).map (fun d => d.parameters.length) = some 5 := by decide +kernel
theorem kd_L_award : yL_award.cls ≠ "java/lang/invoke/MethodHandle" ∧ yL_award.cls ≠ "java/lang/invoke/VarHandle" ∧ (parseMethodDescriptor yL_award.desc).map (fun d => d.parameters.length) = some 4 := by decide +kernel
theorem kd_L_awardOf : yL_awardOf.cls ≠ "java/lang/invoke/MethodHandle" ∧ yL_awardOf.cls ≠ "java/lang/invoke/VarHandle" ∧ (parseMethodDescriptor yL_awardOf.desc).map (fun d => d.parameters.length) = some 4 := by decide +kernel
theorem kd_L_winner : yL_winner.cls ≠ "java/lang/invoke/MethodHandle" ∧ yL_winner.cls ≠ "java/lang/invoke/VarHandle" ∧ (parseMethodDescriptor yL_winner.desc).map (fun d => d.parameters.length) = some 3 := by decide +kernel
theorem kd_L_isVoid : yL_isVoid.cls ≠ "java/lang/invoke/MethodHandle" ∧ yL_isVoid.cls ≠ "java/lang/invoke/VarHandle" ∧ (parseMethodDescriptor yL_isVoid.desc).map (fun d => d.parameters.length) = some 3 := by decide +kernel
theorem kd_L_isFinal : yL_isFinal.cls ≠ "java/lang/invoke/MethodHandle" ∧ yL_isFinal.cls ≠ "java/lang/invoke/VarHandle" ∧ (parseMethodDescriptor yL_isFinal.desc).map (fun d => d.parameters.length) = some 3 := by decide +kernel
theorem kd_L_winnerAnew : yL_winnerAnew.cls ≠ "java/lang/invoke/MethodHandle" ∧ yL_winnerAnew.cls ≠ "java/lang/invoke/VarHandle" ∧ (parseMethodDescriptor yL_winnerAnew.desc).map (fun d => d.parameters.length) = some 4 := by decide +kernel
theorem kd_L_line : yL_line.cls ≠ "java/lang/invoke/MethodHandle" ∧ yL_line.cls ≠ "java/lang/invoke/VarHandle" ∧ (parseMethodDescriptor yL_line.desc).map (fun d => d.parameters.length) = some 3 := by decide +kernel
theorem kd_L_lineChar : yL_lineChar.cls ≠ "java/lang/invoke/MethodHandle" ∧ yL_lineChar.cls ≠ "java/lang/invoke/VarHandle" ∧ (parseMethodDescriptor yL_lineChar.desc).map (fun d => d.parameters.length) = some 4 := by decide +kernel
theorem kd_L_complain : yL_complain.cls ≠ "java/lang/invoke/MethodHandle" ∧ yL_complain.cls ≠ "java/lang/invoke/VarHandle" ∧ (parseMethodDescriptor yL_complain.desc).map (fun d => d.parameters.length) = some 5 := by decide +kernel
theorem kd_L_rule : yL_rule.cls ≠ "java/lang/invoke/MethodHandle" ∧ yL_rule.cls ≠ "java/lang/invoke/VarHandle" ∧ (parseMethodDescriptor yL_rule.desc).map (fun d => d.parameters.length) = some 5 := by decide +kernel
theorem kd_L_appeal : yL_appeal.cls ≠ "java/lang/invoke/MethodHandle" ∧ yL_appeal.cls ≠ "java/lang/invoke/VarHandle" ∧ (parseMethodDescriptor yL_appeal.desc).map (fun d => d.parameters.length) = some 3 := by decide +kernel
theorem kd_L_stateOf : yL_stateOf.cls ≠ "java/lang/invoke/MethodHandle" ∧ yL_stateOf.cls ≠ "java/lang/invoke/VarHandle" ∧ (parseMethodDescriptor yL_stateOf.desc).map (fun d => d.parameters.length) = some 3 := by decide +kernel
theorem kd_L_sign : yL_sign.cls ≠ "java/lang/invoke/MethodHandle" ∧ yL_sign.cls ≠ "java/lang/invoke/VarHandle" ∧ (parseMethodDescriptor yL_sign.desc).map (fun d => d.parameters.length) = some 3 := by decide +kernel
theorem kd_L_call : yL_call.cls ≠ "java/lang/invoke/MethodHandle" ∧ yL_call.cls ≠ "java/lang/invoke/VarHandle" ∧ (parseMethodDescriptor yL_call.desc).map (fun d => d.parameters.length) = some 4 := by decide +kernel
theorem kd_L_running : yL_running.cls ≠ "java/lang/invoke/MethodHandle" ∧ yL_running.cls ≠ "java/lang/invoke/VarHandle" ∧ (parseMethodDescriptor yL_running.desc).map (fun d => d.parameters.length) = some 3 := by decide +kernel
theorem kd_L_owes : yL_owes.cls ≠ "java/lang/invoke/MethodHandle" ∧ yL_owes.cls ≠ "java/lang/invoke/VarHandle" ∧ (parseMethodDescriptor yL_owes.desc).map (fun d => d.parameters.length) = some 3 := by decide +kernel
theorem kd_L_held : yL_held.cls ≠ "java/lang/invoke/MethodHandle" ∧ yL_held.cls ≠ "java/lang/invoke/VarHandle" ∧ (parseMethodDescriptor yL_held.desc).map (fun d => d.parameters.length) = some 3 := by decide +kernel
theorem kd_L_lost : yL_lost.cls ≠ "java/lang/invoke/MethodHandle" ∧ yL_lost.cls ≠ "java/lang/invoke/VarHandle" ∧ (parseMethodDescriptor yL_lost.desc).map (fun d => d.parameters.length) = some 3 := by decide +kernel
set_option maxHeartbeats 4000000 in
set_option maxRecDepth 100000 in
theorem lc_addTender {p : Program} {l : Launch} {e : Env} {s : State} {m : MethodId} {args : Array Value} {below : List Frame} {meth : Method} {c : Code} {b L : Nat} {xs : Nat → Int32} {Q : State → Prop} {D : va_G} {cI cO cb cZ cC cJ : ClassId} {eA mi : Nat} {st ad : Nat → Nat} {dO dT : Nat} {vF : Value} {h oa : Nat} (hst : l.stackTraces = false) (C0 : LC p s m args c b L xs D cI cO cb cZ cC cJ eA mi st ad dO dT vF oa) {n : Nat} (hn : 6 * n + 6 ≤ L) (hL : L ≤ 3072) {M : MS} {ws : va_W} {th : Nat} {x : Int64} {H : Heap} {locs : List Loc} (hI : LI D cI cO eA st cZ cC cJ s ad h oa n M ws th x H locs) {cells slots : Nat} (hc1 : cells + 241 ≤ 601024) (hc2 : slots + 12126 ≤ 7293033) (kk : ∀ M ws th x H locs, LI D cI cO eA st cZ cC cJ s ad h oa (n + 1) M ws th x H locs → ∀ ls, lv_has ls 7 [(0, .ref b), (1, .ref h), (2, .ref (ad 0)), (3, .ref oa), (4, .int (nI (6 * n)))] → W p l e room_1 s m args below meth c H locs (cells + 241) (slots + 12126) Q (F0 m 2054 ls [])) : ∀ ls, lv_has ls 7 [(0, .ref b), (1, .ref h), (2, .ref (ad 0)), (3, .ref oa), (4, .int (nI (6 * n)))] → W p l e room_1 s m args below meth c H locs cells slots Q (F0 m 168 ls []) := by
  obtain ⟨hx, hb, hml, hown, hts, hX, hbl, hK, hKm, hKJ, hG, hGT, hN, hsI, hdis, hmn, hon, hnm⟩ := C0
  obtain ⟨hc, hM, hLB, h15, hP, hPm, ho, hS⟩ := hI
  have hbA : ¬ (fun q : Nat => s.heap.size ≤ q) b := Nat.not_le.mpr hbl
  have hno : ¬ lA s.heap.size ad oa oa := fun q => q.2.2 rfl
  have hI2 := LB_addTender (M := M) (xs (6 * n + 1)) (xs (6 * n + 2)) (xs (6 * n + 3)) (xs (6 * n + 4))
  intro ls hl
  refine lv_aload_n hx hb dL_law_168 rfl (lv_at hl 1 rfl) ?_
  refine lv_aload_n hx hb dL_law_169 rfl (lv_at hl 0 rfl) ?_
  refine lv_iload hx hb dL_law_170 (lv_at hl 4 rfl) ?_
  refine lv_iconst (v := nI 1) hx hb dL_law_172 (by decide) ?_
  refine n_iadd hx hb dL_law_173 (z := 6 * n + 1) rfl ?_
  refine va_sld hx hb hX hbl hbA hS (vp_in_nI (by omega) (by omega)) dL_law_174 ?_
  rw [nI_clamp (show 6 * n + 1 < 2 ^ 31 by omega)]
  refine lv_aload_n hx hb dL_law_175 rfl (lv_at hl 0 rfl) ?_
  refine lv_iload hx hb dL_law_176 (lv_at hl 4 rfl) ?_
  refine lv_iconst (v := nI 2) hx hb dL_law_178 (by decide) ?_
  refine n_iadd hx hb dL_law_179 (z := 6 * n + 2) rfl ?_
  refine va_sld hx hb hX hbl hbA hS (vp_in_nI (by omega) (by omega)) dL_law_180 ?_
  rw [nI_clamp (show 6 * n + 2 < 2 ^ 31 by omega)]
  refine lv_aload_n hx hb dL_law_181 rfl (lv_at hl 0 rfl) ?_
  refine lv_iload hx hb dL_law_182 (lv_at hl 4 rfl) ?_
  refine lv_iconst (v := nI 3) hx hb dL_law_184 (by decide) ?_
  refine n_iadd hx hb dL_law_185 (z := 6 * n + 3) rfl ?_
  refine va_sld hx hb hX hbl hbA hS (vp_in_nI (by omega) (by omega)) dL_law_186 ?_
  rw [nI_clamp (show 6 * n + 3 < 2 ^ 31 by omega)]
  refine lv_aload_n hx hb dL_law_187 rfl (lv_at hl 0 rfl) ?_
  refine lv_iload hx hb dL_law_188 (lv_at hl 4 rfl) ?_
  refine lv_iconst (v := nI 4) hx hb dL_law_190 (by decide) ?_
  refine n_iadd hx hb dL_law_191 (z := 6 * n + 4) rfl ?_
  refine va_sld hx hb hX hbl hbA hS (vp_in_nI (by omega) (by omega)) dL_law_192 ?_
  rw [nI_clamp (show 6 * n + 4 < 2 ^ 31 by omega)]
  refine lv_aload_n hx hb dL_law_193 rfl (lv_at hl 3 rfl) ?_
  refine va_calli (vx_runSW (As := [.ref h, .int (xs (6 * n + 1)), .int (xs (6 * n + 2)), .int (xs (6 * n + 3)), .int (xs (6 * n + 4)), .ref oa]) (rest := []) ⟨hx, hb, hml, hown, hts⟩ (cL9_addTender l hst D cI cO cb eA mi st dO dT vF ws hc hM hsI cJ oa x hno (xs (6 * n + 1)) (xs (6 * n + 2)) (xs (6 * n + 3)) (xs (6 * n + 4))) (vx_cwSW 6 hts gL_law_L_addTender rfl rfl rfl kd_L_addTender ⟨Nat.le_of_ble_eq_true rfl, Nat.le_of_ble_eq_true rfl⟩) ⟨lB_blind, lB_pre hK hKJ hG hGT hN (fun q h => h.1) hS (fresh_lA hPm ho hS) hP ho _⟩ rfl rfl hl.1 rfl (lv_room (Nat.le_of_ble_eq_true rfl)) dL_law_194 ⟨by show cells + 4 ≤ 601024; omega, by show slots + 114 ≤ 7293033; omega⟩) hS (fun q _ h => h.elim (fun h => h.1) (fun h => by rw [h]; exact hon)) (fun q h => h.elim (fun h => h.1) (fun h => by rw [h]; exact hon)) (fun r u U8 H1 locs1 ht hvm hu hB hz1 hk1 hS1 => ?_)
  obtain ⟨hri, hk3, hout, hc3⟩ := hu
  subst hri
  rw [ht] at hB
  obtain ⟨hB1, ho1⟩ := hB
  have hPm1 := mP_keep hPm hk1 hnm
  clear hS hP hPm ho
  have hS := hS1
  refine lv_istore (lv' := [(5, .int (nI (k_addTender M (xs (6 * n + 1)) (xs (6 * n + 2)) (xs (6 * n + 3)) (xs (6 * n + 4))))), (0, .ref b), (1, .ref h), (2, .ref (ad 0)), (3, .ref oa), (4, .int (nI (6 * n)))]) hx hb dL_law_197 hl (by decide) rfl (fun ls hl => ?_)
  refine lv_aload_n hx hb dL_law_199 rfl (lv_at hl 3 rfl) ?_
  refine lv_aload_n hx hb dL_law_200 rfl (lv_at hl 1 rfl) ?_
  refine lv_iload hx hb dL_law_201 (lv_at hl 5 rfl) ?_
  refine lv_iconst (v := nI 1) hx hb dL_law_203 (by decide) ?_
  refine n_iadd hx hb dL_law_204 (z := 6 * n + 1) rfl ?_
  refine va_sld hx hb hX hbl hbA hS (vp_in_nI (by omega) (by omega)) dL_law_205 ?_
  rw [nI_clamp (show 6 * n + 1 < 2 ^ 31 by omega)]
  refine lv_aload_n hx hb dL_law_206 rfl (lv_at hl 1 rfl) ?_
  refine lv_iload hx hb dL_law_207 (lv_at hl 5 rfl) ?_
  refine lv_iconst (v := nI 2) hx hb dL_law_209 (by decide) ?_
  refine n_iadd hx hb dL_law_210 (z := 6 * n + 2) rfl ?_
  refine va_sld hx hb hX hbl hbA hS (vp_in_nI (by omega) (by omega)) dL_law_211 ?_
  rw [nI_clamp (show 6 * n + 2 < 2 ^ 31 by omega)]
  refine lv_aload_n hx hb dL_law_212 rfl (lv_at hl 1 rfl) ?_
  refine lv_iload hx hb dL_law_213 (lv_at hl 5 rfl) ?_
  refine lv_iconst (v := nI 3) hx hb dL_law_215 (by decide) ?_
  refine n_iadd hx hb dL_law_216 (z := 6 * n + 3) rfl ?_
  refine va_sld hx hb hX hbl hbA hS (vp_in_nI (by omega) (by omega)) dL_law_217 ?_
  rw [nI_clamp (show 6 * n + 3 < 2 ^ 31 by omega)]
  refine lv_aload_n hx hb dL_law_218 rfl (lv_at hl 1 rfl) ?_
  refine lv_iload hx hb dL_law_219 (lv_at hl 5 rfl) ?_
  refine lv_iconst (v := nI 4) hx hb dL_law_221 (by decide) ?_
  refine n_iadd hx hb dL_law_222 (z := 6 * n + 4) rfl ?_
  refine va_sld hx hb hX hbl hbA hS (vp_in_nI (by omega) (by omega)) dL_law_223 ?_
  rw [nI_clamp (show 6 * n + 4 < 2 ^ 31 by omega)]
  refine va_calli (va_runV (As := [.int (xs (6 * n + 1)), .int (xs (6 * n + 2)), .int (xs (6 * n + 3)), .int (xs (6 * n + 4))]) (rest := []) ⟨hx, hb, hml, hown, hts⟩ (c9_addTender l D ad cI cZ cC th M hM hdis (xs (6 * n + 1)) (xs (6 * n + 2)) (xs (6 * n + 3)) (xs (6 * n + 4))) (cwV 4 hts gL_law_X9_addTender rfl rfl rfl kd_X9_addTender ⟨Nat.le_of_ble_eq_true rfl, Nat.le_of_ble_eq_true rfl⟩) ⟨mB_blind, m_recv hKm hPm1, m_pre hKm hPm1 _⟩ rfl rfl hl.1 rfl (lv_room (Nat.le_of_ble_eq_true rfl)) dL_law_224 ⟨by show cells + 4 + 0 ≤ 601024; omega, by show slots + 114 + 0 ≤ 7293033; omega⟩) hS (fun q _ h => hmn q h) (fun q h => hmn q h) (fun r2 u2 U9 H2 locs2 ht2 hvm2 hu2 hB2 hz2 hk2 hS2 => ?_)
  subst hu2
  replace hB2 : va_P D vwCl (mws ad cI cZ cC (k_addTender M (xs (6 * n + 1)) (xs (6 * n + 2)) (xs (6 * n + 3)) (xs (6 * n + 4))) (g_addTender M (xs (6 * n + 1)) (xs (6 * n + 2)) (xs (6 * n + 3)) (xs (6 * n + 4)))) U9.heap := hB2
  rw [ht2] at hB2
  have hP2 := cP_keep hB1 hc3.dis hk2
  have ho2 := ho1.kept (hk2 oa ho1.lt hnm)
  refine lv_istore (lv' := [(6, .int (if k_addTender M (xs (6 * n + 1)) (xs (6 * n + 2)) (xs (6 * n + 3)) (xs (6 * n + 4)) = 0 then nI (M 3 0) else nI 0)), (5, .int (nI (k_addTender M (xs (6 * n + 1)) (xs (6 * n + 2)) (xs (6 * n + 3)) (xs (6 * n + 4))))), (0, .ref b), (1, .ref h), (2, .ref (ad 0)), (3, .ref oa), (4, .int (nI (6 * n)))]) hx hb dL_law_227 hl (by decide) rfl (fun ls hl => ?_)
  have hM2 := (MI_addTender hM (xs (6 * n + 1)) (xs (6 * n + 2)) (xs (6 * n + 3)) (xs (6 * n + 4)))
  refine lv_aload_n hx hb dL_law_229 rfl (lv_at hl 4 rfl) ?_
  refine vp_callSi (W.runV (As := []) (rest := []) ⟨hx, hb, hml, hown, hts⟩ (c9_thrown l D ad cI cZ cC (k_addTender M (xs (6 * n + 1)) (xs (6 * n + 2)) (xs (6 * n + 3)) (xs (6 * n + 4))) (g_addTender M (xs (6 * n + 1)) (xs (6 * n + 2)) (xs (6 * n + 3)) (xs (6 * n + 4))) hM2) (cwV 0 hts gL_law_X9_thrown rfl rfl rfl kd_X9_thrown ⟨Nat.le_of_ble_eq_true rfl, Nat.le_of_ble_eq_true rfl⟩) ⟨mB_blind, m_recv hKm hB2, m_pre hKm hB2 _⟩ rfl rfl hl.1 rfl (lv_room (Nat.le_of_ble_eq_true rfl)) dL_law_230 ⟨by show cells + 4 + 0 + 0 ≤ 601024; omega, by show slots + 114 + 0 + 0 ≤ 7293033; omega⟩) (fun r3 hr3 => ?_)
  subst hr3
  refine lv_iload hx hb dL_law_233 (lv_at hl 1 rfl) ?_
  refine lv_icmp_eq (tgt := 240) hx hb dL_law_235 (by decide) (fun c9 => ?_) (fun c9 => absurd rfl c9)
  have hfin : ∀ ls, lv_has ls 7 [(6, .int (if k_addTender M (xs (6 * n + 1)) (xs (6 * n + 2)) (xs (6 * n + 3)) (xs (6 * n + 4)) = 0 then nI (M 3 0) else nI 0)), (5, .int (nI (k_addTender M (xs (6 * n + 1)) (xs (6 * n + 2)) (xs (6 * n + 3)) (xs (6 * n + 4))))), (0, .ref b), (1, .ref h), (2, .ref (ad 0)), (3, .ref oa), (4, .int (nI (6 * n)))] → W p l e room_1 s m args below meth c H2 locs2 (cells + 4 + 0) (slots + 114 + 0) Q (F0 m 2054 ls []) := fun ls hl => by
    refine W.widen (k := cells + 241) (n := slots + 12126) (by omega) (by omega) ?_
    exact kk _ _ _ _ _ _ ⟨hc3, hM2, hI2.1 hLB, by have := hI2.2; omega, hP2, hB2, ho2, hS2⟩ ls (lv_sub hl [2, 3, 4, 5, 6] rfl)
  refine lv_iload hx hb dL_law_240 (lv_at hl 1 rfl) ?_
  refine n_if_ne (tgt := 257) hx hb dL_law_242 (by decide) (by omega) (fun c8 => ?_) (fun c8 => ?_)
  · refine lv_goto (tgt := 2054) hx hb dL_law_257 (by decide) (hfin ls hl)
  · have ho3 := hout c8
    rw [ho3] at ho2
    refine lv_aload_n hx hb dL_law_245 rfl (lv_at hl 5 rfl) ?_
    refine lv_iconst (v := nI 0) hx hb dL_law_246 (by decide) ?_
    refine va_lald hx hb hKJ (va_P_one ho2) 0 0 rfl rfl (vp_in_nI (by decide) (by decide)) dL_law_247 ?_
    refine lv_iload hx hb dL_law_248 (lv_at hl 0 rfl) ?_
    refine lv_i2l (v := Int32.toInt64 (if k_addTender M (xs (6 * n + 1)) (xs (6 * n + 2)) (xs (6 * n + 3)) (xs (6 * n + 4)) = 0 then nI (M 3 0) else nI 0)) hx hb dL_law_250 rfl ?_
    refine lw_lcmp hx hb dL_law_251 ?_
    refine n_if_eq (tgt := 257) hx hb dL_law_252 (by decide) (by decide) (fun _ => ?_) (fun c7 => absurd rfl c7)
    exact lv_goto (tgt := 2054) hx hb dL_law_257 (by decide) (hfin ls hl)
