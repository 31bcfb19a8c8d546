/-! the public methods, said of the reference's state -/
def cSt (cI cO : ClassId) (eA : Nat) (st : Nat → Nat) (A : Nat → Prop) (h : Nat) (M : MS) (ws : va_W) : Prop := ∃ own kd F L, CW cI cO eA st own kd F L ws ∧ WF kd F L ∧ Rel kd F L h M ∧ va_D A ws
theorem vx_mono {l : Launch} {y : MethodName} {ws : List Cond} {rm : Room} {Pc : Array Value → State → Prop} {S S2 : Type} {post : Int32 → S → Prop} {B : S → State → Prop} {post2 : Int32 → S2 → Prop} {B2 : S2 → State → Prop} {A : Nat → Prop} {XC : String → State → State → Prop} {mc ms : Nat} {free : Addr → Prop} (h : vx_Met l y ws rm Pc (va_Qi post B A) XC mc ms free) (hp : ∀ r u, post r u → ∃ u2, post2 r u2 ∧ ∀ U, B u U → B2 u2 U) : vx_Met l y ws rm Pc (va_Qi post2 B2 A) XC mc ms free :=
  MetFree.mono h (fun _ _ q => q) (fun _ _ _ _ _ q => q) (fun a s o t _ q => by
    rcases q with ⟨⟨⟨r, u, e1, e2, e3⟩, hF⟩, hE⟩ | q
    · obtain ⟨u2, f1, f2⟩ := hp r u e2
      exact Or.inl ⟨⟨⟨r, u2, e1, f1, f2 _ e3⟩, hF⟩, hE⟩
    · exact Or.inr q)
/-- a public method of the class: its answer and its exception are the reference's -/
def pubM (l : Launch) (y : MethodName) (ws9 : List Cond) (rm : Room) (mc ms : Nat) (W : State → Prop) (D : va_G) (cI cO : ClassId) (eA : Nat) (st : Nat → Nat) (A : Nat → Prop) (ws : va_W) (h : Nat) (As : List Value) (M2 : MS) (kM : Nat) (rM : Int32) (w : Nat → Nat) (S9 : List Nat) : Prop :=
  ∃ k9, w k9 = kM ∧ k9 ∈ S9 ∧ vx_Met l y ws9 rm (va_Pc As W) (va_Qi (fun (ri : Int32) (u : va_W) => kM = 0 ∧ ri = rM ∧ cSt cI cO eA st A h M2 u) (fun u U9 => va_P D vwCl u U9.heap) A) (XK D ws A k9) mc ms A
theorem ite_in {c : Prop} [Decidable c] {a b : Nat} {S : List Nat} (ha : a ∈ S) (hb : b ∈ S) : (if c then a else b) ∈ S := by
  split
  · exact ha
  · exact hb
section UP
variable {kd kd2 : Nat → Nat} {F F2 : Nat → Nat → Nat} {L L2 : Nat → List Nat} {S : List Nat} {h : Nat} {M M2 : MS} {tn tn2 : Nat → Nat} {lo lo2 : Nat → Nat → Nat} {aw aw2 co co2 ct ct2 ow ow2 : Nat → Nat}
theorem RelG.ext (G : RelG kd F L h M tn lo aw co ct ow) (hWF : WF kd F L) (hE : Ext kd F L kd2 F2 L2) : RelG kd2 F2 L2 h M tn lo aw co ct ow := by
  obtain ⟨hH, hT, hL, hX, hW, hU, hC, hD, hK, hS, hO, hN, hZ⟩ := G
  have hs : SmK kd F L kd2 F2 L2 [2, 3, 4, 5, 6, 7, 8, 9, 11, 22, 23, 24, 25, 26, 27, 28] := hE.smk (by decide)
  have m : ∀ f, f ∉ [99] → M f = M f := fun _ _ => rfl
  exact ⟨hH.congr hWF hs (by decide) (by decide) (by decide) (by decide) (by decide) (by decide) (m 1 (by decide)) (m 2 (by decide)) (m 3 (by decide)) (m 16 (by decide)) (m 22 (by decide)) (m 29 (by decide)), hT.congr hWF hs (by decide) (by decide) (m 3 (by decide)) (m 4 (by decide)) (m 5 (by decide)) (m 6 (by decide)) (m 7 (by decide)) (m 8 (by decide)), hL.congr hWF hs (by decide) (by decide) (by decide) (by decide) (by decide) (m 1 (by decide)) (m 3 (by decide)) (m 4 (by decide)) (m 8 (by decide)) (m 9 (by decide)) (m 10 (by decide)) (m 11 (by decide)) (m 12 (by decide)) (m 13 (by decide)) (m 14 (by decide)) (by rw [m 15 (by decide)]; exact Nat.le_refl _), hX, hW.congr hWF hs (by decide) (by decide) (by decide) (by decide) (m 1 (by decide)) (m 3 (by decide)) (m 4 (by decide)) (m 7 (by decide)) (m 8 (by decide)) (m 16 (by decide)) (m 17 (by decide)) (m 18 (by decide)) (m 19 (by decide)) (m 20 (by decide)) (m 21 (by decide)), hU, hC.congr hs (by decide) (fun _ _ => rfl) (by rw [m 16 (by decide)]; exact Nat.le_refl _) (m 22 (by decide)) (m 23 (by decide)) (m 24 (by decide)) (m 25 (by decide)) (m 26 (by decide)) (m 27 (by decide)) (m 28 (by decide)), hD, hK.congr hs (by decide) (fun _ _ => rfl) (by rw [m 16 (by decide)]; exact Nat.le_refl _) (m 29 (by decide)) (m 30 (by decide)) (m 31 (by decide)), hS, hO.congr hW hWF hs (by decide) (by decide) (by decide) (m 16 (by decide)) (m 20 (by decide)) (m 32 (by decide)), hN.congr hL hWF hs (by decide) (by decide) (m 3 (by decide)) (m 8 (by decide)) (m 16 (by decide)) (m 17 (by decide)) (m 20 (by decide)), hZ⟩
theorem RelG.ln (G : RelG kd F L h M tn lo aw co ct ow) (hWF : WF kd F L) (m : ∀ f, f ∉ [33, 34] → M2 f = M f) : RelG kd F L h M2 tn lo aw co ct ow := by
  obtain ⟨hH, hT, hL, hX, hW, hU, hC, hD, hK, hS, hO, hN, hZ⟩ := G
  have hs : SmK kd F L kd F L [2, 3, 4, 5, 6, 7, 8, 9, 11, 22, 23, 24, 25, 26, 27, 28] := SmK.rf
  exact ⟨hH.congr hWF hs (by decide) (by decide) (by decide) (by decide) (by decide) (by decide) (m 1 (by decide)) (m 2 (by decide)) (m 3 (by decide)) (m 16 (by decide)) (m 22 (by decide)) (m 29 (by decide)), hT.congr hWF hs (by decide) (by decide) (m 3 (by decide)) (m 4 (by decide)) (m 5 (by decide)) (m 6 (by decide)) (m 7 (by decide)) (m 8 (by decide)), hL.congr hWF hs (by decide) (by decide) (by decide) (by decide) (by decide) (m 1 (by decide)) (m 3 (by decide)) (m 4 (by decide)) (m 8 (by decide)) (m 9 (by decide)) (m 10 (by decide)) (m 11 (by decide)) (m 12 (by decide)) (m 13 (by decide)) (m 14 (by decide)) (by rw [m 15 (by decide)]; exact Nat.le_refl _), hX.congr (m 1 (by decide)) (m 3 (by decide)) (m 4 (by decide)) (m 8 (by decide)) (m 10 (by decide)) (m 13 (by decide)) (m 14 (by decide)), hW.congr hWF hs (by decide) (by decide) (by decide) (by decide) (m 1 (by decide)) (m 3 (by decide)) (m 4 (by decide)) (m 7 (by decide)) (m 8 (by decide)) (m 16 (by decide)) (m 17 (by decide)) (m 18 (by decide)) (m 19 (by decide)) (m 20 (by decide)) (m 21 (by decide)), hU.congr (m 13 (by decide)) (m 16 (by decide)) (m 17 (by decide)) (m 18 (by decide)) (m 20 (by decide)), hC.congr hs (by decide) (fun _ _ => rfl) (by rw [m 16 (by decide)]; exact Nat.le_refl _) (m 22 (by decide)) (m 23 (by decide)) (m 24 (by decide)) (m 25 (by decide)) (m 26 (by decide)) (m 27 (by decide)) (m 28 (by decide)), hD.congr (m 10 (by decide)) (m 13 (by decide)) (m 17 (by decide)) (m 20 (by decide)) (m 22 (by decide)) (m 23 (by decide)) (m 24 (by decide)) (m 25 (by decide)) (m 26 (by decide)), hK.congr hs (by decide) (fun _ _ => rfl) (by rw [m 16 (by decide)]; exact Nat.le_refl _) (m 29 (by decide)) (m 30 (by decide)) (m 31 (by decide)), hS.congr (m 16 (by decide)) (m 21 (by decide)) (m 29 (by decide)) (m 30 (by decide)), hO.congr hW hWF hs (by decide) (by decide) (by decide) (m 16 (by decide)) (m 20 (by decide)) (m 32 (by decide)), hN.congr hL hWF hs (by decide) (by decide) (m 3 (by decide)) (m 8 (by decide)) (m 16 (by decide)) (m 17 (by decide)) (m 20 (by decide)), hZ.congr (m 16 (by decide)) (m 20 (by decide)) (m 21 (by decide)) (m 22 (by decide)) (m 26 (by decide)) (m 27 (by decide)) (m 28 (by decide)) (m 29 (by decide)) (m 31 (by decide))⟩
theorem g_line_nf (M : MS) (a : Int32) : ∀ f, f ∉ [33, 34] → g_line M a f = M f := fun f hf => by
  unfold g_line
  split
  · exact m_wl_nf _ _ (fun e => hf (by rw [e]; decide)) (fun e => hf (by rw [e]; decide))
  · rfl
theorem bid_room (hM : MI M) (G : RelG kd F L h M tn lo aw co ct ow) {t k : Int32} {b : Nat} (e : kLotK F L h t k = 0) : ((kTake F L (kLotV F L h t k) b) (F 3 (kLotV F L h t k))).length < 60 := by
  have h1 := (an_hyps hM G.1 G.2.1 G.2.2.1 e).1
  have h2 := (kTake_sub (F := F) (L := L) (a := kLotV F L h t k) (b := b)).length_le
  omega
theorem sign_room2 (hM : MI M) (G : RelG kd F L h M tn lo aw co ct ow) {i : Int32} (h1 : kIx i (L (F 2 h)).length = 0) (h2 : F 5 (ga (L (F 2 h)) i) = 0) : (L (F 4 h)).length < 60 := by
  obtain ⟨hH, hT, hL, hX, hW, hU, hC, hD, hK, hS, hO, hN, hZ⟩ := G
  rcases lsnK hH.2.2.2.2.2.1 (hM 16 0) i with ⟨g1, g2⟩ | ⟨a, ha, -, g1, g2, g3, g4⟩
  · rw [g2] at h1; cases h1
  · rw [g4] at h2
    rw [hH.2.2.2.2.2.2.2, lsn_len]
    exact sign_room hM hS ha ((hW a ha).2.2.2.2.2.2.2.2.2.2.mp h2)
theorem u_rule0 (hM : MI M) (hWF : WF kd F L) (G : RelG kd F L h M tn lo aw co ct ow) (i qv : Int32) (e : k_rule M i false qv = 0) : -1 = r_rule M i false qv ∧ RelG kd (up2 (up2 F 3 (ga (L (F 3 h)) i) 2) 4 (ga (L (F 3 h)) i) (F 5 h)) L h (g_rule M i false qv) tn lo aw co ct ow := by
  have er : r_rule M i false qv = -1 := by
    unfold r_rule
    rw [if_pos e, if_neg (show ¬ false = true by decide)]
  have eg : g_rule M i false qv = mu (mu M 26 i.toNatClampNeg 2) 27 i.toNatClampNeg (M 1 0) := by
    unfold g_rule
    rw [if_pos e, if_neg (show ¬ false = true by decide)]
  rw [er, eg]
  refine ⟨rfl, ?_⟩
  rcases lsnK G.1.2.2.2.2.2.2.1 (hM 22 0) i with ⟨g1, g2⟩ | ⟨c, hc, -, g1, g2, g3, g4⟩
  · unfold k_rule at e
    rw [g1, if_pos rfl] at e; cases e
  · rw [g3, g4]
    exact u_dism hM hWF G hc
end UP
theorem cq_addTender (l : Launch) (hst : l.stackTraces = false) (D : va_G) (cI cO cb : ClassId) (eA mi : Nat) (st : Nat → Nat) {A : Nat → Prop} (ws : va_W) {h : Nat} {M : MS} (hc : cSt cI cO eA st A h M ws) (hM : MI M) (hs : sInj st) (cl : Int32) (pa : Int32) (we : Int32) (sd : Int32) : pubM l yX8_addTender wsX8_addTender ({ frames := 7, cells := 4, slots := 114, locals := 191 }) 4 114 (cB D cI cO cb eA mi st A ws) D cI cO eA st A ws h [.ref h, .int cl, .int pa, .int we, .int sd] (g_addTender M cl pa we sd) (k_addTender M cl pa we sd) (if k_addTender M cl pa we sd = 0 then nI (M 3 0) else nI 0) w23 [0, 2, 3] := by
  have hc0 := hc
  obtain ⟨own, kd, F, L, hC, hW, ⟨tn, lo, aw, co, ct, ow, G⟩, hD⟩ := hc
  have hk := G.1.1
  have hkx := (kTen hM F L h G.1.2.2.1 (by rw [G.1.2.2.2.2.1, lsn_len]) cl pa we sd).1
  refine ⟨_, hkx, by repeat' (first | decide | apply ite_in), vx_mono (cm_addTender l hst D cI cO cb eA mi st ws hD hC hW hs h hk cl pa we sd) (fun r u hp => ?_)⟩
  obtain ⟨e0, hp⟩ := hp
  have ek : k_addTender M cl pa we sd = 0 := hkx.symm.trans ((congrArg w23 e0).trans rfl)
  obtain ⟨hr, hC2, hW2, hq, hq2, hqr, hD2⟩ := hp
  have q1 : nI (L (F 1 h)).length = if k_addTender M cl pa we sd = 0 then nI (M 3 0) else nI 0 := by
    rw [if_pos ek, G.1.2.2.2.2.1, lsn_len]
  have q2 := u_addTender hM hW G cl pa we sd ek hq hq2 hqr
  exact ⟨u.1, ⟨ek, hr.trans q1, ⟨_, _, _, _, hC2, hW2, ⟨_, _, _, _, _, _, q2⟩, hD2⟩⟩, fun U hU => hU⟩
theorem cq_addLot (l : Launch) (hst : l.stackTraces = false) (D : va_G) (cI cO cb : ClassId) (eA mi : Nat) (st : Nat → Nat) {A : Nat → Prop} (ws : va_W) {h : Nat} {M : MS} (hc : cSt cI cO eA st A h M ws) (hM : MI M) (hs : sInj st) (t : Int32) (de : Int32) : pubM l yX8_addLot wsX8_addLot ({ frames := 7, cells := 6, slots := 126, locals := 191 }) 6 126 (cB D cI cO cb eA mi st A ws) D cI cO eA st A ws h [.ref h, .int t, .int de] (g_addLot M t de) (k_addLot M t de) (if k_addLot M t de = 0 then nI (M 8 t.toNatClampNeg) else nI 0) id [0, 1, 2, 3] := by
  have hc0 := hc
  obtain ⟨own, kd, F, L, hC, hW, ⟨tn, lo, aw, co, ct, ow, G⟩, hD⟩ := hc
  have hk := G.1.1
  have hkx := (kLotAdd hM G.1 G.2.1 t de).1
  refine ⟨_, hkx, by repeat' (first | decide | apply ite_in), vx_mono (cm_addLot l hst D cI cO cb eA mi st ws hD hC hW hs h hk t de) (fun r u hp => ?_)⟩
  obtain ⟨e0, hp⟩ := hp
  have ek : k_addLot M t de = 0 := hkx.symm.trans ((congrArg id e0).trans rfl)
  obtain ⟨hr, hC2, hW2, hq, hq1, hq2, n1, n2, n3, hD2⟩ := hp
  obtain ⟨x, hx, hx6, ex, ega, h83, hop, hlen⟩ := (kLotAdd hM G.1 G.2.1 t de).2 ek
  rw [ega, hlen] at hr hC2 hW2
  have q1 : nI (M 8 x) = if k_addLot M t de = 0 then nI (M 8 t.toNatClampNeg) else nI 0 := by
    rw [if_pos ek, ex]
  have q2 := u_addLot hM hW G ek hx hx6 ex rfl h83 hop hq hq1 hq2 n1 n2 n3
  exact ⟨u.1, ⟨ek, hr.trans q1, ⟨_, _, _, _, hC2, hW2, ⟨_, _, _, _, _, _, q2⟩, hD2⟩⟩, fun U hU => hU⟩
theorem cq_paper (l : Launch) (hst : l.stackTraces = false) (D : va_G) (cI cO cb : ClassId) (eA mi : Nat) (st : Nat → Nat) {A : Nat → Prop} (ws : va_W) {h : Nat} {M : MS} (hc : cSt cI cO eA st A h M ws) (hM : MI M) (hs : sInj st) (b : Int32) (k : Int32) (uu : Int32) : pubM l yX8_paper wsX8_paper ({ frames := 6, cells := 1, slots := 6, locals := 81 }) 1 6 (cB D cI cO cb eA mi st A ws) D cI cO eA st A ws h [.ref h, .int b, .int k, .int uu] (g_paper M b k uu) (k_paper b k uu) (r_paper M b k uu) id [0, 1, 2] := by
  have hc0 := hc
  obtain ⟨own, kd, F, L, hC, hW, ⟨tn, lo, aw, co, ct, ow, G⟩, hD⟩ := hc
  have hk := G.1.1
  have hkx := (u_paper hM hW G b k uu).1
  refine ⟨_, hkx, by repeat' (first | decide | apply ite_in), vx_mono (cm_paper l hst D cI cO cb eA mi st ws hD hC hW hs h hk b k uu) (fun r u hp => ?_)⟩
  obtain ⟨e0, hp⟩ := hp
  have ek : k_paper b k uu = 0 := hkx.symm.trans ((congrArg id e0).trans rfl)
  obtain ⟨hr, hC2, hW2, hD2⟩ := hp
  obtain ⟨q1, q2⟩ := (u_paper hM hW G b k uu).2 ek
  exact ⟨u, ⟨ek, hr.trans q1, ⟨_, _, _, _, hC2, hW2, ⟨_, _, _, _, _, _, q2⟩, hD2⟩⟩, fun U hU => hU⟩
theorem cq_bid (l : Launch) (hst : l.stackTraces = false) (D : va_G) (cI cO cb : ClassId) (eA mi : Nat) (st : Nat → Nat) {A : Nat → Prop} (ws : va_W) {h : Nat} {M : MS} (hc : cSt cI cO eA st A h M ws) (hM : MI M) (hs : sInj st) (b : Int32) (t : Int32) (k : Int32) (pr : Int32) (qu : Int32) : pubM l yX8_bid wsX8_bid ({ frames := 8, cells := 6, slots := 132, locals := 191 }) 6 132 (cB D cI cO cb eA mi st A ws) D cI cO eA st A ws h [.ref h, .int b, .int t, .int k, .int pr, .int qu] (g_bid M b t k pr qu) (k_bid M b t k pr qu) (r_bid M b t k pr qu) id [0, 1, 2, 3] := by
  have hc0 := hc
  obtain ⟨own, kd, F, L, hC, hW, ⟨tn, lo, aw, co, ct, ow, G⟩, hD⟩ := hc
  have hk := G.1.1
  have hkx := (u_bid hM hW G b t k pr qu).1
  refine ⟨_, hkx, by repeat' (first | decide | apply ite_in), vx_mono (cm_bid l hst D cI cO cb eA mi st ws hD hC hW hs h hk b t k pr qu (fun e => bid_room hM G e)) (fun r u hp => ?_)⟩
  obtain ⟨e0, hp⟩ := hp
  have ek : k_bid M b t k pr qu = 0 := hkx.symm.trans ((congrArg id e0).trans rfl)
  obtain ⟨hr, hC2, hW2, hq, hD2⟩ := hp
  obtain ⟨q1, q2⟩ := (u_bid hM hW G b t k pr qu).2 ek _ hq
  exact ⟨u.1, ⟨ek, hr.trans q1, ⟨_, _, _, _, hC2, hW2, ⟨_, _, _, _, _, _, q2⟩, hD2⟩⟩, fun U hU => hU⟩
theorem cq_withdraw (l : Launch) (hst : l.stackTraces = false) (D : va_G) (cI cO cb : ClassId) (eA mi : Nat) (st : Nat → Nat) {A : Nat → Prop} (ws : va_W) {h : Nat} {M : MS} (hc : cSt cI cO eA st A h M ws) (hM : MI M) (hs : sInj st) (b : Int32) (t : Int32) (k : Int32) : pubM l yX8_withdraw wsX8_withdraw ({ frames := 8, cells := 4, slots := 24, locals := 128 }) 4 24 (cB D cI cO cb eA mi st A ws) D cI cO eA st A ws h [.ref h, .int b, .int t, .int k] (g_withdraw M b t k) (k_withdraw M b t k) (r_withdraw M b t k) w13 [0, 1, 3] := by
  have hc0 := hc
  obtain ⟨own, kd, F, L, hC, hW, ⟨tn, lo, aw, co, ct, ow, G⟩, hD⟩ := hc
  have hk := G.1.1
  have hkx := (u_withdraw hM hW G b t k).1
  refine ⟨_, hkx, by repeat' (first | decide | apply ite_in), vx_mono (cm_withdraw l hst D cI cO cb eA mi st ws hD hC hW hs h hk b t k) (fun r u hp => ?_)⟩
  obtain ⟨e0, hp⟩ := hp
  have ek : k_withdraw M b t k = 0 := hkx.symm.trans ((congrArg w13 e0).trans rfl)
  obtain ⟨hr, hC2, hW2, hD2⟩ := hp
  obtain ⟨q1, q2⟩ := (u_withdraw hM hW G b t k).2 ek
  exact ⟨u, ⟨ek, hr.trans q1, ⟨_, _, _, _, hC2, hW2, ⟨_, _, _, _, _, _, q2⟩, hD2⟩⟩, fun U hU => hU⟩
theorem cq_pass (l : Launch) (hst : l.stackTraces = false) (D : va_G) (cI cO cb : ClassId) (eA mi : Nat) (st : Nat → Nat) {A : Nat → Prop} (ws : va_W) {h : Nat} {M : MS} (hc : cSt cI cO eA st A h M ws) (hM : MI M) (hs : sInj st) (hLB : m_LB M) (dd : Int32) : pubM l yX8_pass wsX8_pass ({ frames := 10, cells := (4 * dyN M dd dd.toNatClampNeg + 1), slots := (202 * dyN M dd dd.toNatClampNeg + 6), locals := 260 }) (4 * dyN M dd dd.toNatClampNeg + 1) (202 * dyN M dd dd.toNatClampNeg + 6) (cB D cI cO cb eA mi st A ws) D cI cO eA st A ws h [.ref h, .int dd] (g_pass M dd) (k_pass M dd) (r_pass M dd) w23 [0, 2, 3] := by
  have hc0 := hc
  obtain ⟨own, kd, F, L, hC, hW, ⟨tn, lo, aw, co, ct, ow, G⟩, hD⟩ := hc
  have hk := G.1.1
  have hkx := (kPass G.1 dd).1
  refine ⟨_, hkx, by repeat' (first | decide | apply ite_in), vx_mono (cm_pass l hst D cI cO cb eA mi st ws hD hC hW hs h hk dd (dyN M dd) (by unfold dyN; split <;> rfl) (fun k => by have := dyN_60 hM hLB dd k; omega) (dyI h M) (fun e => dy_inst hM hLB ((kPass G.1 dd).2 e).1 ((kPass G.1 dd).2 e).2) ⟨rfl, tn, lo, aw, co, ct, ow, G⟩) (fun r u hp => ?_)⟩
  obtain ⟨e0, hp⟩ := hp
  have ek : k_pass M dd = 0 := hkx.symm.trans ((congrArg w23 e0).trans rfl)
  obtain ⟨n, own2, kd2, F2, L2, hr, hI, hC2, hW2, hD2⟩ := hp
  obtain ⟨q1, q2⟩ := pass_end ek hI
  exact ⟨u, ⟨ek, hr.trans q1, ⟨_, _, _, _, hC2, hW2, q2, hD2⟩⟩, fun U hU => hU⟩
theorem cq_award (l : Launch) (hst : l.stackTraces = false) (D : va_G) (cI cO cb : ClassId) (eA mi : Nat) (st : Nat → Nat) {A : Nat → Prop} (ws : va_W) {h : Nat} {M : MS} (hc : cSt cI cO eA st A h M ws) (hM : MI M) (hs : sInj st) (t : Int32) (k : Int32) : pubM l yX8_award wsX8_award ({ frames := 8, cells := 4, slots := 115, locals := 214 }) 4 115 (cB D cI cO cb eA mi st A ws) D cI cO eA st A ws h [.ref h, .int t, .int k] (g_award M t k) (k_award M t k) (r_award M t k) w13 [0, 1, 3] := by
  have hc0 := hc
  obtain ⟨own, kd, F, L, hC, hW, ⟨tn, lo, aw, co, ct, ow, G⟩, hD⟩ := hc
  have hk := G.1.1
  have hkx := (u_award hM hW G t k).1
  refine ⟨_, hkx, by repeat' (first | decide | apply ite_in), vx_mono (cm_award l hst D cI cO cb eA mi st ws hD hC hW hs h hk t k) (fun r u hp => ?_)⟩
  obtain ⟨e0, hp⟩ := hp
  have ek : k_award M t k = 0 := hkx.symm.trans ((congrArg w13 e0).trans rfl)
  obtain ⟨own2, kd2, F2, L2, hC2, hW2, hD2, hA⟩ := AwB_of hp
  obtain ⟨hr, aw2, q2⟩ := (u_award hM hW G t k).2 ek _ _ _ _ hA
  have q1 : r_award M t k = r_award M t k := rfl
  exact ⟨u.1, ⟨ek, hr.trans q1, ⟨_, _, _, _, hC2, hW2, ⟨_, _, _, _, _, _, q2⟩, hD2⟩⟩, fun U hU => hU⟩
theorem cq_complain (l : Launch) (hst : l.stackTraces = false) (D : va_G) (cI cO cb : ClassId) (eA mi : Nat) (st : Nat → Nat) {A : Nat → Prop} (ws : va_W) {h : Nat} {M : MS} (hc : cSt cI cO eA st A h M ws) (hM : MI M) (hs : sInj st) (b : Int32) (i : Int32) (g : Int32) : pubM l yX8_complain wsX8_complain ({ frames := 7, cells := 4, slots := 114, locals := 191 }) 4 114 (cB D cI cO cb eA mi st A ws) D cI cO eA st A ws h [.ref h, .int b, .int i, .int g] (g_complain M b i g) (k_complain M b i g) (if k_complain M b i g = 0 then nI (M 22 0) else nI 0) id [0, 1, 2, 3] := by
  have hc0 := hc
  obtain ⟨own, kd, F, L, hC, hW, ⟨tn, lo, aw, co, ct, ow, G⟩, hD⟩ := hc
  have hk := G.1.1
  have hkx := (u_complain hM hW G b i g).1
  refine ⟨_, hkx, by repeat' (first | decide | apply ite_in), vx_mono (cm_complain l hst D cI cO cb eA mi st ws hD hC hW hs h hk b i g) (fun r u hp => ?_)⟩
  obtain ⟨e0, hp⟩ := hp
  have ek : k_complain M b i g = 0 := hkx.symm.trans ((congrArg id e0).trans rfl)
  obtain ⟨hr, hC2, hW2, hq, hD2⟩ := hp
  obtain ⟨q1, q2⟩ := (u_complain hM hW G b i g).2 ek
  exact ⟨u.1, ⟨ek, hr.trans q1, ⟨_, _, _, _, hC2, hW2, ⟨_, _, _, _, _, _, q2 _ hq⟩, hD2⟩⟩, fun U hU => hU⟩
theorem cq_rule (l : Launch) (hst : l.stackTraces = false) (D : va_G) (cI cO cb : ClassId) (eA mi : Nat) (st : Nat → Nat) {A : Nat → Prop} (ws : va_W) {h : Nat} {M : MS} (hc : cSt cI cO eA st A h M ws) (hM : MI M) (hs : sInj st) (i : Int32) (v : Bool) (qv : Int32) : pubM l yX8_rule wsX8_rule ({ frames := 10, cells := 6, slots := 214, locals := 261 }) 6 214 (cB D cI cO cb eA mi st A ws) D cI cO eA st A ws h [.ref h, .int i, .int (bi v), .int qv] (g_rule M i v qv) (k_rule M i v qv) (r_rule M i v qv) id [0, 1, 2, 3] := by
  have hc0 := hc
  obtain ⟨own, kd, F, L, hC, hW, ⟨tn, lo, aw, co, ct, ow, G⟩, hD⟩ := hc
  have hk := G.1.1
  have hkx := (u_rule hM hW G i v qv).1
  refine ⟨_, hkx, by repeat' (first | decide | apply ite_in), vx_mono (cm_rule l hst D cI cO cb eA mi st ws hD hC hW hs h hk i v qv (rule_room hM G i)) (fun r u hp => ?_)⟩
  obtain ⟨e0, hp⟩ := hp
  have ek : k_rule M i v qv = 0 := hkx.symm.trans ((congrArg id e0).trans rfl)
  by_cases hv : v = true
  · rw [if_pos hv] at hp
    obtain ⟨q, hq, hsb⟩ := hp
    obtain ⟨own2, kd2, F2, L2, hC2, hW2, hD2, hSB⟩ := SBr_of hsb
    obtain ⟨hr, aw2, q2⟩ := (u_rule hM hW G i v qv).2 ek hv q r _ _ _ hq hSB
    exact ⟨u.1, ⟨ek, hr, ⟨_, _, _, _, hC2, hW2, ⟨_, _, _, _, _, _, q2⟩, hD2⟩⟩, fun U hU => hU⟩
  · rw [if_neg hv] at hp
    obtain rfl : v = false := by simpa using hv
    obtain ⟨hr, hC2, hW2, hD2⟩ := hp
    obtain ⟨q1, q2⟩ := u_rule0 hM hW G i qv ek
    exact ⟨u.1, ⟨ek, hr.trans q1, ⟨_, _, _, _, hC2, hW2, ⟨_, _, _, _, _, _, q2⟩, hD2⟩⟩, fun U hU => hU⟩
theorem cq_appeal (l : Launch) (hst : l.stackTraces = false) (D : va_G) (cI cO cb : ClassId) (eA mi : Nat) (st : Nat → Nat) {A : Nat → Prop} (ws : va_W) {h : Nat} {M : MS} (hc : cSt cI cO eA st A h M ws) (hM : MI M) (hs : sInj st) (i : Int32) : pubM l yX8_appeal wsX8_appeal ({ frames := 7, cells := 2, slots := 12, locals := 102 }) 2 12 (cB D cI cO cb eA mi st A ws) D cI cO eA st A ws h [.ref h, .int i] (g_appeal M i) (k_appeal M i) (r_appeal M i) w13 [0, 1, 3] := by
  have hc0 := hc
  obtain ⟨own, kd, F, L, hC, hW, ⟨tn, lo, aw, co, ct, ow, G⟩, hD⟩ := hc
  have hk := G.1.1
  have hkx := (u_appeal hM hW G i).1
  refine ⟨_, hkx, by repeat' (first | decide | apply ite_in), vx_mono (cm_appeal l hst D cI cO cb eA mi st ws hD hC hW hs h hk i) (fun r u hp => ?_)⟩
  obtain ⟨e0, hp⟩ := hp
  have ek : k_appeal M i = 0 := hkx.symm.trans ((congrArg w13 e0).trans rfl)
  obtain ⟨hr, hC2, hW2, hD2⟩ := hp
  obtain ⟨q1, q2⟩ := (u_appeal hM hW G i).2 ek
  exact ⟨u, ⟨ek, hr.trans q1, ⟨_, _, _, _, hC2, hW2, ⟨_, _, _, _, _, _, q2⟩, hD2⟩⟩, fun U hU => hU⟩
theorem cq_sign (l : Launch) (hst : l.stackTraces = false) (D : va_G) (cI cO cb : ClassId) (eA mi : Nat) (st : Nat → Nat) {A : Nat → Prop} (ws : va_W) {h : Nat} {M : MS} (hc : cSt cI cO eA st A h M ws) (hM : MI M) (hs : sInj st) (i : Int32) : pubM l yX8_sign wsX8_sign ({ frames := 7, cells := 4, slots := 120, locals := 191 }) 4 120 (cB D cI cO cb eA mi st A ws) D cI cO eA st A ws h [.ref h, .int i] (g_sign M i) (k_sign M i) (r_sign M i) w13 [0, 1, 3] := by
  have hc0 := hc
  obtain ⟨own, kd, F, L, hC, hW, ⟨tn, lo, aw, co, ct, ow, G⟩, hD⟩ := hc
  have hk := G.1.1
  have hkx := (u_sign hM hW G i).1
  refine ⟨_, hkx, by repeat' (first | decide | apply ite_in), vx_mono (cm_sign l hst D cI cO cb eA mi st ws hD hC hW hs h hk i (fun e1 e2 => sign_room2 hM G e1 e2)) (fun r u hp => ?_)⟩
  obtain ⟨e0, hp⟩ := hp
  have ek : k_sign M i = 0 := hkx.symm.trans ((congrArg w13 e0).trans rfl)
  obtain ⟨hr, hC2, hW2, hq, hD2⟩ := hp
  obtain ⟨q1, q2⟩ := (u_sign hM hW G i).2 ek
  exact ⟨u.1, ⟨ek, hr.trans q1, ⟨_, _, _, _, hC2, hW2, ⟨_, _, _, _, _, _, q2 _ hq⟩, hD2⟩⟩, fun U hU => hU⟩
theorem cq_call (l : Launch) (hst : l.stackTraces = false) (D : va_G) (cI cO cb : ClassId) (eA mi : Nat) (st : Nat → Nat) {A : Nat → Prop} (ws : va_W) {h : Nat} {M : MS} (hc : cSt cI cO eA st A h M ws) (hM : MI M) (hs : sInj st) (i : Int32) (v : Int32) : pubM l yX8_call wsX8_call ({ frames := 7, cells := 2, slots := 12, locals := 102 }) 2 12 (cB D cI cO cb eA mi st A ws) D cI cO eA st A ws h [.ref h, .int i, .int v] (g_call M i v) (k_call M i v) (r_call M i v) id [0, 1, 2, 3] := by
  have hc0 := hc
  obtain ⟨own, kd, F, L, hC, hW, ⟨tn, lo, aw, co, ct, ow, G⟩, hD⟩ := hc
  have hk := G.1.1
  have hkx := (u_call hM hW G i v).1
  refine ⟨_, hkx, by repeat' (first | decide | apply ite_in), vx_mono (cm_call l hst D cI cO cb eA mi st ws hD hC hW hs h hk i v) (fun r u hp => ?_)⟩
  obtain ⟨e0, hp⟩ := hp
  have ek : k_call M i v = 0 := hkx.symm.trans ((congrArg id e0).trans rfl)
  obtain ⟨hr, hC2, hW2, hD2⟩ := hp
  obtain ⟨q1, q2⟩ := (u_call hM hW G i v).2 ek
  exact ⟨u, ⟨ek, hr.trans q1, ⟨_, _, _, _, hC2, hW2, ⟨_, _, _, _, _, _, q2⟩, hD2⟩⟩, fun U hU => hU⟩
theorem cq_isIn (l : Launch) (hst : l.stackTraces = false) (D : va_G) (cI cO cb : ClassId) (eA mi : Nat) (st : Nat → Nat) {A : Nat → Prop} (ws : va_W) {h : Nat} {M : MS} (hc : cSt cI cO eA st A h M ws) (hM : MI M) (hs : sInj st) (b : Int32) (t : Int32) (k : Int32) : pubM l yX8_isIn wsX8_isIn ({ frames := 8, cells := 3, slots := 18, locals := 125 }) 3 18 (cB D cI cO cb eA mi st A ws) D cI cO eA st A ws h [.ref h, .int b, .int t, .int k] (M) (k_ask M b t k) (bi (r_isIn M b t k)) id [0, 1] := by
  have hc0 := hc
  obtain ⟨own, kd, F, L, hC, hW, ⟨tn, lo, aw, co, ct, ow, G⟩, hD⟩ := hc
  have hk := G.1.1
  obtain ⟨hH, hT, hL, hX, hWW, hU, hCC, hDD, hK, hS, hO, hN, hZ⟩ := G
  have hkx := askK hM hH hT b t k
  refine ⟨_, hkx, by repeat' (first | decide | apply ite_in), vx_mono (cx_isIn l hst D cI cO cb eA mi st ws hD hC hW hs h hk b t k) (fun r u hp => ?_)⟩
  obtain ⟨e0, hp⟩ := hp
  have ek : k_ask M b t k = 0 := hkx.symm.trans ((congrArg id e0).trans rfl)
  have q1 := congrArg bi (q_isIn hM hH hT hL ek)
  exact ⟨ws, ⟨ek, hp.trans q1, hc0⟩, fun U hU => hU⟩
theorem cq_score (l : Launch) (hst : l.stackTraces = false) (D : va_G) (cI cO cb : ClassId) (eA mi : Nat) (st : Nat → Nat) {A : Nat → Prop} (ws : va_W) {h : Nat} {M : MS} (hc : cSt cI cO eA st A h M ws) (hM : MI M) (hs : sInj st) (b : Int32) (t : Int32) (k : Int32) : pubM l yX8_score wsX8_score ({ frames := 8, cells := 3, slots := 18, locals := 125 }) 3 18 (cB D cI cO cb eA mi st A ws) D cI cO eA st A ws h [.ref h, .int b, .int t, .int k] (M) (k_ask M b t k) (r_score M b t k) id [0, 1] := by
  have hc0 := hc
  obtain ⟨own, kd, F, L, hC, hW, ⟨tn, lo, aw, co, ct, ow, G⟩, hD⟩ := hc
  have hk := G.1.1
  obtain ⟨hH, hT, hL, hX, hWW, hU, hCC, hDD, hK, hS, hO, hN, hZ⟩ := G
  have hkx := askK hM hH hT b t k
  refine ⟨_, hkx, by repeat' (first | decide | apply ite_in), vx_mono (cx_score l hst D cI cO cb eA mi st ws hD hC hW hs h hk b t k) (fun r u hp => ?_)⟩
  obtain ⟨e0, hp⟩ := hp
  have ek : k_ask M b t k = 0 := hkx.symm.trans ((congrArg id e0).trans rfl)
  have q1 := q_score hM hH hT hL ek
  exact ⟨ws, ⟨ek, hp.trans q1, hc0⟩, fun U hU => hU⟩
theorem cq_ranked (l : Launch) (hst : l.stackTraces = false) (D : va_G) (cI cO cb : ClassId) (eA mi : Nat) (st : Nat → Nat) {A : Nat → Prop} (ws : va_W) {h : Nat} {M : MS} (hc : cSt cI cO eA st A h M ws) (hM : MI M) (hs : sInj st) (t : Int32) (k : Int32) (z : Int32) : pubM l yX8_ranked wsX8_ranked ({ frames := 8, cells := 3, slots := 18, locals := 138 }) 3 18 (cB D cI cO cb eA mi st A ws) D cI cO eA st A ws h [.ref h, .int t, .int k, .int z] (M) (k_ranked M t k z) (r_ranked M t k z) id [0, 1, 2] := by
  have hc0 := hc
  obtain ⟨own, kd, F, L, hC, hW, ⟨tn, lo, aw, co, ct, ow, G⟩, hD⟩ := hc
  have hk := G.1.1
  obtain ⟨hH, hT, hL, hX, hWW, hU, hCC, hDD, hK, hS, hO, hN, hZ⟩ := G
  have hkx := (q_ranked hM hH hT hL t k z).1
  refine ⟨_, hkx, by repeat' (first | decide | apply ite_in), vx_mono (cx_ranked l hst D cI cO cb eA mi st ws hD hC hW hs h hk t k z) (fun r u hp => ?_)⟩
  obtain ⟨e0, hp⟩ := hp
  have ek : k_ranked M t k z = 0 := hkx.symm.trans ((congrArg id e0).trans rfl)
  have q1 := (q_ranked hM hH hT hL t k z).2 ek
  exact ⟨ws, ⟨ek, hp.trans q1, hc0⟩, fun U hU => hU⟩
theorem cq_awardOf (l : Launch) (hst : l.stackTraces = false) (D : va_G) (cI cO cb : ClassId) (eA mi : Nat) (st : Nat → Nat) {A : Nat → Prop} (ws : va_W) {h : Nat} {M : MS} (hc : cSt cI cO eA st A h M ws) (hM : MI M) (hs : sInj st) (t : Int32) (k : Int32) : pubM l yX8_awardOf wsX8_awardOf ({ frames := 8, cells := 2, slots := 12, locals := 125 }) 2 12 (cB D cI cO cb eA mi st A ws) D cI cO eA st A ws h [.ref h, .int t, .int k] (M) (k_lot M t k) (r_awardOf M t k) id [0, 1] := by
  have hc0 := hc
  obtain ⟨own, kd, F, L, hC, hW, ⟨tn, lo, aw, co, ct, ow, G⟩, hD⟩ := hc
  have hk := G.1.1
  obtain ⟨hH, hT, hL, hX, hWW, hU, hCC, hDD, hK, hS, hO, hN, hZ⟩ := G
  have hkx := (q_awardOf hM hH hT hL hWW hU t k).1
  refine ⟨_, hkx, by repeat' (first | decide | apply ite_in), vx_mono (cx_awardOf l hst D cI cO cb eA mi st ws hD hC hW hs h hk t k) (fun r u hp => ?_)⟩
  obtain ⟨e0, hp⟩ := hp
  have ek : k_lot M t k = 0 := hkx.symm.trans ((congrArg id e0).trans rfl)
  have q1 := (q_awardOf hM hH hT hL hWW hU t k).2 ek
  exact ⟨ws, ⟨ek, hp.trans q1, hc0⟩, fun U hU => hU⟩
theorem cq_winner (l : Launch) (hst : l.stackTraces = false) (D : va_G) (cI cO cb : ClassId) (eA mi : Nat) (st : Nat → Nat) {A : Nat → Prop} (ws : va_W) {h : Nat} {M : MS} (hc : cSt cI cO eA st A h M ws) (hM : MI M) (hs : sInj st) (i : Int32) : pubM l yX8_winner wsX8_winner ({ frames := 7, cells := 1, slots := 6, locals := 102 }) 1 6 (cB D cI cO cb eA mi st A ws) D cI cO eA st A ws h [.ref h, .int i] (M) (k_aw M i) (r_winner M i) id [0, 1] := by
  have hc0 := hc
  obtain ⟨own, kd, F, L, hC, hW, ⟨tn, lo, aw, co, ct, ow, G⟩, hD⟩ := hc
  have hk := G.1.1
  obtain ⟨hH, hT, hL, hX, hWW, hU, hCC, hDD, hK, hS, hO, hN, hZ⟩ := G
  have hkx := (q_winner hM hH hWW i).1
  refine ⟨_, hkx, by repeat' (first | decide | apply ite_in), vx_mono (cx_winner l hst D cI cO cb eA mi st ws hD hC hW hs h hk i) (fun r u hp => ?_)⟩
  obtain ⟨e0, hp⟩ := hp
  have ek : k_aw M i = 0 := hkx.symm.trans ((congrArg id e0).trans rfl)
  have q1 := (q_winner hM hH hWW i).2 ek
  exact ⟨ws, ⟨ek, hp.trans q1, hc0⟩, fun U hU => hU⟩
theorem cq_isVoid (l : Launch) (hst : l.stackTraces = false) (D : va_G) (cI cO cb : ClassId) (eA mi : Nat) (st : Nat → Nat) {A : Nat → Prop} (ws : va_W) {h : Nat} {M : MS} (hc : cSt cI cO eA st A h M ws) (hM : MI M) (hs : sInj st) (i : Int32) : pubM l yX8_isVoid wsX8_isVoid ({ frames := 7, cells := 1, slots := 6, locals := 102 }) 1 6 (cB D cI cO cb eA mi st A ws) D cI cO eA st A ws h [.ref h, .int i] (M) (k_aw M i) (bi (r_isVoid M i)) id [0, 1] := by
  have hc0 := hc
  obtain ⟨own, kd, F, L, hC, hW, ⟨tn, lo, aw, co, ct, ow, G⟩, hD⟩ := hc
  have hk := G.1.1
  obtain ⟨hH, hT, hL, hX, hWW, hU, hCC, hDD, hK, hS, hO, hN, hZ⟩ := G
  have hkx := (q_winner hM hH hWW i).1
  refine ⟨_, hkx, by repeat' (first | decide | apply ite_in), vx_mono (cx_isVoid l hst D cI cO cb eA mi st ws hD hC hW hs h hk i) (fun r u hp => ?_)⟩
  obtain ⟨e0, hp⟩ := hp
  have ek : k_aw M i = 0 := hkx.symm.trans ((congrArg id e0).trans rfl)
  have q1 := congrArg bi (q_isVoid hM hH hWW i ek)
  exact ⟨ws, ⟨ek, hp.trans q1, hc0⟩, fun U hU => hU⟩
theorem cq_isFinal (l : Launch) (hst : l.stackTraces = false) (D : va_G) (cI cO cb : ClassId) (eA mi : Nat) (st : Nat → Nat) {A : Nat → Prop} (ws : va_W) {h : Nat} {M : MS} (hc : cSt cI cO eA st A h M ws) (hM : MI M) (hs : sInj st) (i : Int32) : pubM l yX8_isFinal wsX8_isFinal ({ frames := 7, cells := 1, slots := 6, locals := 109 }) 1 6 (cB D cI cO cb eA mi st A ws) D cI cO eA st A ws h [.ref h, .int i] (M) (k_aw M i) (bi (r_isFinal M i)) id [0, 1] := by
  have hc0 := hc
  obtain ⟨own, kd, F, L, hC, hW, ⟨tn, lo, aw, co, ct, ow, G⟩, hD⟩ := hc
  have hk := G.1.1
  obtain ⟨hH, hT, hL, hX, hWW, hU, hCC, hDD, hK, hS, hO, hN, hZ⟩ := G
  have hkx := (q_winner hM hH hWW i).1
  refine ⟨_, hkx, by repeat' (first | decide | apply ite_in), vx_mono (cx_isFinal l hst D cI cO cb eA mi st ws hD hC hW hs h hk i) (fun r u hp => ?_)⟩
  obtain ⟨e0, hp⟩ := hp
  have ek : k_aw M i = 0 := hkx.symm.trans ((congrArg id e0).trans rfl)
  have q1 := congrArg bi (q_isFinal hM hH hWW hCC i ek)
  exact ⟨ws, ⟨ek, hp.trans q1, hc0⟩, fun U hU => hU⟩
theorem cq_winnerAnew (l : Launch) (hst : l.stackTraces = false) (D : va_G) (cI cO cb : ClassId) (eA mi : Nat) (st : Nat → Nat) {A : Nat → Prop} (ws : va_W) {h : Nat} {M : MS} (hc : cSt cI cO eA st A h M ws) (hM : MI M) (hs : sInj st) (t : Int32) (k : Int32) : pubM l yX8_winnerAnew wsX8_winnerAnew ({ frames := 8, cells := 21, slots := 839, locals := 213 }) 21 839 (cB D cI cO cb eA mi st A ws) D cI cO eA st A ws h [.ref h, .int t, .int k] (M) (k_lot M t k) (r_winnerAnew M t k) id [0, 1] := by
  have hc0 := hc
  obtain ⟨own, kd, F, L, hC, hW, ⟨tn, lo, aw, co, ct, ow, G⟩, hD⟩ := hc
  have hk := G.1.1
  have hkx := (q_awardOf hM G.1 G.2.1 G.2.2.1 G.2.2.2.2.1 G.2.2.2.2.2.1 t k).1
  refine ⟨_, hkx, by repeat' (first | decide | apply ite_in), vx_mono (cm_winnerAnew l hst D cI cO cb eA mi st ws hD hC hW hs h hk t k (fun e => (an_hyps hM G.1 G.2.1 G.2.2.1 e).1) (fun e => (an_hyps hM G.1 G.2.1 G.2.2.1 e).2)) (fun r u hp => ?_)⟩
  obtain ⟨e0, hp⟩ := hp
  have ek : k_lot M t k = 0 := hkx.symm.trans ((congrArg id e0).trans rfl)
  obtain ⟨own2, kd2, F2, L2, hE, hC2, hW2, hD2, hr⟩ := hp
  have q1 := q_winnerAnew hM hW G.1 G.2.1 G.2.2.1 ek hr
  exact ⟨u, ⟨ek, q1, ⟨_, _, _, _, hC2, hW2, ⟨_, _, _, _, _, _, G.ext hW hE⟩, hD2⟩⟩, fun U hU => hU⟩
theorem cq_line (l : Launch) (hst : l.stackTraces = false) (D : va_G) (cI cO cb : ClassId) (eA mi : Nat) (st : Nat → Nat) (dO dT : Nat) (vF : Value) {A : Nat → Prop} (ws : va_W) {h : Nat} {M : MS} (hc : cSt cI cO eA st A h M ws) (hM : MI M) (hs : sInj st) (i : Int32) : pubM l yX8_line wsX8_line ({ frames := 7, cells := 3, slots := 26, locals := 131 }) 3 26 (cT D cI cO cb eA mi st dO dT vF A ws) D cI cO eA st A ws h [.ref h, .int i] (g_line M i) (k_aw M i) (r_line M i) id [0, 1] := by
  have hc0 := hc
  obtain ⟨own, kd, F, L, hC, hW, ⟨tn, lo, aw, co, ct, ow, G⟩, hD⟩ := hc
  have hk := G.1.1
  obtain ⟨hH, hT, hL, hX, hWW, hU, hCC, hDD, hK, hS, hO, hN, hZ⟩ := G
  have hkx := (q_winner hM hH hWW i).1
  refine ⟨_, hkx, by repeat' (first | decide | apply ite_in), vx_mono (cx_line l hst D cI cO cb eA mi st dO dT vF ws hD hC hW hs h hk i) (fun r u hp => ?_)⟩
  obtain ⟨e0, hp⟩ := hp
  have ek : k_aw M i = 0 := hkx.symm.trans ((congrArg id e0).trans rfl)
  have q1 := q_line hW hM hH hT hL hWW hCC i ek
  exact ⟨ws, ⟨ek, hp.trans q1, ⟨own, kd, F, L, hC, hW, ⟨tn, lo, aw, co, ct, ow, RelG.ln ⟨hH, hT, hL, hX, hWW, hU, hCC, hDD, hK, hS, hO, hN, hZ⟩ hW (g_line_nf M i)⟩, hD⟩⟩, fun U hU => hU⟩
theorem cq_lineChar (l : Launch) (hst : l.stackTraces = false) (D : va_G) (cI cO cb : ClassId) (eA mi : Nat) (st : Nat → Nat) (dO dT : Nat) (vF : Value) {A : Nat → Prop} (ws : va_W) {h : Nat} {M : MS} (hc : cSt cI cO eA st A h M ws) (hM : MI M) (hs : sInj st) (i : Int32) (pl : Int32) : pubM l yX8_lineChar wsX8_lineChar ({ frames := 7, cells := 4, slots := 32, locals := 131 }) 4 32 (cT D cI cO cb eA mi st dO dT vF A ws) D cI cO eA st A ws h [.ref h, .int i, .int pl] (g_line M i) (k_lineChar M i pl) (r_lineChar M i pl) id [0, 1] := by
  have hc0 := hc
  obtain ⟨own, kd, F, L, hC, hW, ⟨tn, lo, aw, co, ct, ow, G⟩, hD⟩ := hc
  have hk := G.1.1
  obtain ⟨hH, hT, hL, hX, hWW, hU, hCC, hDD, hK, hS, hO, hN, hZ⟩ := G
  have hkx := (q_lineChar hW hM hH hT hL hWW hCC i pl).1
  refine ⟨_, hkx, by repeat' (first | decide | apply ite_in), vx_mono (cx_lineChar l hst D cI cO cb eA mi st dO dT vF ws hD hC hW hs h hk i pl) (fun r u hp => ?_)⟩
  obtain ⟨e0, hp⟩ := hp
  have ek : k_lineChar M i pl = 0 := hkx.symm.trans ((congrArg id e0).trans rfl)
  have q1 := (q_lineChar hW hM hH hT hL hWW hCC i pl).2 ek
  exact ⟨ws, ⟨ek, hp.trans q1, ⟨own, kd, F, L, hC, hW, ⟨tn, lo, aw, co, ct, ow, RelG.ln ⟨hH, hT, hL, hX, hWW, hU, hCC, hDD, hK, hS, hO, hN, hZ⟩ hW (g_line_nf M i)⟩, hD⟩⟩, fun U hU => hU⟩
theorem cq_stateOf (l : Launch) (hst : l.stackTraces = false) (D : va_G) (cI cO cb : ClassId) (eA mi : Nat) (st : Nat → Nat) {A : Nat → Prop} (ws : va_W) {h : Nat} {M : MS} (hc : cSt cI cO eA st A h M ws) (hM : MI M) (hs : sInj st) (i : Int32) : pubM l yX8_stateOf wsX8_stateOf ({ frames := 7, cells := 1, slots := 6, locals := 102 }) 1 6 (cB D cI cO cb eA mi st A ws) D cI cO eA st A ws h [.ref h, .int i] (M) (k_co M i) (r_stateOf M i) id [0, 1] := by
  have hc0 := hc
  obtain ⟨own, kd, F, L, hC, hW, ⟨tn, lo, aw, co, ct, ow, G⟩, hD⟩ := hc
  have hk := G.1.1
  obtain ⟨hH, hT, hL, hX, hWW, hU, hCC, hDD, hK, hS, hO, hN, hZ⟩ := G
  have hkx := (q_stateOf hM hH hCC i).1
  refine ⟨_, hkx, by repeat' (first | decide | apply ite_in), vx_mono (cx_stateOf l hst D cI cO cb eA mi st ws hD hC hW hs h hk i) (fun r u hp => ?_)⟩
  obtain ⟨e0, hp⟩ := hp
  have ek : k_co M i = 0 := hkx.symm.trans ((congrArg id e0).trans rfl)
  have q1 := (q_stateOf hM hH hCC i).2 ek
  exact ⟨ws, ⟨ek, hp.trans q1, hc0⟩, fun U hU => hU⟩
theorem cq_running (l : Launch) (hst : l.stackTraces = false) (D : va_G) (cI cO cb : ClassId) (eA mi : Nat) (st : Nat → Nat) {A : Nat → Prop} (ws : va_W) {h : Nat} {M : MS} (hc : cSt cI cO eA st A h M ws) (hM : MI M) (hs : sInj st) (i : Int32) : pubM l yX8_running wsX8_running ({ frames := 7, cells := 1, slots := 6, locals := 102 }) 1 6 (cB D cI cO cb eA mi st A ws) D cI cO eA st A ws h [.ref h, .int i] (M) (k_ct M i) (r_running M i) id [0, 1] := by
  have hc0 := hc
  obtain ⟨own, kd, F, L, hC, hW, ⟨tn, lo, aw, co, ct, ow, G⟩, hD⟩ := hc
  have hk := G.1.1
  obtain ⟨hH, hT, hL, hX, hWW, hU, hCC, hDD, hK, hS, hO, hN, hZ⟩ := G
  have hkx := (q_running hM hH hWW hCC hK i).1
  refine ⟨_, hkx, by repeat' (first | decide | apply ite_in), vx_mono (cx_running l hst D cI cO cb eA mi st ws hD hC hW hs h hk i) (fun r u hp => ?_)⟩
  obtain ⟨e0, hp⟩ := hp
  have ek : k_ct M i = 0 := hkx.symm.trans ((congrArg id e0).trans rfl)
  have q1 := (q_running hM hH hWW hCC hK i).2 ek
  exact ⟨ws, ⟨ek, hp.trans q1, hc0⟩, fun U hU => hU⟩
theorem cq_owes (l : Launch) (hst : l.stackTraces = false) (D : va_G) (cI cO cb : ClassId) (eA mi : Nat) (st : Nat → Nat) {A : Nat → Prop} (ws : va_W) {h : Nat} {M : MS} (hc : cSt cI cO eA st A h M ws) (hM : MI M) (hs : sInj st) (b : Int32) : pubM l yX8_owes wsX8_owes ({ frames := 7, cells := 1, slots := 6, locals := 101 }) 1 6 (cB D cI cO cb eA mi st A ws) D cI cO eA st A ws h [.ref h, .int b] (M) (k_b b) (r_owes M b) id [0, 1] := by
  have hc0 := hc
  obtain ⟨own, kd, F, L, hC, hW, ⟨tn, lo, aw, co, ct, ow, G⟩, hD⟩ := hc
  have hk := G.1.1
  obtain ⟨hH, hT, hL, hX, hWW, hU, hCC, hDD, hK, hS, hO, hN, hZ⟩ := G
  have hkx := kbK b
  refine ⟨_, hkx, by repeat' (first | decide | apply ite_in), vx_mono (cx_owes l hst D cI cO cb eA mi st ws hD hC hW hs h hk b) (fun r u hp => ?_)⟩
  obtain ⟨e0, hp⟩ := hp
  have ek : k_b b = 0 := hkx.symm.trans ((congrArg id e0).trans rfl)
  have q1 := q_owes hM hH hWW hK b ek
  exact ⟨ws, ⟨ek, hp.trans q1, hc0⟩, fun U hU => hU⟩
theorem cq_held (l : Launch) (hst : l.stackTraces = false) (D : va_G) (cI cO cb : ClassId) (eA mi : Nat) (st : Nat → Nat) {A : Nat → Prop} (ws : va_W) {h : Nat} {M : MS} (hc : cSt cI cO eA st A h M ws) (hM : MI M) (hs : sInj st) (b : Int32) : pubM l yX8_held wsX8_held ({ frames := 7, cells := 1, slots := 6, locals := 111 }) 1 6 (cB D cI cO cb eA mi st A ws) D cI cO eA st A ws h [.ref h, .int b] (M) (k_b b) (r_held M b) id [0, 1] := by
  have hc0 := hc
  obtain ⟨own, kd, F, L, hC, hW, ⟨tn, lo, aw, co, ct, ow, G⟩, hD⟩ := hc
  have hk := G.1.1
  obtain ⟨hH, hT, hL, hX, hWW, hU, hCC, hDD, hK, hS, hO, hN, hZ⟩ := G
  have hkx := kbK b
  refine ⟨_, hkx, by repeat' (first | decide | apply ite_in), vx_mono (cx_held l hst D cI cO cb eA mi st ws hD hC hW hs h hk b) (fun r u hp => ?_)⟩
  obtain ⟨e0, hp⟩ := hp
  have ek : k_b b = 0 := hkx.symm.trans ((congrArg id e0).trans rfl)
  have q1 := q_held hM hH hT hL hX hWW hU hK hS b ek
  exact ⟨ws, ⟨ek, hp.trans q1, hc0⟩, fun U hU => hU⟩
theorem cq_lost (l : Launch) (hst : l.stackTraces = false) (D : va_G) (cI cO cb : ClassId) (eA mi : Nat) (st : Nat → Nat) {A : Nat → Prop} (ws : va_W) {h : Nat} {M : MS} (hc : cSt cI cO eA st A h M ws) (hM : MI M) (hs : sInj st) (b : Int32) : pubM l yX8_lost wsX8_lost ({ frames := 7, cells := 1, slots := 6, locals := 101 }) 1 6 (cB D cI cO cb eA mi st A ws) D cI cO eA st A ws h [.ref h, .int b] (M) (k_b b) (r_lost M b) id [0, 1] := by
  have hc0 := hc
  obtain ⟨own, kd, F, L, hC, hW, ⟨tn, lo, aw, co, ct, ow, G⟩, hD⟩ := hc
  have hk := G.1.1
  obtain ⟨hH, hT, hL, hX, hWW, hU, hCC, hDD, hK, hS, hO, hN, hZ⟩ := G
  have hkx := kbK b
  refine ⟨_, hkx, by repeat' (first | decide | apply ite_in), vx_mono (cx_lost l hst D cI cO cb eA mi st ws hD hC hW hs h hk b) (fun r u hp => ?_)⟩
  obtain ⟨e0, hp⟩ := hp
  have ek : k_b b = 0 := hkx.symm.trans ((congrArg id e0).trans rfl)
  have q1 := q_lost hH hO b ek
  exact ⟨ws, ⟨ek, hp.trans q1, hc0⟩, fun U hU => hU⟩
