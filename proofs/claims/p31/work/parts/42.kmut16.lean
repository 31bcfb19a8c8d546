/-! the class: a lot followed anew -/
def kRep (F : Nat → Nat → Nat) (vs : List Nat) (b q0 s0 : Nat) : Nat → Nat × Nat
  | 0 => (q0, s0)
  | i + 1 => if F 1 (gt vs i) = b then (if F 0 (gt vs i) = 1 then (F 2 (gt vs i), (kRep F vs b q0 s0 i).2) else if F 0 (gt vs i) = 2 then ((kRep F vs b q0 s0 i).1, 1) else ((kRep F vs b q0 s0 i).1, 3)) else kRep F vs b q0 s0 i
/-- all that was there is as it was -/
def Ext (kd : Nat → Nat) (F : Nat → Nat → Nat) (L : Nat → List Nat) (kd2 : Nat → Nat) (F2 : Nat → Nat → Nat) (L2 : Nat → List Nat) : Prop := ∀ a, kd a ≠ 0 → kd2 a = kd a ∧ (∀ f, F2 f a = F f a) ∧ L2 a = L a
theorem Ext.rf {kd : Nat → Nat} {F : Nat → Nat → Nat} {L : Nat → List Nat} : Ext kd F L kd F L := fun _ _ => ⟨rfl, fun _ => rfl, rfl⟩
/-- the lot q has the first k bids of the lot a, as they were opened, each through the first i changes -/
def AnI (kd : Nat → Nat) (F : Nat → Nat → Nat) (L : Nat → List Nat) (a q k i : Nat) (kd2 : Nat → Nat) (F2 : Nat → Nat → Nat) (L2 : Nat → List Nat) : Prop :=
  Ext kd F L kd2 F2 L2 ∧ kd2 q = 7 ∧ kd q = 0 ∧ F2 0 q = F 0 a ∧ kd (F2 3 q) = 0 ∧ (L2 (F2 3 q)).length = k ∧ (∀ x y, x < k → y < k → gt (L2 (F2 3 q)) x = gt (L2 (F2 3 q)) y → x = y) ∧
  ∀ j, j < k → kd (gt (L2 (F2 3 q)) j) = 0 ∧ F2 0 (gt (L2 (F2 3 q)) j) = F 0 (gt (L (F 3 a)) j) ∧ F2 1 (gt (L2 (F2 3 q)) j) = F 1 (gt (L (F 3 a)) j) ∧
    F2 3 (gt (L2 (F2 3 q)) j) = (kRep F (L (F 4 a)) (F 0 (gt (L (F 3 a)) j)) (F 2 (gt (L (F 3 a)) j)) (F 4 (gt (L (F 3 a)) j)) i).1 ∧
    F2 5 (gt (L2 (F2 3 q)) j) = (kRep F (L (F 4 a)) (F 0 (gt (L (F 3 a)) j)) (F 2 (gt (L (F 3 a)) j)) (F 4 (gt (L (F 3 a)) j)) i).2
theorem gt_app1 {vs ws : List Nat} {j : Nat} (h : j < vs.length) : gt (vs ++ ws) j = gt vs j := by
  unfold gt
  rw [List.getD_eq_getElem?_getD, List.getD_eq_getElem?_getD, List.getElem?_append_left h]
theorem gt_app2 {vs : List Nat} {x : Nat} : gt (vs ++ [x]) vs.length = x := by
  unfold gt
  rw [List.getD_eq_getElem?_getD, List.getElem?_append_right (Nat.le_refl _), Nat.sub_self]; rfl
theorem AnI.start {kd : Nat → Nat} {F : Nat → Nat → Nat} {L : Nat → List Nat} {a q r1 r2 n d : Nat} (hq : kd q = 0) (h1 : kd r1 = 0) (h2 : kd r2 = 0) (hqr1 : q ≠ r1) (hqr2 : q ≠ r2) (h12 : r1 ≠ r2) :
    AnI kd F L a q 0 0 (kdN (kdN (kdN kd r1 23) r2 24) q 7) (FN F q [F 0 a, n, d, r1, r2]) (upL (upL L r1 []) r2 []) := by
  have e3 : FN F q [F 0 a, n, d, r1, r2] 3 q = r1 := if_pos rfl
  refine ⟨fun b hb => ⟨?_, fun f => ?_, ?_⟩, kdN_eq, hq, if_pos rfl, by rw [e3]; exact h1, ?_, fun x y hx => absurd hx (Nat.not_lt_zero x), fun j hj => absurd hj (Nat.not_lt_zero j)⟩
  · rw [kdN_ne (fun e => hb (by rw [e]; exact hq)), kdN_ne (fun e => hb (by rw [e]; exact h2)), kdN_ne (fun e => hb (by rw [e]; exact h1))]
  · exact FN_ne (fun e => hb (by rw [e]; exact hq))
  · rw [upL_ne (fun e => hb (by rw [e]; exact h2)), upL_ne (fun e => hb (by rw [e]; exact h1))]
  · rw [e3, upL_ne h12, upL_eq]; rfl
theorem AnI.push {kd : Nat → Nat} {F : Nat → Nat → Nat} {L : Nat → List Nat} {a q k : Nat} {kd2 : Nat → Nat} {F2 : Nat → Nat → Nat} {L2 : Nat → List Nat} (h : AnI kd F L a q k 0 kd2 F2 L2) (hW : WF kd2 F2 L2) {o b : Nat} (ho : kd2 o = 0) (hb : b = gt (L (F 3 a)) k) (hkb : kd b = 3) :
    AnI kd F L a q (k + 1) 0 (kdN kd2 o 3) (up2 (FN F2 o [F 0 b, F 1 b, F 2 b, F 2 b, 0, 0]) 5 o (F 4 b)) (upL L2 (F2 3 q) (L2 (F2 3 q) ++ [o])) := by
  obtain ⟨hE, hk7, hq, hq0, hr, hlen, hnd, hv⟩ := h
  have ne : ∀ c, kd c ≠ 0 → c ≠ o := fun c hc e => hc (by rw [← (hE c hc).1, e]; exact ho)
  have hqo : q ≠ o := fun e => by rw [e, ho] at hk7; cases hk7
  have hk23 : kd2 (F2 3 q) = 23 := hW.ref hk7 rfl (by decide)
  have hro : F2 3 q ≠ o := fun e => by rw [e, ho] at hk23; cases hk23
  have e3 : up2 (FN F2 o [F 0 b, F 1 b, F 2 b, F 2 b, 0, 0]) 5 o (F 4 b) 3 q = F2 3 q := (up2_ne hqo).trans (FN_ne hqo)
  have ko : ∀ j, j < k → gt (L2 (F2 3 q)) j ≠ o := fun j hj e => by
    have h3 : kd2 (gt (L2 (F2 3 q)) j) = 3 := hW.el hk23 (by omega)
    rw [e, ho] at h3; cases h3
  refine ⟨fun c hc => ⟨?_, fun f => ?_, ?_⟩, ?_, hq, ?_, by rw [e3]; exact hr, ?_, ?_, ?_⟩
  · rw [kdN_ne (ne c hc)]; exact (hE c hc).1
  · rw [up2_ne (ne c hc), FN_ne (ne c hc)]; exact (hE c hc).2.1 f
  · rw [upL_ne (fun e => hc (by rw [e]; exact hr))]; exact (hE c hc).2.2
  · rw [kdN_ne hqo]; exact hk7
  · rw [up2_ne hqo, FN_ne hqo]; exact hq0
  · rw [e3, upL_eq, List.length_append, hlen]; rfl
  · rw [e3, upL_eq]
    intro x y hx hy hxy
    by_cases hxk : x < k
    · rw [gt_app1 (by omega)] at hxy
      by_cases hyk : y < k
      · rw [gt_app1 (by omega)] at hxy; exact hnd x y hxk hyk hxy
      · rw [show y = (L2 (F2 3 q)).length by omega, gt_app2] at hxy; exact absurd hxy (ko x hxk)
    · by_cases hyk : y < k
      · rw [show x = (L2 (F2 3 q)).length by omega, gt_app2, gt_app1 (by omega)] at hxy; exact absurd hxy.symm (ko y hyk)
      · omega
  · rw [e3, upL_eq]
    intro j hj
    by_cases hjk : j < k
    · rw [gt_app1 (by omega)]
      have hne := ko j hjk
      rw [up2_ne hne, up2_ne hne, up2_ne hne, up2_ne hne, FN_ne hne, FN_ne hne, FN_ne hne, FN_ne hne]
      exact hv j hjk
    · rw [show j = (L2 (F2 3 q)).length by omega, gt_app2]
      rw [show (L2 (F2 3 q)).length = k from hlen, ← hb]
      refine ⟨?_, ?_, ?_, ?_, ?_⟩
      · by_cases h0 : kd o = 0
        · exact h0
        · exact absurd rfl (ne o h0)
      · rw [up2_nf (by decide)]; exact if_pos rfl
      · rw [up2_nf (by decide)]; exact if_pos rfl
      · rw [up2_nf (by decide)]; exact if_pos rfl
      · exact up2_eq
theorem fr_eq {P : Nat → Prop} [DecidablePred P] {n i : Nat} (hi : i < n) (hp : P i) (hn : ∀ j, j < i → ¬ P j) : fr P n = some i := fr_some hn hi hp
theorem fr_spec {P : Nat → Prop} [DecidablePred P] {n i : Nat} (h : fr P n = some i) : P i := by
  unfold fr at h
  simpa using List.find?_some h
/-- a change followed once more -/
theorem AnI.follow {kd : Nat → Nat} {F : Nat → Nat → Nat} {L : Nat → List Nat} {a q n i : Nat} {kd2 : Nat → Nat} {F2 : Nat → Nat → Nat} {L2 : Nat → List Nat} (h : AnI kd F L a q n i kd2 F2 L2) (hdist : ∀ x y, x < n → y < n → F 0 (gt (L (F 3 a)) x) = F 0 (gt (L (F 3 a)) y) → x = y) {y : Nat} (hy : y = gt (L (F 4 a)) i) (hky : kd y = 4) (hW2 : WF kd2 F2 L2) :
    AnI kd F L a q n (i + 1) kd2 (kFollow F2 L2 q y) L2 := by
  obtain ⟨hE, hk7, hq, hq0, hr, hlen, hnd, hv⟩ := h
  obtain ⟨hy1, hy2, -⟩ := hE y (by omega)
  have hk23 : kd2 (F2 3 q) = 23 := hW2.ref hk7 rfl (by decide)
  -- what following changes: at most one of the new bids
  have hold : ∀ c f, kd c ≠ 0 → kFollow F2 L2 q y f c = F2 f c := by
    intro c f hc
    unfold kFollow
    rcases hb : kBid F2 L2 q (F2 1 y) with _ | o
    · rfl
    · have hko : kd o = 0 := by
        unfold kBid at hb
        rcases hf : fr (fun j => F2 0 (gt (L2 (F2 3 q)) j) = F2 1 y) (L2 (F2 3 q)).length with _ | j
        · rw [hf] at hb; cases hb
        · rw [hf] at hb; cases hb
          exact (hv j (by have := fr_lt hf; omega)).1
      have hne : c ≠ o := fun e => hc (by rw [e]; exact hko)
      show (if F2 0 y = 1 then up2 F2 3 o (F2 2 y) else if F2 0 y = 2 then up2 F2 5 o 1 else up2 F2 5 o 3) f c = F2 f c
      split
      · exact up2_ne hne
      · split <;> exact up2_ne hne
  have hq3 : kFollow F2 L2 q y 3 q = F2 3 q := by
    unfold kFollow
    rcases hb : kBid F2 L2 q (F2 1 y) with _ | o
    · rfl
    · have hko : kd2 o = 3 := kBid_kd hW2 hk7 hb
      have hne : q ≠ o := fun e => by rw [← e, hk7] at hko; cases hko
      show (if F2 0 y = 1 then up2 F2 3 o (F2 2 y) else if F2 0 y = 2 then up2 F2 5 o 1 else up2 F2 5 o 3) 3 q = F2 3 q
      split
      · exact up2_ne hne
      · split <;> exact up2_ne hne
  refine ⟨fun c hc => ⟨(hE c hc).1, fun f => by rw [hold c f hc]; exact (hE c hc).2.1 f, (hE c hc).2.2⟩, hk7, hq, by rw [kFollow_nf (by decide) (by decide)]; exact hq0, by rw [hq3]; exact hr, by rw [hq3]; exact hlen, by rw [hq3]; exact hnd, ?_⟩
  rw [hq3]
  intro j hj
  obtain ⟨v1, v2, v3, v4, v5⟩ := hv j hj
  refine ⟨v1, by rw [kFollow_nf (by decide) (by decide)]; exact v2, by rw [kFollow_nf (by decide) (by decide)]; exact v3, ?_⟩
  have e1 : F2 1 y = F 1 y := hy2 1
  have e0 : F2 0 y = F 0 y := hy2 0
  have e2 : F2 2 y = F 2 y := hy2 2
  by_cases hm : F 1 y = F 0 (gt (L (F 3 a)) j)
  · -- this bid is touched
    have hb : kBid F2 L2 q (F2 1 y) = some (gt (L2 (F2 3 q)) j) := by
      unfold kBid
      rw [fr_eq (i := j) (by omega) (by rw [v2, e1, hm]) (fun x hx hp => by
        rw [(hv x (by omega)).2.1, e1, hm] at hp
        have := hdist x j (by omega) hj hp
        omega)]
      rfl
    have ek : kFollow F2 L2 q y = if F 0 y = 1 then up2 F2 3 (gt (L2 (F2 3 q)) j) (F 2 y) else if F 0 y = 2 then up2 F2 5 (gt (L2 (F2 3 q)) j) 1 else up2 F2 5 (gt (L2 (F2 3 q)) j) 3 := by
      unfold kFollow
      rw [hb]
      show (if F2 0 y = 1 then _ else _) = _
      rw [e0, e2]
    rw [ek, kRep, ← hy, if_pos hm]
    by_cases h1 : F 0 y = 1
    · rw [if_pos h1, if_pos h1]
      exact ⟨up2_eq, by rw [up2_nf (by decide)]; exact v5⟩
    · rw [if_neg h1, if_neg h1]
      by_cases h2 : F 0 y = 2
      · rw [if_pos h2, if_pos h2]
        exact ⟨by rw [up2_nf (by decide)]; exact v4, up2_eq⟩
      · rw [if_neg h2, if_neg h2]
        exact ⟨by rw [up2_nf (by decide)]; exact v4, up2_eq⟩
  · rw [kRep, ← hy, if_neg hm]
    have hun : ∀ f, kFollow F2 L2 q y f (gt (L2 (F2 3 q)) j) = F2 f (gt (L2 (F2 3 q)) j) := by
      intro f
      unfold kFollow
      rcases hb : kBid F2 L2 q (F2 1 y) with _ | o
      · rfl
      · have hne : gt (L2 (F2 3 q)) j ≠ o := by
          intro e
          unfold kBid at hb
          rcases hf : fr (fun j => F2 0 (gt (L2 (F2 3 q)) j) = F2 1 y) (L2 (F2 3 q)).length with _ | x
          · rw [hf] at hb; cases hb
          · rw [hf] at hb
            have hb : gt (L2 (F2 3 q)) x = o := Option.some.inj hb
            have hx := fr_lt hf
            have hxj : x = j := hnd x j (by omega) hj (hb.trans e.symm)
            have hp : F2 0 (gt (L2 (F2 3 q)) x) = F2 1 y := fr_spec (P := fun j => F2 0 (gt (L2 (F2 3 q)) j) = F2 1 y) hf
            rw [hxj, v2, e1] at hp
            exact hm hp.symm
        show (if F2 0 y = 1 then up2 F2 3 o (F2 2 y) else if F2 0 y = 2 then up2 F2 5 o 1 else up2 F2 5 o 3) f _ = F2 f _
        split
        · exact up2_ne hne
        · split <;> exact up2_ne hne
    rw [hun 3, hun 5]
    exact ⟨v4, v5⟩
set_option maxHeartbeats 4000000 in
set_option maxRecDepth 100000 in
theorem cv_asOpened (l : Launch) (D : va_G) (cI cO cb : ClassId) (eA mi : Nat) (st : Nat → Nat) {A : Nat → Prop} (ws : va_W) (hD : va_D A ws) {own kd : Nat → Nat} {F : Nat → Nat → Nat} {L : Nat → List Nat} (hC : CW cI cO eA st own kd F L ws) (hW : WF kd F L) (hs : sInj st)  (o : Nat) (hk_o : kd o = 3) : Met l yX1_asOpened wsX1_asOpened ({ frames := 2, cells := 1, slots := 6, locals := 37 }) (va_Pc [.ref o] (cB D cI cO cb eA mi st A ws)) (va_Qr (fun _ : va_W => True) (fun u q U9 => CW cI cO eA st own (kdN kd q 3) (up2 (FN F q [F 0 o, F 1 o, F 2 o, F 2 o, 0, 0]) 5 q (F 4 o)) L u ∧ WF (kdN kd q 3) (up2 (FN F q [F 0 o, F 1 o, F 2 o, F 2 o, 0, 0]) 5 q (F 4 o)) L ∧ kd q = 0 ∧ va_D A u ∧ va_P D vwCl u U9.heap) A) 1 6 A := by
  refine Met.ofW (cc := cX1_asOpened) (maxL := 2) (ret := (some (.object "TenderHall$Bid"))) (by decide) rfl ?_
  intro p e s m args below meth c s₁ B hml hv
  obtain ⟨rfl, hP, hK, hG, hA⟩ := hv
  have hx := B.exec
  have hb := B.bytes
  have hr := B.returns
  have hts := atoms_spec (ws := wsX1_asOpened) B.pre
  have hown : s.vm.findClass RX1 = some m.cls := findClass_of_methodNamed B.named
  have hlocks := B.notSynchronized
  have hin_X1 : ∀ w ∈ wsX10, w ∈ wsX1_asOpened := fun w h => List.mem_cons_of_mem _ (List.mem_append_right _ h)
  have l_21 := (hts (.fieldLink RX1 21 "TenderHall$Bid" "bidder" "I") (List.mem_of_getElem? (i := 4) rfl))
  have l_25 := (hts (.fieldLink RX1 25 "TenderHall$Bid" "price" "I") (List.mem_of_getElem? (i := 5) rfl))
  have l_28 := (hts (.fieldLink RX1 28 "TenderHall$Bid" "offered" "I") (List.mem_of_getElem? (i := 6) rfl))
  have l_13 := (hts (.fieldLink RX1 13 "TenderHall$Bid" "statusAtOpening" "LTenderHall$Status;") (List.mem_of_getElem? (i := 7) rfl))
  have l_18 := (hts (.fieldLink RX1 18 "TenderHall$Bid" "status" "LTenderHall$Status;") (List.mem_of_getElem? (i := 8) rfl))
  have hS : va_S A s.heap s.heap [] := va_S.rf
  have hD0 := hD
  have hl := lv_entry ([.ref o]) (n := 2) (Nat.le_of_ble_eq_true rfl)
  rw [lg_entry_eq]
  generalize (lg_sl ([.ref o]) ++ List.replicate (2 - (lg_sl ([.ref o])).length) Slot.unset).toArray = ls at hl ⊢
  have hl : lv_has ls 2 [(0, .ref o)] := hl
  have hC0 := hC
  refine va_new (ci := 3) (fs := [.int (nI 0), .int (nI 0), .int (nI 0), .int (nI 0), .null, .null]) hx hb hts hin_X1 tyX1 tyX1_ok hown (hts (.classLink RX1 14 RX1) (List.mem_of_getElem? (i := 1) rfl)) (hts (.instantiable RX1 6) (List.mem_of_getElem? (i := 2) rfl)) (hts (.initialized RX1) (List.mem_of_getElem? (i := 3) rfl)) hK hP hD hS hA rfl (fun j9 h9 => by rcases j9 with _ | _ | _ | _ | _ | _ | j9 <;> first | rfl | omega) (Nat.le_of_ble_eq_true rfl) (Nat.le_of_ble_eq_true rfl) dX1_asOpened_0 (fun q H hP hD hS => ?_)
  have hq0 := hC0.fresh hD
  have hC := hC0.app (ws2 := [(q, .inr (3, [.int (nI 0), .int (nI 0), .int (nI 0), .int (nI 0), .null, .null]))])
  have hq1 : (q, .inr (3, [.int (nI 0), .int (nI 0), .int (nI 0), .int (nI 0), .null, .null])) ∈ (ws ++ [(q, .inr (3, [.int (nI 0), .int (nI 0), .int (nI 0), .int (nI 0), .null, .null]))]) := List.mem_append_right _ (List.mem_singleton.mpr rfl)
  refine lv_dup hx hb dX1_asOpened_3 rfl ?_
  refine lv_aload_n hx hb dX1_asOpened_4 rfl (lv_at hl 0 rfl) ?_
  have hm_1 : (o, .inr (3, [.int (nI (F 0 o)), .int (nI (F 1 o)), .int (nI (F 2 o)), .int (nI (F 3 o)), .ref (st (F 4 o)), .ref (st (F 5 o))])) ∈ (ws ++ [(q, .inr (3, [.int (nI 0), .int (nI 0), .int (nI 0), .int (nI 0), .null, .null]))]) := hC.at hk_o (by decide) (by decide)
  refine c_get (C := RX1) (T := TX1) (N := 6) hx hb hts hin_X1 hown hK hP hm_1 rfl 0 (by decide) l_21 (fun _ h9 => h9) rfl dX1_asOpened_5 ?_
  have hn_2 : F 0 o < 8 := hW.num (f := 0) hk_o rfl (by decide)
  refine lv_aload_n hx hb dX1_asOpened_8 rfl (lv_at hl 0 rfl) ?_
  refine c_get (C := RX1) (T := TX1) (N := 6) hx hb hts hin_X1 hown hK hP hm_1 rfl 1 (by decide) l_25 (fun _ h9 => h9) rfl dX1_asOpened_9 ?_
  have hn_3 : F 1 o < 100001 := hW.num (f := 1) hk_o rfl (by decide)
  refine lv_aload_n hx hb dX1_asOpened_12 rfl (lv_at hl 0 rfl) ?_
  refine c_get (C := RX1) (T := TX1) (N := 6) hx hb hts hin_X1 hown hK hP hm_1 rfl 2 (by decide) l_28 (fun _ h9 => h9) rfl dX1_asOpened_13 ?_
  have hn_4 : F 2 o < 101 := hW.num (f := 2) hk_o rfl (by decide)
  refine va_callv (va_runI (As := [.int (nI (F 0 o)), .int (nI (F 1 o)), .int (nI (F 2 o))]) (rest := [.ref q]) ⟨hx, hb, hml, hown, hts⟩ (ci_X1 l D cI cO cb eA mi st (ws ++ [(q, .inr (3, [.int (nI 0), .int (nI 0), .int (nI 0), .int (nI 0), .null, .null]))]) hD q hq1 (F 0 o) (F 1 o) (F 2 o)) (cwI 3 hts ggX1_asOpened_X1_init rfl rfl rfl (hts (.initialized RX1) (List.mem_of_getElem? (i := 3) rfl)) (hts (.methodLink RX1 40 yX1_init) (List.mem_of_getElem? (i := 9) rfl)) (hts (.instanceMethod yX1_init) (List.mem_of_getElem? (i := 10) rfl)) rfl kd_X1_init ⟨Nat.le_of_ble_eq_true rfl, Nat.le_of_ble_eq_true rfl⟩) ⟨cB_blind, cB_pre hK hG hA hS hP _⟩ rfl rfl hl.1 rfl (lv_room (Nat.le_of_ble_eq_true rfl)) dX1_asOpened_16 ⟨Nat.le_of_ble_eq_true rfl, Nat.le_of_ble_eq_true rfl⟩) hS (fun _ _ h => h) (fun _ h => h) (fun u U8 H1 locs1 ht hvm hu hB hz1 hk1 hS1 => ?_)
  obtain ⟨hD1, hB⟩ := hB
  rw [ht] at hB
  clear hS
  have hS := hS1
  replace hP := hB
  replace hD := hD1
  generalize H1 = H at hP hS ⊢
  rw [wup_app hD] at hP hD
  have hC := hC0.new (k := 3) (vals := [F 0 o, F 1 o, F 2 o, F 2 o, 0, 0]) hD (by decide) (by simp [ent, FN])
  have hr9 : ∀ f9, rg 3 f9 = 0 ∨ ([F 0 o, F 1 o, F 2 o, F 2 o, 0, 0] : List Nat).getD f9 0 < rg 3 f9 := by
    intro f9
    rcases f9 with _ | _ | _ | _ | _ | _ | f9
    · exact Or.inr (show F 0 o < 8 by omega)
    · exact Or.inr (show F 1 o < 100001 by omega)
    · exact Or.inr (show F 2 o < 101 by omega)
    · exact Or.inr (show F 2 o < 101 by omega)
    · exact Or.inr (show 0 < 4 by omega)
    · exact Or.inr (show 0 < 4 by omega)
    · exact Or.inl rfl
  have hr8 : ∀ f9, rk 3 f9 = 0 ∨ kd (([F 0 o, F 1 o, F 2 o, F 2 o, 0, 0] : List Nat).getD f9 0) = rk 3 f9 := by
    intro f9
    rcases f9 with _ | _ | _ | _ | _ | _ | f9
    · exact Or.inl rfl
    · exact Or.inl rfl
    · exact Or.inl rfl
    · exact Or.inl rfl
    · exact Or.inl rfl
    · exact Or.inl rfl
    · exact Or.inl rfl
  have hW := hW.new (k := 3) hq0 (by decide) hr9 hr8
  refine lv_astore_n (lv' := [(1, .ref q), (0, .ref o)]) hx hb dX1_asOpened_19 rfl hl (by decide) rfl (fun ls hl => ?_)
  refine lv_aload_n hx hb dX1_asOpened_20 rfl (lv_at hl 0 rfl) ?_
  refine lv_aload_n hx hb dX1_asOpened_21 rfl (lv_at hl 1 rfl) ?_
  have hm_5 : (o, .inr (3, [.int (nI (F 0 o)), .int (nI (F 1 o)), .int (nI (F 2 o)), .int (nI (F 3 o)), .ref (st (F 4 o)), .ref (st (F 5 o))])) ∈ ws ++ [(q, .inr (3, [.int (nI (F 0 o)), .int (nI (F 1 o)), .int (nI (F 2 o)), .int (nI (F 2 o)), .ref (st 0), .ref (st 0)]))] := by have q9 := hC.at (kdN_old hq0 hk_o (by decide)) (by decide) (by decide); rw [ent_congr (G := F) (fun f9 => (FN_ne (ne_q hq0 hk_o (by decide))).trans ((fun _ => rfl) f9))] at q9; exact q9
  refine c_get (C := RX1) (T := TX1) (N := 6) hx hb hts hin_X1 hown hK hP hm_5 rfl 4 (by decide) l_13 (fun _ h9 => h9) rfl dX1_asOpened_22 ?_
  have hn_6 : F 4 o < 4 := by have q9 := hW.num (f := 4) (kdN_old hq0 hk_o (by decide)) rfl (by decide); rw [show (FN F q [F 0 o, F 1 o, F 2 o, F 2 o, 0, 0]) 4 o = F 4 o from (fun f9 => (FN_ne (ne_q hq0 hk_o (by decide))).trans ((fun _ => rfl) f9)) 4] at q9; exact q9
  have hm_7 : (q, .inr (3, [.int (nI ((FN F q [F 0 o, F 1 o, F 2 o, F 2 o, 0, 0]) 0 q)), .int (nI ((FN F q [F 0 o, F 1 o, F 2 o, F 2 o, 0, 0]) 1 q)), .int (nI ((FN F q [F 0 o, F 1 o, F 2 o, F 2 o, 0, 0]) 2 q)), .int (nI ((FN F q [F 0 o, F 1 o, F 2 o, F 2 o, 0, 0]) 3 q)), .ref (st ((FN F q [F 0 o, F 1 o, F 2 o, F 2 o, 0, 0]) 4 q)), .ref (st ((FN F q [F 0 o, F 1 o, F 2 o, F 2 o, 0, 0]) 5 q))])) ∈ ws ++ [(q, .inr (3, [.int (nI (F 0 o)), .int (nI (F 1 o)), .int (nI (F 2 o)), .int (nI (F 2 o)), .ref (st 0), .ref (st 0)]))] := hC.at kdN_eq (by decide) (by decide)
  have hC9 := hC.put (f := 5) (v := (F 4 o)) (x := .inr (3, [.int (nI ((FN F q [F 0 o, F 1 o, F 2 o, F 2 o, 0, 0]) 0 q)), .int (nI ((FN F q [F 0 o, F 1 o, F 2 o, F 2 o, 0, 0]) 1 q)), .int (nI ((FN F q [F 0 o, F 1 o, F 2 o, F 2 o, 0, 0]) 2 q)), .int (nI ((FN F q [F 0 o, F 1 o, F 2 o, F 2 o, 0, 0]) 3 q)), .ref (st ((FN F q [F 0 o, F 1 o, F 2 o, F 2 o, 0, 0]) 4 q)), .ref (st (F 4 o))])) hD kdN_eq (by decide) (by decide) (by simp [ent, up2])
  have hW9 := hW.put (f := 5) (v := (F 4 o)) kdN_eq (Or.inr (by show (F 4 o) < 4; omega)) (Or.inl rfl)
  refine c_put (C := RX1) (T := TX1) (N := 6) (v := .ref (st (F 4 o))) (ty := (.object "TenderHall$Status")) (fs2 := [.int (nI ((FN F q [F 0 o, F 1 o, F 2 o, F 2 o, 0, 0]) 0 q)), .int (nI ((FN F q [F 0 o, F 1 o, F 2 o, F 2 o, 0, 0]) 1 q)), .int (nI ((FN F q [F 0 o, F 1 o, F 2 o, F 2 o, 0, 0]) 2 q)), .int (nI ((FN F q [F 0 o, F 1 o, F 2 o, F 2 o, 0, 0]) 3 q)), .ref (st ((FN F q [F 0 o, F 1 o, F 2 o, F 2 o, 0, 0]) 4 q)), .ref (st (F 4 o))]) hx hb hts hin_X1 tyX1 tyX1_ok nmX1 hown hK hP hD hS hm_7 rfl 5 (by decide) l_18 (fun _ h9 => h9) rfl (by decide +kernel) rfl rfl (Nat.le_of_ble_eq_true rfl) rfl dX1_asOpened_25 (fun H locs hP hD hS => ?_)
  replace hC := hC9
  replace hW := hW9
  clear hC9 hW9
  refine lv_aload_n hx hb dX1_asOpened_28 rfl (lv_at hl 0 rfl) ?_
  exact W.aret hx hb hr (Or.inl ⟨_, rfl⟩) (Or.inr ⟨_, rfl⟩) (fun U9 ht hW9 => ⟨⟨(wup (ws ++ [(q, .inr (3, [.int (nI (F 0 o)), .int (nI (F 1 o)), .int (nI (F 2 o)), .int (nI (F 2 o)), .ref (st 0), .ref (st 0)]))]) q (.inr (3, [.int (nI ((FN F q [F 0 o, F 1 o, F 2 o, F 2 o, 0, 0]) 0 q)), .int (nI ((FN F q [F 0 o, F 1 o, F 2 o, F 2 o, 0, 0]) 1 q)), .int (nI ((FN F q [F 0 o, F 1 o, F 2 o, F 2 o, 0, 0]) 2 q)), .int (nI ((FN F q [F 0 o, F 1 o, F 2 o, F 2 o, 0, 0]) 3 q)), .ref (st ((FN F q [F 0 o, F 1 o, F 2 o, F 2 o, 0, 0]) 4 q)), .ref (st (F 4 o))]))), q, rfl, trivial, hC, hW, hq0, hD, by show va_P D vwCl _ U9.heap; rw [ht]; exact hP⟩, hS.F ht⟩) hS.2.2 dX1_asOpened_29
set_option maxHeartbeats 4000000 in
set_option maxRecDepth 100000 in
theorem cv_followedAnew (l : Launch) (D : va_G) (cI cO cb : ClassId) (eA mi : Nat) (st : Nat → Nat) {A : Nat → Prop} (ws : va_W) (hD : va_D A ws) {own kd : Nat → Nat} {F : Nat → Nat → Nat} {L : Nat → List Nat} (hC : CW cI cO eA st own kd F L ws) (hW : WF kd F L) (hs : sInj st)  (a : Nat) (hk_a : kd a = 7) (hlen8 : (L (F 3 a)).length ≤ 8) (hdist : ∀ x y, x < (L (F 3 a)).length → y < (L (F 3 a)).length → F 0 (gt (L (F 3 a)) x) = F 0 (gt (L (F 3 a)) y) → x = y) : Met l yX5_followedAnew wsX5_followedAnew ({ frames := 7, cells := 19, slots := 827, locals := 191 }) (va_Pc [.ref a] (cB D cI cO cb eA mi st A ws)) (va_Qr (fun _ : CSt => True) (fun u q U9 => AnI kd F L a q (L (F 3 a)).length (L (F 4 a)).length u.2.2.2.1 u.2.2.2.2.1 u.2.2.2.2.2 ∧ CW cI cO eA st u.2.2.1 u.2.2.2.1 u.2.2.2.2.1 u.2.2.2.2.2 u.2.1 ∧ WF u.2.2.2.1 u.2.2.2.2.1 u.2.2.2.2.2 ∧ va_D A u.2.1 ∧ va_P D vwCl u.2.1 U9.heap) A) 19 827 A := by
  refine Met.ofW (cc := cX5_followedAnew) (maxL := 3) (ret := (some (.object "TenderHall$Lot"))) (by decide) rfl ?_
  intro p e s m args below meth c s₁ B hml hv
  obtain ⟨rfl, hP, hK, hG, hA⟩ := hv
  have hx := B.exec
  have hb := B.bytes
  have hr := B.returns
  have hts := atoms_spec (ws := wsX5_followedAnew) B.pre
  have hown : s.vm.findClass RX5 = some m.cls := findClass_of_methodNamed B.named
  have hlocks := B.notSynchronized
  have hin_X5 : ∀ w ∈ wsX50, w ∈ wsX5_followedAnew := fun w h => List.mem_cons_of_mem _ (List.mem_append_left _ (List.mem_append_left _ (List.mem_append_left _ (List.mem_append_right _ h))))
  have l_21 := (hts (.fieldLink RX5 21 "TenderHall$Lot" "tender" "LTenderHall$Tender;") (List.mem_of_getElem? (i := 4) rfl))
  have l_25 := (hts (.fieldLink RX5 25 "TenderHall$Lot" "number" "I") (List.mem_of_getElem? (i := 5) rfl))
  have l_29 := (hts (.fieldLink RX5 29 "TenderHall$Lot" "deposit" "I") (List.mem_of_getElem? (i := 6) rfl))
  have l_12 := (hts (.fieldLink RX5 12 "TenderHall$Lot" "bids" "Ljava/util/ArrayList;") (List.mem_of_getElem? (i := 7) rfl))
  have l_18 := (hts (.fieldLink RX5 18 "TenderHall$Lot" "changes" "Ljava/util/ArrayList;") (List.mem_of_getElem? (i := 9) rfl))
  have hS : va_S A s.heap s.heap [] := va_S.rf
  have hD0 := hD
  have hl := lv_entry ([.ref a]) (n := 3) (Nat.le_of_ble_eq_true rfl)
  rw [lg_entry_eq]
  generalize (lg_sl ([.ref a]) ++ List.replicate (3 - (lg_sl ([.ref a])).length) Slot.unset).toArray = ls at hl ⊢
  have hl : lv_has ls 3 [(0, .ref a)] := hl
  have hW0 := hW
  have hk3 : kd (F 3 a) = 23 := hW.ref hk_a rfl (by decide)
  have hk4 : kd (F 4 a) = 24 := hW.ref hk_a rfl (by decide)
  have hl4 : (L (F 4 a)).length ≤ 60 := hW.len hk4 (by decide)
  have hC0 := hC
  refine va_new (ci := 7) (fs := [.null, .int (nI 0), .int (nI 0), .null, .null]) hx hb hts hin_X5 tyX5 tyX5_ok hown (hts (.classLink RX5 13 RX5) (List.mem_of_getElem? (i := 1) rfl)) (hts (.instantiable RX5 5) (List.mem_of_getElem? (i := 2) rfl)) (hts (.initialized RX5) (List.mem_of_getElem? (i := 3) rfl)) hK hP hD hS hA rfl (fun j9 h9 => by rcases j9 with _ | _ | _ | _ | _ | j9 <;> first | rfl | omega) (by show _ ≤ 19; omega) (by show _ ≤ 827; omega) dX5_followedAnew_0 (fun q H hP hD hS => ?_)
  have hq0 := hC0.fresh hD
  have hC := hC0.app (ws2 := [(q, .inr (7, [.null, .int (nI 0), .int (nI 0), .null, .null]))])
  have hq1 : (q, .inr (7, [.null, .int (nI 0), .int (nI 0), .null, .null])) ∈ (ws ++ [(q, .inr (7, [.null, .int (nI 0), .int (nI 0), .null, .null]))]) := List.mem_append_right _ (List.mem_singleton.mpr rfl)
  have hDq := hD
  refine lv_dup hx hb dX5_followedAnew_3 rfl ?_
  refine lv_aload_n hx hb dX5_followedAnew_4 rfl (lv_at hl 0 rfl) ?_
  have hm_1 : (a, .inr (7, [.ref (F 0 a), .int (nI (F 1 a)), .int (nI (F 2 a)), .ref (F 3 a), .ref (F 4 a)])) ∈ (ws ++ [(q, .inr (7, [.null, .int (nI 0), .int (nI 0), .null, .null]))]) := hC.at hk_a (by decide) (by decide)
  refine c_get (C := RX5) (T := TX5) (N := 5) hx hb hts hin_X5 hown hK hP hm_1 rfl 0 (by decide) l_21 (fun _ h9 => h9) rfl dX5_followedAnew_5 ?_
  have hk_2 : kd (F 0 a) = 8 := hW.ref (f := 0) hk_a rfl (by decide)
  refine lv_aload_n hx hb dX5_followedAnew_8 rfl (lv_at hl 0 rfl) ?_
  refine c_get (C := RX5) (T := TX5) (N := 5) hx hb hts hin_X5 hown hK hP hm_1 rfl 1 (by decide) l_25 (fun _ h9 => h9) rfl dX5_followedAnew_9 ?_
  have hn_3 : F 1 a < 3 := hW.num (f := 1) hk_a rfl (by decide)
  refine lv_aload_n hx hb dX5_followedAnew_12 rfl (lv_at hl 0 rfl) ?_
  refine c_get (C := RX5) (T := TX5) (N := 5) hx hb hts hin_X5 hown hK hP hm_1 rfl 2 (by decide) l_29 (fun _ h9 => h9) rfl dX5_followedAnew_13 ?_
  have hn_4 : F 2 a < 10001 := hW.num (f := 2) hk_a rfl (by decide)
  refine va_callv (va_runI (As := [.ref (F 0 a), .int (nI (F 1 a)), .int (nI (F 2 a))]) (rest := [.ref q]) ⟨hx, hb, hml, hown, hts⟩ (ci_X5 l D cI cO cb eA mi st (ws ++ [(q, .inr (7, [.null, .int (nI 0), .int (nI 0), .null, .null]))]) hD q hq1 (F 0 a) (F 1 a) (F 2 a)) (cwI 3 hts ggX5_followedAnew_X5_init rfl rfl rfl (hts (.initialized RX5) (List.mem_of_getElem? (i := 3) rfl)) (hts (.methodLink RX5 90 yX5_init) (List.mem_of_getElem? (i := 11) rfl)) (hts (.instanceMethod yX5_init) (List.mem_of_getElem? (i := 12) rfl)) rfl kd_X5_init ⟨Nat.le_of_ble_eq_true rfl, Nat.le_of_ble_eq_true rfl⟩) ⟨cB_blind, cB_pre hK hG hA hS hP _⟩ rfl rfl hl.1 rfl (lv_room (Nat.le_of_ble_eq_true rfl)) dX5_followedAnew_16 ⟨by show _ ≤ 19; omega, by show _ ≤ 827; omega⟩) hS (fun _ _ h => h) (fun _ h => h) (fun un U8 H1 locs1 ht hvm hu hB hz1 hk1 hS1 => ?_)
  obtain ⟨hD1, hB⟩ := hB
  rw [ht] at hB
  clear hS
  have hS := hS1
  replace hP := hB
  replace hD := hD1
  generalize H1 = H at hP hS ⊢
  obtain ⟨r1, r2⟩ := un
  rw [wup_app2 hDq] at hP hD
  have hCq := hC0.app (ws2 := [(q, .inr (7, [.ref (F 0 a), .int (nI (F 1 a)), .int (nI (F 2 a)), .ref r1, .ref r2]))])
  have hr0 : kd r1 = 0 := hCq.fresh hD.init
  have hr02 : kd r2 = 0 := (hCq.app (ws2 := [(r1, eL (nI 0) eA 0)])).fresh hD
  have hr12 : r1 ≠ r2 := w_new hD (List.mem_append_right _ (List.mem_singleton.mpr rfl))
  have hqr2 : q ≠ r2 := w_new hD (List.mem_append_left _ (List.mem_append_right _ (List.mem_singleton.mpr rfl)))
  have hrB : kdN kd r1 23 r2 = 0 := (kdN_ne (Ne.symm hr12)).trans hr02
  have hqr1 : q ≠ r1 := w_new hD.init (List.mem_append_right _ (List.mem_singleton.mpr rfl))
  have hqB : (kdN (kdN kd r1 23) r2 24) q = 0 := (kdN_ne hqr2).trans ((kdN_ne hqr1).trans hq0)
  have hC := (((hC0.newL2 (q := r1) (k := 23) (mc := nI 0) (by decide)).newL2 (q := r2) (k := 24) (mc := nI 0) (by decide)).new2 (q := q) (k := 7) (vals := [F 0 a, F 1 a, F 2 a, r1, r2]) (x := .inr (7, [.ref (F 0 a), .int (nI (F 1 a)), .int (nI (F 2 a)), .ref r1, .ref r2])) (by decide) (by simp [ent, FN])).mono mem_sw3
  have hr9 : ∀ f9, rg 7 f9 = 0 ∨ ([F 0 a, F 1 a, F 2 a, r1, r2] : List Nat).getD f9 0 < rg 7 f9 := by
    intro f9
    rcases f9 with _ | _ | _ | _ | _ | f9
    · exact Or.inl rfl
    · exact Or.inr (show F 1 a < 3 by omega)
    · exact Or.inr (show F 2 a < 10001 by omega)
    · exact Or.inl rfl
    · exact Or.inl rfl
    · exact Or.inl rfl
  have hr8 : ∀ f9, rk 7 f9 = 0 ∨ (kdN (kdN kd r1 23) r2 24) (([F 0 a, F 1 a, F 2 a, r1, r2] : List Nat).getD f9 0) = rk 7 f9 := by
    intro f9
    rcases f9 with _ | _ | _ | _ | _ | f9
    · exact Or.inr (show (kdN (kdN kd r1 23) r2 24) (F 0 a) = 8 from (kdN_old hrB (kdN_old hr0 hk_2 (by decide)) (by decide)))
    · exact Or.inl rfl
    · exact Or.inl rfl
    · exact Or.inr (show (kdN (kdN kd r1 23) r2 24) (r1) = 23 from ((kdN_ne hr12).trans kdN_eq))
    · exact Or.inr (show (kdN (kdN kd r1 23) r2 24) (r2) = 24 from kdN_eq)
    · exact Or.inl rfl
  have hW := ((hW.newL (k := 23) hr0 (by decide) (by decide)).newL (k := 24) hrB (by decide) (by decide)).new (k := 7) hqB (by decide) hr9 hr8
  refine lv_astore_n (lv' := [(1, .ref q), (0, .ref a)]) hx hb dX5_followedAnew_19 rfl hl (by decide) rfl (fun ls hl => ?_)
  refine lv_iconst (v := nI 0) hx hb dX5_followedAnew_20 (by decide) ?_
  refine lv_istore_n (lv' := [(2, .int (nI 0)), (1, .ref q), (0, .ref a)]) hx hb dX5_followedAnew_21 rfl hl (by decide) rfl (fun ls hl => ?_)
  have hI0 : AnI kd F L a q 0 0 (kdN (kdN (kdN kd r1 23) r2 24) q 7) (FN F q [F 0 a, F 1 a, F 2 a, r1, r2]) (upL (upL L r1 []) r2 []) := AnI.start hq0 hr0 hr02 hqr1 hqr2 hr12
  refine w_loopX (σ := CSt) (n := (L (F 3 a)).length) (nL := 3) (fun k _ => [(0, .ref a), (1, .ref q), (2, .int (nI k))]) (fun k x9 H locs => AnI kd F L a q k 0 x9.2.2.2.1 x9.2.2.2.2.1 x9.2.2.2.2.2 ∧ CW cI cO eA st x9.2.2.1 x9.2.2.2.1 x9.2.2.2.2.1 x9.2.2.2.2.2 x9.2.1 ∧ WF x9.2.2.2.1 x9.2.2.2.2.1 x9.2.2.2.2.2 ∧ va_D A x9.2.1 ∧ va_P D vwCl x9.2.1 H ∧ va_S A s.heap H locs) (fun k => 3 + 2 * k) (fun k => 11 + 102 * k) (fun k hb9 x9 H locs hJ9 ih9 ls hl => ?_) 0 (Nat.zero_le _) (0, (((ws ++ [(q, .inr (7, [.ref (F 0 a), .int (nI (F 1 a)), .int (nI (F 2 a)), .ref r1, .ref r2]))]) ++ [(r1, eL (nI 0) eA 0)]) ++ [(r2, eL (nI 0) eA 0)]), own, kdN (kdN (kdN kd r1 23) r2 24) q 7, FN F q [F 0 a, F 1 a, F 2 a, r1, r2], upL (upL L r1 []) r2 []) _ _ ⟨hI0, hC, hW, hD, hP, hS⟩ ls (lv_sub hl [2, 1, 0] rfl)
  clear hC hW hD hP hS hI0
  obtain ⟨n9, ws2, own2, kd2, F2, L2⟩ := x9
  obtain ⟨hI, hC, hW, hD, hP, hS⟩ := hJ9
  replace hC : CW cI cO eA st own2 kd2 F2 L2 ws2 := hC
  replace hW : WF kd2 F2 L2 := hW
  replace hD : va_D A ws2 := hD
  replace hP : va_P D vwCl ws2 H := hP
  replace hI : AnI kd F L a q k 0 kd2 F2 L2 := hI
  show W _ _ _ _ _ _ _ _ _ _ _ _ (3 + 2 * k) (11 + 102 * k) _ _
  have hE9 := hI.1
  have hkq : kd2 q = 7 := hI.2.1
  have hka2 : kd2 a = 7 := ((hE9 a (by omega)).1).trans hk_a
  have hB2 : kd2 (F2 3 q) = 23 := hW.ref hkq rfl (by decide)
  have hk32 : kd2 (F 3 a) = 23 := ((hE9 (F 3 a) (by omega)).1).trans hk3
  have hk42 : kd2 (F 4 a) = 24 := ((hE9 (F 4 a) (by omega)).1).trans hk4
  have heL3 : L2 (F 3 a) = L (F 3 a) := (hE9 (F 3 a) (by omega)).2.2
  have heL4 : L2 (F 4 a) = L (F 4 a) := (hE9 (F 4 a) (by omega)).2.2
  replace hl : lv_has ls 3 [(0, .ref a), (1, .ref q), (2, .int (nI k))] := hl
  refine lv_iload_n hx hb dX5_followedAnew_22 rfl (lv_at hl 2 rfl) ?_
  refine lv_aload_n hx hb dX5_followedAnew_23 rfl (lv_at hl 0 rfl) ?_
  have hm_5 : (a, .inr (7, [.ref (F 0 a), .int (nI (F 1 a)), .int (nI (F 2 a)), .ref (F 3 a), .ref (F 4 a)])) ∈ ws2 := by have q9 := hC.at hka2 (by decide) (by decide); rw [ent_congr (G := F) (fun f9 => (hE9 a (by omega)).2.1 f9)] at q9; exact q9
  refine c_get (C := RX5) (T := TX5) (N := 5) hx hb hts hin_X5 hown hK hP hm_5 rfl 3 (by decide) l_12 (fun _ h9 => h9) rfl dX5_followedAnew_24 ?_
  obtain ⟨fs_hm_6, hm_6⟩ := hC.obj hk32 (by decide)
  refine vp_callSi (W.runV (As := []) (rest := [.int (nI k)]) ⟨hx, hb, hml, hown, hts⟩ ((cl_size l D cI cO cb eA mi st ws2 hD (F 3 a) (L2 (F 3 a)) (hC.lst hk32 (by decide)))) (cwV 0 hts gX5_followedAnew_Jx4a65c_size_8abf5 rfl rfl rfl kd_Jx4a65c_size_8abf5 ⟨Nat.le_of_ble_eq_true rfl, Nat.le_of_ble_eq_true rfl⟩) ⟨cB_blind, c_recv hK hP rfl hm_6, cB_pre hK hG hA hS hP _⟩ rfl rfl hl.1 rfl (lv_room (Nat.le_of_ble_eq_true rfl)) dX5_followedAnew_27 ⟨by show _ ≤ 19; omega, by show _ ≤ 827; omega⟩) (fun r_7 hr_7 => ?_)
  subst hr_7
  have hlx3 : (L2 (F 3 a)).length ≤ 8 := by rw [heL3]; exact hlen8
  refine n_icmp_ge (tgt := 61) hx hb dX5_followedAnew_30 (by decide) (by omega) (by omega) (fun c_8 => ?_) (fun c_8 => ?_)
  · rw [heL3] at c_8
    refine lv_iconst (v := nI 0) hx hb dX5_followedAnew_61 (by decide) ?_
    refine lv_istore_n (lv' := [(2, .int (nI 0)), (0, .ref a), (1, .ref q)]) hx hb dX5_followedAnew_62 rfl hl (by decide) rfl (fun ls hl => ?_)
    have hI0 : AnI kd F L a q (L (F 3 a)).length 0 kd2 F2 L2 := by rw [show (L (F 3 a)).length = k by omega]; exact hI
    refine W.widen (k := 3 + 2 * (L (F 3 a)).length) (n := 11 + 102 * (L (F 3 a)).length) (by omega) (by omega) ?_
    refine w_loopX (σ := CSt) (n := (L (F 4 a)).length) (nL := 3) (fun k _ => [(0, .ref a), (1, .ref q), (2, .int (nI k))]) (fun k x9 H locs => AnI kd F L a q (L (F 3 a)).length k x9.2.2.2.1 x9.2.2.2.2.1 x9.2.2.2.2.2 ∧ CW cI cO eA st x9.2.2.1 x9.2.2.2.1 x9.2.2.2.2.1 x9.2.2.2.2.2 x9.2.1 ∧ WF x9.2.2.2.1 x9.2.2.2.2.1 x9.2.2.2.2.2 ∧ va_D A x9.2.1 ∧ va_P D vwCl x9.2.1 H ∧ va_S A s.heap H locs) (fun _ => 3 + 2 * (L (F 3 a)).length) (fun _ => 11 + 102 * (L (F 3 a)).length) (fun k hb9 x9 H locs hJ9 ih9 ls hl => ?_) 0 (Nat.zero_le _) (0, ws2, own2, kd2, F2, L2) _ _ ⟨hI0, hC, hW, hD, hP, hS⟩ ls (lv_sub hl [1, 2, 0] rfl)
    clear hC hW hD hP hS hI0
    clear hkq hE9 hka2 hB2 hk32 hk42 heL3 heL4 hI
    obtain ⟨n9, ws2, own2, kd2, F2, L2⟩ := x9
    obtain ⟨hI, hC, hW, hD, hP, hS⟩ := hJ9
    replace hC : CW cI cO eA st own2 kd2 F2 L2 ws2 := hC
    replace hW : WF kd2 F2 L2 := hW
    replace hD : va_D A ws2 := hD
    replace hP : va_P D vwCl ws2 H := hP
    replace hI : AnI kd F L a q (L (F 3 a)).length k kd2 F2 L2 := hI
    show W _ _ _ _ _ _ _ _ _ _ _ _ (3 + 2 * (L (F 3 a)).length) (11 + 102 * (L (F 3 a)).length) _ _
    have hE9 := hI.1
    have hkq : kd2 q = 7 := hI.2.1
    have hka2 : kd2 a = 7 := ((hE9 a (by omega)).1).trans hk_a
    have hB2 : kd2 (F2 3 q) = 23 := hW.ref hkq rfl (by decide)
    have hk32 : kd2 (F 3 a) = 23 := ((hE9 (F 3 a) (by omega)).1).trans hk3
    have hk42 : kd2 (F 4 a) = 24 := ((hE9 (F 4 a) (by omega)).1).trans hk4
    have heL3 : L2 (F 3 a) = L (F 3 a) := (hE9 (F 3 a) (by omega)).2.2
    have heL4 : L2 (F 4 a) = L (F 4 a) := (hE9 (F 4 a) (by omega)).2.2
    replace hl : lv_has ls 3 [(0, .ref a), (1, .ref q), (2, .int (nI k))] := hl
    refine lv_iload_n hx hb dX5_followedAnew_63 rfl (lv_at hl 2 rfl) ?_
    refine lv_aload_n hx hb dX5_followedAnew_64 rfl (lv_at hl 0 rfl) ?_
    have hm_9 : (a, .inr (7, [.ref (F 0 a), .int (nI (F 1 a)), .int (nI (F 2 a)), .ref (F 3 a), .ref (F 4 a)])) ∈ ws2 := by have q9 := hC.at hka2 (by decide) (by decide); rw [ent_congr (G := F) (fun f9 => (hE9 a (by omega)).2.1 f9)] at q9; exact q9
    refine c_get (C := RX5) (T := TX5) (N := 5) hx hb hts hin_X5 hown hK hP hm_9 rfl 4 (by decide) l_18 (fun _ h9 => h9) rfl dX5_followedAnew_65 ?_
    obtain ⟨fs_hm_10, hm_10⟩ := hC.obj hk42 (by decide)
    refine vp_callSi (W.runV (As := []) (rest := [.int (nI k)]) ⟨hx, hb, hml, hown, hts⟩ ((cl_size l D cI cO cb eA mi st ws2 hD (F 4 a) (L2 (F 4 a)) (hC.lst hk42 (by decide)))) (cwV 0 hts gX5_followedAnew_Jx4a65c_size_8abf5 rfl rfl rfl kd_Jx4a65c_size_8abf5 ⟨Nat.le_of_ble_eq_true rfl, Nat.le_of_ble_eq_true rfl⟩) ⟨cB_blind, c_recv hK hP rfl hm_10, cB_pre hK hG hA hS hP _⟩ rfl rfl hl.1 rfl (lv_room (Nat.le_of_ble_eq_true rfl)) dX5_followedAnew_68 ⟨by show _ ≤ 19; omega, by show _ ≤ 827; omega⟩) (fun r_11 hr_11 => ?_)
    subst hr_11
    have hlx4 : (L2 (F 4 a)).length ≤ 60 := by rw [heL4]; exact hl4
    refine n_icmp_ge (tgt := 95) hx hb dX5_followedAnew_71 (by decide) (by omega) (by omega) (fun c_12 => ?_) (fun c_12 => ?_)
    · rw [heL4] at c_12
      refine lv_aload_n hx hb dX5_followedAnew_95 rfl (lv_at hl 1 rfl) ?_
      have hkk : k = (L (F 4 a)).length := by omega
      rw [hkk] at hI
      refine W.widen (k := 19) (n := 827) (by omega) (by omega) ?_
      exact W.aret hx hb hr (Or.inl ⟨_, rfl⟩) (Or.inr ⟨_, rfl⟩) (fun U9 ht hW9 => ⟨⟨(0, ws2, own2, kd2, F2, L2), q, rfl, trivial, hI, hC, hW, hD, by show va_P D vwCl _ U9.heap; rw [ht]; exact hP⟩, hS.F ht⟩) hS.2.2 dX5_followedAnew_96
    · have hlt4 : k < (L (F 4 a)).length := by rw [← heL4]; omega
      have hky : kd (gt (L2 (F 4 a)) k) = 4 := by rw [heL4]; exact hW0.el hk4 (by omega)
      have hW0b := hW
      refine lv_aload_n hx hb dX5_followedAnew_74 rfl (lv_at hl 1 rfl) ?_
      refine lv_aload_n hx hb dX5_followedAnew_75 rfl (lv_at hl 0 rfl) ?_
      refine c_get (C := RX5) (T := TX5) (N := 5) hx hb hts hin_X5 hown hK hP hm_9 rfl 4 (by decide) l_18 (fun _ h9 => h9) rfl dX5_followedAnew_76 ?_
      refine lv_iload_n hx hb dX5_followedAnew_79 rfl (lv_at hl 2 rfl) ?_
      obtain ⟨fs_hm_13, hm_13⟩ := hC.obj hk42 (by decide)
      refine va_csr (W.runV (As := [.int (nI k)]) (rest := [.ref q]) ⟨hx, hb, hml, hown, hts⟩ ((cl_get l D cI cO cb eA mi st ws2 hD (F 4 a) (L2 (F 4 a)) (hC.lst hk42 (by decide)) k (gt (L2 (F 4 a)) k) (gt_some (by omega)))) (cwV 1 hts gX5_followedAnew_Jx4a65c_get_915e3 rfl rfl rfl kd_Jx4a65c_get_915e3 ⟨Nat.le_of_ble_eq_true rfl, Nat.le_of_ble_eq_true rfl⟩) ⟨cB_blind, c_recv hK hP rfl hm_13, cB_pre hK hG hA hS hP _⟩ rfl rfl hl.1 rfl (lv_room (Nat.le_of_ble_eq_true rfl)) dX5_followedAnew_80 ⟨by show _ ≤ 19; omega, by show _ ≤ 827; omega⟩) (fun r_14 hr_14 => ?_)
      subst hr_14
      have hk_15 : kd2 (gt (L2 (F 4 a)) k) = 4 := hW.el hk42 (by omega)
      have hm_16 : (gt (L2 (F 4 a)) k, .inr (4, [.int (nI (F2 0 (gt (L2 (F 4 a)) k))), .int (nI (F2 1 (gt (L2 (F 4 a)) k))), .int (nI (F2 2 (gt (L2 (F 4 a)) k)))])) ∈ ws2 := hC.at hk_15 (by decide) (by decide)
      refine va_castE hx hb hown (hts (.classLink RX5 77 "TenderHall$Change") (List.mem_of_getElem? (i := 10) rfl)) (c_recv hK hP (ci := 4) rfl hm_16) dX5_followedAnew_83 ?_
      have hm_18 : (q, .inr (7, [.ref (F2 0 q), .int (nI (F2 1 q)), .int (nI (F2 2 q)), .ref (F2 3 q), .ref (F2 4 q)])) ∈ ws2 := hC.at hkq (by decide) (by decide)
      refine va_callv (va_runV (As := [.ref (gt (L2 (F 4 a)) k)]) (rest := []) ⟨hx, hb, hml, hown, hts⟩ (cv_follow l D cI cO cb eA mi st ws2 hD hC hW hs q hkq (gt (L2 (F 4 a)) k) hk_15) (cwV 1 hts gX5_followedAnew_X5_follow rfl rfl rfl kd_X5_follow ⟨Nat.le_of_ble_eq_true rfl, Nat.le_of_ble_eq_true rfl⟩) ⟨cB_blind, c_recv hK hP rfl hm_18, cB_pre hK hG hA hS hP _⟩ rfl rfl hl.1 rfl (lv_room (Nat.le_of_ble_eq_true rfl)) dX5_followedAnew_86 ⟨by show _ ≤ 19; omega, by show _ ≤ 827; omega⟩) hS (fun _ _ h => h) (fun _ h => h) (fun uw_17 U8 H1 locs1 ht hvm hu hB hz1 hk1 hS1 => ?_)
      obtain ⟨hC, hW, hD⟩ := hu
      rw [ht] at hB
      clear hS
      have hS := hS1
      replace hP := hB
      generalize H1 = H at hP hS ⊢
      refine n_iinc (k := 2) (lv' := [(2, .int (nI (k + 1))), (0, .ref a), (1, .ref q)]) hx hb dX5_followedAnew_89 hl rfl (by decide) rfl (fun ls hl => ?_)
      refine lv_goto (tgt := 63) hx hb dX5_followedAnew_92 (by decide) ?_
      exact ih9 (by omega) (0, uw_17, own2, kd2, kFollow F2 L2 q (gt (L2 (F 4 a)) k), L2) _ _ ⟨hI.follow hdist (by rw [heL4]) hky hW0b, hC, hW, hD, hP, hS⟩ ls (lv_sub hl [1, 2, 0] rfl)
  · have hlt3 : k < (L (F 3 a)).length := by rw [← heL3]; omega
    refine lv_aload_n hx hb dX5_followedAnew_33 rfl (lv_at hl 1 rfl) ?_
    have hm_19 : (q, .inr (7, [.ref (F2 0 q), .int (nI (F2 1 q)), .int (nI (F2 2 q)), .ref (F2 3 q), .ref (F2 4 q)])) ∈ ws2 := hC.at hkq (by decide) (by decide)
    refine c_get (C := RX5) (T := TX5) (N := 5) hx hb hts hin_X5 hown hK hP hm_19 rfl 3 (by decide) l_12 (fun _ h9 => h9) rfl dX5_followedAnew_34 ?_
    refine lv_aload_n hx hb dX5_followedAnew_37 rfl (lv_at hl 0 rfl) ?_
    refine c_get (C := RX5) (T := TX5) (N := 5) hx hb hts hin_X5 hown hK hP hm_5 rfl 3 (by decide) l_12 (fun _ h9 => h9) rfl dX5_followedAnew_38 ?_
    refine lv_iload_n hx hb dX5_followedAnew_41 rfl (lv_at hl 2 rfl) ?_
    obtain ⟨fs_hm_20, hm_20⟩ := hC.obj hk32 (by decide)
    refine va_csr (W.runV (As := [.int (nI k)]) (rest := [.ref (F2 3 q)]) ⟨hx, hb, hml, hown, hts⟩ ((cl_get l D cI cO cb eA mi st ws2 hD (F 3 a) (L2 (F 3 a)) (hC.lst hk32 (by decide)) k (gt (L2 (F 3 a)) k) (gt_some (by omega)))) (cwV 1 hts gX5_followedAnew_Jx4a65c_get_915e3 rfl rfl rfl kd_Jx4a65c_get_915e3 ⟨Nat.le_of_ble_eq_true rfl, Nat.le_of_ble_eq_true rfl⟩) ⟨cB_blind, c_recv hK hP rfl hm_20, cB_pre hK hG hA hS hP _⟩ rfl rfl hl.1 rfl (lv_room (Nat.le_of_ble_eq_true rfl)) dX5_followedAnew_42 ⟨by show _ ≤ 19; omega, by show _ ≤ 827; omega⟩) (fun r_21 hr_21 => ?_)
    subst hr_21
    have hk_22 : kd2 (gt (L2 (F 3 a)) k) = 3 := hW.el hk32 (by omega)
    have hm_23 : (gt (L2 (F 3 a)) k, .inr (3, [.int (nI (F2 0 (gt (L2 (F 3 a)) k))), .int (nI (F2 1 (gt (L2 (F 3 a)) k))), .int (nI (F2 2 (gt (L2 (F 3 a)) k))), .int (nI (F2 3 (gt (L2 (F 3 a)) k))), .ref (st (F2 4 (gt (L2 (F 3 a)) k))), .ref (st (F2 5 (gt (L2 (F 3 a)) k)))])) ∈ ws2 := hC.at hk_22 (by decide) (by decide)
    refine va_castE hx hb hown (hts (.classLink RX5 40 "TenderHall$Bid") (List.mem_of_getElem? (i := 8) rfl)) (c_recv hK hP (ci := 3) rfl hm_23) dX5_followedAnew_45 ?_
    refine va_callr (va_runV (As := []) (rest := [.ref (F2 3 q)]) ⟨hx, hb, hml, hown, hts⟩ (cv_asOpened l D cI cO cb eA mi st ws2 hD hC hW hs (gt (L2 (F 3 a)) k) hk_22) (cwV 0 hts gX5_followedAnew_X1_asOpened rfl rfl rfl kd_X1_asOpened ⟨Nat.le_of_ble_eq_true rfl, Nat.le_of_ble_eq_true rfl⟩) ⟨cB_blind, c_recv hK hP rfl hm_23, cB_pre hK hG hA hS hP _⟩ rfl rfl hl.1 rfl (lv_room (Nat.le_of_ble_eq_true rfl)) dX5_followedAnew_48 ⟨by show _ ≤ 19; omega, by show _ ≤ 827; omega⟩) hS (fun _ _ h => h) (fun _ h => h) (fun u o9 U8 H1 locs1 ht hvm hu hB hz1 hk1 hS1 => ?_)
    obtain ⟨hC, hWn, ho0, hD, hB⟩ := hB
    rw [ht] at hB
    clear hS
    have hS := hS1
    replace hP := hB
    generalize H1 = H at hP hS ⊢
    have hkb : kd (gt (L (F 3 a)) k) = 3 := hW0.el hk3 (by omega)
    have hEb := hE9 _ (show kd (gt (L (F 3 a)) k) ≠ 0 by omega)
    rw [heL3, hEb.2.1 0, hEb.2.1 1, hEb.2.1 2, hEb.2.1 4] at hC hWn
    have hI2 := hI.push hW ho0 rfl hkb
    replace hW := hWn
    have hlq9 : (L2 (F2 3 q)).length = k := hI.2.2.2.2.2.1
    obtain ⟨fs_hm_24, hm_24⟩ := hC.obj (kdN_old ho0 hB2 (by decide)) (by decide)
    refine va_calli (va_runV (As := [.ref o9]) (rest := []) ⟨hx, hb, hml, hown, hts⟩ (cl_add l D cI cO cb eA mi st u hD (F2 3 q) (L2 (F2 3 q)) o9 (hC.lst (kdN_old ho0 hB2 (by decide)) (by decide)) (hC.els hW (kdN_old ho0 hB2 (by decide)) (by decide)) (hC.elt (by rw [kdN_eq]; decide) (by rw [kdN_eq]; decide)) (by omega)) (cwV 1 hts gX5_followedAnew_Jx4a65c_add_9ea2d rfl rfl rfl kd_Jx4a65c_add_9ea2d ⟨Nat.le_of_ble_eq_true rfl, Nat.le_of_ble_eq_true rfl⟩) ⟨cB_blind, c_recv hK hP rfl hm_24, cB_pre hK hG hA hS hP _⟩ rfl rfl hl.1 rfl (lv_room (Nat.le_of_ble_eq_true rfl)) dX5_followedAnew_51 ⟨by show _ ≤ 19; omega, by show _ ≤ 827; omega⟩) hS (fun _ _ h => h) (fun _ h => h) (fun ri u U8 H1 locs1 ht hvm hu hB hz1 hk1 hS1 => ?_)
    obtain ⟨hri, hu1, hu2, hD⟩ := hu
    subst hri
    rw [ht] at hB
    clear hS
    have hS := hS1
    replace hP := hB
    generalize H1 = H at hP hS ⊢
    have hC := hC.setL hu2 hu1
    have hW := hW.setL (kdN_old ho0 hB2 (by decide)) (show (L2 (F2 3 q) ++ [o9]).length ≤ 60 by rw [List.length_append]; show _ + 1 ≤ 60; omega) (els_add (fun x9 h9 => by rw [(hW.2.2 _ (by rw [(kdN_old ho0 hB2 (by decide))]; decide)).2.2.2 x9 h9]; exact (kdN_old ho0 hB2 (by decide))) (by rw [kdN_eq]))
    refine lv_pop hx hb dX5_followedAnew_54 rfl ?_
    refine n_iinc (k := 2) (lv' := [(2, .int (nI (k + 1))), (0, .ref a), (1, .ref q)]) hx hb dX5_followedAnew_55 hl rfl (by decide) rfl (fun ls hl => ?_)
    refine lv_goto (tgt := 22) hx hb dX5_followedAnew_58 (by decide) ?_
    refine W.widen (k := 3 + 2 * (k + 1)) (n := 11 + 102 * (k + 1)) (by omega) (by omega) ?_
    exact ih9 (by omega) (0, u.1, u.2, kdN kd2 o9 3, up2 (FN F2 o9 [F 0 (gt (L (F 3 a)) k), F 1 (gt (L (F 3 a)) k), F 2 (gt (L (F 3 a)) k), F 2 (gt (L (F 3 a)) k), 0, 0]) 5 o9 (F 4 (gt (L (F 3 a)) k)), upL L2 (F2 3 q) (L2 (F2 3 q) ++ [o9])) _ _ ⟨hI2, hC, hW, hD, hP, hS⟩ ls (lv_sub hl [1, 2, 0] rfl)
set_option maxHeartbeats 4000000 in
set_option maxRecDepth 100000 in
theorem cm_winnerAnew (l : Launch) (hst : l.stackTraces = false) (D : va_G) (cI cO cb : ClassId) (eA mi : Nat) (st : Nat → Nat) {A : Nat → Prop} (ws : va_W) (hD : va_D A ws) {own kd : Nat → Nat} {F : Nat → Nat → Nat} {L : Nat → List Nat} (hC : CW cI cO eA st own kd F L ws) (hW : WF kd F L) (hs : sInj st)  (h : Nat) (hk_h : kd h = 9) (t : Int32) (k : Int32) (hA8 : kLotK F L h t k = 0 → (L (F 3 (kLotV F L h t k))).length ≤ 8) (hAd : kLotK F L h t k = 0 → ∀ x y, x < (L (F 3 (kLotV F L h t k))).length → y < (L (F 3 (kLotV F L h t k))).length → F 0 (gt (L (F 3 (kLotV F L h t k))) x) = F 0 (gt (L (F 3 (kLotV F L h t k))) y) → x = y) : vx_Met l yX8_winnerAnew wsX8_winnerAnew ({ frames := 8, cells := 21, slots := 839, locals := 213 }) (va_Pc [.ref h, .int t, .int k] (cB D cI cO cb eA mi st A ws)) (va_Qi (fun (ri : Int32) (u : va_W) => kLotK F L h t k = 0 ∧ ∃ own2 kd2 F2 L2, Ext kd F L kd2 F2 L2 ∧ CW cI cO eA st own2 kd2 F2 L2 u ∧ WF kd2 F2 L2 ∧ va_D A u ∧ (if F 1 (F 0 (kLotV F L h t k)) ≤ F 5 h then ∃ q, AnI kd F L (kLotV F L h t k) q (L (F 3 (kLotV F L h t k))).length (L (F 4 (kLotV F L h t k))).length kd2 F2 L2 ∧ ri = kRk F2 L2 q (nI 0) else ri = -1)) (fun u U9 => va_P D vwCl u U9.heap) A) (XK D ws A (kLotK F L h t k)) 21 839 A := by
  refine vx_ofW (cc := cX8_winnerAnew) (maxL := 4) (ret := (some .int)) (by decide) rfl ?_
  intro p e s m args below meth c s₁ B hml htab hv
  obtain ⟨rfl, hP, hK, hG, hA⟩ := hv
  have hx := B.exec
  have hb := B.bytes
  have hr := B.returns
  have hts := atoms_spec (ws := wsX8_winnerAnew) B.pre
  have hown : s.vm.findClass RX8 = some m.cls := findClass_of_methodNamed B.named
  have hlocks := B.notSynchronized
  have hin_X5 : ∀ w ∈ wsX50, w ∈ wsX8_winnerAnew := fun w h => List.mem_cons_of_mem _ (List.mem_append_left _ (List.mem_append_left _ (List.mem_append_left _ (List.mem_append_left _ (List.mem_append_left _ (List.mem_append_left _ (List.mem_append_right _ h)))))))
  have l_88 := (hts (.fieldLink RX8 88 "TenderHall$Lot" "tender" "LTenderHall$Tender;") (List.mem_of_getElem? (i := 1) rfl))
  have hS : va_S A s.heap s.heap [] := va_S.rf
  have hD0 := hD
  have hl := lv_entry ([.ref h, .int t, .int k]) (n := 4) (Nat.le_of_ble_eq_true rfl)
  rw [lg_entry_eq]
  generalize (lg_sl ([.ref h, .int t, .int k]) ++ List.replicate (4 - (lg_sl ([.ref h, .int t, .int k])).length) Slot.unset).toArray = ls at hl ⊢
  have hl : lv_has ls 4 [(0, .ref h), (1, .int t), (2, .int k)] := hl
  refine lv_aload_n hx hb dX8_winnerAnew_0 rfl (lv_at hl 0 rfl) ?_
  refine lv_iload_n hx hb dX8_winnerAnew_1 rfl (lv_at hl 1 rfl) ?_
  refine lv_iload_n hx hb dX8_winnerAnew_2 rfl (lv_at hl 2 rfl) ?_
  have hm_1 : (h, .inr (9, [.ref (F 0 h), .ref (F 1 h), .ref (F 2 h), .ref (F 3 h), .ref (F 4 h), .int (nI (F 5 h))])) ∈ ws := hC.at hk_h (by decide) (by decide)
  refine vx_callr (vx_runV (As := [.int t, .int k]) (rest := []) ⟨hx, hb, hml, hown, hts⟩ (cx_lotAt l hst D cI cO cb eA mi st ws hD hC hW hs h hk_h t k) (cwV 2 hts gX8_winnerAnew_X8_lotAt rfl rfl rfl kd_X8_lotAt ⟨Nat.le_of_ble_eq_true rfl, Nat.le_of_ble_eq_true rfl⟩) ⟨cB_blind, c_recv hK hP rfl hm_1, cB_pre hK hG hA hS hP _⟩ rfl rfl hl.1 rfl (lv_room (Nat.le_of_ble_eq_true rfl)) dX8_winnerAnew_3 ⟨Nat.le_of_ble_eq_true rfl, Nat.le_of_ble_eq_true rfl⟩) hS (fun _ _ h => h) (fun _ h => h) (fun _ _ h => h) (fun E9 ce9 q9 u U8 H1 locs1 ht hvm hu hB hz1 hk1 hS1 hc1 hc2 hc3 => ?_) (fun u ra U8 H1 locs1 ht hvm hu hB hz1 hk1 hS1 => ?_)
  · obtain ⟨hB1, hB2, hB3⟩ := hB
    rw [ht] at hB3
    have hkx : kLotK F L h t k = (kLotK F L h t k) := by rfl
    exact vx_out (fun z9 h9 => (htab z9 h9).elim) hlocks hc1 hc2 hc3 (fun t9 g1 g2 => ⟨(), trivial, ⟨by rw [hkx]; exact hB1, by rw [hkx]; exact hB2, by rw [g1]; exact hB3⟩, hS1.F g1⟩) hS1.2.2 (Nat.le_of_ble_eq_true rfl) (Nat.le_of_ble_eq_true rfl)
  · have hk0_2 : (kLotK F L h t k) = 0 := hu
    obtain ⟨hra, hB2⟩ := hB
    subst hra
    replace hB2 : va_P D vwCl ws U8.heap := hB2
    rw [ht] at hB2
    clear hS
    have hS := hS1
    replace hP := hB2
    generalize H1 = H at hP hS ⊢
    have hk_3 : kd (kLotV F L h t k) = 7 := kLot_kd hW hk_h hk0_2
    refine lv_astore_n (lv' := [(3, .ref (kLotV F L h t k)), (0, .ref h), (1, .int t), (2, .int k)]) hx hb dX8_winnerAnew_6 rfl hl (by decide) rfl (fun ls hl => ?_)
    refine lv_aload_n hx hb dX8_winnerAnew_7 rfl (lv_at hl 1 rfl) ?_
    refine lv_aload_n hx hb dX8_winnerAnew_8 rfl (lv_at hl 0 rfl) ?_
    have hm_4 : (kLotV F L h t k, .inr (7, [.ref (F 0 (kLotV F L h t k)), .int (nI (F 1 (kLotV F L h t k))), .int (nI (F 2 (kLotV F L h t k))), .ref (F 3 (kLotV F L h t k)), .ref (F 4 (kLotV F L h t k))])) ∈ ws := hC.at hk_3 (by decide) (by decide)
    refine c_get (C := RX5) (T := TX5) (N := 5) hx hb hts hin_X5 hown hK hP hm_4 rfl 0 (by decide) l_88 (fun _ h9 => h9) rfl dX8_winnerAnew_9 ?_
    have hk_5 : kd (F 0 (kLotV F L h t k)) = 8 := hW.ref (f := 0) hk_3 rfl (by decide)
    refine vp_callSi (W.runV (As := [.ref (F 0 (kLotV F L h t k))]) (rest := []) ⟨hx, hb, hml, hown, hts⟩ (ck_isOpened l D cI cO cb eA mi st ws hD hC hW hs h hk_h (F 0 (kLotV F L h t k)) hk_5) (cwV 1 hts gX8_winnerAnew_X8_isOpened rfl rfl rfl kd_X8_isOpened ⟨Nat.le_of_ble_eq_true rfl, Nat.le_of_ble_eq_true rfl⟩) ⟨cB_blind, c_recv hK hP rfl hm_1, cB_pre hK hG hA hS hP _⟩ rfl rfl hl.1 rfl (lv_room (Nat.le_of_ble_eq_true rfl)) dX8_winnerAnew_12 ⟨Nat.le_of_ble_eq_true rfl, Nat.le_of_ble_eq_true rfl⟩) (fun r_6 hr_6 => ?_)
    subst hr_6
    refine b_if_ne (tgt := 20) hx hb dX8_winnerAnew_15 (by decide)  (fun c_7 => ?_) (fun c_7 => ?_)
    · have dd_c_7 := of_decide_eq_true c_7
      refine lv_aload_n hx hb dX8_winnerAnew_20 rfl (lv_at hl 0 rfl) ?_
      refine va_callr (va_runV (As := []) (rest := []) ⟨hx, hb, hml, hown, hts⟩ (cv_followedAnew l D cI cO cb eA mi st ws hD hC hW hs (kLotV F L h t k) hk_3 (hA8 hk0_2) (hAd hk0_2)) (cwV 0 hts gX8_winnerAnew_X5_followedAnew rfl rfl rfl kd_X5_followedAnew ⟨Nat.le_of_ble_eq_true rfl, Nat.le_of_ble_eq_true rfl⟩) ⟨cB_blind, c_recv hK hP rfl hm_4, cB_pre hK hG hA hS hP _⟩ rfl rfl hl.1 rfl (lv_room (Nat.le_of_ble_eq_true rfl)) dX8_winnerAnew_21 ⟨Nat.le_of_ble_eq_true rfl, Nat.le_of_ble_eq_true rfl⟩) hS (fun _ _ h => h) (fun _ h => h) (fun u q U8 H1 locs1 ht hvm hu hB hz1 hk1 hS1 => ?_)
      obtain ⟨n9, ws2, own2, kd2, F2, L2⟩ := u
      obtain ⟨hI, hC2, hW2, hD2, hB⟩ := hB
      rw [ht] at hB
      clear hS
      have hS := hS1
      replace hP := hB
      generalize H1 = H at hP hS ⊢
      have hE9 := hI.1
      clear hC hW hD
      have hC := hC2
      have hW := hW2
      have hD := hD2
      have hkq : kd2 q = 7 := hI.2.1
      refine lv_iconst (v := nI 0) hx hb dX8_winnerAnew_24 (by decide) ?_
      have hm_8 : (q, .inr (7, [.ref (F2 0 q), .int (nI (F2 1 q)), .int (nI (F2 2 q)), .ref (F2 3 q), .ref (F2 4 q)])) ∈ ws2 := hC.at hkq (by decide) (by decide)
      refine va_csq (W.runV (As := [.int (nI 0)]) (rest := []) ⟨hx, hb, hml, hown, hts⟩ (ck_bidAtPlace l D cI cO cb eA mi st ws2 hD hC hW hs q hkq (nI 0)) (cwV 1 hts gX8_winnerAnew_X5_bidAtPlace rfl rfl rfl kd_X5_bidAtPlace ⟨Nat.le_of_ble_eq_true rfl, Nat.le_of_ble_eq_true rfl⟩) ⟨cB_blind, c_recv hK hP rfl hm_8, cB_pre hK hG hA hS hP _⟩ rfl rfl hl.1 rfl (lv_room (Nat.le_of_ble_eq_true rfl)) dX8_winnerAnew_25 ⟨Nat.le_of_ble_eq_true rfl, Nat.le_of_ble_eq_true rfl⟩) (fun r_9 hr_9 => ?_)
      subst hr_9
      rcases ho_10 : kPlace F2 L2 q (nI 0) with _ | o_10
      · show W _ _ _ _ _ _ _ _ _ _ _ _ _ _ _ (F0 _ _ _ (.null :: _))
        refine vp_callSi (W.runS (As := [.null]) (rest := []) ⟨hx, hb, hml, hown, hts⟩ (ck_bidderOfN l D cI cO cb eA mi st ws2 hD hC hW hs) (va_cwS 1 hts gX8_winnerAnew_X8_bidderOf rfl rfl rfl kd_X8_bidderOf ⟨Nat.le_of_ble_eq_true rfl, Nat.le_of_ble_eq_true rfl⟩) ⟨cB_blind, cB_pre hK hG hA hS hP _⟩ rfl rfl hl.1 rfl (lv_room (Nat.le_of_ble_eq_true rfl)) dX8_winnerAnew_28 ⟨Nat.le_of_ble_eq_true rfl, Nat.le_of_ble_eq_true rfl⟩) (fun r_11 hr_11 => ?_)
        subst hr_11
        refine W.widen (k := 21) (n := 839) (by omega) (by omega) ?_
        refine vx_ret ?_
        exact W.iret (v := (-1)) hx hb hr (fun U9 ht hW9 => ⟨⟨_, (ws2), rfl, ⟨hk0_2, ⟨own2, kd2, F2, L2, hE9, hC, hW, hD, by rw [if_pos (by assumption)]; exact ⟨q, hI, by unfold kRk; rw [ho_10]⟩⟩⟩, by show va_P D vwCl _ U9.heap; rw [ht]; exact hP⟩, hS.F ht⟩) hS.2.2 dX8_winnerAnew_31
      · show W _ _ _ _ _ _ _ _ _ _ _ _ _ _ _ (F0 _ _ _ (.ref o_10 :: _))
        have hk_12 : kd2 o_10 = 3 := kPlace_kd hW hkq ho_10
        refine vp_callSi (W.runS (As := [.ref o_10]) (rest := []) ⟨hx, hb, hml, hown, hts⟩ (ck_bidderOf l D cI cO cb eA mi st ws2 hD hC hW hs o_10 hk_12) (va_cwS 1 hts gX8_winnerAnew_X8_bidderOf rfl rfl rfl kd_X8_bidderOf ⟨Nat.le_of_ble_eq_true rfl, Nat.le_of_ble_eq_true rfl⟩) ⟨cB_blind, cB_pre hK hG hA hS hP _⟩ rfl rfl hl.1 rfl (lv_room (Nat.le_of_ble_eq_true rfl)) dX8_winnerAnew_28 ⟨Nat.le_of_ble_eq_true rfl, Nat.le_of_ble_eq_true rfl⟩) (fun r_13 hr_13 => ?_)
        subst hr_13
        refine W.widen (k := 21) (n := 839) (by omega) (by omega) ?_
        refine vx_ret ?_
        exact W.iret (v := nI (F2 0 o_10)) hx hb hr (fun U9 ht hW9 => ⟨⟨_, (ws2), rfl, ⟨hk0_2, ⟨own2, kd2, F2, L2, hE9, hC, hW, hD, by rw [if_pos (by assumption)]; exact ⟨q, hI, by unfold kRk; rw [ho_10]⟩⟩⟩, by show va_P D vwCl _ U9.heap; rw [ht]; exact hP⟩, hS.F ht⟩) hS.2.2 dX8_winnerAnew_31
    · have dd_c_7 := of_decide_eq_false c_7
      refine lv_iconst (v := (-1)) hx hb dX8_winnerAnew_18 (by decide) ?_
      refine W.widen (k := 21) (n := 839) (by omega) (by omega) ?_
      refine vx_ret ?_
      exact W.iret (v := (-1)) hx hb hr (fun U9 ht hW9 => ⟨⟨_, (ws), rfl, ⟨hk0_2, ⟨own, kd, F, L, Ext.rf, hC, hW, hD, by rw [if_neg (by assumption)]⟩⟩, by show va_P D vwCl _ U9.heap; rw [ht]; exact hP⟩, hS.F ht⟩) hS.2.2 dX8_winnerAnew_19
