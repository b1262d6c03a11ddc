theorem wk_in01 : vp_in (0 : Int32) 1 := by
  unfold vp_in
  decide
-- L_feed
theorem qL_feed_0 : Cond.classLink RL 13 "java/lang/IllegalArgumentException" ∈ wsL_feed := (List.mem_cons_of_mem _ (List.mem_append_left _ (List.mem_append_left _ (List.mem_append_left _ (List.mem_append_left _ (List.mem_append_left _ (List.mem_append_left _ (List.mem_of_getElem? (i := 0) rfl))))))))
theorem qL_feed_1 : Cond.classLink RL 15 "java/lang/IllegalStateException" ∈ wsL_feed := (List.mem_cons_of_mem _ (List.mem_append_left _ (List.mem_append_left _ (List.mem_append_left _ (List.mem_append_left _ (List.mem_append_left _ (List.mem_append_left _ (List.mem_of_getElem? (i := 1) rfl))))))))
def wpL_feed (tn : Int32) (tb : Nat → Int32) (pn : Int32) (pch : Int32) (ov : Nat → Int64) (v1 : Int64) (v3 : Int32) (post : Int32 → Int32 → (Nat → Int32) → Int32 → Int32 → (Nat → Int64) → Prop) : Prop := wpX9_feed tn tb v1 v3 (fun (r_1 : Int32) (tn_2 : Int32) (tb_3 : Nat → Int32) (pn_4 : Int32) (pch_5 : Int32) => post 0 tn_2 tb_3 pn_4 pch_5 (vp_updL ov (0 : Int32).toNatClampNeg (r_1.toInt64))) (fun (E9 : String) => (E9 = xA ∧ (post 1 tn tb pn pch ov)) ∨ (E9 = xS ∧ (post 2 tn tb pn pch ov)))
set_option maxHeartbeats 4000000 in
set_option maxRecDepth 100000 in
theorem mtL_feed (l : Launch) (hlt : l.stackTraces = false) (dC : Nat → ClassId) (dI : Nat → Nat → Nat) (cyI cyJ cyD : ClassId) {aX aT aTb aS aF aQ aW aP aPk aPl aPd aPs aB aR aO : Nat} {sz : Nat} {tn : Int32} {tb : Nat → Int32} {pn : Int32} {pch : Int32} {ov : Nat → Int64} {v1 : Int64} {v3 : Int32} {post : Int32 → Int32 → (Nat → Int32) → Int32 → Int32 → (Nat → Int64) → Prop} (h : wpL_feed tn tb pn pch ov v1 v3 post) : vx_Met l yL_feed wsL_feed ({ frames := 7, cells := 1, slots := 6, locals := 106 }) (va_Pc [.ref aX, .long v1, .int v3, .ref aO] (wk_BX (dC, dI) [(cyI, .int), (cyJ, .long), (cyD, .double)] [(aX, .inr (8, [.ref aT, .ref aS, .ref aF, .ref aQ, .ref aW, .ref aP, .ref aB, .ref aR])), (aT, .inr (7, [.ref aTb, .int tn])), (aTb, .inl (cyI, 64, .inl tb)), (aP, .inr (3, [.ref aPk, .ref aPl, .ref aPd, .ref aPs, .int pn, .int pch])), (aO, .inl (cyJ, 1, .inr (.inl ov)))] sz)) (va_Qi (fun (r : Int32) (u : Int32 × (Nat → Int32) × Int32 × Int32 × (Nat → Int64)) => post r u.1 u.2.1 u.2.2.1 u.2.2.2.1 u.2.2.2.2) (wk_C (dC, dI) [(cyI, .int), (cyJ, .long), (cyD, .double)] (va_A [(aX, .inr (8, [.ref aT, .ref aS, .ref aF, .ref aQ, .ref aW, .ref aP, .ref aB, .ref aR])), (aT, .inr (7, [.ref aTb, .int tn])), (aTb, .inl (cyI, 64, .inl tb)), (aP, .inr (3, [.ref aPk, .ref aPl, .ref aPd, .ref aPs, .int pn, .int pch])), (aO, .inl (cyJ, 1, .inr (.inl ov)))] sz) (fun (u : Int32 × (Nat → Int32) × Int32 × Int32 × (Nat → Int64)) => [(aX, .inr (8, [.ref aT, .ref aS, .ref aF, .ref aQ, .ref aW, .ref aP, .ref aB, .ref aR])), (aT, .inr (7, [.ref aTb, .int (u.1)])), (aTb, .inl (cyI, 64, .inl (u.2.1))), (aP, .inr (3, [.ref aPk, .ref aPl, .ref aPd, .ref aPs, .int (u.2.2.1), .int (u.2.2.2.1)])), (aO, .inl (cyJ, 1, .inr (.inl (u.2.2.2.2))))])) (va_A [(aX, .inr (8, [.ref aT, .ref aS, .ref aF, .ref aQ, .ref aW, .ref aP, .ref aB, .ref aR])), (aT, .inr (7, [.ref aTb, .int tn])), (aTb, .inl (cyI, 64, .inl tb)), (aP, .inr (3, [.ref aPk, .ref aPl, .ref aPd, .ref aPs, .int pn, .int pch])), (aO, .inl (cyJ, 1, .inr (.inl ov)))] sz)) (vx_X (fun (_ : String) => False) (wk_X (dC, dI) [(cyI, .int), (cyJ, .long), (cyD, .double)] (va_A [(aX, .inr (8, [.ref aT, .ref aS, .ref aF, .ref aQ, .ref aW, .ref aP, .ref aB, .ref aR])), (aT, .inr (7, [.ref aTb, .int tn])), (aTb, .inl (cyI, 64, .inl tb)), (aP, .inr (3, [.ref aPk, .ref aPl, .ref aPd, .ref aPs, .int pn, .int pch])), (aO, .inl (cyJ, 1, .inr (.inl ov)))] sz) [(aX, .inr (8, [.ref aT, .ref aS, .ref aF, .ref aQ, .ref aW, .ref aP, .ref aB, .ref aR])), (aT, .inr (7, [.ref aTb, .int tn])), (aTb, .inl (cyI, 64, .inl tb)), (aP, .inr (3, [.ref aPk, .ref aPl, .ref aPd, .ref aPs, .int pn, .int pch])), (aO, .inl (cyJ, 1, .inr (.inl ov)))]) (va_A [(aX, .inr (8, [.ref aT, .ref aS, .ref aF, .ref aQ, .ref aW, .ref aP, .ref aB, .ref aR])), (aT, .inr (7, [.ref aTb, .int tn])), (aTb, .inl (cyI, 64, .inl tb)), (aP, .inr (3, [.ref aPk, .ref aPl, .ref aPd, .ref aPs, .int pn, .int pch])), (aO, .inl (cyJ, 1, .inr (.inl ov)))] sz)) 1 6 (va_A [(aX, .inr (8, [.ref aT, .ref aS, .ref aF, .ref aQ, .ref aW, .ref aP, .ref aB, .ref aR])), (aT, .inr (7, [.ref aTb, .int tn])), (aTb, .inl (cyI, 64, .inl tb)), (aP, .inr (3, [.ref aPk, .ref aPl, .ref aPd, .ref aPs, .int pn, .int pch])), (aO, .inl (cyJ, 1, .inr (.inl ov)))] sz) := by
  refine vx_ofWH (cc := cL_feed) (maxL := 6) (ret := (some .int)) (by decide) rfl ?_
  intro p e s m args below meth c s₁ B hml hv
  obtain ⟨rfl, ⟨hsz, hP, hK, hD0⟩, hZ⟩ := hv
  have hx := B.exec
  have hb := B.bytes
  have hr := B.returns
  have hts := atoms_spec (ws := wsL_feed) B.pre
  have hown : s.vm.findClass RL = some m.cls := findClass_of_methodNamed B.named
  have htb := vx_table (x := yL_feed) B (hts _ List.mem_cons_self)
  have hlocks := B.notSynchronized
  subst hsz
  have hD := hD0.self (sz := s.heap.size)
  generalize hAe : va_A [(aX, .inr (8, [.ref aT, .ref aS, .ref aF, .ref aQ, .ref aW, .ref aP, .ref aB, .ref aR])), (aT, .inr (7, [.ref aTb, .int tn])), (aTb, .inl (cyI, 64, .inl tb)), (aP, .inr (3, [.ref aPk, .ref aPl, .ref aPd, .ref aPs, .int pn, .int pch])), (aO, .inl (cyJ, 1, .inr (.inl ov)))] s.heap.size = A at hD hZ ⊢
  have hA : ∀ q : Nat, s.heap.size ≤ q → A q := fun q h => by rw [← hAe]; exact Or.inr h
  have hS : va_S A s.heap s.heap [] := va_S.rf
  have hP : va_P (dC, dI) vwCl [(aX, .inr (8, [.ref aT, .ref aS, .ref aF, .ref aQ, .ref aW, .ref aP, .ref aB, .ref aR])), (aT, .inr (7, [.ref aTb, .int tn])), (aTb, .inl (cyI, 64, .inl tb)), (aP, .inr (3, [.ref aPk, .ref aPl, .ref aPd, .ref aPs, .int pn, .int pch])), (aO, .inl (cyJ, 1, .inr (.inl ov)))] s.heap := hP
  have hl := lv_entry ([.ref aX, .long v1, .int v3, .ref aO]) (n := 6) (Nat.le_of_ble_eq_true rfl)
  rw [lg_entry_eq]
  generalize (lg_sl ([.ref aX, .long v1, .int v3, .ref aO]) ++ List.replicate (6 - (lg_sl ([.ref aX, .long v1, .int v3, .ref aO])).length) Slot.unset).toArray = ls at hl ⊢
  have hl : lv_has ls 6 [(0, .ref aX), (1, .long v1), (3, .int v3), (4, .ref aO)] := hl
  have C0 : CallFix p m c cL_feed 6 s ([.ref aX, .long v1, .int v3, .ref aO] : List Value).toArray wsL_feed RL := ⟨hx, hb, hml, hown, hts⟩
  unfold wpL_feed at h
  refine lv_aload hx hb dL_feed_0 (lv_at hl 3 rfl) ?_
  refine lv_iconst (v := 0) hx hb dL_feed_2 (by decide) ?_
  refine lv_aload_n hx hb dL_feed_3 rfl (lv_at hl 0 rfl) ?_
  refine lv_lload_n hx hb dL_feed_4 rfl (lv_at hl 1 rfl) ?_
  refine lv_iload_n hx hb dL_feed_5 rfl (lv_at hl 2 rfl) ?_
  refine wk_xcalli (wc := [(aX, .inr (8, [.ref aT, .ref aS, .ref aF, .ref aQ, .ref aW, .ref aP, .ref aB, .ref aR])), (aT, .inr (7, [.ref aTb, .int tn])), (aTb, .inl (cyI, 64, .inl tb)), (aP, .inr (3, [.ref aPk, .ref aPl, .ref aPd, .ref aPs, .int pn, .int pch]))]) (wr := [(aO, .inl (cyJ, 1, .inr (.inl ov)))]) (vx_runV (As := [.long v1, .int v3]) (rest := [.int 0, .ref aO]) C0 (mtX9_feed l hlt dC dI cyI (aX := aX) (aT := aT) (aTb := aTb) (aS := aS) (aF := aF) (aQ := aQ) (aW := aW) (aP := aP) (aPk := aPk) (aPl := aPl) (aPd := aPd) (aPs := aPs) (aB := aB) (aR := aR) (sz := _) (tn := tn) (tb := tb) (pn := pn) (pch := pch) (v1 := v1) (v3 := v3) h) (cwV 2 hts gL_feed_X9_feed rfl rfl rfl (by decide +kernel) ⟨(Nat.le_of_ble_eq_true rfl), (Nat.le_of_ble_eq_true rfl)⟩) (wk_preVX (wc := [(aX, .inr (8, [.ref aT, .ref aS, .ref aF, .ref aQ, .ref aW, .ref aP, .ref aB, .ref aR])), (aT, .inr (7, [.ref aTb, .int tn])), (aTb, .inl (cyI, 64, .inl tb)), (aP, .inr (3, [.ref aPk, .ref aPl, .ref aPd, .ref aPs, .int pn, .int pch]))]) (hK.sub (tys' := [(cyI, .int)]) [0] rfl) hP hD hS hA hZ [0, 1, 2, 3] rfl (by decide) (va_recv hK hP (ci := 8) (q0 := 0) rfl rfl)) rfl rfl hl.1 rfl (lv_room (Nat.le_of_ble_eq_true rfl)) dL_feed_6 ⟨(Nat.le_of_ble_eq_true rfl), (Nat.le_of_ble_eq_true rfl)⟩) hP hD hS hA [0, 1, 2, 3] [4] rfl rfl (by decide) (by decide) (fun E9 ce9 q9 H locs h hP hD hS hc1 hc2 hc3 => ?_) (fun r_1 u9 H locs h hP hD hS => ?_)
  · have hP : va_P (dC, dI) vwCl [(aO, .inl (cyJ, 1, .inr (.inl ov))), (aX, .inr (8, [.ref aT, .ref aS, .ref aF, .ref aQ, .ref aW, .ref aP, .ref aB, .ref aR])), (aT, .inr (7, [.ref aTb, .int tn])), (aTb, .inl (cyI, 64, .inl tb)), (aP, .inr (3, [.ref aPk, .ref aPl, .ref aPd, .ref aPs, .int pn, .int pch]))] H := hP
    have hD : va_D A [(aO, .inl (cyJ, 1, .inr (.inl ov))), (aX, .inr (8, [.ref aT, .ref aS, .ref aF, .ref aQ, .ref aW, .ref aP, .ref aB, .ref aR])), (aT, .inr (7, [.ref aTb, .int tn])), (aTb, .inl (cyI, 64, .inl tb)), (aP, .inr (3, [.ref aPk, .ref aPl, .ref aPd, .ref aPs, .int pn, .int pch]))] := hD
    rcases h with ⟨rfl, h⟩ | ⟨rfl, h⟩
    · refine vx_catch (name := xA) hown [] ⟨0, 11, 14, 13⟩ [⟨0, 11, 18, 15⟩] (by rw [htb]; rfl) (fun z hz => nomatch hz) (by decide) (by decide) (hts _ qL_feed_0) (hZ.use _ _ (List.mem_of_getElem? (i := 0) rfl)) hc1 hc2 hc3 ?_
      refine lv_astore (lv' := [(5, .ref q9), (0, .ref aX), (1, .long v1), (3, .int v3), (4, .ref aO)]) hx hb dL_feed_14 hl (by decide) rfl (fun ls hl => ?_)
      refine lv_iconst (v := 1) hx hb dL_feed_16 (by decide) ?_
      have hP9 : va_P (dC, dI) vwCl [(aX, .inr (8, [.ref aT, .ref aS, .ref aF, .ref aQ, .ref aW, .ref aP, .ref aB, .ref aR])), (aT, .inr (7, [.ref aTb, .int tn])), (aTb, .inl (cyI, 64, .inl tb)), (aP, .inr (3, [.ref aPk, .ref aPl, .ref aPd, .ref aPs, .int pn, .int pch])), (aO, .inl (cyJ, 1, .inr (.inl ov)))] _ := (hP.sub [1, 2, 3, 4, 0] rfl)
      have hD9 : va_D A [(aX, .inr (8, [.ref aT, .ref aS, .ref aF, .ref aQ, .ref aW, .ref aP, .ref aB, .ref aR])), (aT, .inr (7, [.ref aTb, .int tn])), (aTb, .inl (cyI, 64, .inl tb)), (aP, .inr (3, [.ref aPk, .ref aPl, .ref aPd, .ref aPs, .int pn, .int pch])), (aO, .inl (cyJ, 1, .inr (.inl ov)))] := (hD.sub [1, 2, 3, 4, 0] (by decide) rfl)
      refine vx_ret ?_
      refine W.widen (k := 1) (n := 6) (Nat.le_of_ble_eq_true rfl) (Nat.le_of_ble_eq_true rfl) ?_
      exact W.iret (v := 1) hx hb hr (fun t ht hW => ⟨⟨1, (tn, tb, pn, pch, ov), rfl, h, by rw [ht]; exact hP9, va_K.moved hW.alike hK, hD9⟩, hS.F ht⟩) hS.2.2 dL_feed_17
    · refine vx_catch (name := xS) hown [⟨0, 11, 14, 13⟩] ⟨0, 11, 18, 15⟩ [] (by rw [htb]; rfl) (fun z hz => by rcases List.mem_singleton.mp hz with rfl; exact Or.inr ⟨by decide, _, (hts _ qL_feed_0), hZ.2.2.2.1⟩) (by decide) (by decide) (hts _ qL_feed_1) (hZ.use _ _ (List.mem_of_getElem? (i := 1) rfl)) hc1 hc2 hc3 ?_
      refine lv_astore (lv' := [(5, .ref q9), (0, .ref aX), (1, .long v1), (3, .int v3), (4, .ref aO)]) hx hb dL_feed_18 hl (by decide) rfl (fun ls hl => ?_)
      refine lv_iconst (v := 2) hx hb dL_feed_20 (by decide) ?_
      have hP9 : va_P (dC, dI) vwCl [(aX, .inr (8, [.ref aT, .ref aS, .ref aF, .ref aQ, .ref aW, .ref aP, .ref aB, .ref aR])), (aT, .inr (7, [.ref aTb, .int tn])), (aTb, .inl (cyI, 64, .inl tb)), (aP, .inr (3, [.ref aPk, .ref aPl, .ref aPd, .ref aPs, .int pn, .int pch])), (aO, .inl (cyJ, 1, .inr (.inl ov)))] _ := (hP.sub [1, 2, 3, 4, 0] rfl)
      have hD9 : va_D A [(aX, .inr (8, [.ref aT, .ref aS, .ref aF, .ref aQ, .ref aW, .ref aP, .ref aB, .ref aR])), (aT, .inr (7, [.ref aTb, .int tn])), (aTb, .inl (cyI, 64, .inl tb)), (aP, .inr (3, [.ref aPk, .ref aPl, .ref aPd, .ref aPs, .int pn, .int pch])), (aO, .inl (cyJ, 1, .inr (.inl ov)))] := (hD.sub [1, 2, 3, 4, 0] (by decide) rfl)
      refine vx_ret ?_
      refine W.widen (k := 1) (n := 6) (Nat.le_of_ble_eq_true rfl) (Nat.le_of_ble_eq_true rfl) ?_
      exact W.iret (v := 2) hx hb hr (fun t ht hW => ⟨⟨2, (tn, tb, pn, pch, ov), rfl, h, by rw [ht]; exact hP9, va_K.moved hW.alike hK, hD9⟩, hS.F ht⟩) hS.2.2 dL_feed_21
  obtain ⟨tn_2, tb_3, pn_4, pch_5⟩ := u9
  have hP : va_P (dC, dI) vwCl [(aO, .inl (cyJ, 1, .inr (.inl ov))), (aX, .inr (8, [.ref aT, .ref aS, .ref aF, .ref aQ, .ref aW, .ref aP, .ref aB, .ref aR])), (aT, .inr (7, [.ref aTb, .int tn_2])), (aTb, .inl (cyI, 64, .inl tb_3)), (aP, .inr (3, [.ref aPk, .ref aPl, .ref aPd, .ref aPs, .int pn_4, .int pch_5]))] H := hP
  have hD : va_D A [(aO, .inl (cyJ, 1, .inr (.inl ov))), (aX, .inr (8, [.ref aT, .ref aS, .ref aF, .ref aQ, .ref aW, .ref aP, .ref aB, .ref aR])), (aT, .inr (7, [.ref aTb, .int tn_2])), (aTb, .inl (cyI, 64, .inl tb_3)), (aP, .inr (3, [.ref aPk, .ref aPl, .ref aPd, .ref aPs, .int pn_4, .int pch_5]))] := hD
  dsimp only at h
  refine lv_i2l hx hb dL_feed_9 rfl ?_
  refine va_last hx hb hK hP hD hS 0 1 rfl rfl wk_in01 dL_feed_10 (fun H locs hP hD hS => ?_)
  have hP : va_P (dC, dI) vwCl [(aO, .inl (cyJ, 1, .inr (.inl (vp_updL ov (0 : Int32).toNatClampNeg (r_1.toInt64))))), (aX, .inr (8, [.ref aT, .ref aS, .ref aF, .ref aQ, .ref aW, .ref aP, .ref aB, .ref aR])), (aT, .inr (7, [.ref aTb, .int tn_2])), (aTb, .inl (cyI, 64, .inl tb_3)), (aP, .inr (3, [.ref aPk, .ref aPl, .ref aPd, .ref aPs, .int pn_4, .int pch_5]))] H := hP
  have hD : va_D A [(aO, .inl (cyJ, 1, .inr (.inl (vp_updL ov (0 : Int32).toNatClampNeg (r_1.toInt64))))), (aX, .inr (8, [.ref aT, .ref aS, .ref aF, .ref aQ, .ref aW, .ref aP, .ref aB, .ref aR])), (aT, .inr (7, [.ref aTb, .int tn_2])), (aTb, .inl (cyI, 64, .inl tb_3)), (aP, .inr (3, [.ref aPk, .ref aPl, .ref aPd, .ref aPs, .int pn_4, .int pch_5]))] := hD
  refine lv_goto (tgt := 22) hx hb dL_feed_11 (by decide) ?_
  refine lv_iconst (v := 0) hx hb dL_feed_22 (by decide) ?_
  have hP9 : va_P (dC, dI) vwCl [(aX, .inr (8, [.ref aT, .ref aS, .ref aF, .ref aQ, .ref aW, .ref aP, .ref aB, .ref aR])), (aT, .inr (7, [.ref aTb, .int tn_2])), (aTb, .inl (cyI, 64, .inl tb_3)), (aP, .inr (3, [.ref aPk, .ref aPl, .ref aPd, .ref aPs, .int pn_4, .int pch_5])), (aO, .inl (cyJ, 1, .inr (.inl (vp_updL ov (0 : Int32).toNatClampNeg (r_1.toInt64)))))] _ := (hP.sub [1, 2, 3, 4, 0] rfl)
  have hD9 : va_D A [(aX, .inr (8, [.ref aT, .ref aS, .ref aF, .ref aQ, .ref aW, .ref aP, .ref aB, .ref aR])), (aT, .inr (7, [.ref aTb, .int tn_2])), (aTb, .inl (cyI, 64, .inl tb_3)), (aP, .inr (3, [.ref aPk, .ref aPl, .ref aPd, .ref aPs, .int pn_4, .int pch_5])), (aO, .inl (cyJ, 1, .inr (.inl (vp_updL ov (0 : Int32).toNatClampNeg (r_1.toInt64)))))] := (hD.sub [1, 2, 3, 4, 0] (by decide) rfl)
  refine vx_ret ?_
  refine W.widen (k := 1) (n := 6) (Nat.le_of_ble_eq_true rfl) (Nat.le_of_ble_eq_true rfl) ?_
  exact W.iret (v := 0) hx hb hr (fun t ht hW => ⟨⟨0, (tn_2, tb_3, pn_4, pch_5, vp_updL ov (0 : Int32).toNatClampNeg (r_1.toInt64)), rfl, h, by rw [ht]; exact hP9, va_K.moved hW.alike hK, hD9⟩, hS.F ht⟩) hS.2.2 dL_feed_23
-- L_fill
theorem qL_fill_0 : Cond.classLink RL 13 "java/lang/IllegalArgumentException" ∈ wsL_fill := (List.mem_cons_of_mem _ (List.mem_append_left _ (List.mem_append_left _ (List.mem_append_left _ (List.mem_append_left _ (List.mem_append_left _ (List.mem_append_left _ (List.mem_of_getElem? (i := 0) rfl))))))))
theorem qL_fill_1 : Cond.classLink RL 15 "java/lang/IllegalStateException" ∈ wsL_fill := (List.mem_cons_of_mem _ (List.mem_append_left _ (List.mem_append_left _ (List.mem_append_left _ (List.mem_append_left _ (List.mem_append_left _ (List.mem_append_left _ (List.mem_of_getElem? (i := 1) rfl))))))))
def wpL_fill (tn : Int32) (tb : Nat → Int32) (pn : Int32) (pch : Int32) (ov : Nat → Int64) (v1 : Int32) (v2 : Int32) (post : Int32 → Int32 → (Nat → Int32) → Int32 → Int32 → (Nat → Int64) → Prop) : Prop := wpX9_fill tn tb v1 v2 (fun (r_1 : Int32) (tn_2 : Int32) (tb_3 : Nat → Int32) (pn_4 : Int32) (pch_5 : Int32) => post 0 tn_2 tb_3 pn_4 pch_5 (vp_updL ov (0 : Int32).toNatClampNeg (r_1.toInt64))) (fun (E9 : String) => (E9 = xA ∧ (post 1 tn tb pn pch ov)) ∨ (E9 = xS ∧ (post 2 tn tb pn pch ov)))
set_option maxHeartbeats 4000000 in
set_option maxRecDepth 100000 in
theorem mtL_fill (l : Launch) (hlt : l.stackTraces = false) (dC : Nat → ClassId) (dI : Nat → Nat → Nat) (cyI cyJ cyD : ClassId) {aX aT aTb aS aF aQ aW aP aPk aPl aPd aPs aB aR aO : Nat} {sz : Nat} {tn : Int32} {tb : Nat → Int32} {pn : Int32} {pch : Int32} {ov : Nat → Int64} {v1 : Int32} {v2 : Int32} {post : Int32 → Int32 → (Nat → Int32) → Int32 → Int32 → (Nat → Int64) → Prop} (h : wpL_fill tn tb pn pch ov v1 v2 post) : vx_Met l yL_fill wsL_fill ({ frames := 7, cells := 1, slots := 6, locals := 105 }) (va_Pc [.ref aX, .int v1, .int v2, .ref aO] (wk_BX (dC, dI) [(cyI, .int), (cyJ, .long), (cyD, .double)] [(aX, .inr (8, [.ref aT, .ref aS, .ref aF, .ref aQ, .ref aW, .ref aP, .ref aB, .ref aR])), (aT, .inr (7, [.ref aTb, .int tn])), (aTb, .inl (cyI, 64, .inl tb)), (aP, .inr (3, [.ref aPk, .ref aPl, .ref aPd, .ref aPs, .int pn, .int pch])), (aO, .inl (cyJ, 1, .inr (.inl ov)))] sz)) (va_Qi (fun (r : Int32) (u : Int32 × (Nat → Int32) × Int32 × Int32 × (Nat → Int64)) => post r u.1 u.2.1 u.2.2.1 u.2.2.2.1 u.2.2.2.2) (wk_C (dC, dI) [(cyI, .int), (cyJ, .long), (cyD, .double)] (va_A [(aX, .inr (8, [.ref aT, .ref aS, .ref aF, .ref aQ, .ref aW, .ref aP, .ref aB, .ref aR])), (aT, .inr (7, [.ref aTb, .int tn])), (aTb, .inl (cyI, 64, .inl tb)), (aP, .inr (3, [.ref aPk, .ref aPl, .ref aPd, .ref aPs, .int pn, .int pch])), (aO, .inl (cyJ, 1, .inr (.inl ov)))] sz) (fun (u : Int32 × (Nat → Int32) × Int32 × Int32 × (Nat → Int64)) => [(aX, .inr (8, [.ref aT, .ref aS, .ref aF, .ref aQ, .ref aW, .ref aP, .ref aB, .ref aR])), (aT, .inr (7, [.ref aTb, .int (u.1)])), (aTb, .inl (cyI, 64, .inl (u.2.1))), (aP, .inr (3, [.ref aPk, .ref aPl, .ref aPd, .ref aPs, .int (u.2.2.1), .int (u.2.2.2.1)])), (aO, .inl (cyJ, 1, .inr (.inl (u.2.2.2.2))))])) (va_A [(aX, .inr (8, [.ref aT, .ref aS, .ref aF, .ref aQ, .ref aW, .ref aP, .ref aB, .ref aR])), (aT, .inr (7, [.ref aTb, .int tn])), (aTb, .inl (cyI, 64, .inl tb)), (aP, .inr (3, [.ref aPk, .ref aPl, .ref aPd, .ref aPs, .int pn, .int pch])), (aO, .inl (cyJ, 1, .inr (.inl ov)))] sz)) (vx_X (fun (_ : String) => False) (wk_X (dC, dI) [(cyI, .int), (cyJ, .long), (cyD, .double)] (va_A [(aX, .inr (8, [.ref aT, .ref aS, .ref aF, .ref aQ, .ref aW, .ref aP, .ref aB, .ref aR])), (aT, .inr (7, [.ref aTb, .int tn])), (aTb, .inl (cyI, 64, .inl tb)), (aP, .inr (3, [.ref aPk, .ref aPl, .ref aPd, .ref aPs, .int pn, .int pch])), (aO, .inl (cyJ, 1, .inr (.inl ov)))] sz) [(aX, .inr (8, [.ref aT, .ref aS, .ref aF, .ref aQ, .ref aW, .ref aP, .ref aB, .ref aR])), (aT, .inr (7, [.ref aTb, .int tn])), (aTb, .inl (cyI, 64, .inl tb)), (aP, .inr (3, [.ref aPk, .ref aPl, .ref aPd, .ref aPs, .int pn, .int pch])), (aO, .inl (cyJ, 1, .inr (.inl ov)))]) (va_A [(aX, .inr (8, [.ref aT, .ref aS, .ref aF, .ref aQ, .ref aW, .ref aP, .ref aB, .ref aR])), (aT, .inr (7, [.ref aTb, .int tn])), (aTb, .inl (cyI, 64, .inl tb)), (aP, .inr (3, [.ref aPk, .ref aPl, .ref aPd, .ref aPs, .int pn, .int pch])), (aO, .inl (cyJ, 1, .inr (.inl ov)))] sz)) 1 6 (va_A [(aX, .inr (8, [.ref aT, .ref aS, .ref aF, .ref aQ, .ref aW, .ref aP, .ref aB, .ref aR])), (aT, .inr (7, [.ref aTb, .int tn])), (aTb, .inl (cyI, 64, .inl tb)), (aP, .inr (3, [.ref aPk, .ref aPl, .ref aPd, .ref aPs, .int pn, .int pch])), (aO, .inl (cyJ, 1, .inr (.inl ov)))] sz) := by
  refine vx_ofWH (cc := cL_fill) (maxL := 5) (ret := (some .int)) (by decide) rfl ?_
  intro p e s m args below meth c s₁ B hml hv
  obtain ⟨rfl, ⟨hsz, hP, hK, hD0⟩, hZ⟩ := hv
  have hx := B.exec
  have hb := B.bytes
  have hr := B.returns
  have hts := atoms_spec (ws := wsL_fill) B.pre
  have hown : s.vm.findClass RL = some m.cls := findClass_of_methodNamed B.named
  have htb := vx_table (x := yL_fill) B (hts _ List.mem_cons_self)
  have hlocks := B.notSynchronized
  subst hsz
  have hD := hD0.self (sz := s.heap.size)
  generalize hAe : va_A [(aX, .inr (8, [.ref aT, .ref aS, .ref aF, .ref aQ, .ref aW, .ref aP, .ref aB, .ref aR])), (aT, .inr (7, [.ref aTb, .int tn])), (aTb, .inl (cyI, 64, .inl tb)), (aP, .inr (3, [.ref aPk, .ref aPl, .ref aPd, .ref aPs, .int pn, .int pch])), (aO, .inl (cyJ, 1, .inr (.inl ov)))] s.heap.size = A at hD hZ ⊢
  have hA : ∀ q : Nat, s.heap.size ≤ q → A q := fun q h => by rw [← hAe]; exact Or.inr h
  have hS : va_S A s.heap s.heap [] := va_S.rf
  have hP : va_P (dC, dI) vwCl [(aX, .inr (8, [.ref aT, .ref aS, .ref aF, .ref aQ, .ref aW, .ref aP, .ref aB, .ref aR])), (aT, .inr (7, [.ref aTb, .int tn])), (aTb, .inl (cyI, 64, .inl tb)), (aP, .inr (3, [.ref aPk, .ref aPl, .ref aPd, .ref aPs, .int pn, .int pch])), (aO, .inl (cyJ, 1, .inr (.inl ov)))] s.heap := hP
  have hl := lv_entry ([.ref aX, .int v1, .int v2, .ref aO]) (n := 5) (Nat.le_of_ble_eq_true rfl)
  rw [lg_entry_eq]
  generalize (lg_sl ([.ref aX, .int v1, .int v2, .ref aO]) ++ List.replicate (5 - (lg_sl ([.ref aX, .int v1, .int v2, .ref aO])).length) Slot.unset).toArray = ls at hl ⊢
  have hl : lv_has ls 5 [(0, .ref aX), (1, .int v1), (2, .int v2), (3, .ref aO)] := hl
  have C0 : CallFix p m c cL_fill 5 s ([.ref aX, .int v1, .int v2, .ref aO] : List Value).toArray wsL_fill RL := ⟨hx, hb, hml, hown, hts⟩
  unfold wpL_fill at h
  refine lv_aload_n hx hb dL_fill_0 rfl (lv_at hl 3 rfl) ?_
  refine lv_iconst (v := 0) hx hb dL_fill_1 (by decide) ?_
  refine lv_aload_n hx hb dL_fill_2 rfl (lv_at hl 0 rfl) ?_
  refine lv_iload_n hx hb dL_fill_3 rfl (lv_at hl 1 rfl) ?_
  refine lv_iload_n hx hb dL_fill_4 rfl (lv_at hl 2 rfl) ?_
  refine wk_xcalli (wc := [(aX, .inr (8, [.ref aT, .ref aS, .ref aF, .ref aQ, .ref aW, .ref aP, .ref aB, .ref aR])), (aT, .inr (7, [.ref aTb, .int tn])), (aTb, .inl (cyI, 64, .inl tb)), (aP, .inr (3, [.ref aPk, .ref aPl, .ref aPd, .ref aPs, .int pn, .int pch]))]) (wr := [(aO, .inl (cyJ, 1, .inr (.inl ov)))]) (vx_runV (As := [.int v1, .int v2]) (rest := [.int 0, .ref aO]) C0 (mtX9_fill l hlt dC dI cyI (aX := aX) (aT := aT) (aTb := aTb) (aS := aS) (aF := aF) (aQ := aQ) (aW := aW) (aP := aP) (aPk := aPk) (aPl := aPl) (aPd := aPd) (aPs := aPs) (aB := aB) (aR := aR) (sz := _) (tn := tn) (tb := tb) (pn := pn) (pch := pch) (v1 := v1) (v2 := v2) h) (cwV 2 hts gL_fill_X9_fill rfl rfl rfl (by decide +kernel) ⟨(Nat.le_of_ble_eq_true rfl), (Nat.le_of_ble_eq_true rfl)⟩) (wk_preVX (wc := [(aX, .inr (8, [.ref aT, .ref aS, .ref aF, .ref aQ, .ref aW, .ref aP, .ref aB, .ref aR])), (aT, .inr (7, [.ref aTb, .int tn])), (aTb, .inl (cyI, 64, .inl tb)), (aP, .inr (3, [.ref aPk, .ref aPl, .ref aPd, .ref aPs, .int pn, .int pch]))]) (hK.sub (tys' := [(cyI, .int)]) [0] rfl) hP hD hS hA hZ [0, 1, 2, 3] rfl (by decide) (va_recv hK hP (ci := 8) (q0 := 0) rfl rfl)) rfl rfl hl.1 rfl (lv_room (Nat.le_of_ble_eq_true rfl)) dL_fill_5 ⟨(Nat.le_of_ble_eq_true rfl), (Nat.le_of_ble_eq_true rfl)⟩) hP hD hS hA [0, 1, 2, 3] [4] rfl rfl (by decide) (by decide) (fun E9 ce9 q9 H locs h hP hD hS hc1 hc2 hc3 => ?_) (fun r_1 u9 H locs h hP hD hS => ?_)
  · have hP : va_P (dC, dI) vwCl [(aO, .inl (cyJ, 1, .inr (.inl ov))), (aX, .inr (8, [.ref aT, .ref aS, .ref aF, .ref aQ, .ref aW, .ref aP, .ref aB, .ref aR])), (aT, .inr (7, [.ref aTb, .int tn])), (aTb, .inl (cyI, 64, .inl tb)), (aP, .inr (3, [.ref aPk, .ref aPl, .ref aPd, .ref aPs, .int pn, .int pch]))] H := hP
    have hD : va_D A [(aO, .inl (cyJ, 1, .inr (.inl ov))), (aX, .inr (8, [.ref aT, .ref aS, .ref aF, .ref aQ, .ref aW, .ref aP, .ref aB, .ref aR])), (aT, .inr (7, [.ref aTb, .int tn])), (aTb, .inl (cyI, 64, .inl tb)), (aP, .inr (3, [.ref aPk, .ref aPl, .ref aPd, .ref aPs, .int pn, .int pch]))] := hD
    rcases h with ⟨rfl, h⟩ | ⟨rfl, h⟩
    · refine vx_catch (name := xA) hown [] ⟨0, 10, 13, 13⟩ [⟨0, 10, 17, 15⟩] (by rw [htb]; rfl) (fun z hz => nomatch hz) (by decide) (by decide) (hts _ qL_fill_0) (hZ.use _ _ (List.mem_of_getElem? (i := 0) rfl)) hc1 hc2 hc3 ?_
      refine lv_astore (lv' := [(4, .ref q9), (0, .ref aX), (1, .int v1), (2, .int v2), (3, .ref aO)]) hx hb dL_fill_13 hl (by decide) rfl (fun ls hl => ?_)
      refine lv_iconst (v := 1) hx hb dL_fill_15 (by decide) ?_
      have hP9 : va_P (dC, dI) vwCl [(aX, .inr (8, [.ref aT, .ref aS, .ref aF, .ref aQ, .ref aW, .ref aP, .ref aB, .ref aR])), (aT, .inr (7, [.ref aTb, .int tn])), (aTb, .inl (cyI, 64, .inl tb)), (aP, .inr (3, [.ref aPk, .ref aPl, .ref aPd, .ref aPs, .int pn, .int pch])), (aO, .inl (cyJ, 1, .inr (.inl ov)))] _ := (hP.sub [1, 2, 3, 4, 0] rfl)
      have hD9 : va_D A [(aX, .inr (8, [.ref aT, .ref aS, .ref aF, .ref aQ, .ref aW, .ref aP, .ref aB, .ref aR])), (aT, .inr (7, [.ref aTb, .int tn])), (aTb, .inl (cyI, 64, .inl tb)), (aP, .inr (3, [.ref aPk, .ref aPl, .ref aPd, .ref aPs, .int pn, .int pch])), (aO, .inl (cyJ, 1, .inr (.inl ov)))] := (hD.sub [1, 2, 3, 4, 0] (by decide) rfl)
      refine vx_ret ?_
      refine W.widen (k := 1) (n := 6) (Nat.le_of_ble_eq_true rfl) (Nat.le_of_ble_eq_true rfl) ?_
      exact W.iret (v := 1) hx hb hr (fun t ht hW => ⟨⟨1, (tn, tb, pn, pch, ov), rfl, h, by rw [ht]; exact hP9, va_K.moved hW.alike hK, hD9⟩, hS.F ht⟩) hS.2.2 dL_fill_16
    · refine vx_catch (name := xS) hown [⟨0, 10, 13, 13⟩] ⟨0, 10, 17, 15⟩ [] (by rw [htb]; rfl) (fun z hz => by rcases List.mem_singleton.mp hz with rfl; exact Or.inr ⟨by decide, _, (hts _ qL_fill_0), hZ.2.2.2.1⟩) (by decide) (by decide) (hts _ qL_fill_1) (hZ.use _ _ (List.mem_of_getElem? (i := 1) rfl)) hc1 hc2 hc3 ?_
      refine lv_astore (lv' := [(4, .ref q9), (0, .ref aX), (1, .int v1), (2, .int v2), (3, .ref aO)]) hx hb dL_fill_17 hl (by decide) rfl (fun ls hl => ?_)
      refine lv_iconst (v := 2) hx hb dL_fill_19 (by decide) ?_
      have hP9 : va_P (dC, dI) vwCl [(aX, .inr (8, [.ref aT, .ref aS, .ref aF, .ref aQ, .ref aW, .ref aP, .ref aB, .ref aR])), (aT, .inr (7, [.ref aTb, .int tn])), (aTb, .inl (cyI, 64, .inl tb)), (aP, .inr (3, [.ref aPk, .ref aPl, .ref aPd, .ref aPs, .int pn, .int pch])), (aO, .inl (cyJ, 1, .inr (.inl ov)))] _ := (hP.sub [1, 2, 3, 4, 0] rfl)
      have hD9 : va_D A [(aX, .inr (8, [.ref aT, .ref aS, .ref aF, .ref aQ, .ref aW, .ref aP, .ref aB, .ref aR])), (aT, .inr (7, [.ref aTb, .int tn])), (aTb, .inl (cyI, 64, .inl tb)), (aP, .inr (3, [.ref aPk, .ref aPl, .ref aPd, .ref aPs, .int pn, .int pch])), (aO, .inl (cyJ, 1, .inr (.inl ov)))] := (hD.sub [1, 2, 3, 4, 0] (by decide) rfl)
      refine vx_ret ?_
      refine W.widen (k := 1) (n := 6) (Nat.le_of_ble_eq_true rfl) (Nat.le_of_ble_eq_true rfl) ?_
      exact W.iret (v := 2) hx hb hr (fun t ht hW => ⟨⟨2, (tn, tb, pn, pch, ov), rfl, h, by rw [ht]; exact hP9, va_K.moved hW.alike hK, hD9⟩, hS.F ht⟩) hS.2.2 dL_fill_20
  obtain ⟨tn_2, tb_3, pn_4, pch_5⟩ := u9
  have hP : va_P (dC, dI) vwCl [(aO, .inl (cyJ, 1, .inr (.inl ov))), (aX, .inr (8, [.ref aT, .ref aS, .ref aF, .ref aQ, .ref aW, .ref aP, .ref aB, .ref aR])), (aT, .inr (7, [.ref aTb, .int tn_2])), (aTb, .inl (cyI, 64, .inl tb_3)), (aP, .inr (3, [.ref aPk, .ref aPl, .ref aPd, .ref aPs, .int pn_4, .int pch_5]))] H := hP
  have hD : va_D A [(aO, .inl (cyJ, 1, .inr (.inl ov))), (aX, .inr (8, [.ref aT, .ref aS, .ref aF, .ref aQ, .ref aW, .ref aP, .ref aB, .ref aR])), (aT, .inr (7, [.ref aTb, .int tn_2])), (aTb, .inl (cyI, 64, .inl tb_3)), (aP, .inr (3, [.ref aPk, .ref aPl, .ref aPd, .ref aPs, .int pn_4, .int pch_5]))] := hD
  dsimp only at h
  refine lv_i2l hx hb dL_fill_8 rfl ?_
  refine va_last hx hb hK hP hD hS 0 1 rfl rfl wk_in01 dL_fill_9 (fun H locs hP hD hS => ?_)
  have hP : va_P (dC, dI) vwCl [(aO, .inl (cyJ, 1, .inr (.inl (vp_updL ov (0 : Int32).toNatClampNeg (r_1.toInt64))))), (aX, .inr (8, [.ref aT, .ref aS, .ref aF, .ref aQ, .ref aW, .ref aP, .ref aB, .ref aR])), (aT, .inr (7, [.ref aTb, .int tn_2])), (aTb, .inl (cyI, 64, .inl tb_3)), (aP, .inr (3, [.ref aPk, .ref aPl, .ref aPd, .ref aPs, .int pn_4, .int pch_5]))] H := hP
  have hD : va_D A [(aO, .inl (cyJ, 1, .inr (.inl (vp_updL ov (0 : Int32).toNatClampNeg (r_1.toInt64))))), (aX, .inr (8, [.ref aT, .ref aS, .ref aF, .ref aQ, .ref aW, .ref aP, .ref aB, .ref aR])), (aT, .inr (7, [.ref aTb, .int tn_2])), (aTb, .inl (cyI, 64, .inl tb_3)), (aP, .inr (3, [.ref aPk, .ref aPl, .ref aPd, .ref aPs, .int pn_4, .int pch_5]))] := hD
  refine lv_goto (tgt := 21) hx hb dL_fill_10 (by decide) ?_
  refine lv_iconst (v := 0) hx hb dL_fill_21 (by decide) ?_
  have hP9 : va_P (dC, dI) vwCl [(aX, .inr (8, [.ref aT, .ref aS, .ref aF, .ref aQ, .ref aW, .ref aP, .ref aB, .ref aR])), (aT, .inr (7, [.ref aTb, .int tn_2])), (aTb, .inl (cyI, 64, .inl tb_3)), (aP, .inr (3, [.ref aPk, .ref aPl, .ref aPd, .ref aPs, .int pn_4, .int pch_5])), (aO, .inl (cyJ, 1, .inr (.inl (vp_updL ov (0 : Int32).toNatClampNeg (r_1.toInt64)))))] _ := (hP.sub [1, 2, 3, 4, 0] rfl)
  have hD9 : va_D A [(aX, .inr (8, [.ref aT, .ref aS, .ref aF, .ref aQ, .ref aW, .ref aP, .ref aB, .ref aR])), (aT, .inr (7, [.ref aTb, .int tn_2])), (aTb, .inl (cyI, 64, .inl tb_3)), (aP, .inr (3, [.ref aPk, .ref aPl, .ref aPd, .ref aPs, .int pn_4, .int pch_5])), (aO, .inl (cyJ, 1, .inr (.inl (vp_updL ov (0 : Int32).toNatClampNeg (r_1.toInt64)))))] := (hD.sub [1, 2, 3, 4, 0] (by decide) rfl)
  refine vx_ret ?_
  refine W.widen (k := 1) (n := 6) (Nat.le_of_ble_eq_true rfl) (Nat.le_of_ble_eq_true rfl) ?_
  exact W.iret (v := 0) hx hb hr (fun t ht hW => ⟨⟨0, (tn_2, tb_3, pn_4, pch_5, vp_updL ov (0 : Int32).toNatClampNeg (r_1.toInt64)), rfl, h, by rw [ht]; exact hP9, va_K.moved hW.alike hK, hD9⟩, hS.F ht⟩) hS.2.2 dL_fill_22
-- L_cut
theorem qL_cut_0 : Cond.classLink RL 13 "java/lang/IllegalArgumentException" ∈ wsL_cut := (List.mem_cons_of_mem _ (List.mem_append_left _ (List.mem_append_left _ (List.mem_append_left _ (List.mem_append_left _ (List.mem_of_getElem? (i := 0) rfl))))))
def wpL_cut (tn : Int32) (pn : Int32) (pch : Int32) (ov : Nat → Int64) (v1 : Int32) (post : Int32 → Int32 → Int32 → Int32 → (Nat → Int64) → Prop) : Prop := wpX9_cut tn v1 (fun (r_1 : Int32) (tn_2 : Int32) (pn_3 : Int32) (pch_4 : Int32) => post 0 tn_2 pn_3 pch_4 (vp_updL ov (0 : Int32).toNatClampNeg (r_1.toInt64))) (fun (E9 : String) => (E9 = xA ∧ (post 1 tn pn pch ov)))
set_option maxHeartbeats 4000000 in
set_option maxRecDepth 100000 in
theorem mtL_cut (l : Launch) (hlt : l.stackTraces = false) (dC : Nat → ClassId) (dI : Nat → Nat → Nat) (cyI cyJ cyD : ClassId) {aX aT aTb aS aF aQ aW aP aPk aPl aPd aPs aB aR aO : Nat} {sz : Nat} {tn : Int32} {pn : Int32} {pch : Int32} {ov : Nat → Int64} {v1 : Int32} {post : Int32 → Int32 → Int32 → Int32 → (Nat → Int64) → Prop} (h : wpL_cut tn pn pch ov v1 post) : vx_Met l yL_cut wsL_cut ({ frames := 7, cells := 1, slots := 6, locals := 103 }) (va_Pc [.ref aX, .int v1, .ref aO] (wk_BX (dC, dI) [(cyI, .int), (cyJ, .long), (cyD, .double)] [(aX, .inr (8, [.ref aT, .ref aS, .ref aF, .ref aQ, .ref aW, .ref aP, .ref aB, .ref aR])), (aT, .inr (7, [.ref aTb, .int tn])), (aP, .inr (3, [.ref aPk, .ref aPl, .ref aPd, .ref aPs, .int pn, .int pch])), (aO, .inl (cyJ, 1, .inr (.inl ov)))] sz)) (va_Qi (fun (r : Int32) (u : Int32 × Int32 × Int32 × (Nat → Int64)) => post r u.1 u.2.1 u.2.2.1 u.2.2.2) (wk_C (dC, dI) [(cyI, .int), (cyJ, .long), (cyD, .double)] (va_A [(aX, .inr (8, [.ref aT, .ref aS, .ref aF, .ref aQ, .ref aW, .ref aP, .ref aB, .ref aR])), (aT, .inr (7, [.ref aTb, .int tn])), (aP, .inr (3, [.ref aPk, .ref aPl, .ref aPd, .ref aPs, .int pn, .int pch])), (aO, .inl (cyJ, 1, .inr (.inl ov)))] sz) (fun (u : Int32 × Int32 × Int32 × (Nat → Int64)) => [(aX, .inr (8, [.ref aT, .ref aS, .ref aF, .ref aQ, .ref aW, .ref aP, .ref aB, .ref aR])), (aT, .inr (7, [.ref aTb, .int (u.1)])), (aP, .inr (3, [.ref aPk, .ref aPl, .ref aPd, .ref aPs, .int (u.2.1), .int (u.2.2.1)])), (aO, .inl (cyJ, 1, .inr (.inl (u.2.2.2))))])) (va_A [(aX, .inr (8, [.ref aT, .ref aS, .ref aF, .ref aQ, .ref aW, .ref aP, .ref aB, .ref aR])), (aT, .inr (7, [.ref aTb, .int tn])), (aP, .inr (3, [.ref aPk, .ref aPl, .ref aPd, .ref aPs, .int pn, .int pch])), (aO, .inl (cyJ, 1, .inr (.inl ov)))] sz)) (vx_X (fun (_ : String) => False) (wk_X (dC, dI) [(cyI, .int), (cyJ, .long), (cyD, .double)] (va_A [(aX, .inr (8, [.ref aT, .ref aS, .ref aF, .ref aQ, .ref aW, .ref aP, .ref aB, .ref aR])), (aT, .inr (7, [.ref aTb, .int tn])), (aP, .inr (3, [.ref aPk, .ref aPl, .ref aPd, .ref aPs, .int pn, .int pch])), (aO, .inl (cyJ, 1, .inr (.inl ov)))] sz) [(aX, .inr (8, [.ref aT, .ref aS, .ref aF, .ref aQ, .ref aW, .ref aP, .ref aB, .ref aR])), (aT, .inr (7, [.ref aTb, .int tn])), (aP, .inr (3, [.ref aPk, .ref aPl, .ref aPd, .ref aPs, .int pn, .int pch])), (aO, .inl (cyJ, 1, .inr (.inl ov)))]) (va_A [(aX, .inr (8, [.ref aT, .ref aS, .ref aF, .ref aQ, .ref aW, .ref aP, .ref aB, .ref aR])), (aT, .inr (7, [.ref aTb, .int tn])), (aP, .inr (3, [.ref aPk, .ref aPl, .ref aPd, .ref aPs, .int pn, .int pch])), (aO, .inl (cyJ, 1, .inr (.inl ov)))] sz)) 1 6 (va_A [(aX, .inr (8, [.ref aT, .ref aS, .ref aF, .ref aQ, .ref aW, .ref aP, .ref aB, .ref aR])), (aT, .inr (7, [.ref aTb, .int tn])), (aP, .inr (3, [.ref aPk, .ref aPl, .ref aPd, .ref aPs, .int pn, .int pch])), (aO, .inl (cyJ, 1, .inr (.inl ov)))] sz) := by
  refine vx_ofWH (cc := cL_cut) (maxL := 4) (ret := (some .int)) (by decide) rfl ?_
  intro p e s m args below meth c s₁ B hml hv
  obtain ⟨rfl, ⟨hsz, hP, hK, hD0⟩, hZ⟩ := hv
  have hx := B.exec
  have hb := B.bytes
  have hr := B.returns
  have hts := atoms_spec (ws := wsL_cut) B.pre
  have hown : s.vm.findClass RL = some m.cls := findClass_of_methodNamed B.named
  have htb := vx_table (x := yL_cut) B (hts _ List.mem_cons_self)
  have hlocks := B.notSynchronized
  subst hsz
  have hD := hD0.self (sz := s.heap.size)
  generalize hAe : va_A [(aX, .inr (8, [.ref aT, .ref aS, .ref aF, .ref aQ, .ref aW, .ref aP, .ref aB, .ref aR])), (aT, .inr (7, [.ref aTb, .int tn])), (aP, .inr (3, [.ref aPk, .ref aPl, .ref aPd, .ref aPs, .int pn, .int pch])), (aO, .inl (cyJ, 1, .inr (.inl ov)))] s.heap.size = A at hD hZ ⊢
  have hA : ∀ q : Nat, s.heap.size ≤ q → A q := fun q h => by rw [← hAe]; exact Or.inr h
  have hS : va_S A s.heap s.heap [] := va_S.rf
  have hP : va_P (dC, dI) vwCl [(aX, .inr (8, [.ref aT, .ref aS, .ref aF, .ref aQ, .ref aW, .ref aP, .ref aB, .ref aR])), (aT, .inr (7, [.ref aTb, .int tn])), (aP, .inr (3, [.ref aPk, .ref aPl, .ref aPd, .ref aPs, .int pn, .int pch])), (aO, .inl (cyJ, 1, .inr (.inl ov)))] s.heap := hP
  have hl := lv_entry ([.ref aX, .int v1, .ref aO]) (n := 4) (Nat.le_of_ble_eq_true rfl)
  rw [lg_entry_eq]
  generalize (lg_sl ([.ref aX, .int v1, .ref aO]) ++ List.replicate (4 - (lg_sl ([.ref aX, .int v1, .ref aO])).length) Slot.unset).toArray = ls at hl ⊢
  have hl : lv_has ls 4 [(0, .ref aX), (1, .int v1), (2, .ref aO)] := hl
  have C0 : CallFix p m c cL_cut 4 s ([.ref aX, .int v1, .ref aO] : List Value).toArray wsL_cut RL := ⟨hx, hb, hml, hown, hts⟩
  unfold wpL_cut at h
  refine lv_aload_n hx hb dL_cut_0 rfl (lv_at hl 2 rfl) ?_
  refine lv_iconst (v := 0) hx hb dL_cut_1 (by decide) ?_
  refine lv_aload_n hx hb dL_cut_2 rfl (lv_at hl 0 rfl) ?_
  refine lv_iload_n hx hb dL_cut_3 rfl (lv_at hl 1 rfl) ?_
  refine wk_xcalli (wc := [(aX, .inr (8, [.ref aT, .ref aS, .ref aF, .ref aQ, .ref aW, .ref aP, .ref aB, .ref aR])), (aT, .inr (7, [.ref aTb, .int tn])), (aP, .inr (3, [.ref aPk, .ref aPl, .ref aPd, .ref aPs, .int pn, .int pch]))]) (wr := [(aO, .inl (cyJ, 1, .inr (.inl ov)))]) (vx_runV (As := [.int v1]) (rest := [.int 0, .ref aO]) C0 (mtX9_cut l hlt dC dI cyI (aX := aX) (aT := aT) (aTb := aTb) (aS := aS) (aF := aF) (aQ := aQ) (aW := aW) (aP := aP) (aPk := aPk) (aPl := aPl) (aPd := aPd) (aPs := aPs) (aB := aB) (aR := aR) (sz := _) (tn := tn) (pn := pn) (pch := pch) (v1 := v1) h) (cwV 1 hts gL_cut_X9_cut rfl rfl rfl (by decide +kernel) ⟨(Nat.le_of_ble_eq_true rfl), (Nat.le_of_ble_eq_true rfl)⟩) (wk_preVX (wc := [(aX, .inr (8, [.ref aT, .ref aS, .ref aF, .ref aQ, .ref aW, .ref aP, .ref aB, .ref aR])), (aT, .inr (7, [.ref aTb, .int tn])), (aP, .inr (3, [.ref aPk, .ref aPl, .ref aPd, .ref aPs, .int pn, .int pch]))]) (hK.sub (tys' := [(cyI, .int)]) [0] rfl) hP hD hS hA hZ [0, 1, 2] rfl (by decide) (va_recv hK hP (ci := 8) (q0 := 0) rfl rfl)) rfl rfl hl.1 rfl (lv_room (Nat.le_of_ble_eq_true rfl)) dL_cut_4 ⟨(Nat.le_of_ble_eq_true rfl), (Nat.le_of_ble_eq_true rfl)⟩) hP hD hS hA [0, 1, 2] [3] rfl rfl (by decide) (by decide) (fun E9 ce9 q9 H locs h hP hD hS hc1 hc2 hc3 => ?_) (fun r_1 u9 H locs h hP hD hS => ?_)
  · have hP : va_P (dC, dI) vwCl [(aO, .inl (cyJ, 1, .inr (.inl ov))), (aX, .inr (8, [.ref aT, .ref aS, .ref aF, .ref aQ, .ref aW, .ref aP, .ref aB, .ref aR])), (aT, .inr (7, [.ref aTb, .int tn])), (aP, .inr (3, [.ref aPk, .ref aPl, .ref aPd, .ref aPs, .int pn, .int pch]))] H := hP
    have hD : va_D A [(aO, .inl (cyJ, 1, .inr (.inl ov))), (aX, .inr (8, [.ref aT, .ref aS, .ref aF, .ref aQ, .ref aW, .ref aP, .ref aB, .ref aR])), (aT, .inr (7, [.ref aTb, .int tn])), (aP, .inr (3, [.ref aPk, .ref aPl, .ref aPd, .ref aPs, .int pn, .int pch]))] := hD
    obtain ⟨rfl, h⟩ := h
    refine vx_catch (name := xA) hown [] ⟨0, 9, 12, 13⟩ [] (by rw [htb]; rfl) (fun z hz => nomatch hz) (by decide) (by decide) (hts _ qL_cut_0) (hZ.use _ _ (List.mem_of_getElem? (i := 0) rfl)) hc1 hc2 hc3 ?_
    refine lv_astore_n (lv' := [(3, .ref q9), (0, .ref aX), (1, .int v1), (2, .ref aO)]) hx hb dL_cut_12 rfl hl (by decide) rfl (fun ls hl => ?_)
    refine lv_iconst (v := 1) hx hb dL_cut_13 (by decide) ?_
    have hP9 : va_P (dC, dI) vwCl [(aX, .inr (8, [.ref aT, .ref aS, .ref aF, .ref aQ, .ref aW, .ref aP, .ref aB, .ref aR])), (aT, .inr (7, [.ref aTb, .int tn])), (aP, .inr (3, [.ref aPk, .ref aPl, .ref aPd, .ref aPs, .int pn, .int pch])), (aO, .inl (cyJ, 1, .inr (.inl ov)))] _ := (hP.sub [1, 2, 3, 0] rfl)
    have hD9 : va_D A [(aX, .inr (8, [.ref aT, .ref aS, .ref aF, .ref aQ, .ref aW, .ref aP, .ref aB, .ref aR])), (aT, .inr (7, [.ref aTb, .int tn])), (aP, .inr (3, [.ref aPk, .ref aPl, .ref aPd, .ref aPs, .int pn, .int pch])), (aO, .inl (cyJ, 1, .inr (.inl ov)))] := (hD.sub [1, 2, 3, 0] (by decide) rfl)
    refine vx_ret ?_
    refine W.widen (k := 1) (n := 6) (Nat.le_of_ble_eq_true rfl) (Nat.le_of_ble_eq_true rfl) ?_
    exact W.iret (v := 1) hx hb hr (fun t ht hW => ⟨⟨1, (tn, pn, pch, ov), rfl, h, by rw [ht]; exact hP9, va_K.moved hW.alike hK, hD9⟩, hS.F ht⟩) hS.2.2 dL_cut_14
  obtain ⟨tn_2, pn_3, pch_4⟩ := u9
  have hP : va_P (dC, dI) vwCl [(aO, .inl (cyJ, 1, .inr (.inl ov))), (aX, .inr (8, [.ref aT, .ref aS, .ref aF, .ref aQ, .ref aW, .ref aP, .ref aB, .ref aR])), (aT, .inr (7, [.ref aTb, .int tn_2])), (aP, .inr (3, [.ref aPk, .ref aPl, .ref aPd, .ref aPs, .int pn_3, .int pch_4]))] H := hP
  have hD : va_D A [(aO, .inl (cyJ, 1, .inr (.inl ov))), (aX, .inr (8, [.ref aT, .ref aS, .ref aF, .ref aQ, .ref aW, .ref aP, .ref aB, .ref aR])), (aT, .inr (7, [.ref aTb, .int tn_2])), (aP, .inr (3, [.ref aPk, .ref aPl, .ref aPd, .ref aPs, .int pn_3, .int pch_4]))] := hD
  dsimp only at h
  refine lv_i2l hx hb dL_cut_7 rfl ?_
  refine va_last hx hb hK hP hD hS 0 1 rfl rfl wk_in01 dL_cut_8 (fun H locs hP hD hS => ?_)
  have hP : va_P (dC, dI) vwCl [(aO, .inl (cyJ, 1, .inr (.inl (vp_updL ov (0 : Int32).toNatClampNeg (r_1.toInt64))))), (aX, .inr (8, [.ref aT, .ref aS, .ref aF, .ref aQ, .ref aW, .ref aP, .ref aB, .ref aR])), (aT, .inr (7, [.ref aTb, .int tn_2])), (aP, .inr (3, [.ref aPk, .ref aPl, .ref aPd, .ref aPs, .int pn_3, .int pch_4]))] H := hP
  have hD : va_D A [(aO, .inl (cyJ, 1, .inr (.inl (vp_updL ov (0 : Int32).toNatClampNeg (r_1.toInt64))))), (aX, .inr (8, [.ref aT, .ref aS, .ref aF, .ref aQ, .ref aW, .ref aP, .ref aB, .ref aR])), (aT, .inr (7, [.ref aTb, .int tn_2])), (aP, .inr (3, [.ref aPk, .ref aPl, .ref aPd, .ref aPs, .int pn_3, .int pch_4]))] := hD
  refine lv_goto (tgt := 15) hx hb dL_cut_9 (by decide) ?_
  refine lv_iconst (v := 0) hx hb dL_cut_15 (by decide) ?_
  have hP9 : va_P (dC, dI) vwCl [(aX, .inr (8, [.ref aT, .ref aS, .ref aF, .ref aQ, .ref aW, .ref aP, .ref aB, .ref aR])), (aT, .inr (7, [.ref aTb, .int tn_2])), (aP, .inr (3, [.ref aPk, .ref aPl, .ref aPd, .ref aPs, .int pn_3, .int pch_4])), (aO, .inl (cyJ, 1, .inr (.inl (vp_updL ov (0 : Int32).toNatClampNeg (r_1.toInt64)))))] _ := (hP.sub [1, 2, 3, 0] rfl)
  have hD9 : va_D A [(aX, .inr (8, [.ref aT, .ref aS, .ref aF, .ref aQ, .ref aW, .ref aP, .ref aB, .ref aR])), (aT, .inr (7, [.ref aTb, .int tn_2])), (aP, .inr (3, [.ref aPk, .ref aPl, .ref aPd, .ref aPs, .int pn_3, .int pch_4])), (aO, .inl (cyJ, 1, .inr (.inl (vp_updL ov (0 : Int32).toNatClampNeg (r_1.toInt64)))))] := (hD.sub [1, 2, 3, 0] (by decide) rfl)
  refine vx_ret ?_
  refine W.widen (k := 1) (n := 6) (Nat.le_of_ble_eq_true rfl) (Nat.le_of_ble_eq_true rfl) ?_
  exact W.iret (v := 0) hx hb hr (fun t ht hW => ⟨⟨0, (tn_2, pn_3, pch_4, vp_updL ov (0 : Int32).toNatClampNeg (r_1.toInt64)), rfl, h, by rw [ht]; exact hP9, va_K.moved hW.alike hK, hD9⟩, hS.F ht⟩) hS.2.2 dL_cut_16
-- L_set
theorem qL_set_0 : Cond.classLink RL 28 "java/lang/IndexOutOfBoundsException" ∈ wsL_set := (List.mem_cons_of_mem _ (List.mem_append_left _ (List.mem_append_left _ (List.mem_append_left _ (List.mem_append_left _ (List.mem_append_left _ (List.mem_append_left _ (List.mem_of_getElem? (i := 0) rfl))))))))
theorem qL_set_1 : Cond.classLink RL 13 "java/lang/IllegalArgumentException" ∈ wsL_set := (List.mem_cons_of_mem _ (List.mem_append_left _ (List.mem_append_left _ (List.mem_append_left _ (List.mem_append_left _ (List.mem_append_left _ (List.mem_append_left _ (List.mem_of_getElem? (i := 1) rfl))))))))
def wpL_set (tn : Int32) (tb : Nat → Int32) (pn : Int32) (pch : Int32) (ov : Nat → Int64) (v1 : Int32) (v2 : Int32) (post : Int32 → (Nat → Int32) → Int32 → Int32 → (Nat → Int64) → Prop) : Prop := wpX9_set tn tb v1 v2 (fun (r_1 : Int32) (tb_2 : Nat → Int32) (pn_3 : Int32) (pch_4 : Int32) => post 0 tb_2 pn_3 pch_4 (vp_updL ov (0 : Int32).toNatClampNeg (r_1.toInt64))) (fun (E9 : String) => (E9 = xI ∧ (post 1 tb pn pch ov)) ∨ (E9 = xA ∧ (post 2 tb pn pch ov)))
set_option maxHeartbeats 4000000 in
set_option maxRecDepth 100000 in
theorem mtL_set (l : Launch) (hlt : l.stackTraces = false) (dC : Nat → ClassId) (dI : Nat → Nat → Nat) (cyI cyJ cyD : ClassId) {aX aT aTb aS aF aQ aW aP aPk aPl aPd aPs aB aR aO : Nat} {sz : Nat} {tn : Int32} {tb : Nat → Int32} {pn : Int32} {pch : Int32} {ov : Nat → Int64} {v1 : Int32} {v2 : Int32} {post : Int32 → (Nat → Int32) → Int32 → Int32 → (Nat → Int64) → Prop} (h : wpL_set tn tb pn pch ov v1 v2 post) : vx_Met l yL_set wsL_set ({ frames := 7, cells := 1, slots := 6, locals := 105 }) (va_Pc [.ref aX, .int v1, .int v2, .ref aO] (wk_BX (dC, dI) [(cyI, .int), (cyJ, .long), (cyD, .double)] [(aX, .inr (8, [.ref aT, .ref aS, .ref aF, .ref aQ, .ref aW, .ref aP, .ref aB, .ref aR])), (aT, .inr (7, [.ref aTb, .int tn])), (aTb, .inl (cyI, 64, .inl tb)), (aP, .inr (3, [.ref aPk, .ref aPl, .ref aPd, .ref aPs, .int pn, .int pch])), (aO, .inl (cyJ, 1, .inr (.inl ov)))] sz)) (va_Qi (fun (r : Int32) (u : (Nat → Int32) × Int32 × Int32 × (Nat → Int64)) => post r u.1 u.2.1 u.2.2.1 u.2.2.2) (wk_C (dC, dI) [(cyI, .int), (cyJ, .long), (cyD, .double)] (va_A [(aX, .inr (8, [.ref aT, .ref aS, .ref aF, .ref aQ, .ref aW, .ref aP, .ref aB, .ref aR])), (aT, .inr (7, [.ref aTb, .int tn])), (aTb, .inl (cyI, 64, .inl tb)), (aP, .inr (3, [.ref aPk, .ref aPl, .ref aPd, .ref aPs, .int pn, .int pch])), (aO, .inl (cyJ, 1, .inr (.inl ov)))] sz) (fun (u : (Nat → Int32) × Int32 × Int32 × (Nat → Int64)) => [(aX, .inr (8, [.ref aT, .ref aS, .ref aF, .ref aQ, .ref aW, .ref aP, .ref aB, .ref aR])), (aT, .inr (7, [.ref aTb, .int tn])), (aTb, .inl (cyI, 64, .inl (u.1))), (aP, .inr (3, [.ref aPk, .ref aPl, .ref aPd, .ref aPs, .int (u.2.1), .int (u.2.2.1)])), (aO, .inl (cyJ, 1, .inr (.inl (u.2.2.2))))])) (va_A [(aX, .inr (8, [.ref aT, .ref aS, .ref aF, .ref aQ, .ref aW, .ref aP, .ref aB, .ref aR])), (aT, .inr (7, [.ref aTb, .int tn])), (aTb, .inl (cyI, 64, .inl tb)), (aP, .inr (3, [.ref aPk, .ref aPl, .ref aPd, .ref aPs, .int pn, .int pch])), (aO, .inl (cyJ, 1, .inr (.inl ov)))] sz)) (vx_X (fun (_ : String) => False) (wk_X (dC, dI) [(cyI, .int), (cyJ, .long), (cyD, .double)] (va_A [(aX, .inr (8, [.ref aT, .ref aS, .ref aF, .ref aQ, .ref aW, .ref aP, .ref aB, .ref aR])), (aT, .inr (7, [.ref aTb, .int tn])), (aTb, .inl (cyI, 64, .inl tb)), (aP, .inr (3, [.ref aPk, .ref aPl, .ref aPd, .ref aPs, .int pn, .int pch])), (aO, .inl (cyJ, 1, .inr (.inl ov)))] sz) [(aX, .inr (8, [.ref aT, .ref aS, .ref aF, .ref aQ, .ref aW, .ref aP, .ref aB, .ref aR])), (aT, .inr (7, [.ref aTb, .int tn])), (aTb, .inl (cyI, 64, .inl tb)), (aP, .inr (3, [.ref aPk, .ref aPl, .ref aPd, .ref aPs, .int pn, .int pch])), (aO, .inl (cyJ, 1, .inr (.inl ov)))]) (va_A [(aX, .inr (8, [.ref aT, .ref aS, .ref aF, .ref aQ, .ref aW, .ref aP, .ref aB, .ref aR])), (aT, .inr (7, [.ref aTb, .int tn])), (aTb, .inl (cyI, 64, .inl tb)), (aP, .inr (3, [.ref aPk, .ref aPl, .ref aPd, .ref aPs, .int pn, .int pch])), (aO, .inl (cyJ, 1, .inr (.inl ov)))] sz)) 1 6 (va_A [(aX, .inr (8, [.ref aT, .ref aS, .ref aF, .ref aQ, .ref aW, .ref aP, .ref aB, .ref aR])), (aT, .inr (7, [.ref aTb, .int tn])), (aTb, .inl (cyI, 64, .inl tb)), (aP, .inr (3, [.ref aPk, .ref aPl, .ref aPd, .ref aPs, .int pn, .int pch])), (aO, .inl (cyJ, 1, .inr (.inl ov)))] sz) := by
  refine vx_ofWH (cc := cL_set) (maxL := 5) (ret := (some .int)) (by decide) rfl ?_
  intro p e s m args below meth c s₁ B hml hv
  obtain ⟨rfl, ⟨hsz, hP, hK, hD0⟩, hZ⟩ := hv
  have hx := B.exec
  have hb := B.bytes
  have hr := B.returns
  have hts := atoms_spec (ws := wsL_set) B.pre
  have hown : s.vm.findClass RL = some m.cls := findClass_of_methodNamed B.named
  have htb := vx_table (x := yL_set) B (hts _ List.mem_cons_self)
  have hlocks := B.notSynchronized
  subst hsz
  have hD := hD0.self (sz := s.heap.size)
  generalize hAe : va_A [(aX, .inr (8, [.ref aT, .ref aS, .ref aF, .ref aQ, .ref aW, .ref aP, .ref aB, .ref aR])), (aT, .inr (7, [.ref aTb, .int tn])), (aTb, .inl (cyI, 64, .inl tb)), (aP, .inr (3, [.ref aPk, .ref aPl, .ref aPd, .ref aPs, .int pn, .int pch])), (aO, .inl (cyJ, 1, .inr (.inl ov)))] s.heap.size = A at hD hZ ⊢
  have hA : ∀ q : Nat, s.heap.size ≤ q → A q := fun q h => by rw [← hAe]; exact Or.inr h
  have hS : va_S A s.heap s.heap [] := va_S.rf
  have hP : va_P (dC, dI) vwCl [(aX, .inr (8, [.ref aT, .ref aS, .ref aF, .ref aQ, .ref aW, .ref aP, .ref aB, .ref aR])), (aT, .inr (7, [.ref aTb, .int tn])), (aTb, .inl (cyI, 64, .inl tb)), (aP, .inr (3, [.ref aPk, .ref aPl, .ref aPd, .ref aPs, .int pn, .int pch])), (aO, .inl (cyJ, 1, .inr (.inl ov)))] s.heap := hP
  have hl := lv_entry ([.ref aX, .int v1, .int v2, .ref aO]) (n := 5) (Nat.le_of_ble_eq_true rfl)
  rw [lg_entry_eq]
  generalize (lg_sl ([.ref aX, .int v1, .int v2, .ref aO]) ++ List.replicate (5 - (lg_sl ([.ref aX, .int v1, .int v2, .ref aO])).length) Slot.unset).toArray = ls at hl ⊢
  have hl : lv_has ls 5 [(0, .ref aX), (1, .int v1), (2, .int v2), (3, .ref aO)] := hl
  have C0 : CallFix p m c cL_set 5 s ([.ref aX, .int v1, .int v2, .ref aO] : List Value).toArray wsL_set RL := ⟨hx, hb, hml, hown, hts⟩
  unfold wpL_set at h
  refine lv_aload_n hx hb dL_set_0 rfl (lv_at hl 3 rfl) ?_
  refine lv_iconst (v := 0) hx hb dL_set_1 (by decide) ?_
  refine lv_aload_n hx hb dL_set_2 rfl (lv_at hl 0 rfl) ?_
  refine lv_iload_n hx hb dL_set_3 rfl (lv_at hl 1 rfl) ?_
  refine lv_iload_n hx hb dL_set_4 rfl (lv_at hl 2 rfl) ?_
  refine wk_xcalli (wc := [(aX, .inr (8, [.ref aT, .ref aS, .ref aF, .ref aQ, .ref aW, .ref aP, .ref aB, .ref aR])), (aT, .inr (7, [.ref aTb, .int tn])), (aTb, .inl (cyI, 64, .inl tb)), (aP, .inr (3, [.ref aPk, .ref aPl, .ref aPd, .ref aPs, .int pn, .int pch]))]) (wr := [(aO, .inl (cyJ, 1, .inr (.inl ov)))]) (vx_runV (As := [.int v1, .int v2]) (rest := [.int 0, .ref aO]) C0 (mtX9_set l hlt dC dI cyI (aX := aX) (aT := aT) (aTb := aTb) (aS := aS) (aF := aF) (aQ := aQ) (aW := aW) (aP := aP) (aPk := aPk) (aPl := aPl) (aPd := aPd) (aPs := aPs) (aB := aB) (aR := aR) (sz := _) (tn := tn) (tb := tb) (pn := pn) (pch := pch) (v1 := v1) (v2 := v2) h) (cwV 2 hts gL_set_X9_set rfl rfl rfl (by decide +kernel) ⟨(Nat.le_of_ble_eq_true rfl), (Nat.le_of_ble_eq_true rfl)⟩) (wk_preVX (wc := [(aX, .inr (8, [.ref aT, .ref aS, .ref aF, .ref aQ, .ref aW, .ref aP, .ref aB, .ref aR])), (aT, .inr (7, [.ref aTb, .int tn])), (aTb, .inl (cyI, 64, .inl tb)), (aP, .inr (3, [.ref aPk, .ref aPl, .ref aPd, .ref aPs, .int pn, .int pch]))]) (hK.sub (tys' := [(cyI, .int)]) [0] rfl) hP hD hS hA hZ [0, 1, 2, 3] rfl (by decide) (va_recv hK hP (ci := 8) (q0 := 0) rfl rfl)) rfl rfl hl.1 rfl (lv_room (Nat.le_of_ble_eq_true rfl)) dL_set_5 ⟨(Nat.le_of_ble_eq_true rfl), (Nat.le_of_ble_eq_true rfl)⟩) hP hD hS hA [0, 1, 2, 3] [4] rfl rfl (by decide) (by decide) (fun E9 ce9 q9 H locs h hP hD hS hc1 hc2 hc3 => ?_) (fun r_1 u9 H locs h hP hD hS => ?_)
  · have hP : va_P (dC, dI) vwCl [(aO, .inl (cyJ, 1, .inr (.inl ov))), (aX, .inr (8, [.ref aT, .ref aS, .ref aF, .ref aQ, .ref aW, .ref aP, .ref aB, .ref aR])), (aT, .inr (7, [.ref aTb, .int tn])), (aTb, .inl (cyI, 64, .inl tb)), (aP, .inr (3, [.ref aPk, .ref aPl, .ref aPd, .ref aPs, .int pn, .int pch]))] H := hP
    have hD : va_D A [(aO, .inl (cyJ, 1, .inr (.inl ov))), (aX, .inr (8, [.ref aT, .ref aS, .ref aF, .ref aQ, .ref aW, .ref aP, .ref aB, .ref aR])), (aT, .inr (7, [.ref aTb, .int tn])), (aTb, .inl (cyI, 64, .inl tb)), (aP, .inr (3, [.ref aPk, .ref aPl, .ref aPd, .ref aPs, .int pn, .int pch]))] := hD
    rcases h with ⟨rfl, h⟩ | ⟨rfl, h⟩
    · refine vx_catch (name := xI) hown [] ⟨0, 10, 13, 28⟩ [⟨0, 10, 17, 13⟩] (by rw [htb]; rfl) (fun z hz => nomatch hz) (by decide) (by decide) (hts _ qL_set_0) (hZ.use _ _ (List.mem_of_getElem? (i := 2) rfl)) hc1 hc2 hc3 ?_
      refine lv_astore (lv' := [(4, .ref q9), (0, .ref aX), (1, .int v1), (2, .int v2), (3, .ref aO)]) hx hb dL_set_13 hl (by decide) rfl (fun ls hl => ?_)
      refine lv_iconst (v := 1) hx hb dL_set_15 (by decide) ?_
      have hP9 : va_P (dC, dI) vwCl [(aX, .inr (8, [.ref aT, .ref aS, .ref aF, .ref aQ, .ref aW, .ref aP, .ref aB, .ref aR])), (aT, .inr (7, [.ref aTb, .int tn])), (aTb, .inl (cyI, 64, .inl tb)), (aP, .inr (3, [.ref aPk, .ref aPl, .ref aPd, .ref aPs, .int pn, .int pch])), (aO, .inl (cyJ, 1, .inr (.inl ov)))] _ := (hP.sub [1, 2, 3, 4, 0] rfl)
      have hD9 : va_D A [(aX, .inr (8, [.ref aT, .ref aS, .ref aF, .ref aQ, .ref aW, .ref aP, .ref aB, .ref aR])), (aT, .inr (7, [.ref aTb, .int tn])), (aTb, .inl (cyI, 64, .inl tb)), (aP, .inr (3, [.ref aPk, .ref aPl, .ref aPd, .ref aPs, .int pn, .int pch])), (aO, .inl (cyJ, 1, .inr (.inl ov)))] := (hD.sub [1, 2, 3, 4, 0] (by decide) rfl)
      refine vx_ret ?_
      refine W.widen (k := 1) (n := 6) (Nat.le_of_ble_eq_true rfl) (Nat.le_of_ble_eq_true rfl) ?_
      exact W.iret (v := 1) hx hb hr (fun t ht hW => ⟨⟨1, (tb, pn, pch, ov), rfl, h, by rw [ht]; exact hP9, va_K.moved hW.alike hK, hD9⟩, hS.F ht⟩) hS.2.2 dL_set_16
    · refine vx_catch (name := xA) hown [⟨0, 10, 13, 28⟩] ⟨0, 10, 17, 13⟩ [] (by rw [htb]; rfl) (fun z hz => by rcases List.mem_singleton.mp hz with rfl; exact Or.inr ⟨by decide, _, (hts _ qL_set_0), hZ.2.2.2.2.1⟩) (by decide) (by decide) (hts _ qL_set_1) (hZ.use _ _ (List.mem_of_getElem? (i := 0) rfl)) hc1 hc2 hc3 ?_
      refine lv_astore (lv' := [(4, .ref q9), (0, .ref aX), (1, .int v1), (2, .int v2), (3, .ref aO)]) hx hb dL_set_17 hl (by decide) rfl (fun ls hl => ?_)
      refine lv_iconst (v := 2) hx hb dL_set_19 (by decide) ?_
      have hP9 : va_P (dC, dI) vwCl [(aX, .inr (8, [.ref aT, .ref aS, .ref aF, .ref aQ, .ref aW, .ref aP, .ref aB, .ref aR])), (aT, .inr (7, [.ref aTb, .int tn])), (aTb, .inl (cyI, 64, .inl tb)), (aP, .inr (3, [.ref aPk, .ref aPl, .ref aPd, .ref aPs, .int pn, .int pch])), (aO, .inl (cyJ, 1, .inr (.inl ov)))] _ := (hP.sub [1, 2, 3, 4, 0] rfl)
      have hD9 : va_D A [(aX, .inr (8, [.ref aT, .ref aS, .ref aF, .ref aQ, .ref aW, .ref aP, .ref aB, .ref aR])), (aT, .inr (7, [.ref aTb, .int tn])), (aTb, .inl (cyI, 64, .inl tb)), (aP, .inr (3, [.ref aPk, .ref aPl, .ref aPd, .ref aPs, .int pn, .int pch])), (aO, .inl (cyJ, 1, .inr (.inl ov)))] := (hD.sub [1, 2, 3, 4, 0] (by decide) rfl)
      refine vx_ret ?_
      refine W.widen (k := 1) (n := 6) (Nat.le_of_ble_eq_true rfl) (Nat.le_of_ble_eq_true rfl) ?_
      exact W.iret (v := 2) hx hb hr (fun t ht hW => ⟨⟨2, (tb, pn, pch, ov), rfl, h, by rw [ht]; exact hP9, va_K.moved hW.alike hK, hD9⟩, hS.F ht⟩) hS.2.2 dL_set_20
  obtain ⟨tb_2, pn_3, pch_4⟩ := u9
  have hP : va_P (dC, dI) vwCl [(aO, .inl (cyJ, 1, .inr (.inl ov))), (aX, .inr (8, [.ref aT, .ref aS, .ref aF, .ref aQ, .ref aW, .ref aP, .ref aB, .ref aR])), (aT, .inr (7, [.ref aTb, .int tn])), (aTb, .inl (cyI, 64, .inl tb_2)), (aP, .inr (3, [.ref aPk, .ref aPl, .ref aPd, .ref aPs, .int pn_3, .int pch_4]))] H := hP
  have hD : va_D A [(aO, .inl (cyJ, 1, .inr (.inl ov))), (aX, .inr (8, [.ref aT, .ref aS, .ref aF, .ref aQ, .ref aW, .ref aP, .ref aB, .ref aR])), (aT, .inr (7, [.ref aTb, .int tn])), (aTb, .inl (cyI, 64, .inl tb_2)), (aP, .inr (3, [.ref aPk, .ref aPl, .ref aPd, .ref aPs, .int pn_3, .int pch_4]))] := hD
  dsimp only at h
  refine lv_i2l hx hb dL_set_8 rfl ?_
  refine va_last hx hb hK hP hD hS 0 1 rfl rfl wk_in01 dL_set_9 (fun H locs hP hD hS => ?_)
  have hP : va_P (dC, dI) vwCl [(aO, .inl (cyJ, 1, .inr (.inl (vp_updL ov (0 : Int32).toNatClampNeg (r_1.toInt64))))), (aX, .inr (8, [.ref aT, .ref aS, .ref aF, .ref aQ, .ref aW, .ref aP, .ref aB, .ref aR])), (aT, .inr (7, [.ref aTb, .int tn])), (aTb, .inl (cyI, 64, .inl tb_2)), (aP, .inr (3, [.ref aPk, .ref aPl, .ref aPd, .ref aPs, .int pn_3, .int pch_4]))] H := hP
  have hD : va_D A [(aO, .inl (cyJ, 1, .inr (.inl (vp_updL ov (0 : Int32).toNatClampNeg (r_1.toInt64))))), (aX, .inr (8, [.ref aT, .ref aS, .ref aF, .ref aQ, .ref aW, .ref aP, .ref aB, .ref aR])), (aT, .inr (7, [.ref aTb, .int tn])), (aTb, .inl (cyI, 64, .inl tb_2)), (aP, .inr (3, [.ref aPk, .ref aPl, .ref aPd, .ref aPs, .int pn_3, .int pch_4]))] := hD
  refine lv_goto (tgt := 21) hx hb dL_set_10 (by decide) ?_
  refine lv_iconst (v := 0) hx hb dL_set_21 (by decide) ?_
  have hP9 : va_P (dC, dI) vwCl [(aX, .inr (8, [.ref aT, .ref aS, .ref aF, .ref aQ, .ref aW, .ref aP, .ref aB, .ref aR])), (aT, .inr (7, [.ref aTb, .int tn])), (aTb, .inl (cyI, 64, .inl tb_2)), (aP, .inr (3, [.ref aPk, .ref aPl, .ref aPd, .ref aPs, .int pn_3, .int pch_4])), (aO, .inl (cyJ, 1, .inr (.inl (vp_updL ov (0 : Int32).toNatClampNeg (r_1.toInt64)))))] _ := (hP.sub [1, 2, 3, 4, 0] rfl)
  have hD9 : va_D A [(aX, .inr (8, [.ref aT, .ref aS, .ref aF, .ref aQ, .ref aW, .ref aP, .ref aB, .ref aR])), (aT, .inr (7, [.ref aTb, .int tn])), (aTb, .inl (cyI, 64, .inl tb_2)), (aP, .inr (3, [.ref aPk, .ref aPl, .ref aPd, .ref aPs, .int pn_3, .int pch_4])), (aO, .inl (cyJ, 1, .inr (.inl (vp_updL ov (0 : Int32).toNatClampNeg (r_1.toInt64)))))] := (hD.sub [1, 2, 3, 4, 0] (by decide) rfl)
  refine vx_ret ?_
  refine W.widen (k := 1) (n := 6) (Nat.le_of_ble_eq_true rfl) (Nat.le_of_ble_eq_true rfl) ?_
  exact W.iret (v := 0) hx hb hr (fun t ht hW => ⟨⟨0, (tb_2, pn_3, pch_4, vp_updL ov (0 : Int32).toNatClampNeg (r_1.toInt64)), rfl, h, by rw [ht]; exact hP9, va_K.moved hW.alike hK, hD9⟩, hS.F ht⟩) hS.2.2 dL_set_22
-- L_byteAt
theorem qL_byteAt_0 : Cond.classLink RL 28 "java/lang/IndexOutOfBoundsException" ∈ wsL_byteAt := (List.mem_cons_of_mem _ (List.mem_append_left _ (List.mem_append_left _ (List.mem_append_left _ (List.mem_of_getElem? (i := 0) rfl)))))
def wpL_byteAt (tn : Int32) (tb : Nat → Int32) (ov : Nat → Int64) (v1 : Int32) (post : Int32 → (Nat → Int64) → Prop) : Prop := wpX9_byteAt tn tb v1 (fun (r_1 : Int32) => post 0 (vp_updL ov (0 : Int32).toNatClampNeg (r_1.toInt64))) (fun (E9 : String) => (E9 = xI ∧ (post 1 ov)))
set_option maxHeartbeats 4000000 in
set_option maxRecDepth 100000 in
theorem mtL_byteAt (l : Launch) (hlt : l.stackTraces = false) (dC : Nat → ClassId) (dI : Nat → Nat → Nat) (cyI cyJ cyD : ClassId) {aX aT aTb aS aF aQ aW aP aB aR aO : Nat} {sz : Nat} {tn : Int32} {tb : Nat → Int32} {ov : Nat → Int64} {v1 : Int32} {post : Int32 → (Nat → Int64) → Prop} (h : wpL_byteAt tn tb ov v1 post) : vx_Met l yL_byteAt wsL_byteAt ({ frames := 7, cells := 1, slots := 6, locals := 103 }) (va_Pc [.ref aX, .int v1, .ref aO] (wk_BX (dC, dI) [(cyI, .int), (cyJ, .long), (cyD, .double)] [(aX, .inr (8, [.ref aT, .ref aS, .ref aF, .ref aQ, .ref aW, .ref aP, .ref aB, .ref aR])), (aT, .inr (7, [.ref aTb, .int tn])), (aTb, .inl (cyI, 64, .inl tb)), (aO, .inl (cyJ, 1, .inr (.inl ov)))] sz)) (va_Qi (fun (r : Int32) (u : (Nat → Int64)) => post r u) (wk_C (dC, dI) [(cyI, .int), (cyJ, .long), (cyD, .double)] (va_A [(aX, .inr (8, [.ref aT, .ref aS, .ref aF, .ref aQ, .ref aW, .ref aP, .ref aB, .ref aR])), (aT, .inr (7, [.ref aTb, .int tn])), (aTb, .inl (cyI, 64, .inl tb)), (aO, .inl (cyJ, 1, .inr (.inl ov)))] sz) (fun (u : (Nat → Int64)) => [(aX, .inr (8, [.ref aT, .ref aS, .ref aF, .ref aQ, .ref aW, .ref aP, .ref aB, .ref aR])), (aT, .inr (7, [.ref aTb, .int tn])), (aTb, .inl (cyI, 64, .inl tb)), (aO, .inl (cyJ, 1, .inr (.inl (u))))])) (va_A [(aX, .inr (8, [.ref aT, .ref aS, .ref aF, .ref aQ, .ref aW, .ref aP, .ref aB, .ref aR])), (aT, .inr (7, [.ref aTb, .int tn])), (aTb, .inl (cyI, 64, .inl tb)), (aO, .inl (cyJ, 1, .inr (.inl ov)))] sz)) (vx_X (fun (_ : String) => False) (wk_X (dC, dI) [(cyI, .int), (cyJ, .long), (cyD, .double)] (va_A [(aX, .inr (8, [.ref aT, .ref aS, .ref aF, .ref aQ, .ref aW, .ref aP, .ref aB, .ref aR])), (aT, .inr (7, [.ref aTb, .int tn])), (aTb, .inl (cyI, 64, .inl tb)), (aO, .inl (cyJ, 1, .inr (.inl ov)))] sz) [(aX, .inr (8, [.ref aT, .ref aS, .ref aF, .ref aQ, .ref aW, .ref aP, .ref aB, .ref aR])), (aT, .inr (7, [.ref aTb, .int tn])), (aTb, .inl (cyI, 64, .inl tb)), (aO, .inl (cyJ, 1, .inr (.inl ov)))]) (va_A [(aX, .inr (8, [.ref aT, .ref aS, .ref aF, .ref aQ, .ref aW, .ref aP, .ref aB, .ref aR])), (aT, .inr (7, [.ref aTb, .int tn])), (aTb, .inl (cyI, 64, .inl tb)), (aO, .inl (cyJ, 1, .inr (.inl ov)))] sz)) 1 6 (va_A [(aX, .inr (8, [.ref aT, .ref aS, .ref aF, .ref aQ, .ref aW, .ref aP, .ref aB, .ref aR])), (aT, .inr (7, [.ref aTb, .int tn])), (aTb, .inl (cyI, 64, .inl tb)), (aO, .inl (cyJ, 1, .inr (.inl ov)))] sz) := by
  refine vx_ofWH (cc := cL_byteAt) (maxL := 4) (ret := (some .int)) (by decide) rfl ?_
  intro p e s m args below meth c s₁ B hml hv
  obtain ⟨rfl, ⟨hsz, hP, hK, hD0⟩, hZ⟩ := hv
  have hx := B.exec
  have hb := B.bytes
  have hr := B.returns
  have hts := atoms_spec (ws := wsL_byteAt) B.pre
  have hown : s.vm.findClass RL = some m.cls := findClass_of_methodNamed B.named
  have htb := vx_table (x := yL_byteAt) B (hts _ List.mem_cons_self)
  have hlocks := B.notSynchronized
  subst hsz
  have hD := hD0.self (sz := s.heap.size)
  generalize hAe : va_A [(aX, .inr (8, [.ref aT, .ref aS, .ref aF, .ref aQ, .ref aW, .ref aP, .ref aB, .ref aR])), (aT, .inr (7, [.ref aTb, .int tn])), (aTb, .inl (cyI, 64, .inl tb)), (aO, .inl (cyJ, 1, .inr (.inl ov)))] s.heap.size = A at hD hZ ⊢
  have hA : ∀ q : Nat, s.heap.size ≤ q → A q := fun q h => by rw [← hAe]; exact Or.inr h
  have hS : va_S A s.heap s.heap [] := va_S.rf
  have hP : va_P (dC, dI) vwCl [(aX, .inr (8, [.ref aT, .ref aS, .ref aF, .ref aQ, .ref aW, .ref aP, .ref aB, .ref aR])), (aT, .inr (7, [.ref aTb, .int tn])), (aTb, .inl (cyI, 64, .inl tb)), (aO, .inl (cyJ, 1, .inr (.inl ov)))] s.heap := hP
  have hl := lv_entry ([.ref aX, .int v1, .ref aO]) (n := 4) (Nat.le_of_ble_eq_true rfl)
  rw [lg_entry_eq]
  generalize (lg_sl ([.ref aX, .int v1, .ref aO]) ++ List.replicate (4 - (lg_sl ([.ref aX, .int v1, .ref aO])).length) Slot.unset).toArray = ls at hl ⊢
  have hl : lv_has ls 4 [(0, .ref aX), (1, .int v1), (2, .ref aO)] := hl
  have C0 : CallFix p m c cL_byteAt 4 s ([.ref aX, .int v1, .ref aO] : List Value).toArray wsL_byteAt RL := ⟨hx, hb, hml, hown, hts⟩
  unfold wpL_byteAt at h
  refine lv_aload_n hx hb dL_byteAt_0 rfl (lv_at hl 2 rfl) ?_
  refine lv_iconst (v := 0) hx hb dL_byteAt_1 (by decide) ?_
  refine lv_aload_n hx hb dL_byteAt_2 rfl (lv_at hl 0 rfl) ?_
  refine lv_iload_n hx hb dL_byteAt_3 rfl (lv_at hl 1 rfl) ?_
  refine wk_xcalli (wc := [(aX, .inr (8, [.ref aT, .ref aS, .ref aF, .ref aQ, .ref aW, .ref aP, .ref aB, .ref aR])), (aT, .inr (7, [.ref aTb, .int tn])), (aTb, .inl (cyI, 64, .inl tb))]) (wr := [(aO, .inl (cyJ, 1, .inr (.inl ov)))]) (vx_runV (As := [.int v1]) (rest := [.int 0, .ref aO]) C0 (mtX9_byteAt l hlt dC dI cyI (aX := aX) (aT := aT) (aTb := aTb) (aS := aS) (aF := aF) (aQ := aQ) (aW := aW) (aP := aP) (aB := aB) (aR := aR) (sz := _) (tn := tn) (tb := tb) (v1 := v1) h) (cwV 1 hts gL_byteAt_X9_byteAt rfl rfl rfl (by decide +kernel) ⟨(Nat.le_of_ble_eq_true rfl), (Nat.le_of_ble_eq_true rfl)⟩) (wk_preVX (wc := [(aX, .inr (8, [.ref aT, .ref aS, .ref aF, .ref aQ, .ref aW, .ref aP, .ref aB, .ref aR])), (aT, .inr (7, [.ref aTb, .int tn])), (aTb, .inl (cyI, 64, .inl tb))]) (hK.sub (tys' := [(cyI, .int)]) [0] rfl) hP hD hS hA hZ [0, 1, 2] rfl (by decide) (va_recv hK hP (ci := 8) (q0 := 0) rfl rfl)) rfl rfl hl.1 rfl (lv_room (Nat.le_of_ble_eq_true rfl)) dL_byteAt_4 ⟨(Nat.le_of_ble_eq_true rfl), (Nat.le_of_ble_eq_true rfl)⟩) hP hD hS hA [0, 1, 2] [3] rfl rfl (by decide) (by decide) (fun E9 ce9 q9 H locs h hP hD hS hc1 hc2 hc3 => ?_) (fun r_1 u9 H locs h hP hD hS => ?_)
  · have hP : va_P (dC, dI) vwCl [(aO, .inl (cyJ, 1, .inr (.inl ov))), (aX, .inr (8, [.ref aT, .ref aS, .ref aF, .ref aQ, .ref aW, .ref aP, .ref aB, .ref aR])), (aT, .inr (7, [.ref aTb, .int tn])), (aTb, .inl (cyI, 64, .inl tb))] H := hP
    have hD : va_D A [(aO, .inl (cyJ, 1, .inr (.inl ov))), (aX, .inr (8, [.ref aT, .ref aS, .ref aF, .ref aQ, .ref aW, .ref aP, .ref aB, .ref aR])), (aT, .inr (7, [.ref aTb, .int tn])), (aTb, .inl (cyI, 64, .inl tb))] := hD
    obtain ⟨rfl, h⟩ := h
    refine vx_catch (name := xI) hown [] ⟨0, 9, 12, 28⟩ [] (by rw [htb]; rfl) (fun z hz => nomatch hz) (by decide) (by decide) (hts _ qL_byteAt_0) (hZ.use _ _ (List.mem_of_getElem? (i := 2) rfl)) hc1 hc2 hc3 ?_
    refine lv_astore_n (lv' := [(3, .ref q9), (0, .ref aX), (1, .int v1), (2, .ref aO)]) hx hb dL_byteAt_12 rfl hl (by decide) rfl (fun ls hl => ?_)
    refine lv_iconst (v := 1) hx hb dL_byteAt_13 (by decide) ?_
    have hP9 : va_P (dC, dI) vwCl [(aX, .inr (8, [.ref aT, .ref aS, .ref aF, .ref aQ, .ref aW, .ref aP, .ref aB, .ref aR])), (aT, .inr (7, [.ref aTb, .int tn])), (aTb, .inl (cyI, 64, .inl tb)), (aO, .inl (cyJ, 1, .inr (.inl ov)))] _ := (hP.sub [1, 2, 3, 0] rfl)
    have hD9 : va_D A [(aX, .inr (8, [.ref aT, .ref aS, .ref aF, .ref aQ, .ref aW, .ref aP, .ref aB, .ref aR])), (aT, .inr (7, [.ref aTb, .int tn])), (aTb, .inl (cyI, 64, .inl tb)), (aO, .inl (cyJ, 1, .inr (.inl ov)))] := (hD.sub [1, 2, 3, 0] (by decide) rfl)
    refine vx_ret ?_
    refine W.widen (k := 1) (n := 6) (Nat.le_of_ble_eq_true rfl) (Nat.le_of_ble_eq_true rfl) ?_
    exact W.iret (v := 1) hx hb hr (fun t ht hW => ⟨⟨1, ov, rfl, h, by rw [ht]; exact hP9, va_K.moved hW.alike hK, hD9⟩, hS.F ht⟩) hS.2.2 dL_byteAt_14
  have hP : va_P (dC, dI) vwCl [(aO, .inl (cyJ, 1, .inr (.inl ov))), (aX, .inr (8, [.ref aT, .ref aS, .ref aF, .ref aQ, .ref aW, .ref aP, .ref aB, .ref aR])), (aT, .inr (7, [.ref aTb, .int tn])), (aTb, .inl (cyI, 64, .inl tb))] H := hP
  have hD : va_D A [(aO, .inl (cyJ, 1, .inr (.inl ov))), (aX, .inr (8, [.ref aT, .ref aS, .ref aF, .ref aQ, .ref aW, .ref aP, .ref aB, .ref aR])), (aT, .inr (7, [.ref aTb, .int tn])), (aTb, .inl (cyI, 64, .inl tb))] := hD
  refine lv_i2l hx hb dL_byteAt_7 rfl ?_
  refine va_last hx hb hK hP hD hS 0 1 rfl rfl wk_in01 dL_byteAt_8 (fun H locs hP hD hS => ?_)
  have hP : va_P (dC, dI) vwCl [(aO, .inl (cyJ, 1, .inr (.inl (vp_updL ov (0 : Int32).toNatClampNeg (r_1.toInt64))))), (aX, .inr (8, [.ref aT, .ref aS, .ref aF, .ref aQ, .ref aW, .ref aP, .ref aB, .ref aR])), (aT, .inr (7, [.ref aTb, .int tn])), (aTb, .inl (cyI, 64, .inl tb))] H := hP
  have hD : va_D A [(aO, .inl (cyJ, 1, .inr (.inl (vp_updL ov (0 : Int32).toNatClampNeg (r_1.toInt64))))), (aX, .inr (8, [.ref aT, .ref aS, .ref aF, .ref aQ, .ref aW, .ref aP, .ref aB, .ref aR])), (aT, .inr (7, [.ref aTb, .int tn])), (aTb, .inl (cyI, 64, .inl tb))] := hD
  refine lv_goto (tgt := 15) hx hb dL_byteAt_9 (by decide) ?_
  refine lv_iconst (v := 0) hx hb dL_byteAt_15 (by decide) ?_
  have hP9 : va_P (dC, dI) vwCl [(aX, .inr (8, [.ref aT, .ref aS, .ref aF, .ref aQ, .ref aW, .ref aP, .ref aB, .ref aR])), (aT, .inr (7, [.ref aTb, .int tn])), (aTb, .inl (cyI, 64, .inl tb)), (aO, .inl (cyJ, 1, .inr (.inl (vp_updL ov (0 : Int32).toNatClampNeg (r_1.toInt64)))))] _ := (hP.sub [1, 2, 3, 0] rfl)
  have hD9 : va_D A [(aX, .inr (8, [.ref aT, .ref aS, .ref aF, .ref aQ, .ref aW, .ref aP, .ref aB, .ref aR])), (aT, .inr (7, [.ref aTb, .int tn])), (aTb, .inl (cyI, 64, .inl tb)), (aO, .inl (cyJ, 1, .inr (.inl (vp_updL ov (0 : Int32).toNatClampNeg (r_1.toInt64)))))] := (hD.sub [1, 2, 3, 0] (by decide) rfl)
  refine vx_ret ?_
  refine W.widen (k := 1) (n := 6) (Nat.le_of_ble_eq_true rfl) (Nat.le_of_ble_eq_true rfl) ?_
  exact W.iret (v := 0) hx hb hr (fun t ht hW => ⟨⟨0, vp_updL ov (0 : Int32).toNatClampNeg (r_1.toInt64), rfl, h, by rw [ht]; exact hP9, va_K.moved hW.alike hK, hD9⟩, hS.F ht⟩) hS.2.2 dL_byteAt_16
-- L_setWindow
theorem qL_setWindow_0 : Cond.classLink RL 13 "java/lang/IllegalArgumentException" ∈ wsL_setWindow := (List.mem_cons_of_mem _ (List.mem_append_left _ (List.mem_append_left _ (List.mem_append_left _ (List.mem_append_left _ (List.mem_of_getElem? (i := 0) rfl))))))
def wpL_setWindow (sw : Int32) (pn : Int32) (pch : Int32) (ov : Nat → Int64) (v1 : Int32) (post : Int32 → Int32 → Int32 → Int32 → (Nat → Int64) → Prop) : Prop := wpX9_setWindow sw v1 (fun (r_1 : Int32) (sw_2 : Int32) (pn_3 : Int32) (pch_4 : Int32) => post 0 sw_2 pn_3 pch_4 (vp_updL ov (0 : Int32).toNatClampNeg (r_1.toInt64))) (fun (E9 : String) => (E9 = xA ∧ (post 1 sw pn pch ov)))
set_option maxHeartbeats 4000000 in
set_option maxRecDepth 100000 in
theorem mtL_setWindow (l : Launch) (hlt : l.stackTraces = false) (dC : Nat → ClassId) (dI : Nat → Nat → Nat) (cyI cyJ cyD : ClassId) {aX aT aS aF aQ aW aP aPk aPl aPd aPs aB aR aO : Nat} {sz : Nat} {sw : Int32} {sl : Int32} {sg : Int32} {sp : Int32} {pn : Int32} {pch : Int32} {ov : Nat → Int64} {v1 : Int32} {post : Int32 → Int32 → Int32 → Int32 → (Nat → Int64) → Prop} (h : wpL_setWindow sw pn pch ov v1 post) : vx_Met l yL_setWindow wsL_setWindow ({ frames := 7, cells := 1, slots := 6, locals := 104 }) (va_Pc [.ref aX, .int v1, .ref aO] (wk_BX (dC, dI) [(cyI, .int), (cyJ, .long), (cyD, .double)] [(aX, .inr (8, [.ref aT, .ref aS, .ref aF, .ref aQ, .ref aW, .ref aP, .ref aB, .ref aR])), (aS, .inr (6, [.int sw, .int sl, .int sg, .int sp])), (aP, .inr (3, [.ref aPk, .ref aPl, .ref aPd, .ref aPs, .int pn, .int pch])), (aO, .inl (cyJ, 1, .inr (.inl ov)))] sz)) (va_Qi (fun (r : Int32) (u : Int32 × Int32 × Int32 × (Nat → Int64)) => post r u.1 u.2.1 u.2.2.1 u.2.2.2) (wk_C (dC, dI) [(cyI, .int), (cyJ, .long), (cyD, .double)] (va_A [(aX, .inr (8, [.ref aT, .ref aS, .ref aF, .ref aQ, .ref aW, .ref aP, .ref aB, .ref aR])), (aS, .inr (6, [.int sw, .int sl, .int sg, .int sp])), (aP, .inr (3, [.ref aPk, .ref aPl, .ref aPd, .ref aPs, .int pn, .int pch])), (aO, .inl (cyJ, 1, .inr (.inl ov)))] sz) (fun (u : Int32 × Int32 × Int32 × (Nat → Int64)) => [(aX, .inr (8, [.ref aT, .ref aS, .ref aF, .ref aQ, .ref aW, .ref aP, .ref aB, .ref aR])), (aS, .inr (6, [.int (u.1), .int sl, .int sg, .int sp])), (aP, .inr (3, [.ref aPk, .ref aPl, .ref aPd, .ref aPs, .int (u.2.1), .int (u.2.2.1)])), (aO, .inl (cyJ, 1, .inr (.inl (u.2.2.2))))])) (va_A [(aX, .inr (8, [.ref aT, .ref aS, .ref aF, .ref aQ, .ref aW, .ref aP, .ref aB, .ref aR])), (aS, .inr (6, [.int sw, .int sl, .int sg, .int sp])), (aP, .inr (3, [.ref aPk, .ref aPl, .ref aPd, .ref aPs, .int pn, .int pch])), (aO, .inl (cyJ, 1, .inr (.inl ov)))] sz)) (vx_X (fun (_ : String) => False) (wk_X (dC, dI) [(cyI, .int), (cyJ, .long), (cyD, .double)] (va_A [(aX, .inr (8, [.ref aT, .ref aS, .ref aF, .ref aQ, .ref aW, .ref aP, .ref aB, .ref aR])), (aS, .inr (6, [.int sw, .int sl, .int sg, .int sp])), (aP, .inr (3, [.ref aPk, .ref aPl, .ref aPd, .ref aPs, .int pn, .int pch])), (aO, .inl (cyJ, 1, .inr (.inl ov)))] sz) [(aX, .inr (8, [.ref aT, .ref aS, .ref aF, .ref aQ, .ref aW, .ref aP, .ref aB, .ref aR])), (aS, .inr (6, [.int sw, .int sl, .int sg, .int sp])), (aP, .inr (3, [.ref aPk, .ref aPl, .ref aPd, .ref aPs, .int pn, .int pch])), (aO, .inl (cyJ, 1, .inr (.inl ov)))]) (va_A [(aX, .inr (8, [.ref aT, .ref aS, .ref aF, .ref aQ, .ref aW, .ref aP, .ref aB, .ref aR])), (aS, .inr (6, [.int sw, .int sl, .int sg, .int sp])), (aP, .inr (3, [.ref aPk, .ref aPl, .ref aPd, .ref aPs, .int pn, .int pch])), (aO, .inl (cyJ, 1, .inr (.inl ov)))] sz)) 1 6 (va_A [(aX, .inr (8, [.ref aT, .ref aS, .ref aF, .ref aQ, .ref aW, .ref aP, .ref aB, .ref aR])), (aS, .inr (6, [.int sw, .int sl, .int sg, .int sp])), (aP, .inr (3, [.ref aPk, .ref aPl, .ref aPd, .ref aPs, .int pn, .int pch])), (aO, .inl (cyJ, 1, .inr (.inl ov)))] sz) := by
  refine vx_ofWH (cc := cL_setWindow) (maxL := 4) (ret := (some .int)) (by decide) rfl ?_
  intro p e s m args below meth c s₁ B hml hv
  obtain ⟨rfl, ⟨hsz, hP, hK, hD0⟩, hZ⟩ := hv
  have hx := B.exec
  have hb := B.bytes
  have hr := B.returns
  have hts := atoms_spec (ws := wsL_setWindow) B.pre
  have hown : s.vm.findClass RL = some m.cls := findClass_of_methodNamed B.named
  have htb := vx_table (x := yL_setWindow) B (hts _ List.mem_cons_self)
  have hlocks := B.notSynchronized
  subst hsz
  have hD := hD0.self (sz := s.heap.size)
  generalize hAe : va_A [(aX, .inr (8, [.ref aT, .ref aS, .ref aF, .ref aQ, .ref aW, .ref aP, .ref aB, .ref aR])), (aS, .inr (6, [.int sw, .int sl, .int sg, .int sp])), (aP, .inr (3, [.ref aPk, .ref aPl, .ref aPd, .ref aPs, .int pn, .int pch])), (aO, .inl (cyJ, 1, .inr (.inl ov)))] s.heap.size = A at hD hZ ⊢
  have hA : ∀ q : Nat, s.heap.size ≤ q → A q := fun q h => by rw [← hAe]; exact Or.inr h
  have hS : va_S A s.heap s.heap [] := va_S.rf
  have hP : va_P (dC, dI) vwCl [(aX, .inr (8, [.ref aT, .ref aS, .ref aF, .ref aQ, .ref aW, .ref aP, .ref aB, .ref aR])), (aS, .inr (6, [.int sw, .int sl, .int sg, .int sp])), (aP, .inr (3, [.ref aPk, .ref aPl, .ref aPd, .ref aPs, .int pn, .int pch])), (aO, .inl (cyJ, 1, .inr (.inl ov)))] s.heap := hP
  have hl := lv_entry ([.ref aX, .int v1, .ref aO]) (n := 4) (Nat.le_of_ble_eq_true rfl)
  rw [lg_entry_eq]
  generalize (lg_sl ([.ref aX, .int v1, .ref aO]) ++ List.replicate (4 - (lg_sl ([.ref aX, .int v1, .ref aO])).length) Slot.unset).toArray = ls at hl ⊢
  have hl : lv_has ls 4 [(0, .ref aX), (1, .int v1), (2, .ref aO)] := hl
  have C0 : CallFix p m c cL_setWindow 4 s ([.ref aX, .int v1, .ref aO] : List Value).toArray wsL_setWindow RL := ⟨hx, hb, hml, hown, hts⟩
  unfold wpL_setWindow at h
  refine lv_aload_n hx hb dL_setWindow_0 rfl (lv_at hl 2 rfl) ?_
  refine lv_iconst (v := 0) hx hb dL_setWindow_1 (by decide) ?_
  refine lv_aload_n hx hb dL_setWindow_2 rfl (lv_at hl 0 rfl) ?_
  refine lv_iload_n hx hb dL_setWindow_3 rfl (lv_at hl 1 rfl) ?_
  refine wk_xcalli (wc := [(aX, .inr (8, [.ref aT, .ref aS, .ref aF, .ref aQ, .ref aW, .ref aP, .ref aB, .ref aR])), (aS, .inr (6, [.int sw, .int sl, .int sg, .int sp])), (aP, .inr (3, [.ref aPk, .ref aPl, .ref aPd, .ref aPs, .int pn, .int pch]))]) (wr := [(aO, .inl (cyJ, 1, .inr (.inl ov)))]) (vx_runV (As := [.int v1]) (rest := [.int 0, .ref aO]) C0 (mtX9_setWindow l hlt dC dI cyI (aX := aX) (aT := aT) (aS := aS) (aF := aF) (aQ := aQ) (aW := aW) (aP := aP) (aPk := aPk) (aPl := aPl) (aPd := aPd) (aPs := aPs) (aB := aB) (aR := aR) (sz := _) (sw := sw) (sl := sl) (sg := sg) (sp := sp) (pn := pn) (pch := pch) (v1 := v1) h) (cwV 1 hts gL_setWindow_X9_setWindow rfl rfl rfl (by decide +kernel) ⟨(Nat.le_of_ble_eq_true rfl), (Nat.le_of_ble_eq_true rfl)⟩) (wk_preVX (wc := [(aX, .inr (8, [.ref aT, .ref aS, .ref aF, .ref aQ, .ref aW, .ref aP, .ref aB, .ref aR])), (aS, .inr (6, [.int sw, .int sl, .int sg, .int sp])), (aP, .inr (3, [.ref aPk, .ref aPl, .ref aPd, .ref aPs, .int pn, .int pch]))]) (hK.sub (tys' := [(cyI, .int)]) [0] rfl) hP hD hS hA hZ [0, 1, 2] rfl (by decide) (va_recv hK hP (ci := 8) (q0 := 0) rfl rfl)) rfl rfl hl.1 rfl (lv_room (Nat.le_of_ble_eq_true rfl)) dL_setWindow_4 ⟨(Nat.le_of_ble_eq_true rfl), (Nat.le_of_ble_eq_true rfl)⟩) hP hD hS hA [0, 1, 2] [3] rfl rfl (by decide) (by decide) (fun E9 ce9 q9 H locs h hP hD hS hc1 hc2 hc3 => ?_) (fun r_1 u9 H locs h hP hD hS => ?_)
  · have hP : va_P (dC, dI) vwCl [(aO, .inl (cyJ, 1, .inr (.inl ov))), (aX, .inr (8, [.ref aT, .ref aS, .ref aF, .ref aQ, .ref aW, .ref aP, .ref aB, .ref aR])), (aS, .inr (6, [.int sw, .int sl, .int sg, .int sp])), (aP, .inr (3, [.ref aPk, .ref aPl, .ref aPd, .ref aPs, .int pn, .int pch]))] H := hP
    have hD : va_D A [(aO, .inl (cyJ, 1, .inr (.inl ov))), (aX, .inr (8, [.ref aT, .ref aS, .ref aF, .ref aQ, .ref aW, .ref aP, .ref aB, .ref aR])), (aS, .inr (6, [.int sw, .int sl, .int sg, .int sp])), (aP, .inr (3, [.ref aPk, .ref aPl, .ref aPd, .ref aPs, .int pn, .int pch]))] := hD
    obtain ⟨rfl, h⟩ := h
    refine vx_catch (name := xA) hown [] ⟨0, 9, 12, 13⟩ [] (by rw [htb]; rfl) (fun z hz => nomatch hz) (by decide) (by decide) (hts _ qL_setWindow_0) (hZ.use _ _ (List.mem_of_getElem? (i := 0) rfl)) hc1 hc2 hc3 ?_
    refine lv_astore_n (lv' := [(3, .ref q9), (0, .ref aX), (1, .int v1), (2, .ref aO)]) hx hb dL_setWindow_12 rfl hl (by decide) rfl (fun ls hl => ?_)
    refine lv_iconst (v := 1) hx hb dL_setWindow_13 (by decide) ?_
    have hP9 : va_P (dC, dI) vwCl [(aX, .inr (8, [.ref aT, .ref aS, .ref aF, .ref aQ, .ref aW, .ref aP, .ref aB, .ref aR])), (aS, .inr (6, [.int sw, .int sl, .int sg, .int sp])), (aP, .inr (3, [.ref aPk, .ref aPl, .ref aPd, .ref aPs, .int pn, .int pch])), (aO, .inl (cyJ, 1, .inr (.inl ov)))] _ := (hP.sub [1, 2, 3, 0] rfl)
    have hD9 : va_D A [(aX, .inr (8, [.ref aT, .ref aS, .ref aF, .ref aQ, .ref aW, .ref aP, .ref aB, .ref aR])), (aS, .inr (6, [.int sw, .int sl, .int sg, .int sp])), (aP, .inr (3, [.ref aPk, .ref aPl, .ref aPd, .ref aPs, .int pn, .int pch])), (aO, .inl (cyJ, 1, .inr (.inl ov)))] := (hD.sub [1, 2, 3, 0] (by decide) rfl)
    refine vx_ret ?_
    refine W.widen (k := 1) (n := 6) (Nat.le_of_ble_eq_true rfl) (Nat.le_of_ble_eq_true rfl) ?_
    exact W.iret (v := 1) hx hb hr (fun t ht hW => ⟨⟨1, (sw, pn, pch, ov), rfl, h, by rw [ht]; exact hP9, va_K.moved hW.alike hK, hD9⟩, hS.F ht⟩) hS.2.2 dL_setWindow_14
  obtain ⟨sw_2, pn_3, pch_4⟩ := u9
  have hP : va_P (dC, dI) vwCl [(aO, .inl (cyJ, 1, .inr (.inl ov))), (aX, .inr (8, [.ref aT, .ref aS, .ref aF, .ref aQ, .ref aW, .ref aP, .ref aB, .ref aR])), (aS, .inr (6, [.int sw_2, .int sl, .int sg, .int sp])), (aP, .inr (3, [.ref aPk, .ref aPl, .ref aPd, .ref aPs, .int pn_3, .int pch_4]))] H := hP
  have hD : va_D A [(aO, .inl (cyJ, 1, .inr (.inl ov))), (aX, .inr (8, [.ref aT, .ref aS, .ref aF, .ref aQ, .ref aW, .ref aP, .ref aB, .ref aR])), (aS, .inr (6, [.int sw_2, .int sl, .int sg, .int sp])), (aP, .inr (3, [.ref aPk, .ref aPl, .ref aPd, .ref aPs, .int pn_3, .int pch_4]))] := hD
  dsimp only at h
  refine lv_i2l hx hb dL_setWindow_7 rfl ?_
  refine va_last hx hb hK hP hD hS 0 1 rfl rfl wk_in01 dL_setWindow_8 (fun H locs hP hD hS => ?_)
  have hP : va_P (dC, dI) vwCl [(aO, .inl (cyJ, 1, .inr (.inl (vp_updL ov (0 : Int32).toNatClampNeg (r_1.toInt64))))), (aX, .inr (8, [.ref aT, .ref aS, .ref aF, .ref aQ, .ref aW, .ref aP, .ref aB, .ref aR])), (aS, .inr (6, [.int sw_2, .int sl, .int sg, .int sp])), (aP, .inr (3, [.ref aPk, .ref aPl, .ref aPd, .ref aPs, .int pn_3, .int pch_4]))] H := hP
  have hD : va_D A [(aO, .inl (cyJ, 1, .inr (.inl (vp_updL ov (0 : Int32).toNatClampNeg (r_1.toInt64))))), (aX, .inr (8, [.ref aT, .ref aS, .ref aF, .ref aQ, .ref aW, .ref aP, .ref aB, .ref aR])), (aS, .inr (6, [.int sw_2, .int sl, .int sg, .int sp])), (aP, .inr (3, [.ref aPk, .ref aPl, .ref aPd, .ref aPs, .int pn_3, .int pch_4]))] := hD
  refine lv_goto (tgt := 15) hx hb dL_setWindow_9 (by decide) ?_
  refine lv_iconst (v := 0) hx hb dL_setWindow_15 (by decide) ?_
  have hP9 : va_P (dC, dI) vwCl [(aX, .inr (8, [.ref aT, .ref aS, .ref aF, .ref aQ, .ref aW, .ref aP, .ref aB, .ref aR])), (aS, .inr (6, [.int sw_2, .int sl, .int sg, .int sp])), (aP, .inr (3, [.ref aPk, .ref aPl, .ref aPd, .ref aPs, .int pn_3, .int pch_4])), (aO, .inl (cyJ, 1, .inr (.inl (vp_updL ov (0 : Int32).toNatClampNeg (r_1.toInt64)))))] _ := (hP.sub [1, 2, 3, 0] rfl)
  have hD9 : va_D A [(aX, .inr (8, [.ref aT, .ref aS, .ref aF, .ref aQ, .ref aW, .ref aP, .ref aB, .ref aR])), (aS, .inr (6, [.int sw_2, .int sl, .int sg, .int sp])), (aP, .inr (3, [.ref aPk, .ref aPl, .ref aPd, .ref aPs, .int pn_3, .int pch_4])), (aO, .inl (cyJ, 1, .inr (.inl (vp_updL ov (0 : Int32).toNatClampNeg (r_1.toInt64)))))] := (hD.sub [1, 2, 3, 0] (by decide) rfl)
  refine vx_ret ?_
  refine W.widen (k := 1) (n := 6) (Nat.le_of_ble_eq_true rfl) (Nat.le_of_ble_eq_true rfl) ?_
  exact W.iret (v := 0) hx hb hr (fun t ht hW => ⟨⟨0, (sw_2, pn_3, pch_4, vp_updL ov (0 : Int32).toNatClampNeg (r_1.toInt64)), rfl, h, by rw [ht]; exact hP9, va_K.moved hW.alike hK, hD9⟩, hS.F ht⟩) hS.2.2 dL_setWindow_16
-- L_setLengths
theorem qL_setLengths_0 : Cond.classLink RL 13 "java/lang/IllegalArgumentException" ∈ wsL_setLengths := (List.mem_cons_of_mem _ (List.mem_append_left _ (List.mem_append_left _ (List.mem_append_left _ (List.mem_append_left _ (List.mem_of_getElem? (i := 0) rfl))))))
def wpL_setLengths (sl : Int32) (sg : Int32) (pn : Int32) (pch : Int32) (ov : Nat → Int64) (v1 : Int32) (v2 : Int32) (post : Int32 → Int32 → Int32 → Int32 → Int32 → (Nat → Int64) → Prop) : Prop := wpX9_setLengths sl sg v1 v2 (fun (r_1 : Int32) (sl_2 : Int32) (sg_3 : Int32) (pn_4 : Int32) (pch_5 : Int32) => (r_1 = 0 → (post 0 sl_2 sg_3 pn_4 pch_5 (vp_updL ov (0 : Int32).toNatClampNeg 0))) ∧ (¬ r_1 = 0 → (post 0 sl_2 sg_3 pn_4 pch_5 (vp_updL ov (0 : Int32).toNatClampNeg 1)))) (fun (E9 : String) => (E9 = xA ∧ (post 1 sl sg pn pch ov)))
set_option maxHeartbeats 4000000 in
set_option maxRecDepth 100000 in
theorem mtL_setLengths (l : Launch) (hlt : l.stackTraces = false) (dC : Nat → ClassId) (dI : Nat → Nat → Nat) (cyI cyJ cyD : ClassId) {aX aT aS aF aQ aW aP aPk aPl aPd aPs aB aR aO : Nat} {sz : Nat} {sw : Int32} {sl : Int32} {sg : Int32} {sp : Int32} {pn : Int32} {pch : Int32} {ov : Nat → Int64} {v1 : Int32} {v2 : Int32} {post : Int32 → Int32 → Int32 → Int32 → Int32 → (Nat → Int64) → Prop} (h : wpL_setLengths sl sg pn pch ov v1 v2 post) : vx_Met l yL_setLengths wsL_setLengths ({ frames := 7, cells := 1, slots := 6, locals := 105 }) (va_Pc [.ref aX, .int v1, .int v2, .ref aO] (wk_BX (dC, dI) [(cyI, .int), (cyJ, .long), (cyD, .double)] [(aX, .inr (8, [.ref aT, .ref aS, .ref aF, .ref aQ, .ref aW, .ref aP, .ref aB, .ref aR])), (aS, .inr (6, [.int sw, .int sl, .int sg, .int sp])), (aP, .inr (3, [.ref aPk, .ref aPl, .ref aPd, .ref aPs, .int pn, .int pch])), (aO, .inl (cyJ, 1, .inr (.inl ov)))] sz)) (va_Qi (fun (r : Int32) (u : Int32 × Int32 × Int32 × Int32 × (Nat → Int64)) => post r u.1 u.2.1 u.2.2.1 u.2.2.2.1 u.2.2.2.2) (wk_C (dC, dI) [(cyI, .int), (cyJ, .long), (cyD, .double)] (va_A [(aX, .inr (8, [.ref aT, .ref aS, .ref aF, .ref aQ, .ref aW, .ref aP, .ref aB, .ref aR])), (aS, .inr (6, [.int sw, .int sl, .int sg, .int sp])), (aP, .inr (3, [.ref aPk, .ref aPl, .ref aPd, .ref aPs, .int pn, .int pch])), (aO, .inl (cyJ, 1, .inr (.inl ov)))] sz) (fun (u : Int32 × Int32 × Int32 × Int32 × (Nat → Int64)) => [(aX, .inr (8, [.ref aT, .ref aS, .ref aF, .ref aQ, .ref aW, .ref aP, .ref aB, .ref aR])), (aS, .inr (6, [.int sw, .int (u.1), .int (u.2.1), .int sp])), (aP, .inr (3, [.ref aPk, .ref aPl, .ref aPd, .ref aPs, .int (u.2.2.1), .int (u.2.2.2.1)])), (aO, .inl (cyJ, 1, .inr (.inl (u.2.2.2.2))))])) (va_A [(aX, .inr (8, [.ref aT, .ref aS, .ref aF, .ref aQ, .ref aW, .ref aP, .ref aB, .ref aR])), (aS, .inr (6, [.int sw, .int sl, .int sg, .int sp])), (aP, .inr (3, [.ref aPk, .ref aPl, .ref aPd, .ref aPs, .int pn, .int pch])), (aO, .inl (cyJ, 1, .inr (.inl ov)))] sz)) (vx_X (fun (_ : String) => False) (wk_X (dC, dI) [(cyI, .int), (cyJ, .long), (cyD, .double)] (va_A [(aX, .inr (8, [.ref aT, .ref aS, .ref aF, .ref aQ, .ref aW, .ref aP, .ref aB, .ref aR])), (aS, .inr (6, [.int sw, .int sl, .int sg, .int sp])), (aP, .inr (3, [.ref aPk, .ref aPl, .ref aPd, .ref aPs, .int pn, .int pch])), (aO, .inl (cyJ, 1, .inr (.inl ov)))] sz) [(aX, .inr (8, [.ref aT, .ref aS, .ref aF, .ref aQ, .ref aW, .ref aP, .ref aB, .ref aR])), (aS, .inr (6, [.int sw, .int sl, .int sg, .int sp])), (aP, .inr (3, [.ref aPk, .ref aPl, .ref aPd, .ref aPs, .int pn, .int pch])), (aO, .inl (cyJ, 1, .inr (.inl ov)))]) (va_A [(aX, .inr (8, [.ref aT, .ref aS, .ref aF, .ref aQ, .ref aW, .ref aP, .ref aB, .ref aR])), (aS, .inr (6, [.int sw, .int sl, .int sg, .int sp])), (aP, .inr (3, [.ref aPk, .ref aPl, .ref aPd, .ref aPs, .int pn, .int pch])), (aO, .inl (cyJ, 1, .inr (.inl ov)))] sz)) 1 6 (va_A [(aX, .inr (8, [.ref aT, .ref aS, .ref aF, .ref aQ, .ref aW, .ref aP, .ref aB, .ref aR])), (aS, .inr (6, [.int sw, .int sl, .int sg, .int sp])), (aP, .inr (3, [.ref aPk, .ref aPl, .ref aPd, .ref aPs, .int pn, .int pch])), (aO, .inl (cyJ, 1, .inr (.inl ov)))] sz) := by
  refine vx_ofWH (cc := cL_setLengths) (maxL := 5) (ret := (some .int)) (by decide) rfl ?_
  intro p e s m args below meth c s₁ B hml hv
  obtain ⟨rfl, ⟨hsz, hP, hK, hD0⟩, hZ⟩ := hv
  have hx := B.exec
  have hb := B.bytes
  have hr := B.returns
  have hts := atoms_spec (ws := wsL_setLengths) B.pre
  have hown : s.vm.findClass RL = some m.cls := findClass_of_methodNamed B.named
  have htb := vx_table (x := yL_setLengths) B (hts _ List.mem_cons_self)
  have hlocks := B.notSynchronized
  subst hsz
  have hD := hD0.self (sz := s.heap.size)
  generalize hAe : va_A [(aX, .inr (8, [.ref aT, .ref aS, .ref aF, .ref aQ, .ref aW, .ref aP, .ref aB, .ref aR])), (aS, .inr (6, [.int sw, .int sl, .int sg, .int sp])), (aP, .inr (3, [.ref aPk, .ref aPl, .ref aPd, .ref aPs, .int pn, .int pch])), (aO, .inl (cyJ, 1, .inr (.inl ov)))] s.heap.size = A at hD hZ ⊢
  have hA : ∀ q : Nat, s.heap.size ≤ q → A q := fun q h => by rw [← hAe]; exact Or.inr h
  have hS : va_S A s.heap s.heap [] := va_S.rf
  have hP : va_P (dC, dI) vwCl [(aX, .inr (8, [.ref aT, .ref aS, .ref aF, .ref aQ, .ref aW, .ref aP, .ref aB, .ref aR])), (aS, .inr (6, [.int sw, .int sl, .int sg, .int sp])), (aP, .inr (3, [.ref aPk, .ref aPl, .ref aPd, .ref aPs, .int pn, .int pch])), (aO, .inl (cyJ, 1, .inr (.inl ov)))] s.heap := hP
  have hl := lv_entry ([.ref aX, .int v1, .int v2, .ref aO]) (n := 5) (Nat.le_of_ble_eq_true rfl)
  rw [lg_entry_eq]
  generalize (lg_sl ([.ref aX, .int v1, .int v2, .ref aO]) ++ List.replicate (5 - (lg_sl ([.ref aX, .int v1, .int v2, .ref aO])).length) Slot.unset).toArray = ls at hl ⊢
  have hl : lv_has ls 5 [(0, .ref aX), (1, .int v1), (2, .int v2), (3, .ref aO)] := hl
  have C0 : CallFix p m c cL_setLengths 5 s ([.ref aX, .int v1, .int v2, .ref aO] : List Value).toArray wsL_setLengths RL := ⟨hx, hb, hml, hown, hts⟩
  unfold wpL_setLengths at h
  refine lv_aload_n hx hb dL_setLengths_0 rfl (lv_at hl 3 rfl) ?_
  refine lv_iconst (v := 0) hx hb dL_setLengths_1 (by decide) ?_
  refine lv_aload_n hx hb dL_setLengths_2 rfl (lv_at hl 0 rfl) ?_
  refine lv_iload_n hx hb dL_setLengths_3 rfl (lv_at hl 1 rfl) ?_
  refine lv_iload_n hx hb dL_setLengths_4 rfl (lv_at hl 2 rfl) ?_
  refine wk_xcalli (wc := [(aX, .inr (8, [.ref aT, .ref aS, .ref aF, .ref aQ, .ref aW, .ref aP, .ref aB, .ref aR])), (aS, .inr (6, [.int sw, .int sl, .int sg, .int sp])), (aP, .inr (3, [.ref aPk, .ref aPl, .ref aPd, .ref aPs, .int pn, .int pch]))]) (wr := [(aO, .inl (cyJ, 1, .inr (.inl ov)))]) (vx_runV (As := [.int v1, .int v2]) (rest := [.int 0, .ref aO]) C0 (mtX9_setLengths l hlt dC dI cyI (aX := aX) (aT := aT) (aS := aS) (aF := aF) (aQ := aQ) (aW := aW) (aP := aP) (aPk := aPk) (aPl := aPl) (aPd := aPd) (aPs := aPs) (aB := aB) (aR := aR) (sz := _) (sw := sw) (sl := sl) (sg := sg) (sp := sp) (pn := pn) (pch := pch) (v1 := v1) (v2 := v2) h) (cwV 2 hts gL_setLengths_X9_setLengths rfl rfl rfl (by decide +kernel) ⟨(Nat.le_of_ble_eq_true rfl), (Nat.le_of_ble_eq_true rfl)⟩) (wk_preVX (wc := [(aX, .inr (8, [.ref aT, .ref aS, .ref aF, .ref aQ, .ref aW, .ref aP, .ref aB, .ref aR])), (aS, .inr (6, [.int sw, .int sl, .int sg, .int sp])), (aP, .inr (3, [.ref aPk, .ref aPl, .ref aPd, .ref aPs, .int pn, .int pch]))]) (hK.sub (tys' := [(cyI, .int)]) [0] rfl) hP hD hS hA hZ [0, 1, 2] rfl (by decide) (va_recv hK hP (ci := 8) (q0 := 0) rfl rfl)) rfl rfl hl.1 rfl (lv_room (Nat.le_of_ble_eq_true rfl)) dL_setLengths_5 ⟨(Nat.le_of_ble_eq_true rfl), (Nat.le_of_ble_eq_true rfl)⟩) hP hD hS hA [0, 1, 2] [3] rfl rfl (by decide) (by decide) (fun E9 ce9 q9 H locs h hP hD hS hc1 hc2 hc3 => ?_) (fun r_1 u9 H locs h hP hD hS => ?_)
  · have hP : va_P (dC, dI) vwCl [(aO, .inl (cyJ, 1, .inr (.inl ov))), (aX, .inr (8, [.ref aT, .ref aS, .ref aF, .ref aQ, .ref aW, .ref aP, .ref aB, .ref aR])), (aS, .inr (6, [.int sw, .int sl, .int sg, .int sp])), (aP, .inr (3, [.ref aPk, .ref aPl, .ref aPd, .ref aPs, .int pn, .int pch]))] H := hP
    have hD : va_D A [(aO, .inl (cyJ, 1, .inr (.inl ov))), (aX, .inr (8, [.ref aT, .ref aS, .ref aF, .ref aQ, .ref aW, .ref aP, .ref aB, .ref aR])), (aS, .inr (6, [.int sw, .int sl, .int sg, .int sp])), (aP, .inr (3, [.ref aPk, .ref aPl, .ref aPd, .ref aPs, .int pn, .int pch]))] := hD
    obtain ⟨rfl, h⟩ := h
    refine vx_catch (name := xA) hown [] ⟨0, 17, 20, 13⟩ [] (by rw [htb]; rfl) (fun z hz => nomatch hz) (by decide) (by decide) (hts _ qL_setLengths_0) (hZ.use _ _ (List.mem_of_getElem? (i := 0) rfl)) hc1 hc2 hc3 ?_
    refine lv_astore (lv' := [(4, .ref q9), (0, .ref aX), (1, .int v1), (2, .int v2), (3, .ref aO)]) hx hb dL_setLengths_20 hl (by decide) rfl (fun ls hl => ?_)
    refine lv_iconst (v := 1) hx hb dL_setLengths_22 (by decide) ?_
    have hP9 : va_P (dC, dI) vwCl [(aX, .inr (8, [.ref aT, .ref aS, .ref aF, .ref aQ, .ref aW, .ref aP, .ref aB, .ref aR])), (aS, .inr (6, [.int sw, .int sl, .int sg, .int sp])), (aP, .inr (3, [.ref aPk, .ref aPl, .ref aPd, .ref aPs, .int pn, .int pch])), (aO, .inl (cyJ, 1, .inr (.inl ov)))] _ := (hP.sub [1, 2, 3, 0] rfl)
    have hD9 : va_D A [(aX, .inr (8, [.ref aT, .ref aS, .ref aF, .ref aQ, .ref aW, .ref aP, .ref aB, .ref aR])), (aS, .inr (6, [.int sw, .int sl, .int sg, .int sp])), (aP, .inr (3, [.ref aPk, .ref aPl, .ref aPd, .ref aPs, .int pn, .int pch])), (aO, .inl (cyJ, 1, .inr (.inl ov)))] := (hD.sub [1, 2, 3, 0] (by decide) rfl)
    refine vx_ret ?_
    refine W.widen (k := 1) (n := 6) (Nat.le_of_ble_eq_true rfl) (Nat.le_of_ble_eq_true rfl) ?_
    exact W.iret (v := 1) hx hb hr (fun t ht hW => ⟨⟨1, (sl, sg, pn, pch, ov), rfl, h, by rw [ht]; exact hP9, va_K.moved hW.alike hK, hD9⟩, hS.F ht⟩) hS.2.2 dL_setLengths_23
  obtain ⟨sl_2, sg_3, pn_4, pch_5⟩ := u9
  have hP : va_P (dC, dI) vwCl [(aO, .inl (cyJ, 1, .inr (.inl ov))), (aX, .inr (8, [.ref aT, .ref aS, .ref aF, .ref aQ, .ref aW, .ref aP, .ref aB, .ref aR])), (aS, .inr (6, [.int sw, .int sl_2, .int sg_3, .int sp])), (aP, .inr (3, [.ref aPk, .ref aPl, .ref aPd, .ref aPs, .int pn_4, .int pch_5]))] H := hP
  have hD : va_D A [(aO, .inl (cyJ, 1, .inr (.inl ov))), (aX, .inr (8, [.ref aT, .ref aS, .ref aF, .ref aQ, .ref aW, .ref aP, .ref aB, .ref aR])), (aS, .inr (6, [.int sw, .int sl_2, .int sg_3, .int sp])), (aP, .inr (3, [.ref aPk, .ref aPl, .ref aPd, .ref aPs, .int pn_4, .int pch_5]))] := hD
  dsimp only at h
  refine lv_if_eq (tgt := 15) hx hb dL_setLengths_8 (by decide) (fun c_6 => ?_) (fun c_6 => ?_)
  · replace h := h.1 c_6
    refine lv_lconst (v := 0) hx hb dL_setLengths_15 (by decide) ?_
    refine va_last hx hb hK hP hD hS 0 1 rfl rfl wk_in01 dL_setLengths_16 (fun H locs hP hD hS => ?_)
    have hP : va_P (dC, dI) vwCl [(aO, .inl (cyJ, 1, .inr (.inl (vp_updL ov (0 : Int32).toNatClampNeg 0)))), (aX, .inr (8, [.ref aT, .ref aS, .ref aF, .ref aQ, .ref aW, .ref aP, .ref aB, .ref aR])), (aS, .inr (6, [.int sw, .int sl_2, .int sg_3, .int sp])), (aP, .inr (3, [.ref aPk, .ref aPl, .ref aPd, .ref aPs, .int pn_4, .int pch_5]))] H := hP
    have hD : va_D A [(aO, .inl (cyJ, 1, .inr (.inl (vp_updL ov (0 : Int32).toNatClampNeg 0)))), (aX, .inr (8, [.ref aT, .ref aS, .ref aF, .ref aQ, .ref aW, .ref aP, .ref aB, .ref aR])), (aS, .inr (6, [.int sw, .int sl_2, .int sg_3, .int sp])), (aP, .inr (3, [.ref aPk, .ref aPl, .ref aPd, .ref aPs, .int pn_4, .int pch_5]))] := hD
    refine lv_goto (tgt := 24) hx hb dL_setLengths_17 (by decide) ?_
    refine lv_iconst (v := 0) hx hb dL_setLengths_24 (by decide) ?_
    have hP9 : va_P (dC, dI) vwCl [(aX, .inr (8, [.ref aT, .ref aS, .ref aF, .ref aQ, .ref aW, .ref aP, .ref aB, .ref aR])), (aS, .inr (6, [.int sw, .int sl_2, .int sg_3, .int sp])), (aP, .inr (3, [.ref aPk, .ref aPl, .ref aPd, .ref aPs, .int pn_4, .int pch_5])), (aO, .inl (cyJ, 1, .inr (.inl (vp_updL ov (0 : Int32).toNatClampNeg 0))))] _ := (hP.sub [1, 2, 3, 0] rfl)
    have hD9 : va_D A [(aX, .inr (8, [.ref aT, .ref aS, .ref aF, .ref aQ, .ref aW, .ref aP, .ref aB, .ref aR])), (aS, .inr (6, [.int sw, .int sl_2, .int sg_3, .int sp])), (aP, .inr (3, [.ref aPk, .ref aPl, .ref aPd, .ref aPs, .int pn_4, .int pch_5])), (aO, .inl (cyJ, 1, .inr (.inl (vp_updL ov (0 : Int32).toNatClampNeg 0))))] := (hD.sub [1, 2, 3, 0] (by decide) rfl)
    refine vx_ret ?_
    refine W.widen (k := 1) (n := 6) (Nat.le_of_ble_eq_true rfl) (Nat.le_of_ble_eq_true rfl) ?_
    exact W.iret (v := 0) hx hb hr (fun t ht hW => ⟨⟨0, (sl_2, sg_3, pn_4, pch_5, vp_updL ov (0 : Int32).toNatClampNeg 0), rfl, h, by rw [ht]; exact hP9, va_K.moved hW.alike hK, hD9⟩, hS.F ht⟩) hS.2.2 dL_setLengths_25
  · replace h := h.2 c_6
    refine lv_lconst (v := 1) hx hb dL_setLengths_11 (by decide) ?_
    refine lv_goto (tgt := 16) hx hb dL_setLengths_12 (by decide) ?_
    refine va_last hx hb hK hP hD hS 0 1 rfl rfl wk_in01 dL_setLengths_16 (fun H locs hP hD hS => ?_)
    have hP : va_P (dC, dI) vwCl [(aO, .inl (cyJ, 1, .inr (.inl (vp_updL ov (0 : Int32).toNatClampNeg 1)))), (aX, .inr (8, [.ref aT, .ref aS, .ref aF, .ref aQ, .ref aW, .ref aP, .ref aB, .ref aR])), (aS, .inr (6, [.int sw, .int sl_2, .int sg_3, .int sp])), (aP, .inr (3, [.ref aPk, .ref aPl, .ref aPd, .ref aPs, .int pn_4, .int pch_5]))] H := hP
    have hD : va_D A [(aO, .inl (cyJ, 1, .inr (.inl (vp_updL ov (0 : Int32).toNatClampNeg 1)))), (aX, .inr (8, [.ref aT, .ref aS, .ref aF, .ref aQ, .ref aW, .ref aP, .ref aB, .ref aR])), (aS, .inr (6, [.int sw, .int sl_2, .int sg_3, .int sp])), (aP, .inr (3, [.ref aPk, .ref aPl, .ref aPd, .ref aPs, .int pn_4, .int pch_5]))] := hD
    refine lv_goto (tgt := 24) hx hb dL_setLengths_17 (by decide) ?_
    refine lv_iconst (v := 0) hx hb dL_setLengths_24 (by decide) ?_
    have hP9 : va_P (dC, dI) vwCl [(aX, .inr (8, [.ref aT, .ref aS, .ref aF, .ref aQ, .ref aW, .ref aP, .ref aB, .ref aR])), (aS, .inr (6, [.int sw, .int sl_2, .int sg_3, .int sp])), (aP, .inr (3, [.ref aPk, .ref aPl, .ref aPd, .ref aPs, .int pn_4, .int pch_5])), (aO, .inl (cyJ, 1, .inr (.inl (vp_updL ov (0 : Int32).toNatClampNeg 1))))] _ := (hP.sub [1, 2, 3, 0] rfl)
    have hD9 : va_D A [(aX, .inr (8, [.ref aT, .ref aS, .ref aF, .ref aQ, .ref aW, .ref aP, .ref aB, .ref aR])), (aS, .inr (6, [.int sw, .int sl_2, .int sg_3, .int sp])), (aP, .inr (3, [.ref aPk, .ref aPl, .ref aPd, .ref aPs, .int pn_4, .int pch_5])), (aO, .inl (cyJ, 1, .inr (.inl (vp_updL ov (0 : Int32).toNatClampNeg 1))))] := (hD.sub [1, 2, 3, 0] (by decide) rfl)
    refine vx_ret ?_
    refine W.widen (k := 1) (n := 6) (Nat.le_of_ble_eq_true rfl) (Nat.le_of_ble_eq_true rfl) ?_
    exact W.iret (v := 0) hx hb hr (fun t ht hW => ⟨⟨0, (sl_2, sg_3, pn_4, pch_5, vp_updL ov (0 : Int32).toNatClampNeg 1), rfl, h, by rw [ht]; exact hP9, va_K.moved hW.alike hK, hD9⟩, hS.F ht⟩) hS.2.2 dL_setLengths_25
-- L_setPrice
theorem qL_setPrice_0 : Cond.classLink RL 13 "java/lang/IllegalArgumentException" ∈ wsL_setPrice := (List.mem_cons_of_mem _ (List.mem_append_left _ (List.mem_append_left _ (List.mem_append_left _ (List.mem_append_left _ (List.mem_of_getElem? (i := 0) rfl))))))
def wpL_setPrice (sp : Int32) (pn : Int32) (pch : Int32) (ov : Nat → Int64) (v1 : Int32) (post : Int32 → Int32 → Int32 → Int32 → (Nat → Int64) → Prop) : Prop := wpX9_setPrice sp v1 (fun (r_1 : Int32) (sp_2 : Int32) (pn_3 : Int32) (pch_4 : Int32) => post 0 sp_2 pn_3 pch_4 (vp_updL ov (0 : Int32).toNatClampNeg (r_1.toInt64))) (fun (E9 : String) => (E9 = xA ∧ (post 1 sp pn pch ov)))
set_option maxHeartbeats 4000000 in
set_option maxRecDepth 100000 in
theorem mtL_setPrice (l : Launch) (hlt : l.stackTraces = false) (dC : Nat → ClassId) (dI : Nat → Nat → Nat) (cyI cyJ cyD : ClassId) {aX aT aS aF aQ aW aP aPk aPl aPd aPs aB aR aO : Nat} {sz : Nat} {sw : Int32} {sl : Int32} {sg : Int32} {sp : Int32} {pn : Int32} {pch : Int32} {ov : Nat → Int64} {v1 : Int32} {post : Int32 → Int32 → Int32 → Int32 → (Nat → Int64) → Prop} (h : wpL_setPrice sp pn pch ov v1 post) : vx_Met l yL_setPrice wsL_setPrice ({ frames := 7, cells := 1, slots := 6, locals := 104 }) (va_Pc [.ref aX, .int v1, .ref aO] (wk_BX (dC, dI) [(cyI, .int), (cyJ, .long), (cyD, .double)] [(aX, .inr (8, [.ref aT, .ref aS, .ref aF, .ref aQ, .ref aW, .ref aP, .ref aB, .ref aR])), (aS, .inr (6, [.int sw, .int sl, .int sg, .int sp])), (aP, .inr (3, [.ref aPk, .ref aPl, .ref aPd, .ref aPs, .int pn, .int pch])), (aO, .inl (cyJ, 1, .inr (.inl ov)))] sz)) (va_Qi (fun (r : Int32) (u : Int32 × Int32 × Int32 × (Nat → Int64)) => post r u.1 u.2.1 u.2.2.1 u.2.2.2) (wk_C (dC, dI) [(cyI, .int), (cyJ, .long), (cyD, .double)] (va_A [(aX, .inr (8, [.ref aT, .ref aS, .ref aF, .ref aQ, .ref aW, .ref aP, .ref aB, .ref aR])), (aS, .inr (6, [.int sw, .int sl, .int sg, .int sp])), (aP, .inr (3, [.ref aPk, .ref aPl, .ref aPd, .ref aPs, .int pn, .int pch])), (aO, .inl (cyJ, 1, .inr (.inl ov)))] sz) (fun (u : Int32 × Int32 × Int32 × (Nat → Int64)) => [(aX, .inr (8, [.ref aT, .ref aS, .ref aF, .ref aQ, .ref aW, .ref aP, .ref aB, .ref aR])), (aS, .inr (6, [.int sw, .int sl, .int sg, .int (u.1)])), (aP, .inr (3, [.ref aPk, .ref aPl, .ref aPd, .ref aPs, .int (u.2.1), .int (u.2.2.1)])), (aO, .inl (cyJ, 1, .inr (.inl (u.2.2.2))))])) (va_A [(aX, .inr (8, [.ref aT, .ref aS, .ref aF, .ref aQ, .ref aW, .ref aP, .ref aB, .ref aR])), (aS, .inr (6, [.int sw, .int sl, .int sg, .int sp])), (aP, .inr (3, [.ref aPk, .ref aPl, .ref aPd, .ref aPs, .int pn, .int pch])), (aO, .inl (cyJ, 1, .inr (.inl ov)))] sz)) (vx_X (fun (_ : String) => False) (wk_X (dC, dI) [(cyI, .int), (cyJ, .long), (cyD, .double)] (va_A [(aX, .inr (8, [.ref aT, .ref aS, .ref aF, .ref aQ, .ref aW, .ref aP, .ref aB, .ref aR])), (aS, .inr (6, [.int sw, .int sl, .int sg, .int sp])), (aP, .inr (3, [.ref aPk, .ref aPl, .ref aPd, .ref aPs, .int pn, .int pch])), (aO, .inl (cyJ, 1, .inr (.inl ov)))] sz) [(aX, .inr (8, [.ref aT, .ref aS, .ref aF, .ref aQ, .ref aW, .ref aP, .ref aB, .ref aR])), (aS, .inr (6, [.int sw, .int sl, .int sg, .int sp])), (aP, .inr (3, [.ref aPk, .ref aPl, .ref aPd, .ref aPs, .int pn, .int pch])), (aO, .inl (cyJ, 1, .inr (.inl ov)))]) (va_A [(aX, .inr (8, [.ref aT, .ref aS, .ref aF, .ref aQ, .ref aW, .ref aP, .ref aB, .ref aR])), (aS, .inr (6, [.int sw, .int sl, .int sg, .int sp])), (aP, .inr (3, [.ref aPk, .ref aPl, .ref aPd, .ref aPs, .int pn, .int pch])), (aO, .inl (cyJ, 1, .inr (.inl ov)))] sz)) 1 6 (va_A [(aX, .inr (8, [.ref aT, .ref aS, .ref aF, .ref aQ, .ref aW, .ref aP, .ref aB, .ref aR])), (aS, .inr (6, [.int sw, .int sl, .int sg, .int sp])), (aP, .inr (3, [.ref aPk, .ref aPl, .ref aPd, .ref aPs, .int pn, .int pch])), (aO, .inl (cyJ, 1, .inr (.inl ov)))] sz) := by
  refine vx_ofWH (cc := cL_setPrice) (maxL := 4) (ret := (some .int)) (by decide) rfl ?_
  intro p e s m args below meth c s₁ B hml hv
  obtain ⟨rfl, ⟨hsz, hP, hK, hD0⟩, hZ⟩ := hv
  have hx := B.exec
  have hb := B.bytes
  have hr := B.returns
  have hts := atoms_spec (ws := wsL_setPrice) B.pre
  have hown : s.vm.findClass RL = some m.cls := findClass_of_methodNamed B.named
  have htb := vx_table (x := yL_setPrice) B (hts _ List.mem_cons_self)
  have hlocks := B.notSynchronized
  subst hsz
  have hD := hD0.self (sz := s.heap.size)
  generalize hAe : va_A [(aX, .inr (8, [.ref aT, .ref aS, .ref aF, .ref aQ, .ref aW, .ref aP, .ref aB, .ref aR])), (aS, .inr (6, [.int sw, .int sl, .int sg, .int sp])), (aP, .inr (3, [.ref aPk, .ref aPl, .ref aPd, .ref aPs, .int pn, .int pch])), (aO, .inl (cyJ, 1, .inr (.inl ov)))] s.heap.size = A at hD hZ ⊢
  have hA : ∀ q : Nat, s.heap.size ≤ q → A q := fun q h => by rw [← hAe]; exact Or.inr h
  have hS : va_S A s.heap s.heap [] := va_S.rf
  have hP : va_P (dC, dI) vwCl [(aX, .inr (8, [.ref aT, .ref aS, .ref aF, .ref aQ, .ref aW, .ref aP, .ref aB, .ref aR])), (aS, .inr (6, [.int sw, .int sl, .int sg, .int sp])), (aP, .inr (3, [.ref aPk, .ref aPl, .ref aPd, .ref aPs, .int pn, .int pch])), (aO, .inl (cyJ, 1, .inr (.inl ov)))] s.heap := hP
  have hl := lv_entry ([.ref aX, .int v1, .ref aO]) (n := 4) (Nat.le_of_ble_eq_true rfl)
  rw [lg_entry_eq]
  generalize (lg_sl ([.ref aX, .int v1, .ref aO]) ++ List.replicate (4 - (lg_sl ([.ref aX, .int v1, .ref aO])).length) Slot.unset).toArray = ls at hl ⊢
  have hl : lv_has ls 4 [(0, .ref aX), (1, .int v1), (2, .ref aO)] := hl
  have C0 : CallFix p m c cL_setPrice 4 s ([.ref aX, .int v1, .ref aO] : List Value).toArray wsL_setPrice RL := ⟨hx, hb, hml, hown, hts⟩
  unfold wpL_setPrice at h
  refine lv_aload_n hx hb dL_setPrice_0 rfl (lv_at hl 2 rfl) ?_
  refine lv_iconst (v := 0) hx hb dL_setPrice_1 (by decide) ?_
  refine lv_aload_n hx hb dL_setPrice_2 rfl (lv_at hl 0 rfl) ?_
  refine lv_iload_n hx hb dL_setPrice_3 rfl (lv_at hl 1 rfl) ?_
  refine wk_xcalli (wc := [(aX, .inr (8, [.ref aT, .ref aS, .ref aF, .ref aQ, .ref aW, .ref aP, .ref aB, .ref aR])), (aS, .inr (6, [.int sw, .int sl, .int sg, .int sp])), (aP, .inr (3, [.ref aPk, .ref aPl, .ref aPd, .ref aPs, .int pn, .int pch]))]) (wr := [(aO, .inl (cyJ, 1, .inr (.inl ov)))]) (vx_runV (As := [.int v1]) (rest := [.int 0, .ref aO]) C0 (mtX9_setPrice l hlt dC dI cyI (aX := aX) (aT := aT) (aS := aS) (aF := aF) (aQ := aQ) (aW := aW) (aP := aP) (aPk := aPk) (aPl := aPl) (aPd := aPd) (aPs := aPs) (aB := aB) (aR := aR) (sz := _) (sw := sw) (sl := sl) (sg := sg) (sp := sp) (pn := pn) (pch := pch) (v1 := v1) h) (cwV 1 hts gL_setPrice_X9_setPrice rfl rfl rfl (by decide +kernel) ⟨(Nat.le_of_ble_eq_true rfl), (Nat.le_of_ble_eq_true rfl)⟩) (wk_preVX (wc := [(aX, .inr (8, [.ref aT, .ref aS, .ref aF, .ref aQ, .ref aW, .ref aP, .ref aB, .ref aR])), (aS, .inr (6, [.int sw, .int sl, .int sg, .int sp])), (aP, .inr (3, [.ref aPk, .ref aPl, .ref aPd, .ref aPs, .int pn, .int pch]))]) (hK.sub (tys' := [(cyI, .int)]) [0] rfl) hP hD hS hA hZ [0, 1, 2] rfl (by decide) (va_recv hK hP (ci := 8) (q0 := 0) rfl rfl)) rfl rfl hl.1 rfl (lv_room (Nat.le_of_ble_eq_true rfl)) dL_setPrice_4 ⟨(Nat.le_of_ble_eq_true rfl), (Nat.le_of_ble_eq_true rfl)⟩) hP hD hS hA [0, 1, 2] [3] rfl rfl (by decide) (by decide) (fun E9 ce9 q9 H locs h hP hD hS hc1 hc2 hc3 => ?_) (fun r_1 u9 H locs h hP hD hS => ?_)
  · have hP : va_P (dC, dI) vwCl [(aO, .inl (cyJ, 1, .inr (.inl ov))), (aX, .inr (8, [.ref aT, .ref aS, .ref aF, .ref aQ, .ref aW, .ref aP, .ref aB, .ref aR])), (aS, .inr (6, [.int sw, .int sl, .int sg, .int sp])), (aP, .inr (3, [.ref aPk, .ref aPl, .ref aPd, .ref aPs, .int pn, .int pch]))] H := hP
    have hD : va_D A [(aO, .inl (cyJ, 1, .inr (.inl ov))), (aX, .inr (8, [.ref aT, .ref aS, .ref aF, .ref aQ, .ref aW, .ref aP, .ref aB, .ref aR])), (aS, .inr (6, [.int sw, .int sl, .int sg, .int sp])), (aP, .inr (3, [.ref aPk, .ref aPl, .ref aPd, .ref aPs, .int pn, .int pch]))] := hD
    obtain ⟨rfl, h⟩ := h
    refine vx_catch (name := xA) hown [] ⟨0, 9, 12, 13⟩ [] (by rw [htb]; rfl) (fun z hz => nomatch hz) (by decide) (by decide) (hts _ qL_setPrice_0) (hZ.use _ _ (List.mem_of_getElem? (i := 0) rfl)) hc1 hc2 hc3 ?_
    refine lv_astore_n (lv' := [(3, .ref q9), (0, .ref aX), (1, .int v1), (2, .ref aO)]) hx hb dL_setPrice_12 rfl hl (by decide) rfl (fun ls hl => ?_)
    refine lv_iconst (v := 1) hx hb dL_setPrice_13 (by decide) ?_
    have hP9 : va_P (dC, dI) vwCl [(aX, .inr (8, [.ref aT, .ref aS, .ref aF, .ref aQ, .ref aW, .ref aP, .ref aB, .ref aR])), (aS, .inr (6, [.int sw, .int sl, .int sg, .int sp])), (aP, .inr (3, [.ref aPk, .ref aPl, .ref aPd, .ref aPs, .int pn, .int pch])), (aO, .inl (cyJ, 1, .inr (.inl ov)))] _ := (hP.sub [1, 2, 3, 0] rfl)
    have hD9 : va_D A [(aX, .inr (8, [.ref aT, .ref aS, .ref aF, .ref aQ, .ref aW, .ref aP, .ref aB, .ref aR])), (aS, .inr (6, [.int sw, .int sl, .int sg, .int sp])), (aP, .inr (3, [.ref aPk, .ref aPl, .ref aPd, .ref aPs, .int pn, .int pch])), (aO, .inl (cyJ, 1, .inr (.inl ov)))] := (hD.sub [1, 2, 3, 0] (by decide) rfl)
    refine vx_ret ?_
    refine W.widen (k := 1) (n := 6) (Nat.le_of_ble_eq_true rfl) (Nat.le_of_ble_eq_true rfl) ?_
    exact W.iret (v := 1) hx hb hr (fun t ht hW => ⟨⟨1, (sp, pn, pch, ov), rfl, h, by rw [ht]; exact hP9, va_K.moved hW.alike hK, hD9⟩, hS.F ht⟩) hS.2.2 dL_setPrice_14
  obtain ⟨sp_2, pn_3, pch_4⟩ := u9
  have hP : va_P (dC, dI) vwCl [(aO, .inl (cyJ, 1, .inr (.inl ov))), (aX, .inr (8, [.ref aT, .ref aS, .ref aF, .ref aQ, .ref aW, .ref aP, .ref aB, .ref aR])), (aS, .inr (6, [.int sw, .int sl, .int sg, .int sp_2])), (aP, .inr (3, [.ref aPk, .ref aPl, .ref aPd, .ref aPs, .int pn_3, .int pch_4]))] H := hP
  have hD : va_D A [(aO, .inl (cyJ, 1, .inr (.inl ov))), (aX, .inr (8, [.ref aT, .ref aS, .ref aF, .ref aQ, .ref aW, .ref aP, .ref aB, .ref aR])), (aS, .inr (6, [.int sw, .int sl, .int sg, .int sp_2])), (aP, .inr (3, [.ref aPk, .ref aPl, .ref aPd, .ref aPs, .int pn_3, .int pch_4]))] := hD
  dsimp only at h
  refine lv_i2l hx hb dL_setPrice_7 rfl ?_
  refine va_last hx hb hK hP hD hS 0 1 rfl rfl wk_in01 dL_setPrice_8 (fun H locs hP hD hS => ?_)
  have hP : va_P (dC, dI) vwCl [(aO, .inl (cyJ, 1, .inr (.inl (vp_updL ov (0 : Int32).toNatClampNeg (r_1.toInt64))))), (aX, .inr (8, [.ref aT, .ref aS, .ref aF, .ref aQ, .ref aW, .ref aP, .ref aB, .ref aR])), (aS, .inr (6, [.int sw, .int sl, .int sg, .int sp_2])), (aP, .inr (3, [.ref aPk, .ref aPl, .ref aPd, .ref aPs, .int pn_3, .int pch_4]))] H := hP
  have hD : va_D A [(aO, .inl (cyJ, 1, .inr (.inl (vp_updL ov (0 : Int32).toNatClampNeg (r_1.toInt64))))), (aX, .inr (8, [.ref aT, .ref aS, .ref aF, .ref aQ, .ref aW, .ref aP, .ref aB, .ref aR])), (aS, .inr (6, [.int sw, .int sl, .int sg, .int sp_2])), (aP, .inr (3, [.ref aPk, .ref aPl, .ref aPd, .ref aPs, .int pn_3, .int pch_4]))] := hD
  refine lv_goto (tgt := 15) hx hb dL_setPrice_9 (by decide) ?_
  refine lv_iconst (v := 0) hx hb dL_setPrice_15 (by decide) ?_
  have hP9 : va_P (dC, dI) vwCl [(aX, .inr (8, [.ref aT, .ref aS, .ref aF, .ref aQ, .ref aW, .ref aP, .ref aB, .ref aR])), (aS, .inr (6, [.int sw, .int sl, .int sg, .int sp_2])), (aP, .inr (3, [.ref aPk, .ref aPl, .ref aPd, .ref aPs, .int pn_3, .int pch_4])), (aO, .inl (cyJ, 1, .inr (.inl (vp_updL ov (0 : Int32).toNatClampNeg (r_1.toInt64)))))] _ := (hP.sub [1, 2, 3, 0] rfl)
  have hD9 : va_D A [(aX, .inr (8, [.ref aT, .ref aS, .ref aF, .ref aQ, .ref aW, .ref aP, .ref aB, .ref aR])), (aS, .inr (6, [.int sw, .int sl, .int sg, .int sp_2])), (aP, .inr (3, [.ref aPk, .ref aPl, .ref aPd, .ref aPs, .int pn_3, .int pch_4])), (aO, .inl (cyJ, 1, .inr (.inl (vp_updL ov (0 : Int32).toNatClampNeg (r_1.toInt64)))))] := (hD.sub [1, 2, 3, 0] (by decide) rfl)
  refine vx_ret ?_
  refine W.widen (k := 1) (n := 6) (Nat.le_of_ble_eq_true rfl) (Nat.le_of_ble_eq_true rfl) ?_
  exact W.iret (v := 0) hx hb hr (fun t ht hW => ⟨⟨0, (sp_2, pn_3, pch_4, vp_updL ov (0 : Int32).toNatClampNeg (r_1.toInt64)), rfl, h, by rw [ht]; exact hP9, va_K.moved hW.alike hK, hD9⟩, hS.F ht⟩) hS.2.2 dL_setPrice_16
-- L_longest
theorem qL_longest_0 : Cond.classLink RL 28 "java/lang/IndexOutOfBoundsException" ∈ wsL_longest := (List.mem_cons_of_mem _ (List.mem_append_left _ (List.mem_append_left _ (List.mem_append_left _ (List.mem_append_left _ (List.mem_append_left _ (List.mem_append_left _ (List.mem_of_getElem? (i := 0) rfl))))))))
def wpL_longest (tn : Int32) (tb : Nat → Int32) (sw : Int32) (sl : Int32) (sg : Int32) (ov : Nat → Int64) (v1 : Int32) (post : Int32 → (Nat → Int64) → Prop) : Prop := wpX9_longest tn tb sw sl sg v1 (fun (r_1 : Int32) => post 0 (vp_updL ov (0 : Int32).toNatClampNeg (r_1.toInt64))) (fun (E9 : String) => (E9 = xI ∧ (post 1 ov)))
set_option maxHeartbeats 4000000 in
set_option maxRecDepth 100000 in
theorem mtL_longest (l : Launch) (hlt : l.stackTraces = false) (dC : Nat → ClassId) (dI : Nat → Nat → Nat) (cyI cyJ cyD : ClassId) {aX aT aTb aS aF aQ aW aP aB aR aO : Nat} {sz : Nat} {tn : Int32} {tb : Nat → Int32} {sw : Int32} {sl : Int32} {sg : Int32} {sp : Int32} {ov : Nat → Int64} {v1 : Int32} {post : Int32 → (Nat → Int64) → Prop} (h : wpL_longest tn tb sw sl sg ov v1 post) : vx_Met l yL_longest wsL_longest ({ frames := 7, cells := 1, slots := 6, locals := 103 }) (va_Pc [.ref aX, .int v1, .ref aO] (wk_BX (dC, dI) [(cyI, .int), (cyJ, .long), (cyD, .double)] [(aX, .inr (8, [.ref aT, .ref aS, .ref aF, .ref aQ, .ref aW, .ref aP, .ref aB, .ref aR])), (aT, .inr (7, [.ref aTb, .int tn])), (aTb, .inl (cyI, 64, .inl tb)), (aS, .inr (6, [.int sw, .int sl, .int sg, .int sp])), (aF, .inr (2, [.ref aT, .ref aS])), (aO, .inl (cyJ, 1, .inr (.inl ov)))] sz)) (va_Qi (fun (r : Int32) (u : (Nat → Int64)) => post r u) (wk_C (dC, dI) [(cyI, .int), (cyJ, .long), (cyD, .double)] (va_A [(aX, .inr (8, [.ref aT, .ref aS, .ref aF, .ref aQ, .ref aW, .ref aP, .ref aB, .ref aR])), (aT, .inr (7, [.ref aTb, .int tn])), (aTb, .inl (cyI, 64, .inl tb)), (aS, .inr (6, [.int sw, .int sl, .int sg, .int sp])), (aF, .inr (2, [.ref aT, .ref aS])), (aO, .inl (cyJ, 1, .inr (.inl ov)))] sz) (fun (u : (Nat → Int64)) => [(aX, .inr (8, [.ref aT, .ref aS, .ref aF, .ref aQ, .ref aW, .ref aP, .ref aB, .ref aR])), (aT, .inr (7, [.ref aTb, .int tn])), (aTb, .inl (cyI, 64, .inl tb)), (aS, .inr (6, [.int sw, .int sl, .int sg, .int sp])), (aF, .inr (2, [.ref aT, .ref aS])), (aO, .inl (cyJ, 1, .inr (.inl (u))))])) (va_A [(aX, .inr (8, [.ref aT, .ref aS, .ref aF, .ref aQ, .ref aW, .ref aP, .ref aB, .ref aR])), (aT, .inr (7, [.ref aTb, .int tn])), (aTb, .inl (cyI, 64, .inl tb)), (aS, .inr (6, [.int sw, .int sl, .int sg, .int sp])), (aF, .inr (2, [.ref aT, .ref aS])), (aO, .inl (cyJ, 1, .inr (.inl ov)))] sz)) (vx_X (fun (_ : String) => False) (wk_X (dC, dI) [(cyI, .int), (cyJ, .long), (cyD, .double)] (va_A [(aX, .inr (8, [.ref aT, .ref aS, .ref aF, .ref aQ, .ref aW, .ref aP, .ref aB, .ref aR])), (aT, .inr (7, [.ref aTb, .int tn])), (aTb, .inl (cyI, 64, .inl tb)), (aS, .inr (6, [.int sw, .int sl, .int sg, .int sp])), (aF, .inr (2, [.ref aT, .ref aS])), (aO, .inl (cyJ, 1, .inr (.inl ov)))] sz) [(aX, .inr (8, [.ref aT, .ref aS, .ref aF, .ref aQ, .ref aW, .ref aP, .ref aB, .ref aR])), (aT, .inr (7, [.ref aTb, .int tn])), (aTb, .inl (cyI, 64, .inl tb)), (aS, .inr (6, [.int sw, .int sl, .int sg, .int sp])), (aF, .inr (2, [.ref aT, .ref aS])), (aO, .inl (cyJ, 1, .inr (.inl ov)))]) (va_A [(aX, .inr (8, [.ref aT, .ref aS, .ref aF, .ref aQ, .ref aW, .ref aP, .ref aB, .ref aR])), (aT, .inr (7, [.ref aTb, .int tn])), (aTb, .inl (cyI, 64, .inl tb)), (aS, .inr (6, [.int sw, .int sl, .int sg, .int sp])), (aF, .inr (2, [.ref aT, .ref aS])), (aO, .inl (cyJ, 1, .inr (.inl ov)))] sz)) 1 6 (va_A [(aX, .inr (8, [.ref aT, .ref aS, .ref aF, .ref aQ, .ref aW, .ref aP, .ref aB, .ref aR])), (aT, .inr (7, [.ref aTb, .int tn])), (aTb, .inl (cyI, 64, .inl tb)), (aS, .inr (6, [.int sw, .int sl, .int sg, .int sp])), (aF, .inr (2, [.ref aT, .ref aS])), (aO, .inl (cyJ, 1, .inr (.inl ov)))] sz) := by
  refine vx_ofWH (cc := cL_longest) (maxL := 4) (ret := (some .int)) (by decide) rfl ?_
  intro p e s m args below meth c s₁ B hml hv
  obtain ⟨rfl, ⟨hsz, hP, hK, hD0⟩, hZ⟩ := hv
  have hx := B.exec
  have hb := B.bytes
  have hr := B.returns
  have hts := atoms_spec (ws := wsL_longest) B.pre
  have hown : s.vm.findClass RL = some m.cls := findClass_of_methodNamed B.named
  have htb := vx_table (x := yL_longest) B (hts _ List.mem_cons_self)
  have hlocks := B.notSynchronized
  subst hsz
  have hD := hD0.self (sz := s.heap.size)
  generalize hAe : va_A [(aX, .inr (8, [.ref aT, .ref aS, .ref aF, .ref aQ, .ref aW, .ref aP, .ref aB, .ref aR])), (aT, .inr (7, [.ref aTb, .int tn])), (aTb, .inl (cyI, 64, .inl tb)), (aS, .inr (6, [.int sw, .int sl, .int sg, .int sp])), (aF, .inr (2, [.ref aT, .ref aS])), (aO, .inl (cyJ, 1, .inr (.inl ov)))] s.heap.size = A at hD hZ ⊢
  have hA : ∀ q : Nat, s.heap.size ≤ q → A q := fun q h => by rw [← hAe]; exact Or.inr h
  have hS : va_S A s.heap s.heap [] := va_S.rf
  have hP : va_P (dC, dI) vwCl [(aX, .inr (8, [.ref aT, .ref aS, .ref aF, .ref aQ, .ref aW, .ref aP, .ref aB, .ref aR])), (aT, .inr (7, [.ref aTb, .int tn])), (aTb, .inl (cyI, 64, .inl tb)), (aS, .inr (6, [.int sw, .int sl, .int sg, .int sp])), (aF, .inr (2, [.ref aT, .ref aS])), (aO, .inl (cyJ, 1, .inr (.inl ov)))] s.heap := hP
  have hl := lv_entry ([.ref aX, .int v1, .ref aO]) (n := 4) (Nat.le_of_ble_eq_true rfl)
  rw [lg_entry_eq]
  generalize (lg_sl ([.ref aX, .int v1, .ref aO]) ++ List.replicate (4 - (lg_sl ([.ref aX, .int v1, .ref aO])).length) Slot.unset).toArray = ls at hl ⊢
  have hl : lv_has ls 4 [(0, .ref aX), (1, .int v1), (2, .ref aO)] := hl
  have C0 : CallFix p m c cL_longest 4 s ([.ref aX, .int v1, .ref aO] : List Value).toArray wsL_longest RL := ⟨hx, hb, hml, hown, hts⟩
  unfold wpL_longest at h
  refine lv_aload_n hx hb dL_longest_0 rfl (lv_at hl 2 rfl) ?_
  refine lv_iconst (v := 0) hx hb dL_longest_1 (by decide) ?_
  refine lv_aload_n hx hb dL_longest_2 rfl (lv_at hl 0 rfl) ?_
  refine lv_iload_n hx hb dL_longest_3 rfl (lv_at hl 1 rfl) ?_
  refine wk_xcalli (wc := [(aX, .inr (8, [.ref aT, .ref aS, .ref aF, .ref aQ, .ref aW, .ref aP, .ref aB, .ref aR])), (aT, .inr (7, [.ref aTb, .int tn])), (aTb, .inl (cyI, 64, .inl tb)), (aS, .inr (6, [.int sw, .int sl, .int sg, .int sp])), (aF, .inr (2, [.ref aT, .ref aS]))]) (wr := [(aO, .inl (cyJ, 1, .inr (.inl ov)))]) (vx_runV (As := [.int v1]) (rest := [.int 0, .ref aO]) C0 (mtX9_longest l hlt dC dI cyI (aX := aX) (aT := aT) (aTb := aTb) (aS := aS) (aF := aF) (aQ := aQ) (aW := aW) (aP := aP) (aB := aB) (aR := aR) (sz := _) (tn := tn) (tb := tb) (sw := sw) (sl := sl) (sg := sg) (sp := sp) (v1 := v1) h) (cwV 1 hts gL_longest_X9_longest rfl rfl rfl (by decide +kernel) ⟨(Nat.le_of_ble_eq_true rfl), (Nat.le_of_ble_eq_true rfl)⟩) (wk_preVX (wc := [(aX, .inr (8, [.ref aT, .ref aS, .ref aF, .ref aQ, .ref aW, .ref aP, .ref aB, .ref aR])), (aT, .inr (7, [.ref aTb, .int tn])), (aTb, .inl (cyI, 64, .inl tb)), (aS, .inr (6, [.int sw, .int sl, .int sg, .int sp])), (aF, .inr (2, [.ref aT, .ref aS]))]) (hK.sub (tys' := [(cyI, .int)]) [0] rfl) hP hD hS hA hZ [0, 1, 2, 3, 4] rfl (by decide) (va_recv hK hP (ci := 8) (q0 := 0) rfl rfl)) rfl rfl hl.1 rfl (lv_room (Nat.le_of_ble_eq_true rfl)) dL_longest_4 ⟨(Nat.le_of_ble_eq_true rfl), (Nat.le_of_ble_eq_true rfl)⟩) hP hD hS hA [0, 1, 2, 3, 4] [5] rfl rfl (by decide) (by decide) (fun E9 ce9 q9 H locs h hP hD hS hc1 hc2 hc3 => ?_) (fun r_1 u9 H locs h hP hD hS => ?_)
  · have hP : va_P (dC, dI) vwCl [(aO, .inl (cyJ, 1, .inr (.inl ov))), (aX, .inr (8, [.ref aT, .ref aS, .ref aF, .ref aQ, .ref aW, .ref aP, .ref aB, .ref aR])), (aT, .inr (7, [.ref aTb, .int tn])), (aTb, .inl (cyI, 64, .inl tb)), (aS, .inr (6, [.int sw, .int sl, .int sg, .int sp])), (aF, .inr (2, [.ref aT, .ref aS]))] H := hP
    have hD : va_D A [(aO, .inl (cyJ, 1, .inr (.inl ov))), (aX, .inr (8, [.ref aT, .ref aS, .ref aF, .ref aQ, .ref aW, .ref aP, .ref aB, .ref aR])), (aT, .inr (7, [.ref aTb, .int tn])), (aTb, .inl (cyI, 64, .inl tb)), (aS, .inr (6, [.int sw, .int sl, .int sg, .int sp])), (aF, .inr (2, [.ref aT, .ref aS]))] := hD
    obtain ⟨rfl, h⟩ := h
    refine vx_catch (name := xI) hown [] ⟨0, 9, 12, 28⟩ [] (by rw [htb]; rfl) (fun z hz => nomatch hz) (by decide) (by decide) (hts _ qL_longest_0) (hZ.use _ _ (List.mem_of_getElem? (i := 2) rfl)) hc1 hc2 hc3 ?_
    refine lv_astore_n (lv' := [(3, .ref q9), (0, .ref aX), (1, .int v1), (2, .ref aO)]) hx hb dL_longest_12 rfl hl (by decide) rfl (fun ls hl => ?_)
    refine lv_iconst (v := 1) hx hb dL_longest_13 (by decide) ?_
    have hP9 : va_P (dC, dI) vwCl [(aX, .inr (8, [.ref aT, .ref aS, .ref aF, .ref aQ, .ref aW, .ref aP, .ref aB, .ref aR])), (aT, .inr (7, [.ref aTb, .int tn])), (aTb, .inl (cyI, 64, .inl tb)), (aS, .inr (6, [.int sw, .int sl, .int sg, .int sp])), (aF, .inr (2, [.ref aT, .ref aS])), (aO, .inl (cyJ, 1, .inr (.inl ov)))] _ := (hP.sub [1, 2, 3, 4, 5, 0] rfl)
    have hD9 : va_D A [(aX, .inr (8, [.ref aT, .ref aS, .ref aF, .ref aQ, .ref aW, .ref aP, .ref aB, .ref aR])), (aT, .inr (7, [.ref aTb, .int tn])), (aTb, .inl (cyI, 64, .inl tb)), (aS, .inr (6, [.int sw, .int sl, .int sg, .int sp])), (aF, .inr (2, [.ref aT, .ref aS])), (aO, .inl (cyJ, 1, .inr (.inl ov)))] := (hD.sub [1, 2, 3, 4, 5, 0] (by decide) rfl)
    refine vx_ret ?_
    refine W.widen (k := 1) (n := 6) (Nat.le_of_ble_eq_true rfl) (Nat.le_of_ble_eq_true rfl) ?_
    exact W.iret (v := 1) hx hb hr (fun t ht hW => ⟨⟨1, ov, rfl, h, by rw [ht]; exact hP9, va_K.moved hW.alike hK, hD9⟩, hS.F ht⟩) hS.2.2 dL_longest_14
  have hP : va_P (dC, dI) vwCl [(aO, .inl (cyJ, 1, .inr (.inl ov))), (aX, .inr (8, [.ref aT, .ref aS, .ref aF, .ref aQ, .ref aW, .ref aP, .ref aB, .ref aR])), (aT, .inr (7, [.ref aTb, .int tn])), (aTb, .inl (cyI, 64, .inl tb)), (aS, .inr (6, [.int sw, .int sl, .int sg, .int sp])), (aF, .inr (2, [.ref aT, .ref aS]))] H := hP
  have hD : va_D A [(aO, .inl (cyJ, 1, .inr (.inl ov))), (aX, .inr (8, [.ref aT, .ref aS, .ref aF, .ref aQ, .ref aW, .ref aP, .ref aB, .ref aR])), (aT, .inr (7, [.ref aTb, .int tn])), (aTb, .inl (cyI, 64, .inl tb)), (aS, .inr (6, [.int sw, .int sl, .int sg, .int sp])), (aF, .inr (2, [.ref aT, .ref aS]))] := hD
  refine lv_i2l hx hb dL_longest_7 rfl ?_
  refine va_last hx hb hK hP hD hS 0 1 rfl rfl wk_in01 dL_longest_8 (fun H locs hP hD hS => ?_)
  have hP : va_P (dC, dI) vwCl [(aO, .inl (cyJ, 1, .inr (.inl (vp_updL ov (0 : Int32).toNatClampNeg (r_1.toInt64))))), (aX, .inr (8, [.ref aT, .ref aS, .ref aF, .ref aQ, .ref aW, .ref aP, .ref aB, .ref aR])), (aT, .inr (7, [.ref aTb, .int tn])), (aTb, .inl (cyI, 64, .inl tb)), (aS, .inr (6, [.int sw, .int sl, .int sg, .int sp])), (aF, .inr (2, [.ref aT, .ref aS]))] H := hP
  have hD : va_D A [(aO, .inl (cyJ, 1, .inr (.inl (vp_updL ov (0 : Int32).toNatClampNeg (r_1.toInt64))))), (aX, .inr (8, [.ref aT, .ref aS, .ref aF, .ref aQ, .ref aW, .ref aP, .ref aB, .ref aR])), (aT, .inr (7, [.ref aTb, .int tn])), (aTb, .inl (cyI, 64, .inl tb)), (aS, .inr (6, [.int sw, .int sl, .int sg, .int sp])), (aF, .inr (2, [.ref aT, .ref aS]))] := hD
  refine lv_goto (tgt := 15) hx hb dL_longest_9 (by decide) ?_
  refine lv_iconst (v := 0) hx hb dL_longest_15 (by decide) ?_
  have hP9 : va_P (dC, dI) vwCl [(aX, .inr (8, [.ref aT, .ref aS, .ref aF, .ref aQ, .ref aW, .ref aP, .ref aB, .ref aR])), (aT, .inr (7, [.ref aTb, .int tn])), (aTb, .inl (cyI, 64, .inl tb)), (aS, .inr (6, [.int sw, .int sl, .int sg, .int sp])), (aF, .inr (2, [.ref aT, .ref aS])), (aO, .inl (cyJ, 1, .inr (.inl (vp_updL ov (0 : Int32).toNatClampNeg (r_1.toInt64)))))] _ := (hP.sub [1, 2, 3, 4, 5, 0] rfl)
  have hD9 : va_D A [(aX, .inr (8, [.ref aT, .ref aS, .ref aF, .ref aQ, .ref aW, .ref aP, .ref aB, .ref aR])), (aT, .inr (7, [.ref aTb, .int tn])), (aTb, .inl (cyI, 64, .inl tb)), (aS, .inr (6, [.int sw, .int sl, .int sg, .int sp])), (aF, .inr (2, [.ref aT, .ref aS])), (aO, .inl (cyJ, 1, .inr (.inl (vp_updL ov (0 : Int32).toNatClampNeg (r_1.toInt64)))))] := (hD.sub [1, 2, 3, 4, 5, 0] (by decide) rfl)
  refine vx_ret ?_
  refine W.widen (k := 1) (n := 6) (Nat.le_of_ble_eq_true rfl) (Nat.le_of_ble_eq_true rfl) ?_
  exact W.iret (v := 0) hx hb hr (fun t ht hW => ⟨⟨0, vp_updL ov (0 : Int32).toNatClampNeg (r_1.toInt64), rfl, h, by rw [ht]; exact hP9, va_K.moved hW.alike hK, hD9⟩, hS.F ht⟩) hS.2.2 dL_longest_16
-- L_nearest
theorem qL_nearest_0 : Cond.classLink RL 28 "java/lang/IndexOutOfBoundsException" ∈ wsL_nearest := (List.mem_cons_of_mem _ (List.mem_append_left _ (List.mem_append_left _ (List.mem_append_left _ (List.mem_append_left _ (List.mem_append_left _ (List.mem_append_left _ (List.mem_of_getElem? (i := 0) rfl))))))))
def wpL_nearest (tn : Int32) (tb : Nat → Int32) (sw : Int32) (sl : Int32) (sg : Int32) (ov : Nat → Int64) (v1 : Int32) (post : Int32 → (Nat → Int64) → Prop) : Prop := wpX9_nearest tn tb sw sl sg v1 (fun (r_1 : Int32) => post 0 (vp_updL ov (0 : Int32).toNatClampNeg (r_1.toInt64))) (fun (E9 : String) => (E9 = xI ∧ (post 1 ov)))
set_option maxHeartbeats 4000000 in
set_option maxRecDepth 100000 in
theorem mtL_nearest (l : Launch) (hlt : l.stackTraces = false) (dC : Nat → ClassId) (dI : Nat → Nat → Nat) (cyI cyJ cyD : ClassId) {aX aT aTb aS aF aQ aW aP aB aR aO : Nat} {sz : Nat} {tn : Int32} {tb : Nat → Int32} {sw : Int32} {sl : Int32} {sg : Int32} {sp : Int32} {ov : Nat → Int64} {v1 : Int32} {post : Int32 → (Nat → Int64) → Prop} (h : wpL_nearest tn tb sw sl sg ov v1 post) : vx_Met l yL_nearest wsL_nearest ({ frames := 7, cells := 1, slots := 6, locals := 103 }) (va_Pc [.ref aX, .int v1, .ref aO] (wk_BX (dC, dI) [(cyI, .int), (cyJ, .long), (cyD, .double)] [(aX, .inr (8, [.ref aT, .ref aS, .ref aF, .ref aQ, .ref aW, .ref aP, .ref aB, .ref aR])), (aT, .inr (7, [.ref aTb, .int tn])), (aTb, .inl (cyI, 64, .inl tb)), (aS, .inr (6, [.int sw, .int sl, .int sg, .int sp])), (aF, .inr (2, [.ref aT, .ref aS])), (aO, .inl (cyJ, 1, .inr (.inl ov)))] sz)) (va_Qi (fun (r : Int32) (u : (Nat → Int64)) => post r u) (wk_C (dC, dI) [(cyI, .int), (cyJ, .long), (cyD, .double)] (va_A [(aX, .inr (8, [.ref aT, .ref aS, .ref aF, .ref aQ, .ref aW, .ref aP, .ref aB, .ref aR])), (aT, .inr (7, [.ref aTb, .int tn])), (aTb, .inl (cyI, 64, .inl tb)), (aS, .inr (6, [.int sw, .int sl, .int sg, .int sp])), (aF, .inr (2, [.ref aT, .ref aS])), (aO, .inl (cyJ, 1, .inr (.inl ov)))] sz) (fun (u : (Nat → Int64)) => [(aX, .inr (8, [.ref aT, .ref aS, .ref aF, .ref aQ, .ref aW, .ref aP, .ref aB, .ref aR])), (aT, .inr (7, [.ref aTb, .int tn])), (aTb, .inl (cyI, 64, .inl tb)), (aS, .inr (6, [.int sw, .int sl, .int sg, .int sp])), (aF, .inr (2, [.ref aT, .ref aS])), (aO, .inl (cyJ, 1, .inr (.inl (u))))])) (va_A [(aX, .inr (8, [.ref aT, .ref aS, .ref aF, .ref aQ, .ref aW, .ref aP, .ref aB, .ref aR])), (aT, .inr (7, [.ref aTb, .int tn])), (aTb, .inl (cyI, 64, .inl tb)), (aS, .inr (6, [.int sw, .int sl, .int sg, .int sp])), (aF, .inr (2, [.ref aT, .ref aS])), (aO, .inl (cyJ, 1, .inr (.inl ov)))] sz)) (vx_X (fun (_ : String) => False) (wk_X (dC, dI) [(cyI, .int), (cyJ, .long), (cyD, .double)] (va_A [(aX, .inr (8, [.ref aT, .ref aS, .ref aF, .ref aQ, .ref aW, .ref aP, .ref aB, .ref aR])), (aT, .inr (7, [.ref aTb, .int tn])), (aTb, .inl (cyI, 64, .inl tb)), (aS, .inr (6, [.int sw, .int sl, .int sg, .int sp])), (aF, .inr (2, [.ref aT, .ref aS])), (aO, .inl (cyJ, 1, .inr (.inl ov)))] sz) [(aX, .inr (8, [.ref aT, .ref aS, .ref aF, .ref aQ, .ref aW, .ref aP, .ref aB, .ref aR])), (aT, .inr (7, [.ref aTb, .int tn])), (aTb, .inl (cyI, 64, .inl tb)), (aS, .inr (6, [.int sw, .int sl, .int sg, .int sp])), (aF, .inr (2, [.ref aT, .ref aS])), (aO, .inl (cyJ, 1, .inr (.inl ov)))]) (va_A [(aX, .inr (8, [.ref aT, .ref aS, .ref aF, .ref aQ, .ref aW, .ref aP, .ref aB, .ref aR])), (aT, .inr (7, [.ref aTb, .int tn])), (aTb, .inl (cyI, 64, .inl tb)), (aS, .inr (6, [.int sw, .int sl, .int sg, .int sp])), (aF, .inr (2, [.ref aT, .ref aS])), (aO, .inl (cyJ, 1, .inr (.inl ov)))] sz)) 1 6 (va_A [(aX, .inr (8, [.ref aT, .ref aS, .ref aF, .ref aQ, .ref aW, .ref aP, .ref aB, .ref aR])), (aT, .inr (7, [.ref aTb, .int tn])), (aTb, .inl (cyI, 64, .inl tb)), (aS, .inr (6, [.int sw, .int sl, .int sg, .int sp])), (aF, .inr (2, [.ref aT, .ref aS])), (aO, .inl (cyJ, 1, .inr (.inl ov)))] sz) := by
  refine vx_ofWH (cc := cL_nearest) (maxL := 4) (ret := (some .int)) (by decide) rfl ?_
  intro p e s m args below meth c s₁ B hml hv
  obtain ⟨rfl, ⟨hsz, hP, hK, hD0⟩, hZ⟩ := hv
  have hx := B.exec
  have hb := B.bytes
  have hr := B.returns
  have hts := atoms_spec (ws := wsL_nearest) B.pre
  have hown : s.vm.findClass RL = some m.cls := findClass_of_methodNamed B.named
  have htb := vx_table (x := yL_nearest) B (hts _ List.mem_cons_self)
  have hlocks := B.notSynchronized
  subst hsz
  have hD := hD0.self (sz := s.heap.size)
  generalize hAe : va_A [(aX, .inr (8, [.ref aT, .ref aS, .ref aF, .ref aQ, .ref aW, .ref aP, .ref aB, .ref aR])), (aT, .inr (7, [.ref aTb, .int tn])), (aTb, .inl (cyI, 64, .inl tb)), (aS, .inr (6, [.int sw, .int sl, .int sg, .int sp])), (aF, .inr (2, [.ref aT, .ref aS])), (aO, .inl (cyJ, 1, .inr (.inl ov)))] s.heap.size = A at hD hZ ⊢
  have hA : ∀ q : Nat, s.heap.size ≤ q → A q := fun q h => by rw [← hAe]; exact Or.inr h
  have hS : va_S A s.heap s.heap [] := va_S.rf
  have hP : va_P (dC, dI) vwCl [(aX, .inr (8, [.ref aT, .ref aS, .ref aF, .ref aQ, .ref aW, .ref aP, .ref aB, .ref aR])), (aT, .inr (7, [.ref aTb, .int tn])), (aTb, .inl (cyI, 64, .inl tb)), (aS, .inr (6, [.int sw, .int sl, .int sg, .int sp])), (aF, .inr (2, [.ref aT, .ref aS])), (aO, .inl (cyJ, 1, .inr (.inl ov)))] s.heap := hP
  have hl := lv_entry ([.ref aX, .int v1, .ref aO]) (n := 4) (Nat.le_of_ble_eq_true rfl)
  rw [lg_entry_eq]
  generalize (lg_sl ([.ref aX, .int v1, .ref aO]) ++ List.replicate (4 - (lg_sl ([.ref aX, .int v1, .ref aO])).length) Slot.unset).toArray = ls at hl ⊢
  have hl : lv_has ls 4 [(0, .ref aX), (1, .int v1), (2, .ref aO)] := hl
  have C0 : CallFix p m c cL_nearest 4 s ([.ref aX, .int v1, .ref aO] : List Value).toArray wsL_nearest RL := ⟨hx, hb, hml, hown, hts⟩
  unfold wpL_nearest at h
  refine lv_aload_n hx hb dL_nearest_0 rfl (lv_at hl 2 rfl) ?_
  refine lv_iconst (v := 0) hx hb dL_nearest_1 (by decide) ?_
  refine lv_aload_n hx hb dL_nearest_2 rfl (lv_at hl 0 rfl) ?_
  refine lv_iload_n hx hb dL_nearest_3 rfl (lv_at hl 1 rfl) ?_
  refine wk_xcalli (wc := [(aX, .inr (8, [.ref aT, .ref aS, .ref aF, .ref aQ, .ref aW, .ref aP, .ref aB, .ref aR])), (aT, .inr (7, [.ref aTb, .int tn])), (aTb, .inl (cyI, 64, .inl tb)), (aS, .inr (6, [.int sw, .int sl, .int sg, .int sp])), (aF, .inr (2, [.ref aT, .ref aS]))]) (wr := [(aO, .inl (cyJ, 1, .inr (.inl ov)))]) (vx_runV (As := [.int v1]) (rest := [.int 0, .ref aO]) C0 (mtX9_nearest l hlt dC dI cyI (aX := aX) (aT := aT) (aTb := aTb) (aS := aS) (aF := aF) (aQ := aQ) (aW := aW) (aP := aP) (aB := aB) (aR := aR) (sz := _) (tn := tn) (tb := tb) (sw := sw) (sl := sl) (sg := sg) (sp := sp) (v1 := v1) h) (cwV 1 hts gL_nearest_X9_nearest rfl rfl rfl (by decide +kernel) ⟨(Nat.le_of_ble_eq_true rfl), (Nat.le_of_ble_eq_true rfl)⟩) (wk_preVX (wc := [(aX, .inr (8, [.ref aT, .ref aS, .ref aF, .ref aQ, .ref aW, .ref aP, .ref aB, .ref aR])), (aT, .inr (7, [.ref aTb, .int tn])), (aTb, .inl (cyI, 64, .inl tb)), (aS, .inr (6, [.int sw, .int sl, .int sg, .int sp])), (aF, .inr (2, [.ref aT, .ref aS]))]) (hK.sub (tys' := [(cyI, .int)]) [0] rfl) hP hD hS hA hZ [0, 1, 2, 3, 4] rfl (by decide) (va_recv hK hP (ci := 8) (q0 := 0) rfl rfl)) rfl rfl hl.1 rfl (lv_room (Nat.le_of_ble_eq_true rfl)) dL_nearest_4 ⟨(Nat.le_of_ble_eq_true rfl), (Nat.le_of_ble_eq_true rfl)⟩) hP hD hS hA [0, 1, 2, 3, 4] [5] rfl rfl (by decide) (by decide) (fun E9 ce9 q9 H locs h hP hD hS hc1 hc2 hc3 => ?_) (fun r_1 u9 H locs h hP hD hS => ?_)
  · have hP : va_P (dC, dI) vwCl [(aO, .inl (cyJ, 1, .inr (.inl ov))), (aX, .inr (8, [.ref aT, .ref aS, .ref aF, .ref aQ, .ref aW, .ref aP, .ref aB, .ref aR])), (aT, .inr (7, [.ref aTb, .int tn])), (aTb, .inl (cyI, 64, .inl tb)), (aS, .inr (6, [.int sw, .int sl, .int sg, .int sp])), (aF, .inr (2, [.ref aT, .ref aS]))] H := hP
    have hD : va_D A [(aO, .inl (cyJ, 1, .inr (.inl ov))), (aX, .inr (8, [.ref aT, .ref aS, .ref aF, .ref aQ, .ref aW, .ref aP, .ref aB, .ref aR])), (aT, .inr (7, [.ref aTb, .int tn])), (aTb, .inl (cyI, 64, .inl tb)), (aS, .inr (6, [.int sw, .int sl, .int sg, .int sp])), (aF, .inr (2, [.ref aT, .ref aS]))] := hD
    obtain ⟨rfl, h⟩ := h
    refine vx_catch (name := xI) hown [] ⟨0, 9, 12, 28⟩ [] (by rw [htb]; rfl) (fun z hz => nomatch hz) (by decide) (by decide) (hts _ qL_nearest_0) (hZ.use _ _ (List.mem_of_getElem? (i := 2) rfl)) hc1 hc2 hc3 ?_
    refine lv_astore_n (lv' := [(3, .ref q9), (0, .ref aX), (1, .int v1), (2, .ref aO)]) hx hb dL_nearest_12 rfl hl (by decide) rfl (fun ls hl => ?_)
    refine lv_iconst (v := 1) hx hb dL_nearest_13 (by decide) ?_
    have hP9 : va_P (dC, dI) vwCl [(aX, .inr (8, [.ref aT, .ref aS, .ref aF, .ref aQ, .ref aW, .ref aP, .ref aB, .ref aR])), (aT, .inr (7, [.ref aTb, .int tn])), (aTb, .inl (cyI, 64, .inl tb)), (aS, .inr (6, [.int sw, .int sl, .int sg, .int sp])), (aF, .inr (2, [.ref aT, .ref aS])), (aO, .inl (cyJ, 1, .inr (.inl ov)))] _ := (hP.sub [1, 2, 3, 4, 5, 0] rfl)
    have hD9 : va_D A [(aX, .inr (8, [.ref aT, .ref aS, .ref aF, .ref aQ, .ref aW, .ref aP, .ref aB, .ref aR])), (aT, .inr (7, [.ref aTb, .int tn])), (aTb, .inl (cyI, 64, .inl tb)), (aS, .inr (6, [.int sw, .int sl, .int sg, .int sp])), (aF, .inr (2, [.ref aT, .ref aS])), (aO, .inl (cyJ, 1, .inr (.inl ov)))] := (hD.sub [1, 2, 3, 4, 5, 0] (by decide) rfl)
    refine vx_ret ?_
    refine W.widen (k := 1) (n := 6) (Nat.le_of_ble_eq_true rfl) (Nat.le_of_ble_eq_true rfl) ?_
    exact W.iret (v := 1) hx hb hr (fun t ht hW => ⟨⟨1, ov, rfl, h, by rw [ht]; exact hP9, va_K.moved hW.alike hK, hD9⟩, hS.F ht⟩) hS.2.2 dL_nearest_14
  have hP : va_P (dC, dI) vwCl [(aO, .inl (cyJ, 1, .inr (.inl ov))), (aX, .inr (8, [.ref aT, .ref aS, .ref aF, .ref aQ, .ref aW, .ref aP, .ref aB, .ref aR])), (aT, .inr (7, [.ref aTb, .int tn])), (aTb, .inl (cyI, 64, .inl tb)), (aS, .inr (6, [.int sw, .int sl, .int sg, .int sp])), (aF, .inr (2, [.ref aT, .ref aS]))] H := hP
  have hD : va_D A [(aO, .inl (cyJ, 1, .inr (.inl ov))), (aX, .inr (8, [.ref aT, .ref aS, .ref aF, .ref aQ, .ref aW, .ref aP, .ref aB, .ref aR])), (aT, .inr (7, [.ref aTb, .int tn])), (aTb, .inl (cyI, 64, .inl tb)), (aS, .inr (6, [.int sw, .int sl, .int sg, .int sp])), (aF, .inr (2, [.ref aT, .ref aS]))] := hD
  refine lv_i2l hx hb dL_nearest_7 rfl ?_
  refine va_last hx hb hK hP hD hS 0 1 rfl rfl wk_in01 dL_nearest_8 (fun H locs hP hD hS => ?_)
  have hP : va_P (dC, dI) vwCl [(aO, .inl (cyJ, 1, .inr (.inl (vp_updL ov (0 : Int32).toNatClampNeg (r_1.toInt64))))), (aX, .inr (8, [.ref aT, .ref aS, .ref aF, .ref aQ, .ref aW, .ref aP, .ref aB, .ref aR])), (aT, .inr (7, [.ref aTb, .int tn])), (aTb, .inl (cyI, 64, .inl tb)), (aS, .inr (6, [.int sw, .int sl, .int sg, .int sp])), (aF, .inr (2, [.ref aT, .ref aS]))] H := hP
  have hD : va_D A [(aO, .inl (cyJ, 1, .inr (.inl (vp_updL ov (0 : Int32).toNatClampNeg (r_1.toInt64))))), (aX, .inr (8, [.ref aT, .ref aS, .ref aF, .ref aQ, .ref aW, .ref aP, .ref aB, .ref aR])), (aT, .inr (7, [.ref aTb, .int tn])), (aTb, .inl (cyI, 64, .inl tb)), (aS, .inr (6, [.int sw, .int sl, .int sg, .int sp])), (aF, .inr (2, [.ref aT, .ref aS]))] := hD
  refine lv_goto (tgt := 15) hx hb dL_nearest_9 (by decide) ?_
  refine lv_iconst (v := 0) hx hb dL_nearest_15 (by decide) ?_
  have hP9 : va_P (dC, dI) vwCl [(aX, .inr (8, [.ref aT, .ref aS, .ref aF, .ref aQ, .ref aW, .ref aP, .ref aB, .ref aR])), (aT, .inr (7, [.ref aTb, .int tn])), (aTb, .inl (cyI, 64, .inl tb)), (aS, .inr (6, [.int sw, .int sl, .int sg, .int sp])), (aF, .inr (2, [.ref aT, .ref aS])), (aO, .inl (cyJ, 1, .inr (.inl (vp_updL ov (0 : Int32).toNatClampNeg (r_1.toInt64)))))] _ := (hP.sub [1, 2, 3, 4, 5, 0] rfl)
  have hD9 : va_D A [(aX, .inr (8, [.ref aT, .ref aS, .ref aF, .ref aQ, .ref aW, .ref aP, .ref aB, .ref aR])), (aT, .inr (7, [.ref aTb, .int tn])), (aTb, .inl (cyI, 64, .inl tb)), (aS, .inr (6, [.int sw, .int sl, .int sg, .int sp])), (aF, .inr (2, [.ref aT, .ref aS])), (aO, .inl (cyJ, 1, .inr (.inl (vp_updL ov (0 : Int32).toNatClampNeg (r_1.toInt64)))))] := (hD.sub [1, 2, 3, 4, 5, 0] (by decide) rfl)
  refine vx_ret ?_
  refine W.widen (k := 1) (n := 6) (Nat.le_of_ble_eq_true rfl) (Nat.le_of_ble_eq_true rfl) ?_
  exact W.iret (v := 0) hx hb hr (fun t ht hW => ⟨⟨0, vp_updL ov (0 : Int32).toNatClampNeg (r_1.toInt64), rfl, h, by rw [ht]; exact hP9, va_K.moved hW.alike hK, hD9⟩, hS.F ht⟩) hS.2.2 dL_nearest_16
-- L_common
theorem qL_common_0 : Cond.classLink RL 28 "java/lang/IndexOutOfBoundsException" ∈ wsL_common := (List.mem_cons_of_mem _ (List.mem_append_left _ (List.mem_append_left _ (List.mem_append_left _ (List.mem_append_left _ (List.mem_of_getElem? (i := 0) rfl))))))
theorem qL_common_1 : Cond.classLink RL 13 "java/lang/IllegalArgumentException" ∈ wsL_common := (List.mem_cons_of_mem _ (List.mem_append_left _ (List.mem_append_left _ (List.mem_append_left _ (List.mem_append_left _ (List.mem_of_getElem? (i := 1) rfl))))))
def wpL_common (tn : Int32) (tb : Nat → Int32) (ov : Nat → Int64) (v1 : Int32) (v2 : Int32) (post : Int32 → (Nat → Int64) → Prop) : Prop := wpX9_common tn tb v1 v2 (fun (r_1 : Int32) => post 0 (vp_updL ov (0 : Int32).toNatClampNeg (r_1.toInt64))) (fun (E9 : String) => (E9 = xI ∧ (post 1 ov)) ∨ (E9 = xA ∧ (post 2 ov)))
set_option maxHeartbeats 4000000 in
set_option maxRecDepth 100000 in
theorem mtL_common (l : Launch) (hlt : l.stackTraces = false) (dC : Nat → ClassId) (dI : Nat → Nat → Nat) (cyI cyJ cyD : ClassId) {aX aT aTb aS aF aQ aW aP aB aR aO : Nat} {sz : Nat} {tn : Int32} {tb : Nat → Int32} {ov : Nat → Int64} {v1 : Int32} {v2 : Int32} {post : Int32 → (Nat → Int64) → Prop} (h : wpL_common tn tb ov v1 v2 post) : vx_Met l yL_common wsL_common ({ frames := 7, cells := 1, slots := 6, locals := 104 }) (va_Pc [.ref aX, .int v1, .int v2, .ref aO] (wk_BX (dC, dI) [(cyI, .int), (cyJ, .long), (cyD, .double)] [(aX, .inr (8, [.ref aT, .ref aS, .ref aF, .ref aQ, .ref aW, .ref aP, .ref aB, .ref aR])), (aT, .inr (7, [.ref aTb, .int tn])), (aTb, .inl (cyI, 64, .inl tb)), (aO, .inl (cyJ, 1, .inr (.inl ov)))] sz)) (va_Qi (fun (r : Int32) (u : (Nat → Int64)) => post r u) (wk_C (dC, dI) [(cyI, .int), (cyJ, .long), (cyD, .double)] (va_A [(aX, .inr (8, [.ref aT, .ref aS, .ref aF, .ref aQ, .ref aW, .ref aP, .ref aB, .ref aR])), (aT, .inr (7, [.ref aTb, .int tn])), (aTb, .inl (cyI, 64, .inl tb)), (aO, .inl (cyJ, 1, .inr (.inl ov)))] sz) (fun (u : (Nat → Int64)) => [(aX, .inr (8, [.ref aT, .ref aS, .ref aF, .ref aQ, .ref aW, .ref aP, .ref aB, .ref aR])), (aT, .inr (7, [.ref aTb, .int tn])), (aTb, .inl (cyI, 64, .inl tb)), (aO, .inl (cyJ, 1, .inr (.inl (u))))])) (va_A [(aX, .inr (8, [.ref aT, .ref aS, .ref aF, .ref aQ, .ref aW, .ref aP, .ref aB, .ref aR])), (aT, .inr (7, [.ref aTb, .int tn])), (aTb, .inl (cyI, 64, .inl tb)), (aO, .inl (cyJ, 1, .inr (.inl ov)))] sz)) (vx_X (fun (_ : String) => False) (wk_X (dC, dI) [(cyI, .int), (cyJ, .long), (cyD, .double)] (va_A [(aX, .inr (8, [.ref aT, .ref aS, .ref aF, .ref aQ, .ref aW, .ref aP, .ref aB, .ref aR])), (aT, .inr (7, [.ref aTb, .int tn])), (aTb, .inl (cyI, 64, .inl tb)), (aO, .inl (cyJ, 1, .inr (.inl ov)))] sz) [(aX, .inr (8, [.ref aT, .ref aS, .ref aF, .ref aQ, .ref aW, .ref aP, .ref aB, .ref aR])), (aT, .inr (7, [.ref aTb, .int tn])), (aTb, .inl (cyI, 64, .inl tb)), (aO, .inl (cyJ, 1, .inr (.inl ov)))]) (va_A [(aX, .inr (8, [.ref aT, .ref aS, .ref aF, .ref aQ, .ref aW, .ref aP, .ref aB, .ref aR])), (aT, .inr (7, [.ref aTb, .int tn])), (aTb, .inl (cyI, 64, .inl tb)), (aO, .inl (cyJ, 1, .inr (.inl ov)))] sz)) 1 6 (va_A [(aX, .inr (8, [.ref aT, .ref aS, .ref aF, .ref aQ, .ref aW, .ref aP, .ref aB, .ref aR])), (aT, .inr (7, [.ref aTb, .int tn])), (aTb, .inl (cyI, 64, .inl tb)), (aO, .inl (cyJ, 1, .inr (.inl ov)))] sz) := by
  refine vx_ofWH (cc := cL_common) (maxL := 5) (ret := (some .int)) (by decide) rfl ?_
  intro p e s m args below meth c s₁ B hml hv
  obtain ⟨rfl, ⟨hsz, hP, hK, hD0⟩, hZ⟩ := hv
  have hx := B.exec
  have hb := B.bytes
  have hr := B.returns
  have hts := atoms_spec (ws := wsL_common) B.pre
  have hown : s.vm.findClass RL = some m.cls := findClass_of_methodNamed B.named
  have htb := vx_table (x := yL_common) B (hts _ List.mem_cons_self)
  have hlocks := B.notSynchronized
  subst hsz
  have hD := hD0.self (sz := s.heap.size)
  generalize hAe : va_A [(aX, .inr (8, [.ref aT, .ref aS, .ref aF, .ref aQ, .ref aW, .ref aP, .ref aB, .ref aR])), (aT, .inr (7, [.ref aTb, .int tn])), (aTb, .inl (cyI, 64, .inl tb)), (aO, .inl (cyJ, 1, .inr (.inl ov)))] s.heap.size = A at hD hZ ⊢
  have hA : ∀ q : Nat, s.heap.size ≤ q → A q := fun q h => by rw [← hAe]; exact Or.inr h
  have hS : va_S A s.heap s.heap [] := va_S.rf
  have hP : va_P (dC, dI) vwCl [(aX, .inr (8, [.ref aT, .ref aS, .ref aF, .ref aQ, .ref aW, .ref aP, .ref aB, .ref aR])), (aT, .inr (7, [.ref aTb, .int tn])), (aTb, .inl (cyI, 64, .inl tb)), (aO, .inl (cyJ, 1, .inr (.inl ov)))] s.heap := hP
  have hl := lv_entry ([.ref aX, .int v1, .int v2, .ref aO]) (n := 5) (Nat.le_of_ble_eq_true rfl)
  rw [lg_entry_eq]
  generalize (lg_sl ([.ref aX, .int v1, .int v2, .ref aO]) ++ List.replicate (5 - (lg_sl ([.ref aX, .int v1, .int v2, .ref aO])).length) Slot.unset).toArray = ls at hl ⊢
  have hl : lv_has ls 5 [(0, .ref aX), (1, .int v1), (2, .int v2), (3, .ref aO)] := hl
  have C0 : CallFix p m c cL_common 5 s ([.ref aX, .int v1, .int v2, .ref aO] : List Value).toArray wsL_common RL := ⟨hx, hb, hml, hown, hts⟩
  unfold wpL_common at h
  refine lv_aload_n hx hb dL_common_0 rfl (lv_at hl 3 rfl) ?_
  refine lv_iconst (v := 0) hx hb dL_common_1 (by decide) ?_
  refine lv_aload_n hx hb dL_common_2 rfl (lv_at hl 0 rfl) ?_
  refine lv_iload_n hx hb dL_common_3 rfl (lv_at hl 1 rfl) ?_
  refine lv_iload_n hx hb dL_common_4 rfl (lv_at hl 2 rfl) ?_
  refine wk_xcalli (wc := [(aX, .inr (8, [.ref aT, .ref aS, .ref aF, .ref aQ, .ref aW, .ref aP, .ref aB, .ref aR])), (aT, .inr (7, [.ref aTb, .int tn])), (aTb, .inl (cyI, 64, .inl tb))]) (wr := [(aO, .inl (cyJ, 1, .inr (.inl ov)))]) (vx_runV (As := [.int v1, .int v2]) (rest := [.int 0, .ref aO]) C0 (mtX9_common l hlt dC dI cyI (aX := aX) (aT := aT) (aTb := aTb) (aS := aS) (aF := aF) (aQ := aQ) (aW := aW) (aP := aP) (aB := aB) (aR := aR) (sz := _) (tn := tn) (tb := tb) (v1 := v1) (v2 := v2) h) (cwV 2 hts gL_common_X9_common rfl rfl rfl (by decide +kernel) ⟨(Nat.le_of_ble_eq_true rfl), (Nat.le_of_ble_eq_true rfl)⟩) (wk_preVX (wc := [(aX, .inr (8, [.ref aT, .ref aS, .ref aF, .ref aQ, .ref aW, .ref aP, .ref aB, .ref aR])), (aT, .inr (7, [.ref aTb, .int tn])), (aTb, .inl (cyI, 64, .inl tb))]) (hK.sub (tys' := [(cyI, .int)]) [0] rfl) hP hD hS hA hZ [0, 1, 2] rfl (by decide) (va_recv hK hP (ci := 8) (q0 := 0) rfl rfl)) rfl rfl hl.1 rfl (lv_room (Nat.le_of_ble_eq_true rfl)) dL_common_5 ⟨(Nat.le_of_ble_eq_true rfl), (Nat.le_of_ble_eq_true rfl)⟩) hP hD hS hA [0, 1, 2] [3] rfl rfl (by decide) (by decide) (fun E9 ce9 q9 H locs h hP hD hS hc1 hc2 hc3 => ?_) (fun r_1 u9 H locs h hP hD hS => ?_)
  · have hP : va_P (dC, dI) vwCl [(aO, .inl (cyJ, 1, .inr (.inl ov))), (aX, .inr (8, [.ref aT, .ref aS, .ref aF, .ref aQ, .ref aW, .ref aP, .ref aB, .ref aR])), (aT, .inr (7, [.ref aTb, .int tn])), (aTb, .inl (cyI, 64, .inl tb))] H := hP
    have hD : va_D A [(aO, .inl (cyJ, 1, .inr (.inl ov))), (aX, .inr (8, [.ref aT, .ref aS, .ref aF, .ref aQ, .ref aW, .ref aP, .ref aB, .ref aR])), (aT, .inr (7, [.ref aTb, .int tn])), (aTb, .inl (cyI, 64, .inl tb))] := hD
    rcases h with ⟨rfl, h⟩ | ⟨rfl, h⟩
    · refine vx_catch (name := xI) hown [] ⟨0, 10, 13, 28⟩ [⟨0, 10, 17, 13⟩] (by rw [htb]; rfl) (fun z hz => nomatch hz) (by decide) (by decide) (hts _ qL_common_0) (hZ.use _ _ (List.mem_of_getElem? (i := 2) rfl)) hc1 hc2 hc3 ?_
      refine lv_astore (lv' := [(4, .ref q9), (0, .ref aX), (1, .int v1), (2, .int v2), (3, .ref aO)]) hx hb dL_common_13 hl (by decide) rfl (fun ls hl => ?_)
      refine lv_iconst (v := 1) hx hb dL_common_15 (by decide) ?_
      have hP9 : va_P (dC, dI) vwCl [(aX, .inr (8, [.ref aT, .ref aS, .ref aF, .ref aQ, .ref aW, .ref aP, .ref aB, .ref aR])), (aT, .inr (7, [.ref aTb, .int tn])), (aTb, .inl (cyI, 64, .inl tb)), (aO, .inl (cyJ, 1, .inr (.inl ov)))] _ := (hP.sub [1, 2, 3, 0] rfl)
      have hD9 : va_D A [(aX, .inr (8, [.ref aT, .ref aS, .ref aF, .ref aQ, .ref aW, .ref aP, .ref aB, .ref aR])), (aT, .inr (7, [.ref aTb, .int tn])), (aTb, .inl (cyI, 64, .inl tb)), (aO, .inl (cyJ, 1, .inr (.inl ov)))] := (hD.sub [1, 2, 3, 0] (by decide) rfl)
      refine vx_ret ?_
      refine W.widen (k := 1) (n := 6) (Nat.le_of_ble_eq_true rfl) (Nat.le_of_ble_eq_true rfl) ?_
      exact W.iret (v := 1) hx hb hr (fun t ht hW => ⟨⟨1, ov, rfl, h, by rw [ht]; exact hP9, va_K.moved hW.alike hK, hD9⟩, hS.F ht⟩) hS.2.2 dL_common_16
    · refine vx_catch (name := xA) hown [⟨0, 10, 13, 28⟩] ⟨0, 10, 17, 13⟩ [] (by rw [htb]; rfl) (fun z hz => by rcases List.mem_singleton.mp hz with rfl; exact Or.inr ⟨by decide, _, (hts _ qL_common_0), hZ.2.2.2.2.1⟩) (by decide) (by decide) (hts _ qL_common_1) (hZ.use _ _ (List.mem_of_getElem? (i := 0) rfl)) hc1 hc2 hc3 ?_
      refine lv_astore (lv' := [(4, .ref q9), (0, .ref aX), (1, .int v1), (2, .int v2), (3, .ref aO)]) hx hb dL_common_17 hl (by decide) rfl (fun ls hl => ?_)
      refine lv_iconst (v := 2) hx hb dL_common_19 (by decide) ?_
      have hP9 : va_P (dC, dI) vwCl [(aX, .inr (8, [.ref aT, .ref aS, .ref aF, .ref aQ, .ref aW, .ref aP, .ref aB, .ref aR])), (aT, .inr (7, [.ref aTb, .int tn])), (aTb, .inl (cyI, 64, .inl tb)), (aO, .inl (cyJ, 1, .inr (.inl ov)))] _ := (hP.sub [1, 2, 3, 0] rfl)
      have hD9 : va_D A [(aX, .inr (8, [.ref aT, .ref aS, .ref aF, .ref aQ, .ref aW, .ref aP, .ref aB, .ref aR])), (aT, .inr (7, [.ref aTb, .int tn])), (aTb, .inl (cyI, 64, .inl tb)), (aO, .inl (cyJ, 1, .inr (.inl ov)))] := (hD.sub [1, 2, 3, 0] (by decide) rfl)
      refine vx_ret ?_
      refine W.widen (k := 1) (n := 6) (Nat.le_of_ble_eq_true rfl) (Nat.le_of_ble_eq_true rfl) ?_
      exact W.iret (v := 2) hx hb hr (fun t ht hW => ⟨⟨2, ov, rfl, h, by rw [ht]; exact hP9, va_K.moved hW.alike hK, hD9⟩, hS.F ht⟩) hS.2.2 dL_common_20
  have hP : va_P (dC, dI) vwCl [(aO, .inl (cyJ, 1, .inr (.inl ov))), (aX, .inr (8, [.ref aT, .ref aS, .ref aF, .ref aQ, .ref aW, .ref aP, .ref aB, .ref aR])), (aT, .inr (7, [.ref aTb, .int tn])), (aTb, .inl (cyI, 64, .inl tb))] H := hP
  have hD : va_D A [(aO, .inl (cyJ, 1, .inr (.inl ov))), (aX, .inr (8, [.ref aT, .ref aS, .ref aF, .ref aQ, .ref aW, .ref aP, .ref aB, .ref aR])), (aT, .inr (7, [.ref aTb, .int tn])), (aTb, .inl (cyI, 64, .inl tb))] := hD
  refine lv_i2l hx hb dL_common_8 rfl ?_
  refine va_last hx hb hK hP hD hS 0 1 rfl rfl wk_in01 dL_common_9 (fun H locs hP hD hS => ?_)
  have hP : va_P (dC, dI) vwCl [(aO, .inl (cyJ, 1, .inr (.inl (vp_updL ov (0 : Int32).toNatClampNeg (r_1.toInt64))))), (aX, .inr (8, [.ref aT, .ref aS, .ref aF, .ref aQ, .ref aW, .ref aP, .ref aB, .ref aR])), (aT, .inr (7, [.ref aTb, .int tn])), (aTb, .inl (cyI, 64, .inl tb))] H := hP
  have hD : va_D A [(aO, .inl (cyJ, 1, .inr (.inl (vp_updL ov (0 : Int32).toNatClampNeg (r_1.toInt64))))), (aX, .inr (8, [.ref aT, .ref aS, .ref aF, .ref aQ, .ref aW, .ref aP, .ref aB, .ref aR])), (aT, .inr (7, [.ref aTb, .int tn])), (aTb, .inl (cyI, 64, .inl tb))] := hD
  refine lv_goto (tgt := 21) hx hb dL_common_10 (by decide) ?_
  refine lv_iconst (v := 0) hx hb dL_common_21 (by decide) ?_
  have hP9 : va_P (dC, dI) vwCl [(aX, .inr (8, [.ref aT, .ref aS, .ref aF, .ref aQ, .ref aW, .ref aP, .ref aB, .ref aR])), (aT, .inr (7, [.ref aTb, .int tn])), (aTb, .inl (cyI, 64, .inl tb)), (aO, .inl (cyJ, 1, .inr (.inl (vp_updL ov (0 : Int32).toNatClampNeg (r_1.toInt64)))))] _ := (hP.sub [1, 2, 3, 0] rfl)
  have hD9 : va_D A [(aX, .inr (8, [.ref aT, .ref aS, .ref aF, .ref aQ, .ref aW, .ref aP, .ref aB, .ref aR])), (aT, .inr (7, [.ref aTb, .int tn])), (aTb, .inl (cyI, 64, .inl tb)), (aO, .inl (cyJ, 1, .inr (.inl (vp_updL ov (0 : Int32).toNatClampNeg (r_1.toInt64)))))] := (hD.sub [1, 2, 3, 0] (by decide) rfl)
  refine vx_ret ?_
  refine W.widen (k := 1) (n := 6) (Nat.le_of_ble_eq_true rfl) (Nat.le_of_ble_eq_true rfl) ?_
  exact W.iret (v := 0) hx hb hr (fun t ht hW => ⟨⟨0, vp_updL ov (0 : Int32).toNatClampNeg (r_1.toInt64), rfl, h, by rw [ht]; exact hP9, va_K.moved hW.alike hK, hD9⟩, hS.F ht⟩) hS.2.2 dL_common_22
-- L_widthOf
theorem qL_widthOf_0 : Cond.classLink RL 13 "java/lang/IllegalArgumentException" ∈ wsL_widthOf := (List.mem_cons_of_mem _ (List.mem_append_left _ (List.mem_of_getElem? (i := 0) rfl)))
def wpL_widthOf (ov : Nat → Int64) (v1 : Int32) (post : Int32 → (Nat → Int64) → Prop) : Prop := wpX9_widthOf v1 (fun (r_1 : Int32) => post 0 (vp_updL ov (0 : Int32).toNatClampNeg (r_1.toInt64))) (fun (E9 : String) => (E9 = xA ∧ (post 1 ov)))
set_option maxHeartbeats 4000000 in
set_option maxRecDepth 100000 in
theorem mtL_widthOf (l : Launch) (hlt : l.stackTraces = false) (dC : Nat → ClassId) (dI : Nat → Nat → Nat) (cyI cyJ cyD : ClassId) {aX aT aS aF aQ aW aP aB aR aO : Nat} {sz : Nat} {ov : Nat → Int64} {v1 : Int32} {post : Int32 → (Nat → Int64) → Prop} (h : wpL_widthOf ov v1 post) : vx_Met l yL_widthOf wsL_widthOf ({ frames := 7, cells := 1, slots := 6, locals := 103 }) (va_Pc [.ref aX, .int v1, .ref aO] (wk_BX (dC, dI) [(cyI, .int), (cyJ, .long), (cyD, .double)] [(aX, .inr (8, [.ref aT, .ref aS, .ref aF, .ref aQ, .ref aW, .ref aP, .ref aB, .ref aR])), (aO, .inl (cyJ, 1, .inr (.inl ov)))] sz)) (va_Qi (fun (r : Int32) (u : (Nat → Int64)) => post r u) (wk_C (dC, dI) [(cyI, .int), (cyJ, .long), (cyD, .double)] (va_A [(aX, .inr (8, [.ref aT, .ref aS, .ref aF, .ref aQ, .ref aW, .ref aP, .ref aB, .ref aR])), (aO, .inl (cyJ, 1, .inr (.inl ov)))] sz) (fun (u : (Nat → Int64)) => [(aX, .inr (8, [.ref aT, .ref aS, .ref aF, .ref aQ, .ref aW, .ref aP, .ref aB, .ref aR])), (aO, .inl (cyJ, 1, .inr (.inl (u))))])) (va_A [(aX, .inr (8, [.ref aT, .ref aS, .ref aF, .ref aQ, .ref aW, .ref aP, .ref aB, .ref aR])), (aO, .inl (cyJ, 1, .inr (.inl ov)))] sz)) (vx_X (fun (_ : String) => False) (wk_X (dC, dI) [(cyI, .int), (cyJ, .long), (cyD, .double)] (va_A [(aX, .inr (8, [.ref aT, .ref aS, .ref aF, .ref aQ, .ref aW, .ref aP, .ref aB, .ref aR])), (aO, .inl (cyJ, 1, .inr (.inl ov)))] sz) [(aX, .inr (8, [.ref aT, .ref aS, .ref aF, .ref aQ, .ref aW, .ref aP, .ref aB, .ref aR])), (aO, .inl (cyJ, 1, .inr (.inl ov)))]) (va_A [(aX, .inr (8, [.ref aT, .ref aS, .ref aF, .ref aQ, .ref aW, .ref aP, .ref aB, .ref aR])), (aO, .inl (cyJ, 1, .inr (.inl ov)))] sz)) 1 6 (va_A [(aX, .inr (8, [.ref aT, .ref aS, .ref aF, .ref aQ, .ref aW, .ref aP, .ref aB, .ref aR])), (aO, .inl (cyJ, 1, .inr (.inl ov)))] sz) := by
  refine vx_ofWH (cc := cL_widthOf) (maxL := 4) (ret := (some .int)) (by decide) rfl ?_
  intro p e s m args below meth c s₁ B hml hv
  obtain ⟨rfl, ⟨hsz, hP, hK, hD0⟩, hZ⟩ := hv
  have hx := B.exec
  have hb := B.bytes
  have hr := B.returns
  have hts := atoms_spec (ws := wsL_widthOf) B.pre
  have hown : s.vm.findClass RL = some m.cls := findClass_of_methodNamed B.named
  have htb := vx_table (x := yL_widthOf) B (hts _ List.mem_cons_self)
  have hlocks := B.notSynchronized
  subst hsz
  have hD := hD0.self (sz := s.heap.size)
  generalize hAe : va_A [(aX, .inr (8, [.ref aT, .ref aS, .ref aF, .ref aQ, .ref aW, .ref aP, .ref aB, .ref aR])), (aO, .inl (cyJ, 1, .inr (.inl ov)))] s.heap.size = A at hD hZ ⊢
  have hA : ∀ q : Nat, s.heap.size ≤ q → A q := fun q h => by rw [← hAe]; exact Or.inr h
  have hS : va_S A s.heap s.heap [] := va_S.rf
  have hP : va_P (dC, dI) vwCl [(aX, .inr (8, [.ref aT, .ref aS, .ref aF, .ref aQ, .ref aW, .ref aP, .ref aB, .ref aR])), (aO, .inl (cyJ, 1, .inr (.inl ov)))] s.heap := hP
  have hl := lv_entry ([.ref aX, .int v1, .ref aO]) (n := 4) (Nat.le_of_ble_eq_true rfl)
  rw [lg_entry_eq]
  generalize (lg_sl ([.ref aX, .int v1, .ref aO]) ++ List.replicate (4 - (lg_sl ([.ref aX, .int v1, .ref aO])).length) Slot.unset).toArray = ls at hl ⊢
  have hl : lv_has ls 4 [(0, .ref aX), (1, .int v1), (2, .ref aO)] := hl
  have C0 : CallFix p m c cL_widthOf 4 s ([.ref aX, .int v1, .ref aO] : List Value).toArray wsL_widthOf RL := ⟨hx, hb, hml, hown, hts⟩
  unfold wpL_widthOf at h
  refine lv_aload_n hx hb dL_widthOf_0 rfl (lv_at hl 2 rfl) ?_
  refine lv_iconst (v := 0) hx hb dL_widthOf_1 (by decide) ?_
  refine lv_aload_n hx hb dL_widthOf_2 rfl (lv_at hl 0 rfl) ?_
  refine lv_iload_n hx hb dL_widthOf_3 rfl (lv_at hl 1 rfl) ?_
  refine wk_xcalli (wc := []) (wr := [(aX, .inr (8, [.ref aT, .ref aS, .ref aF, .ref aQ, .ref aW, .ref aP, .ref aB, .ref aR])), (aO, .inl (cyJ, 1, .inr (.inl ov)))]) (vx_runV (As := [.int v1]) (rest := [.int 0, .ref aO]) C0 (mtX9_widthOf l hlt dC dI cyI (aX := aX) (sz := _) (v1 := v1) h) (cwV 1 hts gL_widthOf_X9_widthOf rfl rfl rfl (by decide +kernel) ⟨(Nat.le_of_ble_eq_true rfl), (Nat.le_of_ble_eq_true rfl)⟩) (wk_preVX (wc := []) (hK.sub (tys' := [(cyI, .int)]) [0] rfl) hP hD hS hA hZ [] rfl (by decide) (va_recv hK hP (ci := 8) (q0 := 0) rfl rfl)) rfl rfl hl.1 rfl (lv_room (Nat.le_of_ble_eq_true rfl)) dL_widthOf_4 ⟨(Nat.le_of_ble_eq_true rfl), (Nat.le_of_ble_eq_true rfl)⟩) hP hD hS hA [] [0, 1] rfl rfl (by decide) (by decide) (fun E9 ce9 q9 H locs h hP hD hS hc1 hc2 hc3 => ?_) (fun r_1 u9 H locs h hP hD hS => ?_)
  · have hP : va_P (dC, dI) vwCl [(aX, .inr (8, [.ref aT, .ref aS, .ref aF, .ref aQ, .ref aW, .ref aP, .ref aB, .ref aR])), (aO, .inl (cyJ, 1, .inr (.inl ov)))] H := hP
    have hD : va_D A [(aX, .inr (8, [.ref aT, .ref aS, .ref aF, .ref aQ, .ref aW, .ref aP, .ref aB, .ref aR])), (aO, .inl (cyJ, 1, .inr (.inl ov)))] := hD
    obtain ⟨rfl, h⟩ := h
    refine vx_catch (name := xA) hown [] ⟨0, 9, 12, 13⟩ [] (by rw [htb]; rfl) (fun z hz => nomatch hz) (by decide) (by decide) (hts _ qL_widthOf_0) (hZ.use _ _ (List.mem_of_getElem? (i := 0) rfl)) hc1 hc2 hc3 ?_
    refine lv_astore_n (lv' := [(3, .ref q9), (0, .ref aX), (1, .int v1), (2, .ref aO)]) hx hb dL_widthOf_12 rfl hl (by decide) rfl (fun ls hl => ?_)
    refine lv_iconst (v := 1) hx hb dL_widthOf_13 (by decide) ?_
    have hP9 : va_P (dC, dI) vwCl [(aX, .inr (8, [.ref aT, .ref aS, .ref aF, .ref aQ, .ref aW, .ref aP, .ref aB, .ref aR])), (aO, .inl (cyJ, 1, .inr (.inl ov)))] _ := hP
    have hD9 : va_D A [(aX, .inr (8, [.ref aT, .ref aS, .ref aF, .ref aQ, .ref aW, .ref aP, .ref aB, .ref aR])), (aO, .inl (cyJ, 1, .inr (.inl ov)))] := hD
    refine vx_ret ?_
    refine W.widen (k := 1) (n := 6) (Nat.le_of_ble_eq_true rfl) (Nat.le_of_ble_eq_true rfl) ?_
    exact W.iret (v := 1) hx hb hr (fun t ht hW => ⟨⟨1, ov, rfl, h, by rw [ht]; exact hP9, va_K.moved hW.alike hK, hD9⟩, hS.F ht⟩) hS.2.2 dL_widthOf_14
  have hP : va_P (dC, dI) vwCl [(aX, .inr (8, [.ref aT, .ref aS, .ref aF, .ref aQ, .ref aW, .ref aP, .ref aB, .ref aR])), (aO, .inl (cyJ, 1, .inr (.inl ov)))] H := hP
  have hD : va_D A [(aX, .inr (8, [.ref aT, .ref aS, .ref aF, .ref aQ, .ref aW, .ref aP, .ref aB, .ref aR])), (aO, .inl (cyJ, 1, .inr (.inl ov)))] := hD
  refine lv_i2l hx hb dL_widthOf_7 rfl ?_
  refine va_last hx hb hK hP hD hS 1 1 rfl rfl wk_in01 dL_widthOf_8 (fun H locs hP hD hS => ?_)
  have hP : va_P (dC, dI) vwCl [(aX, .inr (8, [.ref aT, .ref aS, .ref aF, .ref aQ, .ref aW, .ref aP, .ref aB, .ref aR])), (aO, .inl (cyJ, 1, .inr (.inl (vp_updL ov (0 : Int32).toNatClampNeg (r_1.toInt64)))))] H := hP
  have hD : va_D A [(aX, .inr (8, [.ref aT, .ref aS, .ref aF, .ref aQ, .ref aW, .ref aP, .ref aB, .ref aR])), (aO, .inl (cyJ, 1, .inr (.inl (vp_updL ov (0 : Int32).toNatClampNeg (r_1.toInt64)))))] := hD
  refine lv_goto (tgt := 15) hx hb dL_widthOf_9 (by decide) ?_
  refine lv_iconst (v := 0) hx hb dL_widthOf_15 (by decide) ?_
  have hP9 : va_P (dC, dI) vwCl [(aX, .inr (8, [.ref aT, .ref aS, .ref aF, .ref aQ, .ref aW, .ref aP, .ref aB, .ref aR])), (aO, .inl (cyJ, 1, .inr (.inl (vp_updL ov (0 : Int32).toNatClampNeg (r_1.toInt64)))))] _ := hP
  have hD9 : va_D A [(aX, .inr (8, [.ref aT, .ref aS, .ref aF, .ref aQ, .ref aW, .ref aP, .ref aB, .ref aR])), (aO, .inl (cyJ, 1, .inr (.inl (vp_updL ov (0 : Int32).toNatClampNeg (r_1.toInt64)))))] := hD
  refine vx_ret ?_
  refine W.widen (k := 1) (n := 6) (Nat.le_of_ble_eq_true rfl) (Nat.le_of_ble_eq_true rfl) ?_
  exact W.iret (v := 0) hx hb hr (fun t ht hW => ⟨⟨0, vp_updL ov (0 : Int32).toNatClampNeg (r_1.toInt64), rfl, h, by rw [ht]; exact hP9, va_K.moved hW.alike hK, hD9⟩, hS.F ht⟩) hS.2.2 dL_widthOf_16
