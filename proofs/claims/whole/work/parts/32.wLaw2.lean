-- L_tokenCount
theorem qL_tokenCount_0 : Cond.classLink RL 15 "java/lang/IllegalStateException" ∈ wsL_tokenCount := (List.mem_cons_of_mem _ (List.mem_append_left _ (List.mem_append_left _ (List.mem_append_left _ (List.mem_of_getElem? (i := 0) rfl)))))
def wpL_tokenCount (pn : Int32) (pch : Int32) (ov : Nat → Int64) (post : Int32 → (Nat → Int64) → Prop) : Prop := wpX9_tokenCount pn pch (fun (r_1 : Int32) => post 0 (vp_updL ov (0 : Int32).toNatClampNeg (r_1.toInt64))) (fun (E9 : String) => (E9 = xS ∧ (post 1 ov)))
set_option maxHeartbeats 4000000 in
set_option maxRecDepth 100000 in
theorem mtL_tokenCount (l : Launch) (hlt : l.stackTraces = false) (dC : Nat → ClassId) (dI : Nat → Nat → Nat) (cyI cyJ cyD : ClassId) {aX aT aS aF aQ aW aP aPk aPl aPd aPs aB aR aO : Nat} {sz : Nat} {pn : Int32} {pch : Int32} {ov : Nat → Int64} {post : Int32 → (Nat → Int64) → Prop} (h : wpL_tokenCount pn pch ov post) : vx_Met l yL_tokenCount wsL_tokenCount ({ frames := 7, cells := 1, slots := 6, locals := 102 }) (va_Pc [.ref aX, .ref aO] (wk_BX (dC, dI) [(cyI, .int), (cyJ, .long), (cyD, .double)] [(aX, .inr (8, [.ref aT, .ref aS, .ref aF, .ref aQ, .ref aW, .ref aP, .ref aB, .ref aR])), (aP, .inr (3, [.ref aPk, .ref aPl, .ref aPd, .ref aPs, .int pn, .int pch])), (aO, .inl (cyJ, 1, .inr (.inl ov)))] sz)) (va_Qi (fun (r : Int32) (u : (Nat → Int64)) => post r u) (wk_C (dC, dI) [(cyI, .int), (cyJ, .long), (cyD, .double)] (va_A [(aX, .inr (8, [.ref aT, .ref aS, .ref aF, .ref aQ, .ref aW, .ref aP, .ref aB, .ref aR])), (aP, .inr (3, [.ref aPk, .ref aPl, .ref aPd, .ref aPs, .int pn, .int pch])), (aO, .inl (cyJ, 1, .inr (.inl ov)))] sz) (fun (u : (Nat → Int64)) => [(aX, .inr (8, [.ref aT, .ref aS, .ref aF, .ref aQ, .ref aW, .ref aP, .ref aB, .ref aR])), (aP, .inr (3, [.ref aPk, .ref aPl, .ref aPd, .ref aPs, .int pn, .int pch])), (aO, .inl (cyJ, 1, .inr (.inl (u))))])) (va_A [(aX, .inr (8, [.ref aT, .ref aS, .ref aF, .ref aQ, .ref aW, .ref aP, .ref aB, .ref aR])), (aP, .inr (3, [.ref aPk, .ref aPl, .ref aPd, .ref aPs, .int pn, .int pch])), (aO, .inl (cyJ, 1, .inr (.inl ov)))] sz)) (vx_X (fun (_ : String) => False) (wk_X (dC, dI) [(cyI, .int), (cyJ, .long), (cyD, .double)] (va_A [(aX, .inr (8, [.ref aT, .ref aS, .ref aF, .ref aQ, .ref aW, .ref aP, .ref aB, .ref aR])), (aP, .inr (3, [.ref aPk, .ref aPl, .ref aPd, .ref aPs, .int pn, .int pch])), (aO, .inl (cyJ, 1, .inr (.inl ov)))] sz) [(aX, .inr (8, [.ref aT, .ref aS, .ref aF, .ref aQ, .ref aW, .ref aP, .ref aB, .ref aR])), (aP, .inr (3, [.ref aPk, .ref aPl, .ref aPd, .ref aPs, .int pn, .int pch])), (aO, .inl (cyJ, 1, .inr (.inl ov)))]) (va_A [(aX, .inr (8, [.ref aT, .ref aS, .ref aF, .ref aQ, .ref aW, .ref aP, .ref aB, .ref aR])), (aP, .inr (3, [.ref aPk, .ref aPl, .ref aPd, .ref aPs, .int pn, .int pch])), (aO, .inl (cyJ, 1, .inr (.inl ov)))] sz)) 1 6 (va_A [(aX, .inr (8, [.ref aT, .ref aS, .ref aF, .ref aQ, .ref aW, .ref aP, .ref aB, .ref aR])), (aP, .inr (3, [.ref aPk, .ref aPl, .ref aPd, .ref aPs, .int pn, .int pch])), (aO, .inl (cyJ, 1, .inr (.inl ov)))] sz) := by
  refine vx_ofWH (cc := cL_tokenCount) (maxL := 3) (ret := (some .int)) (by decide) rfl ?_
  intro p e s m args below meth c s₁ B hml hv
  obtain ⟨rfl, ⟨hsz, hP, hK, hD0⟩, hZ⟩ := hv
  have hx := B.exec
  have hb := B.bytes
  have hr := B.returns
  have hts := atoms_spec (ws := wsL_tokenCount) B.pre
  have hown : s.vm.findClass RL = some m.cls := findClass_of_methodNamed B.named
  have htb := vx_table (x := yL_tokenCount) B (hts _ List.mem_cons_self)
  have hlocks := B.notSynchronized
  subst hsz
  have hD := hD0.self (sz := s.heap.size)
  generalize hAe : va_A [(aX, .inr (8, [.ref aT, .ref aS, .ref aF, .ref aQ, .ref aW, .ref aP, .ref aB, .ref aR])), (aP, .inr (3, [.ref aPk, .ref aPl, .ref aPd, .ref aPs, .int pn, .int pch])), (aO, .inl (cyJ, 1, .inr (.inl ov)))] s.heap.size = A at hD hZ ⊢
  have hA : ∀ q : Nat, s.heap.size ≤ q → A q := fun q h => by rw [← hAe]; exact Or.inr h
  have hS : va_S A s.heap s.heap [] := va_S.rf
  have hP : va_P (dC, dI) vwCl [(aX, .inr (8, [.ref aT, .ref aS, .ref aF, .ref aQ, .ref aW, .ref aP, .ref aB, .ref aR])), (aP, .inr (3, [.ref aPk, .ref aPl, .ref aPd, .ref aPs, .int pn, .int pch])), (aO, .inl (cyJ, 1, .inr (.inl ov)))] s.heap := hP
  have hl := lv_entry ([.ref aX, .ref aO]) (n := 3) (Nat.le_of_ble_eq_true rfl)
  rw [lg_entry_eq]
  generalize (lg_sl ([.ref aX, .ref aO]) ++ List.replicate (3 - (lg_sl ([.ref aX, .ref aO])).length) Slot.unset).toArray = ls at hl ⊢
  have hl : lv_has ls 3 [(0, .ref aX), (1, .ref aO)] := hl
  have C0 : CallFix p m c cL_tokenCount 3 s ([.ref aX, .ref aO] : List Value).toArray wsL_tokenCount RL := ⟨hx, hb, hml, hown, hts⟩
  unfold wpL_tokenCount at h
  refine lv_aload_n hx hb dL_tokenCount_0 rfl (lv_at hl 1 rfl) ?_
  refine lv_iconst (v := 0) hx hb dL_tokenCount_1 (by decide) ?_
  refine lv_aload_n hx hb dL_tokenCount_2 rfl (lv_at hl 0 rfl) ?_
  refine wk_xcalli (wc := [(aX, .inr (8, [.ref aT, .ref aS, .ref aF, .ref aQ, .ref aW, .ref aP, .ref aB, .ref aR])), (aP, .inr (3, [.ref aPk, .ref aPl, .ref aPd, .ref aPs, .int pn, .int pch]))]) (wr := [(aO, .inl (cyJ, 1, .inr (.inl ov)))]) (vx_runV (As := []) (rest := [.int 0, .ref aO]) C0 (mtX9_tokenCount l hlt dC dI cyI (aX := aX) (aT := aT) (aS := aS) (aF := aF) (aQ := aQ) (aW := aW) (aP := aP) (aPk := aPk) (aPl := aPl) (aPd := aPd) (aPs := aPs) (aB := aB) (aR := aR) (sz := _) (pn := pn) (pch := pch) h) (cwV 0 hts gL_tokenCount_X9_tokenCount rfl rfl rfl (by decide +kernel) ⟨(Nat.le_of_ble_eq_true rfl), (Nat.le_of_ble_eq_true rfl)⟩) (wk_preVX (wc := [(aX, .inr (8, [.ref aT, .ref aS, .ref aF, .ref aQ, .ref aW, .ref aP, .ref aB, .ref aR])), (aP, .inr (3, [.ref aPk, .ref aPl, .ref aPd, .ref aPs, .int pn, .int pch]))]) (hK.sub (tys' := [(cyI, .int)]) [0] rfl) hP hD hS hA hZ [0, 1] rfl (by decide) (va_recv hK hP (ci := 8) (q0 := 0) rfl rfl)) rfl rfl hl.1 rfl (lv_room (Nat.le_of_ble_eq_true rfl)) dL_tokenCount_3 ⟨(Nat.le_of_ble_eq_true rfl), (Nat.le_of_ble_eq_true rfl)⟩) hP hD hS hA [0, 1] [2] rfl rfl (by decide) (by decide) (fun E9 ce9 q9 H locs h hP hD hS hc1 hc2 hc3 => ?_) (fun r_1 u9 H locs h hP hD hS => ?_)
  · have hP : va_P (dC, dI) vwCl [(aO, .inl (cyJ, 1, .inr (.inl ov))), (aX, .inr (8, [.ref aT, .ref aS, .ref aF, .ref aQ, .ref aW, .ref aP, .ref aB, .ref aR])), (aP, .inr (3, [.ref aPk, .ref aPl, .ref aPd, .ref aPs, .int pn, .int pch]))] H := hP
    have hD : va_D A [(aO, .inl (cyJ, 1, .inr (.inl ov))), (aX, .inr (8, [.ref aT, .ref aS, .ref aF, .ref aQ, .ref aW, .ref aP, .ref aB, .ref aR])), (aP, .inr (3, [.ref aPk, .ref aPl, .ref aPd, .ref aPs, .int pn, .int pch]))] := hD
    obtain ⟨rfl, h⟩ := h
    refine vx_catch (name := xS) hown [] ⟨0, 8, 11, 15⟩ [] (by rw [htb]; rfl) (fun z hz => nomatch hz) (by decide) (by decide) (hts _ qL_tokenCount_0) (hZ.use _ _ (List.mem_of_getElem? (i := 1) rfl)) hc1 hc2 hc3 ?_
    refine lv_astore_n (lv' := [(2, .ref q9), (0, .ref aX), (1, .ref aO)]) hx hb dL_tokenCount_11 rfl hl (by decide) rfl (fun ls hl => ?_)
    refine lv_iconst (v := 1) hx hb dL_tokenCount_12 (by decide) ?_
    have hP9 : va_P (dC, dI) vwCl [(aX, .inr (8, [.ref aT, .ref aS, .ref aF, .ref aQ, .ref aW, .ref aP, .ref aB, .ref aR])), (aP, .inr (3, [.ref aPk, .ref aPl, .ref aPd, .ref aPs, .int pn, .int pch])), (aO, .inl (cyJ, 1, .inr (.inl ov)))] _ := (hP.sub [1, 2, 0] rfl)
    have hD9 : va_D A [(aX, .inr (8, [.ref aT, .ref aS, .ref aF, .ref aQ, .ref aW, .ref aP, .ref aB, .ref aR])), (aP, .inr (3, [.ref aPk, .ref aPl, .ref aPd, .ref aPs, .int pn, .int pch])), (aO, .inl (cyJ, 1, .inr (.inl ov)))] := (hD.sub [1, 2, 0] (by decide) rfl)
    refine vx_ret ?_
    refine W.widen (k := 1) (n := 6) (Nat.le_of_ble_eq_true rfl) (Nat.le_of_ble_eq_true rfl) ?_
    exact W.iret (v := 1) hx hb hr (fun t ht hW => ⟨⟨1, ov, rfl, h, by rw [ht]; exact hP9, va_K.moved hW.alike hK, hD9⟩, hS.F ht⟩) hS.2.2 dL_tokenCount_13
  have hP : va_P (dC, dI) vwCl [(aO, .inl (cyJ, 1, .inr (.inl ov))), (aX, .inr (8, [.ref aT, .ref aS, .ref aF, .ref aQ, .ref aW, .ref aP, .ref aB, .ref aR])), (aP, .inr (3, [.ref aPk, .ref aPl, .ref aPd, .ref aPs, .int pn, .int pch]))] H := hP
  have hD : va_D A [(aO, .inl (cyJ, 1, .inr (.inl ov))), (aX, .inr (8, [.ref aT, .ref aS, .ref aF, .ref aQ, .ref aW, .ref aP, .ref aB, .ref aR])), (aP, .inr (3, [.ref aPk, .ref aPl, .ref aPd, .ref aPs, .int pn, .int pch]))] := hD
  refine lv_i2l hx hb dL_tokenCount_6 rfl ?_
  refine va_last hx hb hK hP hD hS 0 1 rfl rfl wk_in01 dL_tokenCount_7 (fun H locs hP hD hS => ?_)
  have hP : va_P (dC, dI) vwCl [(aO, .inl (cyJ, 1, .inr (.inl (vp_updL ov (0 : Int32).toNatClampNeg (r_1.toInt64))))), (aX, .inr (8, [.ref aT, .ref aS, .ref aF, .ref aQ, .ref aW, .ref aP, .ref aB, .ref aR])), (aP, .inr (3, [.ref aPk, .ref aPl, .ref aPd, .ref aPs, .int pn, .int pch]))] H := hP
  have hD : va_D A [(aO, .inl (cyJ, 1, .inr (.inl (vp_updL ov (0 : Int32).toNatClampNeg (r_1.toInt64))))), (aX, .inr (8, [.ref aT, .ref aS, .ref aF, .ref aQ, .ref aW, .ref aP, .ref aB, .ref aR])), (aP, .inr (3, [.ref aPk, .ref aPl, .ref aPd, .ref aPs, .int pn, .int pch]))] := hD
  refine lv_goto (tgt := 14) hx hb dL_tokenCount_8 (by decide) ?_
  refine lv_iconst (v := 0) hx hb dL_tokenCount_14 (by decide) ?_
  have hP9 : va_P (dC, dI) vwCl [(aX, .inr (8, [.ref aT, .ref aS, .ref aF, .ref aQ, .ref aW, .ref aP, .ref aB, .ref aR])), (aP, .inr (3, [.ref aPk, .ref aPl, .ref aPd, .ref aPs, .int pn, .int pch])), (aO, .inl (cyJ, 1, .inr (.inl (vp_updL ov (0 : Int32).toNatClampNeg (r_1.toInt64)))))] _ := (hP.sub [1, 2, 0] rfl)
  have hD9 : va_D A [(aX, .inr (8, [.ref aT, .ref aS, .ref aF, .ref aQ, .ref aW, .ref aP, .ref aB, .ref aR])), (aP, .inr (3, [.ref aPk, .ref aPl, .ref aPd, .ref aPs, .int pn, .int pch])), (aO, .inl (cyJ, 1, .inr (.inl (vp_updL ov (0 : Int32).toNatClampNeg (r_1.toInt64)))))] := (hD.sub [1, 2, 0] (by decide) rfl)
  refine vx_ret ?_
  refine W.widen (k := 1) (n := 6) (Nat.le_of_ble_eq_true rfl) (Nat.le_of_ble_eq_true rfl) ?_
  exact W.iret (v := 0) hx hb hr (fun t ht hW => ⟨⟨0, vp_updL ov (0 : Int32).toNatClampNeg (r_1.toInt64), rfl, h, by rw [ht]; exact hP9, va_K.moved hW.alike hK, hD9⟩, hS.F ht⟩) hS.2.2 dL_tokenCount_15
-- L_kind
theorem qL_kind_0 : Cond.classLink RL 15 "java/lang/IllegalStateException" ∈ wsL_kind := (List.mem_cons_of_mem _ (List.mem_append_left _ (List.mem_append_left _ (List.mem_append_left _ (List.mem_append_left _ (List.mem_of_getElem? (i := 0) rfl))))))
theorem qL_kind_1 : Cond.classLink RL 28 "java/lang/IndexOutOfBoundsException" ∈ wsL_kind := (List.mem_cons_of_mem _ (List.mem_append_left _ (List.mem_append_left _ (List.mem_append_left _ (List.mem_append_left _ (List.mem_of_getElem? (i := 1) rfl))))))
def wpL_kind (pn : Int32) (pch : Int32) (pk : Nat → Int32) (ov : Nat → Int64) (v1 : Int32) (post : Int32 → (Nat → Int64) → Prop) : Prop := wpX9_kind pn pch pk v1 (fun (r_1 : Int32) => post 0 (vp_updL ov (0 : Int32).toNatClampNeg (r_1.toInt64))) (fun (E9 : String) => (E9 = xS ∧ (post 1 ov)) ∨ (E9 = xI ∧ (post 2 ov)))
set_option maxHeartbeats 4000000 in
set_option maxRecDepth 100000 in
theorem mtL_kind (l : Launch) (hlt : l.stackTraces = false) (dC : Nat → ClassId) (dI : Nat → Nat → Nat) (cyI cyJ cyD : ClassId) {aX aT aS aF aQ aW aP aPk aPl aPd aPs aB aR aO : Nat} {sz : Nat} {pn : Int32} {pch : Int32} {pk : Nat → Int32} {ov : Nat → Int64} {v1 : Int32} {post : Int32 → (Nat → Int64) → Prop} (h : wpL_kind pn pch pk ov v1 post) : vx_Met l yL_kind wsL_kind ({ frames := 8, cells := 1, slots := 6, locals := 124 }) (va_Pc [.ref aX, .int v1, .ref aO] (wk_BX (dC, dI) [(cyI, .int), (cyJ, .long), (cyD, .double)] [(aX, .inr (8, [.ref aT, .ref aS, .ref aF, .ref aQ, .ref aW, .ref aP, .ref aB, .ref aR])), (aP, .inr (3, [.ref aPk, .ref aPl, .ref aPd, .ref aPs, .int pn, .int pch])), (aPk, .inl (cyI, 64, .inl pk)), (aO, .inl (cyJ, 1, .inr (.inl ov)))] sz)) (va_Qi (fun (r : Int32) (u : (Nat → Int64)) => post r u) (wk_C (dC, dI) [(cyI, .int), (cyJ, .long), (cyD, .double)] (va_A [(aX, .inr (8, [.ref aT, .ref aS, .ref aF, .ref aQ, .ref aW, .ref aP, .ref aB, .ref aR])), (aP, .inr (3, [.ref aPk, .ref aPl, .ref aPd, .ref aPs, .int pn, .int pch])), (aPk, .inl (cyI, 64, .inl pk)), (aO, .inl (cyJ, 1, .inr (.inl ov)))] sz) (fun (u : (Nat → Int64)) => [(aX, .inr (8, [.ref aT, .ref aS, .ref aF, .ref aQ, .ref aW, .ref aP, .ref aB, .ref aR])), (aP, .inr (3, [.ref aPk, .ref aPl, .ref aPd, .ref aPs, .int pn, .int pch])), (aPk, .inl (cyI, 64, .inl pk)), (aO, .inl (cyJ, 1, .inr (.inl (u))))])) (va_A [(aX, .inr (8, [.ref aT, .ref aS, .ref aF, .ref aQ, .ref aW, .ref aP, .ref aB, .ref aR])), (aP, .inr (3, [.ref aPk, .ref aPl, .ref aPd, .ref aPs, .int pn, .int pch])), (aPk, .inl (cyI, 64, .inl pk)), (aO, .inl (cyJ, 1, .inr (.inl ov)))] sz)) (vx_X (fun (_ : String) => False) (wk_X (dC, dI) [(cyI, .int), (cyJ, .long), (cyD, .double)] (va_A [(aX, .inr (8, [.ref aT, .ref aS, .ref aF, .ref aQ, .ref aW, .ref aP, .ref aB, .ref aR])), (aP, .inr (3, [.ref aPk, .ref aPl, .ref aPd, .ref aPs, .int pn, .int pch])), (aPk, .inl (cyI, 64, .inl pk)), (aO, .inl (cyJ, 1, .inr (.inl ov)))] sz) [(aX, .inr (8, [.ref aT, .ref aS, .ref aF, .ref aQ, .ref aW, .ref aP, .ref aB, .ref aR])), (aP, .inr (3, [.ref aPk, .ref aPl, .ref aPd, .ref aPs, .int pn, .int pch])), (aPk, .inl (cyI, 64, .inl pk)), (aO, .inl (cyJ, 1, .inr (.inl ov)))]) (va_A [(aX, .inr (8, [.ref aT, .ref aS, .ref aF, .ref aQ, .ref aW, .ref aP, .ref aB, .ref aR])), (aP, .inr (3, [.ref aPk, .ref aPl, .ref aPd, .ref aPs, .int pn, .int pch])), (aPk, .inl (cyI, 64, .inl pk)), (aO, .inl (cyJ, 1, .inr (.inl ov)))] sz)) 1 6 (va_A [(aX, .inr (8, [.ref aT, .ref aS, .ref aF, .ref aQ, .ref aW, .ref aP, .ref aB, .ref aR])), (aP, .inr (3, [.ref aPk, .ref aPl, .ref aPd, .ref aPs, .int pn, .int pch])), (aPk, .inl (cyI, 64, .inl pk)), (aO, .inl (cyJ, 1, .inr (.inl ov)))] sz) := by
  refine vx_ofWH (cc := cL_kind) (maxL := 4) (ret := (some .int)) (by decide) rfl ?_
  intro p e s m args below meth c s₁ B hml hv
  obtain ⟨rfl, ⟨hsz, hP, hK, hD0⟩, hZ⟩ := hv
  have hx := B.exec
  have hb := B.bytes
  have hr := B.returns
  have hts := atoms_spec (ws := wsL_kind) B.pre
  have hown : s.vm.findClass RL = some m.cls := findClass_of_methodNamed B.named
  have htb := vx_table (x := yL_kind) B (hts _ List.mem_cons_self)
  have hlocks := B.notSynchronized
  subst hsz
  have hD := hD0.self (sz := s.heap.size)
  generalize hAe : va_A [(aX, .inr (8, [.ref aT, .ref aS, .ref aF, .ref aQ, .ref aW, .ref aP, .ref aB, .ref aR])), (aP, .inr (3, [.ref aPk, .ref aPl, .ref aPd, .ref aPs, .int pn, .int pch])), (aPk, .inl (cyI, 64, .inl pk)), (aO, .inl (cyJ, 1, .inr (.inl ov)))] s.heap.size = A at hD hZ ⊢
  have hA : ∀ q : Nat, s.heap.size ≤ q → A q := fun q h => by rw [← hAe]; exact Or.inr h
  have hS : va_S A s.heap s.heap [] := va_S.rf
  have hP : va_P (dC, dI) vwCl [(aX, .inr (8, [.ref aT, .ref aS, .ref aF, .ref aQ, .ref aW, .ref aP, .ref aB, .ref aR])), (aP, .inr (3, [.ref aPk, .ref aPl, .ref aPd, .ref aPs, .int pn, .int pch])), (aPk, .inl (cyI, 64, .inl pk)), (aO, .inl (cyJ, 1, .inr (.inl ov)))] s.heap := hP
  have hl := lv_entry ([.ref aX, .int v1, .ref aO]) (n := 4) (Nat.le_of_ble_eq_true rfl)
  rw [lg_entry_eq]
  generalize (lg_sl ([.ref aX, .int v1, .ref aO]) ++ List.replicate (4 - (lg_sl ([.ref aX, .int v1, .ref aO])).length) Slot.unset).toArray = ls at hl ⊢
  have hl : lv_has ls 4 [(0, .ref aX), (1, .int v1), (2, .ref aO)] := hl
  have C0 : CallFix p m c cL_kind 4 s ([.ref aX, .int v1, .ref aO] : List Value).toArray wsL_kind RL := ⟨hx, hb, hml, hown, hts⟩
  unfold wpL_kind at h
  refine lv_aload_n hx hb dL_kind_0 rfl (lv_at hl 2 rfl) ?_
  refine lv_iconst (v := 0) hx hb dL_kind_1 (by decide) ?_
  refine lv_aload_n hx hb dL_kind_2 rfl (lv_at hl 0 rfl) ?_
  refine lv_iload_n hx hb dL_kind_3 rfl (lv_at hl 1 rfl) ?_
  refine wk_xcalli (wc := [(aX, .inr (8, [.ref aT, .ref aS, .ref aF, .ref aQ, .ref aW, .ref aP, .ref aB, .ref aR])), (aP, .inr (3, [.ref aPk, .ref aPl, .ref aPd, .ref aPs, .int pn, .int pch])), (aPk, .inl (cyI, 64, .inl pk))]) (wr := [(aO, .inl (cyJ, 1, .inr (.inl ov)))]) (vx_runV (As := [.int v1]) (rest := [.int 0, .ref aO]) C0 (mtX9_kind l hlt dC dI cyI (aX := aX) (aT := aT) (aS := aS) (aF := aF) (aQ := aQ) (aW := aW) (aP := aP) (aPk := aPk) (aPl := aPl) (aPd := aPd) (aPs := aPs) (aB := aB) (aR := aR) (sz := _) (pn := pn) (pch := pch) (pk := pk) (v1 := v1) h) (cwV 1 hts gL_kind_X9_kind rfl rfl rfl (by decide +kernel) ⟨(Nat.le_of_ble_eq_true rfl), (Nat.le_of_ble_eq_true rfl)⟩) (wk_preVX (wc := [(aX, .inr (8, [.ref aT, .ref aS, .ref aF, .ref aQ, .ref aW, .ref aP, .ref aB, .ref aR])), (aP, .inr (3, [.ref aPk, .ref aPl, .ref aPd, .ref aPs, .int pn, .int pch])), (aPk, .inl (cyI, 64, .inl pk))]) (hK.sub (tys' := [(cyI, .int)]) [0] rfl) hP hD hS hA hZ [0, 1, 2] rfl (by decide) (va_recv hK hP (ci := 8) (q0 := 0) rfl rfl)) rfl rfl hl.1 rfl (lv_room (Nat.le_of_ble_eq_true rfl)) dL_kind_4 ⟨(Nat.le_of_ble_eq_true rfl), (Nat.le_of_ble_eq_true rfl)⟩) hP hD hS hA [0, 1, 2] [3] rfl rfl (by decide) (by decide) (fun E9 ce9 q9 H locs h hP hD hS hc1 hc2 hc3 => ?_) (fun r_1 u9 H locs h hP hD hS => ?_)
  · have hP : va_P (dC, dI) vwCl [(aO, .inl (cyJ, 1, .inr (.inl ov))), (aX, .inr (8, [.ref aT, .ref aS, .ref aF, .ref aQ, .ref aW, .ref aP, .ref aB, .ref aR])), (aP, .inr (3, [.ref aPk, .ref aPl, .ref aPd, .ref aPs, .int pn, .int pch])), (aPk, .inl (cyI, 64, .inl pk))] H := hP
    have hD : va_D A [(aO, .inl (cyJ, 1, .inr (.inl ov))), (aX, .inr (8, [.ref aT, .ref aS, .ref aF, .ref aQ, .ref aW, .ref aP, .ref aB, .ref aR])), (aP, .inr (3, [.ref aPk, .ref aPl, .ref aPd, .ref aPs, .int pn, .int pch])), (aPk, .inl (cyI, 64, .inl pk))] := hD
    rcases h with ⟨rfl, h⟩ | ⟨rfl, h⟩
    · refine vx_catch (name := xS) hown [] ⟨0, 9, 12, 15⟩ [⟨0, 9, 15, 28⟩] (by rw [htb]; rfl) (fun z hz => nomatch hz) (by decide) (by decide) (hts _ qL_kind_0) (hZ.use _ _ (List.mem_of_getElem? (i := 1) rfl)) hc1 hc2 hc3 ?_
      refine lv_astore_n (lv' := [(3, .ref q9), (0, .ref aX), (1, .int v1), (2, .ref aO)]) hx hb dL_kind_12 rfl hl (by decide) rfl (fun ls hl => ?_)
      refine lv_iconst (v := 1) hx hb dL_kind_13 (by decide) ?_
      have hP9 : va_P (dC, dI) vwCl [(aX, .inr (8, [.ref aT, .ref aS, .ref aF, .ref aQ, .ref aW, .ref aP, .ref aB, .ref aR])), (aP, .inr (3, [.ref aPk, .ref aPl, .ref aPd, .ref aPs, .int pn, .int pch])), (aPk, .inl (cyI, 64, .inl pk)), (aO, .inl (cyJ, 1, .inr (.inl ov)))] _ := (hP.sub [1, 2, 3, 0] rfl)
      have hD9 : va_D A [(aX, .inr (8, [.ref aT, .ref aS, .ref aF, .ref aQ, .ref aW, .ref aP, .ref aB, .ref aR])), (aP, .inr (3, [.ref aPk, .ref aPl, .ref aPd, .ref aPs, .int pn, .int pch])), (aPk, .inl (cyI, 64, .inl pk)), (aO, .inl (cyJ, 1, .inr (.inl ov)))] := (hD.sub [1, 2, 3, 0] (by decide) rfl)
      refine vx_ret ?_
      refine W.widen (k := 1) (n := 6) (Nat.le_of_ble_eq_true rfl) (Nat.le_of_ble_eq_true rfl) ?_
      exact W.iret (v := 1) hx hb hr (fun t ht hW => ⟨⟨1, ov, rfl, h, by rw [ht]; exact hP9, va_K.moved hW.alike hK, hD9⟩, hS.F ht⟩) hS.2.2 dL_kind_14
    · refine vx_catch (name := xI) hown [⟨0, 9, 12, 15⟩] ⟨0, 9, 15, 28⟩ [] (by rw [htb]; rfl) (fun z hz => by rcases List.mem_singleton.mp hz with rfl; exact Or.inr ⟨by decide, _, (hts _ qL_kind_0), hZ.2.2.2.2.2.1⟩) (by decide) (by decide) (hts _ qL_kind_1) (hZ.use _ _ (List.mem_of_getElem? (i := 2) rfl)) hc1 hc2 hc3 ?_
      refine lv_astore_n (lv' := [(3, .ref q9), (0, .ref aX), (1, .int v1), (2, .ref aO)]) hx hb dL_kind_15 rfl hl (by decide) rfl (fun ls hl => ?_)
      refine lv_iconst (v := 2) hx hb dL_kind_16 (by decide) ?_
      have hP9 : va_P (dC, dI) vwCl [(aX, .inr (8, [.ref aT, .ref aS, .ref aF, .ref aQ, .ref aW, .ref aP, .ref aB, .ref aR])), (aP, .inr (3, [.ref aPk, .ref aPl, .ref aPd, .ref aPs, .int pn, .int pch])), (aPk, .inl (cyI, 64, .inl pk)), (aO, .inl (cyJ, 1, .inr (.inl ov)))] _ := (hP.sub [1, 2, 3, 0] rfl)
      have hD9 : va_D A [(aX, .inr (8, [.ref aT, .ref aS, .ref aF, .ref aQ, .ref aW, .ref aP, .ref aB, .ref aR])), (aP, .inr (3, [.ref aPk, .ref aPl, .ref aPd, .ref aPs, .int pn, .int pch])), (aPk, .inl (cyI, 64, .inl pk)), (aO, .inl (cyJ, 1, .inr (.inl ov)))] := (hD.sub [1, 2, 3, 0] (by decide) rfl)
      refine vx_ret ?_
      refine W.widen (k := 1) (n := 6) (Nat.le_of_ble_eq_true rfl) (Nat.le_of_ble_eq_true rfl) ?_
      exact W.iret (v := 2) hx hb hr (fun t ht hW => ⟨⟨2, ov, rfl, h, by rw [ht]; exact hP9, va_K.moved hW.alike hK, hD9⟩, hS.F ht⟩) hS.2.2 dL_kind_17
  have hP : va_P (dC, dI) vwCl [(aO, .inl (cyJ, 1, .inr (.inl ov))), (aX, .inr (8, [.ref aT, .ref aS, .ref aF, .ref aQ, .ref aW, .ref aP, .ref aB, .ref aR])), (aP, .inr (3, [.ref aPk, .ref aPl, .ref aPd, .ref aPs, .int pn, .int pch])), (aPk, .inl (cyI, 64, .inl pk))] H := hP
  have hD : va_D A [(aO, .inl (cyJ, 1, .inr (.inl ov))), (aX, .inr (8, [.ref aT, .ref aS, .ref aF, .ref aQ, .ref aW, .ref aP, .ref aB, .ref aR])), (aP, .inr (3, [.ref aPk, .ref aPl, .ref aPd, .ref aPs, .int pn, .int pch])), (aPk, .inl (cyI, 64, .inl pk))] := hD
  refine lv_i2l hx hb dL_kind_7 rfl ?_
  refine va_last hx hb hK hP hD hS 0 1 rfl rfl wk_in01 dL_kind_8 (fun H locs hP hD hS => ?_)
  have hP : va_P (dC, dI) vwCl [(aO, .inl (cyJ, 1, .inr (.inl (vp_updL ov (0 : Int32).toNatClampNeg (r_1.toInt64))))), (aX, .inr (8, [.ref aT, .ref aS, .ref aF, .ref aQ, .ref aW, .ref aP, .ref aB, .ref aR])), (aP, .inr (3, [.ref aPk, .ref aPl, .ref aPd, .ref aPs, .int pn, .int pch])), (aPk, .inl (cyI, 64, .inl pk))] H := hP
  have hD : va_D A [(aO, .inl (cyJ, 1, .inr (.inl (vp_updL ov (0 : Int32).toNatClampNeg (r_1.toInt64))))), (aX, .inr (8, [.ref aT, .ref aS, .ref aF, .ref aQ, .ref aW, .ref aP, .ref aB, .ref aR])), (aP, .inr (3, [.ref aPk, .ref aPl, .ref aPd, .ref aPs, .int pn, .int pch])), (aPk, .inl (cyI, 64, .inl pk))] := hD
  refine lv_goto (tgt := 18) hx hb dL_kind_9 (by decide) ?_
  refine lv_iconst (v := 0) hx hb dL_kind_18 (by decide) ?_
  have hP9 : va_P (dC, dI) vwCl [(aX, .inr (8, [.ref aT, .ref aS, .ref aF, .ref aQ, .ref aW, .ref aP, .ref aB, .ref aR])), (aP, .inr (3, [.ref aPk, .ref aPl, .ref aPd, .ref aPs, .int pn, .int pch])), (aPk, .inl (cyI, 64, .inl pk)), (aO, .inl (cyJ, 1, .inr (.inl (vp_updL ov (0 : Int32).toNatClampNeg (r_1.toInt64)))))] _ := (hP.sub [1, 2, 3, 0] rfl)
  have hD9 : va_D A [(aX, .inr (8, [.ref aT, .ref aS, .ref aF, .ref aQ, .ref aW, .ref aP, .ref aB, .ref aR])), (aP, .inr (3, [.ref aPk, .ref aPl, .ref aPd, .ref aPs, .int pn, .int pch])), (aPk, .inl (cyI, 64, .inl pk)), (aO, .inl (cyJ, 1, .inr (.inl (vp_updL ov (0 : Int32).toNatClampNeg (r_1.toInt64)))))] := (hD.sub [1, 2, 3, 0] (by decide) rfl)
  refine vx_ret ?_
  refine W.widen (k := 1) (n := 6) (Nat.le_of_ble_eq_true rfl) (Nat.le_of_ble_eq_true rfl) ?_
  exact W.iret (v := 0) hx hb hr (fun t ht hW => ⟨⟨0, vp_updL ov (0 : Int32).toNatClampNeg (r_1.toInt64), rfl, h, by rw [ht]; exact hP9, va_K.moved hW.alike hK, hD9⟩, hS.F ht⟩) hS.2.2 dL_kind_19
-- L_length
theorem qL_length_0 : Cond.classLink RL 15 "java/lang/IllegalStateException" ∈ wsL_length := (List.mem_cons_of_mem _ (List.mem_append_left _ (List.mem_append_left _ (List.mem_append_left _ (List.mem_append_left _ (List.mem_of_getElem? (i := 0) rfl))))))
theorem qL_length_1 : Cond.classLink RL 28 "java/lang/IndexOutOfBoundsException" ∈ wsL_length := (List.mem_cons_of_mem _ (List.mem_append_left _ (List.mem_append_left _ (List.mem_append_left _ (List.mem_append_left _ (List.mem_of_getElem? (i := 1) rfl))))))
def wpL_length (pn : Int32) (pch : Int32) (pl : Nat → Int32) (ov : Nat → Int64) (v1 : Int32) (post : Int32 → (Nat → Int64) → Prop) : Prop := wpX9_length pn pch pl v1 (fun (r_1 : Int32) => post 0 (vp_updL ov (0 : Int32).toNatClampNeg (r_1.toInt64))) (fun (E9 : String) => (E9 = xS ∧ (post 1 ov)) ∨ (E9 = xI ∧ (post 2 ov)))
set_option maxHeartbeats 4000000 in
set_option maxRecDepth 100000 in
theorem mtL_length (l : Launch) (hlt : l.stackTraces = false) (dC : Nat → ClassId) (dI : Nat → Nat → Nat) (cyI cyJ cyD : ClassId) {aX aT aS aF aQ aW aP aPk aPl aPd aPs aB aR aO : Nat} {sz : Nat} {pn : Int32} {pch : Int32} {pl : Nat → Int32} {ov : Nat → Int64} {v1 : Int32} {post : Int32 → (Nat → Int64) → Prop} (h : wpL_length pn pch pl ov v1 post) : vx_Met l yL_length wsL_length ({ frames := 8, cells := 1, slots := 6, locals := 124 }) (va_Pc [.ref aX, .int v1, .ref aO] (wk_BX (dC, dI) [(cyI, .int), (cyJ, .long), (cyD, .double)] [(aX, .inr (8, [.ref aT, .ref aS, .ref aF, .ref aQ, .ref aW, .ref aP, .ref aB, .ref aR])), (aP, .inr (3, [.ref aPk, .ref aPl, .ref aPd, .ref aPs, .int pn, .int pch])), (aPl, .inl (cyI, 64, .inl pl)), (aO, .inl (cyJ, 1, .inr (.inl ov)))] sz)) (va_Qi (fun (r : Int32) (u : (Nat → Int64)) => post r u) (wk_C (dC, dI) [(cyI, .int), (cyJ, .long), (cyD, .double)] (va_A [(aX, .inr (8, [.ref aT, .ref aS, .ref aF, .ref aQ, .ref aW, .ref aP, .ref aB, .ref aR])), (aP, .inr (3, [.ref aPk, .ref aPl, .ref aPd, .ref aPs, .int pn, .int pch])), (aPl, .inl (cyI, 64, .inl pl)), (aO, .inl (cyJ, 1, .inr (.inl ov)))] sz) (fun (u : (Nat → Int64)) => [(aX, .inr (8, [.ref aT, .ref aS, .ref aF, .ref aQ, .ref aW, .ref aP, .ref aB, .ref aR])), (aP, .inr (3, [.ref aPk, .ref aPl, .ref aPd, .ref aPs, .int pn, .int pch])), (aPl, .inl (cyI, 64, .inl pl)), (aO, .inl (cyJ, 1, .inr (.inl (u))))])) (va_A [(aX, .inr (8, [.ref aT, .ref aS, .ref aF, .ref aQ, .ref aW, .ref aP, .ref aB, .ref aR])), (aP, .inr (3, [.ref aPk, .ref aPl, .ref aPd, .ref aPs, .int pn, .int pch])), (aPl, .inl (cyI, 64, .inl pl)), (aO, .inl (cyJ, 1, .inr (.inl ov)))] sz)) (vx_X (fun (_ : String) => False) (wk_X (dC, dI) [(cyI, .int), (cyJ, .long), (cyD, .double)] (va_A [(aX, .inr (8, [.ref aT, .ref aS, .ref aF, .ref aQ, .ref aW, .ref aP, .ref aB, .ref aR])), (aP, .inr (3, [.ref aPk, .ref aPl, .ref aPd, .ref aPs, .int pn, .int pch])), (aPl, .inl (cyI, 64, .inl pl)), (aO, .inl (cyJ, 1, .inr (.inl ov)))] sz) [(aX, .inr (8, [.ref aT, .ref aS, .ref aF, .ref aQ, .ref aW, .ref aP, .ref aB, .ref aR])), (aP, .inr (3, [.ref aPk, .ref aPl, .ref aPd, .ref aPs, .int pn, .int pch])), (aPl, .inl (cyI, 64, .inl pl)), (aO, .inl (cyJ, 1, .inr (.inl ov)))]) (va_A [(aX, .inr (8, [.ref aT, .ref aS, .ref aF, .ref aQ, .ref aW, .ref aP, .ref aB, .ref aR])), (aP, .inr (3, [.ref aPk, .ref aPl, .ref aPd, .ref aPs, .int pn, .int pch])), (aPl, .inl (cyI, 64, .inl pl)), (aO, .inl (cyJ, 1, .inr (.inl ov)))] sz)) 1 6 (va_A [(aX, .inr (8, [.ref aT, .ref aS, .ref aF, .ref aQ, .ref aW, .ref aP, .ref aB, .ref aR])), (aP, .inr (3, [.ref aPk, .ref aPl, .ref aPd, .ref aPs, .int pn, .int pch])), (aPl, .inl (cyI, 64, .inl pl)), (aO, .inl (cyJ, 1, .inr (.inl ov)))] sz) := by
  refine vx_ofWH (cc := cL_length) (maxL := 4) (ret := (some .int)) (by decide) rfl ?_
  intro p e s m args below meth c s₁ B hml hv
  obtain ⟨rfl, ⟨hsz, hP, hK, hD0⟩, hZ⟩ := hv
  have hx := B.exec
  have hb := B.bytes
  have hr := B.returns
  have hts := atoms_spec (ws := wsL_length) B.pre
  have hown : s.vm.findClass RL = some m.cls := findClass_of_methodNamed B.named
  have htb := vx_table (x := yL_length) B (hts _ List.mem_cons_self)
  have hlocks := B.notSynchronized
  subst hsz
  have hD := hD0.self (sz := s.heap.size)
  generalize hAe : va_A [(aX, .inr (8, [.ref aT, .ref aS, .ref aF, .ref aQ, .ref aW, .ref aP, .ref aB, .ref aR])), (aP, .inr (3, [.ref aPk, .ref aPl, .ref aPd, .ref aPs, .int pn, .int pch])), (aPl, .inl (cyI, 64, .inl pl)), (aO, .inl (cyJ, 1, .inr (.inl ov)))] s.heap.size = A at hD hZ ⊢
  have hA : ∀ q : Nat, s.heap.size ≤ q → A q := fun q h => by rw [← hAe]; exact Or.inr h
  have hS : va_S A s.heap s.heap [] := va_S.rf
  have hP : va_P (dC, dI) vwCl [(aX, .inr (8, [.ref aT, .ref aS, .ref aF, .ref aQ, .ref aW, .ref aP, .ref aB, .ref aR])), (aP, .inr (3, [.ref aPk, .ref aPl, .ref aPd, .ref aPs, .int pn, .int pch])), (aPl, .inl (cyI, 64, .inl pl)), (aO, .inl (cyJ, 1, .inr (.inl ov)))] s.heap := hP
  have hl := lv_entry ([.ref aX, .int v1, .ref aO]) (n := 4) (Nat.le_of_ble_eq_true rfl)
  rw [lg_entry_eq]
  generalize (lg_sl ([.ref aX, .int v1, .ref aO]) ++ List.replicate (4 - (lg_sl ([.ref aX, .int v1, .ref aO])).length) Slot.unset).toArray = ls at hl ⊢
  have hl : lv_has ls 4 [(0, .ref aX), (1, .int v1), (2, .ref aO)] := hl
  have C0 : CallFix p m c cL_length 4 s ([.ref aX, .int v1, .ref aO] : List Value).toArray wsL_length RL := ⟨hx, hb, hml, hown, hts⟩
  unfold wpL_length at h
  refine lv_aload_n hx hb dL_length_0 rfl (lv_at hl 2 rfl) ?_
  refine lv_iconst (v := 0) hx hb dL_length_1 (by decide) ?_
  refine lv_aload_n hx hb dL_length_2 rfl (lv_at hl 0 rfl) ?_
  refine lv_iload_n hx hb dL_length_3 rfl (lv_at hl 1 rfl) ?_
  refine wk_xcalli (wc := [(aX, .inr (8, [.ref aT, .ref aS, .ref aF, .ref aQ, .ref aW, .ref aP, .ref aB, .ref aR])), (aP, .inr (3, [.ref aPk, .ref aPl, .ref aPd, .ref aPs, .int pn, .int pch])), (aPl, .inl (cyI, 64, .inl pl))]) (wr := [(aO, .inl (cyJ, 1, .inr (.inl ov)))]) (vx_runV (As := [.int v1]) (rest := [.int 0, .ref aO]) C0 (mtX9_length l hlt dC dI cyI (aX := aX) (aT := aT) (aS := aS) (aF := aF) (aQ := aQ) (aW := aW) (aP := aP) (aPk := aPk) (aPl := aPl) (aPd := aPd) (aPs := aPs) (aB := aB) (aR := aR) (sz := _) (pn := pn) (pch := pch) (pl := pl) (v1 := v1) h) (cwV 1 hts gL_length_X9_length rfl rfl rfl (by decide +kernel) ⟨(Nat.le_of_ble_eq_true rfl), (Nat.le_of_ble_eq_true rfl)⟩) (wk_preVX (wc := [(aX, .inr (8, [.ref aT, .ref aS, .ref aF, .ref aQ, .ref aW, .ref aP, .ref aB, .ref aR])), (aP, .inr (3, [.ref aPk, .ref aPl, .ref aPd, .ref aPs, .int pn, .int pch])), (aPl, .inl (cyI, 64, .inl pl))]) (hK.sub (tys' := [(cyI, .int)]) [0] rfl) hP hD hS hA hZ [0, 1, 2] rfl (by decide) (va_recv hK hP (ci := 8) (q0 := 0) rfl rfl)) rfl rfl hl.1 rfl (lv_room (Nat.le_of_ble_eq_true rfl)) dL_length_4 ⟨(Nat.le_of_ble_eq_true rfl), (Nat.le_of_ble_eq_true rfl)⟩) hP hD hS hA [0, 1, 2] [3] rfl rfl (by decide) (by decide) (fun E9 ce9 q9 H locs h hP hD hS hc1 hc2 hc3 => ?_) (fun r_1 u9 H locs h hP hD hS => ?_)
  · have hP : va_P (dC, dI) vwCl [(aO, .inl (cyJ, 1, .inr (.inl ov))), (aX, .inr (8, [.ref aT, .ref aS, .ref aF, .ref aQ, .ref aW, .ref aP, .ref aB, .ref aR])), (aP, .inr (3, [.ref aPk, .ref aPl, .ref aPd, .ref aPs, .int pn, .int pch])), (aPl, .inl (cyI, 64, .inl pl))] H := hP
    have hD : va_D A [(aO, .inl (cyJ, 1, .inr (.inl ov))), (aX, .inr (8, [.ref aT, .ref aS, .ref aF, .ref aQ, .ref aW, .ref aP, .ref aB, .ref aR])), (aP, .inr (3, [.ref aPk, .ref aPl, .ref aPd, .ref aPs, .int pn, .int pch])), (aPl, .inl (cyI, 64, .inl pl))] := hD
    rcases h with ⟨rfl, h⟩ | ⟨rfl, h⟩
    · refine vx_catch (name := xS) hown [] ⟨0, 9, 12, 15⟩ [⟨0, 9, 15, 28⟩] (by rw [htb]; rfl) (fun z hz => nomatch hz) (by decide) (by decide) (hts _ qL_length_0) (hZ.use _ _ (List.mem_of_getElem? (i := 1) rfl)) hc1 hc2 hc3 ?_
      refine lv_astore_n (lv' := [(3, .ref q9), (0, .ref aX), (1, .int v1), (2, .ref aO)]) hx hb dL_length_12 rfl hl (by decide) rfl (fun ls hl => ?_)
      refine lv_iconst (v := 1) hx hb dL_length_13 (by decide) ?_
      have hP9 : va_P (dC, dI) vwCl [(aX, .inr (8, [.ref aT, .ref aS, .ref aF, .ref aQ, .ref aW, .ref aP, .ref aB, .ref aR])), (aP, .inr (3, [.ref aPk, .ref aPl, .ref aPd, .ref aPs, .int pn, .int pch])), (aPl, .inl (cyI, 64, .inl pl)), (aO, .inl (cyJ, 1, .inr (.inl ov)))] _ := (hP.sub [1, 2, 3, 0] rfl)
      have hD9 : va_D A [(aX, .inr (8, [.ref aT, .ref aS, .ref aF, .ref aQ, .ref aW, .ref aP, .ref aB, .ref aR])), (aP, .inr (3, [.ref aPk, .ref aPl, .ref aPd, .ref aPs, .int pn, .int pch])), (aPl, .inl (cyI, 64, .inl pl)), (aO, .inl (cyJ, 1, .inr (.inl ov)))] := (hD.sub [1, 2, 3, 0] (by decide) rfl)
      refine vx_ret ?_
      refine W.widen (k := 1) (n := 6) (Nat.le_of_ble_eq_true rfl) (Nat.le_of_ble_eq_true rfl) ?_
      exact W.iret (v := 1) hx hb hr (fun t ht hW => ⟨⟨1, ov, rfl, h, by rw [ht]; exact hP9, va_K.moved hW.alike hK, hD9⟩, hS.F ht⟩) hS.2.2 dL_length_14
    · refine vx_catch (name := xI) hown [⟨0, 9, 12, 15⟩] ⟨0, 9, 15, 28⟩ [] (by rw [htb]; rfl) (fun z hz => by rcases List.mem_singleton.mp hz with rfl; exact Or.inr ⟨by decide, _, (hts _ qL_length_0), hZ.2.2.2.2.2.1⟩) (by decide) (by decide) (hts _ qL_length_1) (hZ.use _ _ (List.mem_of_getElem? (i := 2) rfl)) hc1 hc2 hc3 ?_
      refine lv_astore_n (lv' := [(3, .ref q9), (0, .ref aX), (1, .int v1), (2, .ref aO)]) hx hb dL_length_15 rfl hl (by decide) rfl (fun ls hl => ?_)
      refine lv_iconst (v := 2) hx hb dL_length_16 (by decide) ?_
      have hP9 : va_P (dC, dI) vwCl [(aX, .inr (8, [.ref aT, .ref aS, .ref aF, .ref aQ, .ref aW, .ref aP, .ref aB, .ref aR])), (aP, .inr (3, [.ref aPk, .ref aPl, .ref aPd, .ref aPs, .int pn, .int pch])), (aPl, .inl (cyI, 64, .inl pl)), (aO, .inl (cyJ, 1, .inr (.inl ov)))] _ := (hP.sub [1, 2, 3, 0] rfl)
      have hD9 : va_D A [(aX, .inr (8, [.ref aT, .ref aS, .ref aF, .ref aQ, .ref aW, .ref aP, .ref aB, .ref aR])), (aP, .inr (3, [.ref aPk, .ref aPl, .ref aPd, .ref aPs, .int pn, .int pch])), (aPl, .inl (cyI, 64, .inl pl)), (aO, .inl (cyJ, 1, .inr (.inl ov)))] := (hD.sub [1, 2, 3, 0] (by decide) rfl)
      refine vx_ret ?_
      refine W.widen (k := 1) (n := 6) (Nat.le_of_ble_eq_true rfl) (Nat.le_of_ble_eq_true rfl) ?_
      exact W.iret (v := 2) hx hb hr (fun t ht hW => ⟨⟨2, ov, rfl, h, by rw [ht]; exact hP9, va_K.moved hW.alike hK, hD9⟩, hS.F ht⟩) hS.2.2 dL_length_17
  have hP : va_P (dC, dI) vwCl [(aO, .inl (cyJ, 1, .inr (.inl ov))), (aX, .inr (8, [.ref aT, .ref aS, .ref aF, .ref aQ, .ref aW, .ref aP, .ref aB, .ref aR])), (aP, .inr (3, [.ref aPk, .ref aPl, .ref aPd, .ref aPs, .int pn, .int pch])), (aPl, .inl (cyI, 64, .inl pl))] H := hP
  have hD : va_D A [(aO, .inl (cyJ, 1, .inr (.inl ov))), (aX, .inr (8, [.ref aT, .ref aS, .ref aF, .ref aQ, .ref aW, .ref aP, .ref aB, .ref aR])), (aP, .inr (3, [.ref aPk, .ref aPl, .ref aPd, .ref aPs, .int pn, .int pch])), (aPl, .inl (cyI, 64, .inl pl))] := hD
  refine lv_i2l hx hb dL_length_7 rfl ?_
  refine va_last hx hb hK hP hD hS 0 1 rfl rfl wk_in01 dL_length_8 (fun H locs hP hD hS => ?_)
  have hP : va_P (dC, dI) vwCl [(aO, .inl (cyJ, 1, .inr (.inl (vp_updL ov (0 : Int32).toNatClampNeg (r_1.toInt64))))), (aX, .inr (8, [.ref aT, .ref aS, .ref aF, .ref aQ, .ref aW, .ref aP, .ref aB, .ref aR])), (aP, .inr (3, [.ref aPk, .ref aPl, .ref aPd, .ref aPs, .int pn, .int pch])), (aPl, .inl (cyI, 64, .inl pl))] H := hP
  have hD : va_D A [(aO, .inl (cyJ, 1, .inr (.inl (vp_updL ov (0 : Int32).toNatClampNeg (r_1.toInt64))))), (aX, .inr (8, [.ref aT, .ref aS, .ref aF, .ref aQ, .ref aW, .ref aP, .ref aB, .ref aR])), (aP, .inr (3, [.ref aPk, .ref aPl, .ref aPd, .ref aPs, .int pn, .int pch])), (aPl, .inl (cyI, 64, .inl pl))] := hD
  refine lv_goto (tgt := 18) hx hb dL_length_9 (by decide) ?_
  refine lv_iconst (v := 0) hx hb dL_length_18 (by decide) ?_
  have hP9 : va_P (dC, dI) vwCl [(aX, .inr (8, [.ref aT, .ref aS, .ref aF, .ref aQ, .ref aW, .ref aP, .ref aB, .ref aR])), (aP, .inr (3, [.ref aPk, .ref aPl, .ref aPd, .ref aPs, .int pn, .int pch])), (aPl, .inl (cyI, 64, .inl pl)), (aO, .inl (cyJ, 1, .inr (.inl (vp_updL ov (0 : Int32).toNatClampNeg (r_1.toInt64)))))] _ := (hP.sub [1, 2, 3, 0] rfl)
  have hD9 : va_D A [(aX, .inr (8, [.ref aT, .ref aS, .ref aF, .ref aQ, .ref aW, .ref aP, .ref aB, .ref aR])), (aP, .inr (3, [.ref aPk, .ref aPl, .ref aPd, .ref aPs, .int pn, .int pch])), (aPl, .inl (cyI, 64, .inl pl)), (aO, .inl (cyJ, 1, .inr (.inl (vp_updL ov (0 : Int32).toNatClampNeg (r_1.toInt64)))))] := (hD.sub [1, 2, 3, 0] (by decide) rfl)
  refine vx_ret ?_
  refine W.widen (k := 1) (n := 6) (Nat.le_of_ble_eq_true rfl) (Nat.le_of_ble_eq_true rfl) ?_
  exact W.iret (v := 0) hx hb hr (fun t ht hW => ⟨⟨0, vp_updL ov (0 : Int32).toNatClampNeg (r_1.toInt64), rfl, h, by rw [ht]; exact hP9, va_K.moved hW.alike hK, hD9⟩, hS.F ht⟩) hS.2.2 dL_length_19
-- L_distance
theorem qL_distance_0 : Cond.classLink RL 15 "java/lang/IllegalStateException" ∈ wsL_distance := (List.mem_cons_of_mem _ (List.mem_append_left _ (List.mem_append_left _ (List.mem_append_left _ (List.mem_append_left _ (List.mem_of_getElem? (i := 0) rfl))))))
theorem qL_distance_1 : Cond.classLink RL 28 "java/lang/IndexOutOfBoundsException" ∈ wsL_distance := (List.mem_cons_of_mem _ (List.mem_append_left _ (List.mem_append_left _ (List.mem_append_left _ (List.mem_append_left _ (List.mem_of_getElem? (i := 1) rfl))))))
def wpL_distance (pn : Int32) (pch : Int32) (pd : Nat → Int32) (ov : Nat → Int64) (v1 : Int32) (post : Int32 → (Nat → Int64) → Prop) : Prop := wpX9_distance pn pch pd v1 (fun (r_1 : Int32) => post 0 (vp_updL ov (0 : Int32).toNatClampNeg (r_1.toInt64))) (fun (E9 : String) => (E9 = xS ∧ (post 1 ov)) ∨ (E9 = xI ∧ (post 2 ov)))
set_option maxHeartbeats 4000000 in
set_option maxRecDepth 100000 in
theorem mtL_distance (l : Launch) (hlt : l.stackTraces = false) (dC : Nat → ClassId) (dI : Nat → Nat → Nat) (cyI cyJ cyD : ClassId) {aX aT aS aF aQ aW aP aPk aPl aPd aPs aB aR aO : Nat} {sz : Nat} {pn : Int32} {pch : Int32} {pd : Nat → Int32} {ov : Nat → Int64} {v1 : Int32} {post : Int32 → (Nat → Int64) → Prop} (h : wpL_distance pn pch pd ov v1 post) : vx_Met l yL_distance wsL_distance ({ frames := 8, cells := 1, slots := 6, locals := 124 }) (va_Pc [.ref aX, .int v1, .ref aO] (wk_BX (dC, dI) [(cyI, .int), (cyJ, .long), (cyD, .double)] [(aX, .inr (8, [.ref aT, .ref aS, .ref aF, .ref aQ, .ref aW, .ref aP, .ref aB, .ref aR])), (aP, .inr (3, [.ref aPk, .ref aPl, .ref aPd, .ref aPs, .int pn, .int pch])), (aPd, .inl (cyI, 64, .inl pd)), (aO, .inl (cyJ, 1, .inr (.inl ov)))] sz)) (va_Qi (fun (r : Int32) (u : (Nat → Int64)) => post r u) (wk_C (dC, dI) [(cyI, .int), (cyJ, .long), (cyD, .double)] (va_A [(aX, .inr (8, [.ref aT, .ref aS, .ref aF, .ref aQ, .ref aW, .ref aP, .ref aB, .ref aR])), (aP, .inr (3, [.ref aPk, .ref aPl, .ref aPd, .ref aPs, .int pn, .int pch])), (aPd, .inl (cyI, 64, .inl pd)), (aO, .inl (cyJ, 1, .inr (.inl ov)))] sz) (fun (u : (Nat → Int64)) => [(aX, .inr (8, [.ref aT, .ref aS, .ref aF, .ref aQ, .ref aW, .ref aP, .ref aB, .ref aR])), (aP, .inr (3, [.ref aPk, .ref aPl, .ref aPd, .ref aPs, .int pn, .int pch])), (aPd, .inl (cyI, 64, .inl pd)), (aO, .inl (cyJ, 1, .inr (.inl (u))))])) (va_A [(aX, .inr (8, [.ref aT, .ref aS, .ref aF, .ref aQ, .ref aW, .ref aP, .ref aB, .ref aR])), (aP, .inr (3, [.ref aPk, .ref aPl, .ref aPd, .ref aPs, .int pn, .int pch])), (aPd, .inl (cyI, 64, .inl pd)), (aO, .inl (cyJ, 1, .inr (.inl ov)))] sz)) (vx_X (fun (_ : String) => False) (wk_X (dC, dI) [(cyI, .int), (cyJ, .long), (cyD, .double)] (va_A [(aX, .inr (8, [.ref aT, .ref aS, .ref aF, .ref aQ, .ref aW, .ref aP, .ref aB, .ref aR])), (aP, .inr (3, [.ref aPk, .ref aPl, .ref aPd, .ref aPs, .int pn, .int pch])), (aPd, .inl (cyI, 64, .inl pd)), (aO, .inl (cyJ, 1, .inr (.inl ov)))] sz) [(aX, .inr (8, [.ref aT, .ref aS, .ref aF, .ref aQ, .ref aW, .ref aP, .ref aB, .ref aR])), (aP, .inr (3, [.ref aPk, .ref aPl, .ref aPd, .ref aPs, .int pn, .int pch])), (aPd, .inl (cyI, 64, .inl pd)), (aO, .inl (cyJ, 1, .inr (.inl ov)))]) (va_A [(aX, .inr (8, [.ref aT, .ref aS, .ref aF, .ref aQ, .ref aW, .ref aP, .ref aB, .ref aR])), (aP, .inr (3, [.ref aPk, .ref aPl, .ref aPd, .ref aPs, .int pn, .int pch])), (aPd, .inl (cyI, 64, .inl pd)), (aO, .inl (cyJ, 1, .inr (.inl ov)))] sz)) 1 6 (va_A [(aX, .inr (8, [.ref aT, .ref aS, .ref aF, .ref aQ, .ref aW, .ref aP, .ref aB, .ref aR])), (aP, .inr (3, [.ref aPk, .ref aPl, .ref aPd, .ref aPs, .int pn, .int pch])), (aPd, .inl (cyI, 64, .inl pd)), (aO, .inl (cyJ, 1, .inr (.inl ov)))] sz) := by
  refine vx_ofWH (cc := cL_distance) (maxL := 4) (ret := (some .int)) (by decide) rfl ?_
  intro p e s m args below meth c s₁ B hml hv
  obtain ⟨rfl, ⟨hsz, hP, hK, hD0⟩, hZ⟩ := hv
  have hx := B.exec
  have hb := B.bytes
  have hr := B.returns
  have hts := atoms_spec (ws := wsL_distance) B.pre
  have hown : s.vm.findClass RL = some m.cls := findClass_of_methodNamed B.named
  have htb := vx_table (x := yL_distance) B (hts _ List.mem_cons_self)
  have hlocks := B.notSynchronized
  subst hsz
  have hD := hD0.self (sz := s.heap.size)
  generalize hAe : va_A [(aX, .inr (8, [.ref aT, .ref aS, .ref aF, .ref aQ, .ref aW, .ref aP, .ref aB, .ref aR])), (aP, .inr (3, [.ref aPk, .ref aPl, .ref aPd, .ref aPs, .int pn, .int pch])), (aPd, .inl (cyI, 64, .inl pd)), (aO, .inl (cyJ, 1, .inr (.inl ov)))] s.heap.size = A at hD hZ ⊢
  have hA : ∀ q : Nat, s.heap.size ≤ q → A q := fun q h => by rw [← hAe]; exact Or.inr h
  have hS : va_S A s.heap s.heap [] := va_S.rf
  have hP : va_P (dC, dI) vwCl [(aX, .inr (8, [.ref aT, .ref aS, .ref aF, .ref aQ, .ref aW, .ref aP, .ref aB, .ref aR])), (aP, .inr (3, [.ref aPk, .ref aPl, .ref aPd, .ref aPs, .int pn, .int pch])), (aPd, .inl (cyI, 64, .inl pd)), (aO, .inl (cyJ, 1, .inr (.inl ov)))] s.heap := hP
  have hl := lv_entry ([.ref aX, .int v1, .ref aO]) (n := 4) (Nat.le_of_ble_eq_true rfl)
  rw [lg_entry_eq]
  generalize (lg_sl ([.ref aX, .int v1, .ref aO]) ++ List.replicate (4 - (lg_sl ([.ref aX, .int v1, .ref aO])).length) Slot.unset).toArray = ls at hl ⊢
  have hl : lv_has ls 4 [(0, .ref aX), (1, .int v1), (2, .ref aO)] := hl
  have C0 : CallFix p m c cL_distance 4 s ([.ref aX, .int v1, .ref aO] : List Value).toArray wsL_distance RL := ⟨hx, hb, hml, hown, hts⟩
  unfold wpL_distance at h
  refine lv_aload_n hx hb dL_distance_0 rfl (lv_at hl 2 rfl) ?_
  refine lv_iconst (v := 0) hx hb dL_distance_1 (by decide) ?_
  refine lv_aload_n hx hb dL_distance_2 rfl (lv_at hl 0 rfl) ?_
  refine lv_iload_n hx hb dL_distance_3 rfl (lv_at hl 1 rfl) ?_
  refine wk_xcalli (wc := [(aX, .inr (8, [.ref aT, .ref aS, .ref aF, .ref aQ, .ref aW, .ref aP, .ref aB, .ref aR])), (aP, .inr (3, [.ref aPk, .ref aPl, .ref aPd, .ref aPs, .int pn, .int pch])), (aPd, .inl (cyI, 64, .inl pd))]) (wr := [(aO, .inl (cyJ, 1, .inr (.inl ov)))]) (vx_runV (As := [.int v1]) (rest := [.int 0, .ref aO]) C0 (mtX9_distance l hlt dC dI cyI (aX := aX) (aT := aT) (aS := aS) (aF := aF) (aQ := aQ) (aW := aW) (aP := aP) (aPk := aPk) (aPl := aPl) (aPd := aPd) (aPs := aPs) (aB := aB) (aR := aR) (sz := _) (pn := pn) (pch := pch) (pd := pd) (v1 := v1) h) (cwV 1 hts gL_distance_X9_distance rfl rfl rfl (by decide +kernel) ⟨(Nat.le_of_ble_eq_true rfl), (Nat.le_of_ble_eq_true rfl)⟩) (wk_preVX (wc := [(aX, .inr (8, [.ref aT, .ref aS, .ref aF, .ref aQ, .ref aW, .ref aP, .ref aB, .ref aR])), (aP, .inr (3, [.ref aPk, .ref aPl, .ref aPd, .ref aPs, .int pn, .int pch])), (aPd, .inl (cyI, 64, .inl pd))]) (hK.sub (tys' := [(cyI, .int)]) [0] rfl) hP hD hS hA hZ [0, 1, 2] rfl (by decide) (va_recv hK hP (ci := 8) (q0 := 0) rfl rfl)) rfl rfl hl.1 rfl (lv_room (Nat.le_of_ble_eq_true rfl)) dL_distance_4 ⟨(Nat.le_of_ble_eq_true rfl), (Nat.le_of_ble_eq_true rfl)⟩) hP hD hS hA [0, 1, 2] [3] rfl rfl (by decide) (by decide) (fun E9 ce9 q9 H locs h hP hD hS hc1 hc2 hc3 => ?_) (fun r_1 u9 H locs h hP hD hS => ?_)
  · have hP : va_P (dC, dI) vwCl [(aO, .inl (cyJ, 1, .inr (.inl ov))), (aX, .inr (8, [.ref aT, .ref aS, .ref aF, .ref aQ, .ref aW, .ref aP, .ref aB, .ref aR])), (aP, .inr (3, [.ref aPk, .ref aPl, .ref aPd, .ref aPs, .int pn, .int pch])), (aPd, .inl (cyI, 64, .inl pd))] H := hP
    have hD : va_D A [(aO, .inl (cyJ, 1, .inr (.inl ov))), (aX, .inr (8, [.ref aT, .ref aS, .ref aF, .ref aQ, .ref aW, .ref aP, .ref aB, .ref aR])), (aP, .inr (3, [.ref aPk, .ref aPl, .ref aPd, .ref aPs, .int pn, .int pch])), (aPd, .inl (cyI, 64, .inl pd))] := hD
    rcases h with ⟨rfl, h⟩ | ⟨rfl, h⟩
    · refine vx_catch (name := xS) hown [] ⟨0, 9, 12, 15⟩ [⟨0, 9, 15, 28⟩] (by rw [htb]; rfl) (fun z hz => nomatch hz) (by decide) (by decide) (hts _ qL_distance_0) (hZ.use _ _ (List.mem_of_getElem? (i := 1) rfl)) hc1 hc2 hc3 ?_
      refine lv_astore_n (lv' := [(3, .ref q9), (0, .ref aX), (1, .int v1), (2, .ref aO)]) hx hb dL_distance_12 rfl hl (by decide) rfl (fun ls hl => ?_)
      refine lv_iconst (v := 1) hx hb dL_distance_13 (by decide) ?_
      have hP9 : va_P (dC, dI) vwCl [(aX, .inr (8, [.ref aT, .ref aS, .ref aF, .ref aQ, .ref aW, .ref aP, .ref aB, .ref aR])), (aP, .inr (3, [.ref aPk, .ref aPl, .ref aPd, .ref aPs, .int pn, .int pch])), (aPd, .inl (cyI, 64, .inl pd)), (aO, .inl (cyJ, 1, .inr (.inl ov)))] _ := (hP.sub [1, 2, 3, 0] rfl)
      have hD9 : va_D A [(aX, .inr (8, [.ref aT, .ref aS, .ref aF, .ref aQ, .ref aW, .ref aP, .ref aB, .ref aR])), (aP, .inr (3, [.ref aPk, .ref aPl, .ref aPd, .ref aPs, .int pn, .int pch])), (aPd, .inl (cyI, 64, .inl pd)), (aO, .inl (cyJ, 1, .inr (.inl ov)))] := (hD.sub [1, 2, 3, 0] (by decide) rfl)
      refine vx_ret ?_
      refine W.widen (k := 1) (n := 6) (Nat.le_of_ble_eq_true rfl) (Nat.le_of_ble_eq_true rfl) ?_
      exact W.iret (v := 1) hx hb hr (fun t ht hW => ⟨⟨1, ov, rfl, h, by rw [ht]; exact hP9, va_K.moved hW.alike hK, hD9⟩, hS.F ht⟩) hS.2.2 dL_distance_14
    · refine vx_catch (name := xI) hown [⟨0, 9, 12, 15⟩] ⟨0, 9, 15, 28⟩ [] (by rw [htb]; rfl) (fun z hz => by rcases List.mem_singleton.mp hz with rfl; exact Or.inr ⟨by decide, _, (hts _ qL_distance_0), hZ.2.2.2.2.2.1⟩) (by decide) (by decide) (hts _ qL_distance_1) (hZ.use _ _ (List.mem_of_getElem? (i := 2) rfl)) hc1 hc2 hc3 ?_
      refine lv_astore_n (lv' := [(3, .ref q9), (0, .ref aX), (1, .int v1), (2, .ref aO)]) hx hb dL_distance_15 rfl hl (by decide) rfl (fun ls hl => ?_)
      refine lv_iconst (v := 2) hx hb dL_distance_16 (by decide) ?_
      have hP9 : va_P (dC, dI) vwCl [(aX, .inr (8, [.ref aT, .ref aS, .ref aF, .ref aQ, .ref aW, .ref aP, .ref aB, .ref aR])), (aP, .inr (3, [.ref aPk, .ref aPl, .ref aPd, .ref aPs, .int pn, .int pch])), (aPd, .inl (cyI, 64, .inl pd)), (aO, .inl (cyJ, 1, .inr (.inl ov)))] _ := (hP.sub [1, 2, 3, 0] rfl)
      have hD9 : va_D A [(aX, .inr (8, [.ref aT, .ref aS, .ref aF, .ref aQ, .ref aW, .ref aP, .ref aB, .ref aR])), (aP, .inr (3, [.ref aPk, .ref aPl, .ref aPd, .ref aPs, .int pn, .int pch])), (aPd, .inl (cyI, 64, .inl pd)), (aO, .inl (cyJ, 1, .inr (.inl ov)))] := (hD.sub [1, 2, 3, 0] (by decide) rfl)
      refine vx_ret ?_
      refine W.widen (k := 1) (n := 6) (Nat.le_of_ble_eq_true rfl) (Nat.le_of_ble_eq_true rfl) ?_
      exact W.iret (v := 2) hx hb hr (fun t ht hW => ⟨⟨2, ov, rfl, h, by rw [ht]; exact hP9, va_K.moved hW.alike hK, hD9⟩, hS.F ht⟩) hS.2.2 dL_distance_17
  have hP : va_P (dC, dI) vwCl [(aO, .inl (cyJ, 1, .inr (.inl ov))), (aX, .inr (8, [.ref aT, .ref aS, .ref aF, .ref aQ, .ref aW, .ref aP, .ref aB, .ref aR])), (aP, .inr (3, [.ref aPk, .ref aPl, .ref aPd, .ref aPs, .int pn, .int pch])), (aPd, .inl (cyI, 64, .inl pd))] H := hP
  have hD : va_D A [(aO, .inl (cyJ, 1, .inr (.inl ov))), (aX, .inr (8, [.ref aT, .ref aS, .ref aF, .ref aQ, .ref aW, .ref aP, .ref aB, .ref aR])), (aP, .inr (3, [.ref aPk, .ref aPl, .ref aPd, .ref aPs, .int pn, .int pch])), (aPd, .inl (cyI, 64, .inl pd))] := hD
  refine lv_i2l hx hb dL_distance_7 rfl ?_
  refine va_last hx hb hK hP hD hS 0 1 rfl rfl wk_in01 dL_distance_8 (fun H locs hP hD hS => ?_)
  have hP : va_P (dC, dI) vwCl [(aO, .inl (cyJ, 1, .inr (.inl (vp_updL ov (0 : Int32).toNatClampNeg (r_1.toInt64))))), (aX, .inr (8, [.ref aT, .ref aS, .ref aF, .ref aQ, .ref aW, .ref aP, .ref aB, .ref aR])), (aP, .inr (3, [.ref aPk, .ref aPl, .ref aPd, .ref aPs, .int pn, .int pch])), (aPd, .inl (cyI, 64, .inl pd))] H := hP
  have hD : va_D A [(aO, .inl (cyJ, 1, .inr (.inl (vp_updL ov (0 : Int32).toNatClampNeg (r_1.toInt64))))), (aX, .inr (8, [.ref aT, .ref aS, .ref aF, .ref aQ, .ref aW, .ref aP, .ref aB, .ref aR])), (aP, .inr (3, [.ref aPk, .ref aPl, .ref aPd, .ref aPs, .int pn, .int pch])), (aPd, .inl (cyI, 64, .inl pd))] := hD
  refine lv_goto (tgt := 18) hx hb dL_distance_9 (by decide) ?_
  refine lv_iconst (v := 0) hx hb dL_distance_18 (by decide) ?_
  have hP9 : va_P (dC, dI) vwCl [(aX, .inr (8, [.ref aT, .ref aS, .ref aF, .ref aQ, .ref aW, .ref aP, .ref aB, .ref aR])), (aP, .inr (3, [.ref aPk, .ref aPl, .ref aPd, .ref aPs, .int pn, .int pch])), (aPd, .inl (cyI, 64, .inl pd)), (aO, .inl (cyJ, 1, .inr (.inl (vp_updL ov (0 : Int32).toNatClampNeg (r_1.toInt64)))))] _ := (hP.sub [1, 2, 3, 0] rfl)
  have hD9 : va_D A [(aX, .inr (8, [.ref aT, .ref aS, .ref aF, .ref aQ, .ref aW, .ref aP, .ref aB, .ref aR])), (aP, .inr (3, [.ref aPk, .ref aPl, .ref aPd, .ref aPs, .int pn, .int pch])), (aPd, .inl (cyI, 64, .inl pd)), (aO, .inl (cyJ, 1, .inr (.inl (vp_updL ov (0 : Int32).toNatClampNeg (r_1.toInt64)))))] := (hD.sub [1, 2, 3, 0] (by decide) rfl)
  refine vx_ret ?_
  refine W.widen (k := 1) (n := 6) (Nat.le_of_ble_eq_true rfl) (Nat.le_of_ble_eq_true rfl) ?_
  exact W.iret (v := 0) hx hb hr (fun t ht hW => ⟨⟨0, vp_updL ov (0 : Int32).toNatClampNeg (r_1.toInt64), rfl, h, by rw [ht]; exact hP9, va_K.moved hW.alike hK, hD9⟩, hS.F ht⟩) hS.2.2 dL_distance_19
-- L_start
theorem qL_start_0 : Cond.classLink RL 15 "java/lang/IllegalStateException" ∈ wsL_start := (List.mem_cons_of_mem _ (List.mem_append_left _ (List.mem_append_left _ (List.mem_append_left _ (List.mem_append_left _ (List.mem_of_getElem? (i := 0) rfl))))))
theorem qL_start_1 : Cond.classLink RL 28 "java/lang/IndexOutOfBoundsException" ∈ wsL_start := (List.mem_cons_of_mem _ (List.mem_append_left _ (List.mem_append_left _ (List.mem_append_left _ (List.mem_append_left _ (List.mem_of_getElem? (i := 1) rfl))))))
def wpL_start (pn : Int32) (pch : Int32) (ps : Nat → Int32) (ov : Nat → Int64) (v1 : Int32) (post : Int32 → (Nat → Int64) → Prop) : Prop := wpX9_start pn pch ps v1 (fun (r_1 : Int32) => post 0 (vp_updL ov (0 : Int32).toNatClampNeg (r_1.toInt64))) (fun (E9 : String) => (E9 = xS ∧ (post 1 ov)) ∨ (E9 = xI ∧ (post 2 ov)))
set_option maxHeartbeats 4000000 in
set_option maxRecDepth 100000 in
theorem mtL_start (l : Launch) (hlt : l.stackTraces = false) (dC : Nat → ClassId) (dI : Nat → Nat → Nat) (cyI cyJ cyD : ClassId) {aX aT aS aF aQ aW aP aPk aPl aPd aPs aB aR aO : Nat} {sz : Nat} {pn : Int32} {pch : Int32} {ps : Nat → Int32} {ov : Nat → Int64} {v1 : Int32} {post : Int32 → (Nat → Int64) → Prop} (h : wpL_start pn pch ps ov v1 post) : vx_Met l yL_start wsL_start ({ frames := 8, cells := 1, slots := 6, locals := 124 }) (va_Pc [.ref aX, .int v1, .ref aO] (wk_BX (dC, dI) [(cyI, .int), (cyJ, .long), (cyD, .double)] [(aX, .inr (8, [.ref aT, .ref aS, .ref aF, .ref aQ, .ref aW, .ref aP, .ref aB, .ref aR])), (aP, .inr (3, [.ref aPk, .ref aPl, .ref aPd, .ref aPs, .int pn, .int pch])), (aPs, .inl (cyI, 64, .inl ps)), (aO, .inl (cyJ, 1, .inr (.inl ov)))] sz)) (va_Qi (fun (r : Int32) (u : (Nat → Int64)) => post r u) (wk_C (dC, dI) [(cyI, .int), (cyJ, .long), (cyD, .double)] (va_A [(aX, .inr (8, [.ref aT, .ref aS, .ref aF, .ref aQ, .ref aW, .ref aP, .ref aB, .ref aR])), (aP, .inr (3, [.ref aPk, .ref aPl, .ref aPd, .ref aPs, .int pn, .int pch])), (aPs, .inl (cyI, 64, .inl ps)), (aO, .inl (cyJ, 1, .inr (.inl ov)))] sz) (fun (u : (Nat → Int64)) => [(aX, .inr (8, [.ref aT, .ref aS, .ref aF, .ref aQ, .ref aW, .ref aP, .ref aB, .ref aR])), (aP, .inr (3, [.ref aPk, .ref aPl, .ref aPd, .ref aPs, .int pn, .int pch])), (aPs, .inl (cyI, 64, .inl ps)), (aO, .inl (cyJ, 1, .inr (.inl (u))))])) (va_A [(aX, .inr (8, [.ref aT, .ref aS, .ref aF, .ref aQ, .ref aW, .ref aP, .ref aB, .ref aR])), (aP, .inr (3, [.ref aPk, .ref aPl, .ref aPd, .ref aPs, .int pn, .int pch])), (aPs, .inl (cyI, 64, .inl ps)), (aO, .inl (cyJ, 1, .inr (.inl ov)))] sz)) (vx_X (fun (_ : String) => False) (wk_X (dC, dI) [(cyI, .int), (cyJ, .long), (cyD, .double)] (va_A [(aX, .inr (8, [.ref aT, .ref aS, .ref aF, .ref aQ, .ref aW, .ref aP, .ref aB, .ref aR])), (aP, .inr (3, [.ref aPk, .ref aPl, .ref aPd, .ref aPs, .int pn, .int pch])), (aPs, .inl (cyI, 64, .inl ps)), (aO, .inl (cyJ, 1, .inr (.inl ov)))] sz) [(aX, .inr (8, [.ref aT, .ref aS, .ref aF, .ref aQ, .ref aW, .ref aP, .ref aB, .ref aR])), (aP, .inr (3, [.ref aPk, .ref aPl, .ref aPd, .ref aPs, .int pn, .int pch])), (aPs, .inl (cyI, 64, .inl ps)), (aO, .inl (cyJ, 1, .inr (.inl ov)))]) (va_A [(aX, .inr (8, [.ref aT, .ref aS, .ref aF, .ref aQ, .ref aW, .ref aP, .ref aB, .ref aR])), (aP, .inr (3, [.ref aPk, .ref aPl, .ref aPd, .ref aPs, .int pn, .int pch])), (aPs, .inl (cyI, 64, .inl ps)), (aO, .inl (cyJ, 1, .inr (.inl ov)))] sz)) 1 6 (va_A [(aX, .inr (8, [.ref aT, .ref aS, .ref aF, .ref aQ, .ref aW, .ref aP, .ref aB, .ref aR])), (aP, .inr (3, [.ref aPk, .ref aPl, .ref aPd, .ref aPs, .int pn, .int pch])), (aPs, .inl (cyI, 64, .inl ps)), (aO, .inl (cyJ, 1, .inr (.inl ov)))] sz) := by
  refine vx_ofWH (cc := cL_start) (maxL := 4) (ret := (some .int)) (by decide) rfl ?_
  intro p e s m args below meth c s₁ B hml hv
  obtain ⟨rfl, ⟨hsz, hP, hK, hD0⟩, hZ⟩ := hv
  have hx := B.exec
  have hb := B.bytes
  have hr := B.returns
  have hts := atoms_spec (ws := wsL_start) B.pre
  have hown : s.vm.findClass RL = some m.cls := findClass_of_methodNamed B.named
  have htb := vx_table (x := yL_start) B (hts _ List.mem_cons_self)
  have hlocks := B.notSynchronized
  subst hsz
  have hD := hD0.self (sz := s.heap.size)
  generalize hAe : va_A [(aX, .inr (8, [.ref aT, .ref aS, .ref aF, .ref aQ, .ref aW, .ref aP, .ref aB, .ref aR])), (aP, .inr (3, [.ref aPk, .ref aPl, .ref aPd, .ref aPs, .int pn, .int pch])), (aPs, .inl (cyI, 64, .inl ps)), (aO, .inl (cyJ, 1, .inr (.inl ov)))] s.heap.size = A at hD hZ ⊢
  have hA : ∀ q : Nat, s.heap.size ≤ q → A q := fun q h => by rw [← hAe]; exact Or.inr h
  have hS : va_S A s.heap s.heap [] := va_S.rf
  have hP : va_P (dC, dI) vwCl [(aX, .inr (8, [.ref aT, .ref aS, .ref aF, .ref aQ, .ref aW, .ref aP, .ref aB, .ref aR])), (aP, .inr (3, [.ref aPk, .ref aPl, .ref aPd, .ref aPs, .int pn, .int pch])), (aPs, .inl (cyI, 64, .inl ps)), (aO, .inl (cyJ, 1, .inr (.inl ov)))] s.heap := hP
  have hl := lv_entry ([.ref aX, .int v1, .ref aO]) (n := 4) (Nat.le_of_ble_eq_true rfl)
  rw [lg_entry_eq]
  generalize (lg_sl ([.ref aX, .int v1, .ref aO]) ++ List.replicate (4 - (lg_sl ([.ref aX, .int v1, .ref aO])).length) Slot.unset).toArray = ls at hl ⊢
  have hl : lv_has ls 4 [(0, .ref aX), (1, .int v1), (2, .ref aO)] := hl
  have C0 : CallFix p m c cL_start 4 s ([.ref aX, .int v1, .ref aO] : List Value).toArray wsL_start RL := ⟨hx, hb, hml, hown, hts⟩
  unfold wpL_start at h
  refine lv_aload_n hx hb dL_start_0 rfl (lv_at hl 2 rfl) ?_
  refine lv_iconst (v := 0) hx hb dL_start_1 (by decide) ?_
  refine lv_aload_n hx hb dL_start_2 rfl (lv_at hl 0 rfl) ?_
  refine lv_iload_n hx hb dL_start_3 rfl (lv_at hl 1 rfl) ?_
  refine wk_xcalli (wc := [(aX, .inr (8, [.ref aT, .ref aS, .ref aF, .ref aQ, .ref aW, .ref aP, .ref aB, .ref aR])), (aP, .inr (3, [.ref aPk, .ref aPl, .ref aPd, .ref aPs, .int pn, .int pch])), (aPs, .inl (cyI, 64, .inl ps))]) (wr := [(aO, .inl (cyJ, 1, .inr (.inl ov)))]) (vx_runV (As := [.int v1]) (rest := [.int 0, .ref aO]) C0 (mtX9_start l hlt dC dI cyI (aX := aX) (aT := aT) (aS := aS) (aF := aF) (aQ := aQ) (aW := aW) (aP := aP) (aPk := aPk) (aPl := aPl) (aPd := aPd) (aPs := aPs) (aB := aB) (aR := aR) (sz := _) (pn := pn) (pch := pch) (ps := ps) (v1 := v1) h) (cwV 1 hts gL_start_X9_start rfl rfl rfl (by decide +kernel) ⟨(Nat.le_of_ble_eq_true rfl), (Nat.le_of_ble_eq_true rfl)⟩) (wk_preVX (wc := [(aX, .inr (8, [.ref aT, .ref aS, .ref aF, .ref aQ, .ref aW, .ref aP, .ref aB, .ref aR])), (aP, .inr (3, [.ref aPk, .ref aPl, .ref aPd, .ref aPs, .int pn, .int pch])), (aPs, .inl (cyI, 64, .inl ps))]) (hK.sub (tys' := [(cyI, .int)]) [0] rfl) hP hD hS hA hZ [0, 1, 2] rfl (by decide) (va_recv hK hP (ci := 8) (q0 := 0) rfl rfl)) rfl rfl hl.1 rfl (lv_room (Nat.le_of_ble_eq_true rfl)) dL_start_4 ⟨(Nat.le_of_ble_eq_true rfl), (Nat.le_of_ble_eq_true rfl)⟩) hP hD hS hA [0, 1, 2] [3] rfl rfl (by decide) (by decide) (fun E9 ce9 q9 H locs h hP hD hS hc1 hc2 hc3 => ?_) (fun r_1 u9 H locs h hP hD hS => ?_)
  · have hP : va_P (dC, dI) vwCl [(aO, .inl (cyJ, 1, .inr (.inl ov))), (aX, .inr (8, [.ref aT, .ref aS, .ref aF, .ref aQ, .ref aW, .ref aP, .ref aB, .ref aR])), (aP, .inr (3, [.ref aPk, .ref aPl, .ref aPd, .ref aPs, .int pn, .int pch])), (aPs, .inl (cyI, 64, .inl ps))] H := hP
    have hD : va_D A [(aO, .inl (cyJ, 1, .inr (.inl ov))), (aX, .inr (8, [.ref aT, .ref aS, .ref aF, .ref aQ, .ref aW, .ref aP, .ref aB, .ref aR])), (aP, .inr (3, [.ref aPk, .ref aPl, .ref aPd, .ref aPs, .int pn, .int pch])), (aPs, .inl (cyI, 64, .inl ps))] := hD
    rcases h with ⟨rfl, h⟩ | ⟨rfl, h⟩
    · refine vx_catch (name := xS) hown [] ⟨0, 9, 12, 15⟩ [⟨0, 9, 15, 28⟩] (by rw [htb]; rfl) (fun z hz => nomatch hz) (by decide) (by decide) (hts _ qL_start_0) (hZ.use _ _ (List.mem_of_getElem? (i := 1) rfl)) hc1 hc2 hc3 ?_
      refine lv_astore_n (lv' := [(3, .ref q9), (0, .ref aX), (1, .int v1), (2, .ref aO)]) hx hb dL_start_12 rfl hl (by decide) rfl (fun ls hl => ?_)
      refine lv_iconst (v := 1) hx hb dL_start_13 (by decide) ?_
      have hP9 : va_P (dC, dI) vwCl [(aX, .inr (8, [.ref aT, .ref aS, .ref aF, .ref aQ, .ref aW, .ref aP, .ref aB, .ref aR])), (aP, .inr (3, [.ref aPk, .ref aPl, .ref aPd, .ref aPs, .int pn, .int pch])), (aPs, .inl (cyI, 64, .inl ps)), (aO, .inl (cyJ, 1, .inr (.inl ov)))] _ := (hP.sub [1, 2, 3, 0] rfl)
      have hD9 : va_D A [(aX, .inr (8, [.ref aT, .ref aS, .ref aF, .ref aQ, .ref aW, .ref aP, .ref aB, .ref aR])), (aP, .inr (3, [.ref aPk, .ref aPl, .ref aPd, .ref aPs, .int pn, .int pch])), (aPs, .inl (cyI, 64, .inl ps)), (aO, .inl (cyJ, 1, .inr (.inl ov)))] := (hD.sub [1, 2, 3, 0] (by decide) rfl)
      refine vx_ret ?_
      refine W.widen (k := 1) (n := 6) (Nat.le_of_ble_eq_true rfl) (Nat.le_of_ble_eq_true rfl) ?_
      exact W.iret (v := 1) hx hb hr (fun t ht hW => ⟨⟨1, ov, rfl, h, by rw [ht]; exact hP9, va_K.moved hW.alike hK, hD9⟩, hS.F ht⟩) hS.2.2 dL_start_14
    · refine vx_catch (name := xI) hown [⟨0, 9, 12, 15⟩] ⟨0, 9, 15, 28⟩ [] (by rw [htb]; rfl) (fun z hz => by rcases List.mem_singleton.mp hz with rfl; exact Or.inr ⟨by decide, _, (hts _ qL_start_0), hZ.2.2.2.2.2.1⟩) (by decide) (by decide) (hts _ qL_start_1) (hZ.use _ _ (List.mem_of_getElem? (i := 2) rfl)) hc1 hc2 hc3 ?_
      refine lv_astore_n (lv' := [(3, .ref q9), (0, .ref aX), (1, .int v1), (2, .ref aO)]) hx hb dL_start_15 rfl hl (by decide) rfl (fun ls hl => ?_)
      refine lv_iconst (v := 2) hx hb dL_start_16 (by decide) ?_
      have hP9 : va_P (dC, dI) vwCl [(aX, .inr (8, [.ref aT, .ref aS, .ref aF, .ref aQ, .ref aW, .ref aP, .ref aB, .ref aR])), (aP, .inr (3, [.ref aPk, .ref aPl, .ref aPd, .ref aPs, .int pn, .int pch])), (aPs, .inl (cyI, 64, .inl ps)), (aO, .inl (cyJ, 1, .inr (.inl ov)))] _ := (hP.sub [1, 2, 3, 0] rfl)
      have hD9 : va_D A [(aX, .inr (8, [.ref aT, .ref aS, .ref aF, .ref aQ, .ref aW, .ref aP, .ref aB, .ref aR])), (aP, .inr (3, [.ref aPk, .ref aPl, .ref aPd, .ref aPs, .int pn, .int pch])), (aPs, .inl (cyI, 64, .inl ps)), (aO, .inl (cyJ, 1, .inr (.inl ov)))] := (hD.sub [1, 2, 3, 0] (by decide) rfl)
      refine vx_ret ?_
      refine W.widen (k := 1) (n := 6) (Nat.le_of_ble_eq_true rfl) (Nat.le_of_ble_eq_true rfl) ?_
      exact W.iret (v := 2) hx hb hr (fun t ht hW => ⟨⟨2, ov, rfl, h, by rw [ht]; exact hP9, va_K.moved hW.alike hK, hD9⟩, hS.F ht⟩) hS.2.2 dL_start_17
  have hP : va_P (dC, dI) vwCl [(aO, .inl (cyJ, 1, .inr (.inl ov))), (aX, .inr (8, [.ref aT, .ref aS, .ref aF, .ref aQ, .ref aW, .ref aP, .ref aB, .ref aR])), (aP, .inr (3, [.ref aPk, .ref aPl, .ref aPd, .ref aPs, .int pn, .int pch])), (aPs, .inl (cyI, 64, .inl ps))] H := hP
  have hD : va_D A [(aO, .inl (cyJ, 1, .inr (.inl ov))), (aX, .inr (8, [.ref aT, .ref aS, .ref aF, .ref aQ, .ref aW, .ref aP, .ref aB, .ref aR])), (aP, .inr (3, [.ref aPk, .ref aPl, .ref aPd, .ref aPs, .int pn, .int pch])), (aPs, .inl (cyI, 64, .inl ps))] := hD
  refine lv_i2l hx hb dL_start_7 rfl ?_
  refine va_last hx hb hK hP hD hS 0 1 rfl rfl wk_in01 dL_start_8 (fun H locs hP hD hS => ?_)
  have hP : va_P (dC, dI) vwCl [(aO, .inl (cyJ, 1, .inr (.inl (vp_updL ov (0 : Int32).toNatClampNeg (r_1.toInt64))))), (aX, .inr (8, [.ref aT, .ref aS, .ref aF, .ref aQ, .ref aW, .ref aP, .ref aB, .ref aR])), (aP, .inr (3, [.ref aPk, .ref aPl, .ref aPd, .ref aPs, .int pn, .int pch])), (aPs, .inl (cyI, 64, .inl ps))] H := hP
  have hD : va_D A [(aO, .inl (cyJ, 1, .inr (.inl (vp_updL ov (0 : Int32).toNatClampNeg (r_1.toInt64))))), (aX, .inr (8, [.ref aT, .ref aS, .ref aF, .ref aQ, .ref aW, .ref aP, .ref aB, .ref aR])), (aP, .inr (3, [.ref aPk, .ref aPl, .ref aPd, .ref aPs, .int pn, .int pch])), (aPs, .inl (cyI, 64, .inl ps))] := hD
  refine lv_goto (tgt := 18) hx hb dL_start_9 (by decide) ?_
  refine lv_iconst (v := 0) hx hb dL_start_18 (by decide) ?_
  have hP9 : va_P (dC, dI) vwCl [(aX, .inr (8, [.ref aT, .ref aS, .ref aF, .ref aQ, .ref aW, .ref aP, .ref aB, .ref aR])), (aP, .inr (3, [.ref aPk, .ref aPl, .ref aPd, .ref aPs, .int pn, .int pch])), (aPs, .inl (cyI, 64, .inl ps)), (aO, .inl (cyJ, 1, .inr (.inl (vp_updL ov (0 : Int32).toNatClampNeg (r_1.toInt64)))))] _ := (hP.sub [1, 2, 3, 0] rfl)
  have hD9 : va_D A [(aX, .inr (8, [.ref aT, .ref aS, .ref aF, .ref aQ, .ref aW, .ref aP, .ref aB, .ref aR])), (aP, .inr (3, [.ref aPk, .ref aPl, .ref aPd, .ref aPs, .int pn, .int pch])), (aPs, .inl (cyI, 64, .inl ps)), (aO, .inl (cyJ, 1, .inr (.inl (vp_updL ov (0 : Int32).toNatClampNeg (r_1.toInt64)))))] := (hD.sub [1, 2, 3, 0] (by decide) rfl)
  refine vx_ret ?_
  refine W.widen (k := 1) (n := 6) (Nat.le_of_ble_eq_true rfl) (Nat.le_of_ble_eq_true rfl) ?_
  exact W.iret (v := 0) hx hb hr (fun t ht hW => ⟨⟨0, vp_updL ov (0 : Int32).toNatClampNeg (r_1.toInt64), rfl, h, by rw [ht]; exact hP9, va_K.moved hW.alike hK, hD9⟩, hS.F ht⟩) hS.2.2 dL_start_19
-- L_made
theorem qL_made_0 : Cond.classLink RL 15 "java/lang/IllegalStateException" ∈ wsL_made := (List.mem_cons_of_mem _ (List.mem_append_left _ (List.mem_append_left _ (List.mem_append_left _ (List.mem_append_left _ (List.mem_of_getElem? (i := 0) rfl))))))
theorem qL_made_1 : Cond.classLink RL 28 "java/lang/IndexOutOfBoundsException" ∈ wsL_made := (List.mem_cons_of_mem _ (List.mem_append_left _ (List.mem_append_left _ (List.mem_append_left _ (List.mem_append_left _ (List.mem_of_getElem? (i := 1) rfl))))))
def wpL_made (pn : Int32) (pch : Int32) (pk : Nat → Int32) (pl : Nat → Int32) (ov : Nat → Int64) (v1 : Int32) (post : Int32 → (Nat → Int64) → Prop) : Prop := wpX9_made pn pch pk pl v1 (fun (r_1 : Int32) => post 0 (vp_updL ov (0 : Int32).toNatClampNeg (r_1.toInt64))) (fun (E9 : String) => (E9 = xS ∧ (post 1 ov)) ∨ (E9 = xI ∧ (post 2 ov)))
set_option maxHeartbeats 4000000 in
set_option maxRecDepth 100000 in
theorem mtL_made (l : Launch) (hlt : l.stackTraces = false) (dC : Nat → ClassId) (dI : Nat → Nat → Nat) (cyI cyJ cyD : ClassId) {aX aT aS aF aQ aW aP aPk aPl aPd aPs aB aR aO : Nat} {sz : Nat} {pn : Int32} {pch : Int32} {pk : Nat → Int32} {pl : Nat → Int32} {ov : Nat → Int64} {v1 : Int32} {post : Int32 → (Nat → Int64) → Prop} (h : wpL_made pn pch pk pl ov v1 post) : vx_Met l yL_made wsL_made ({ frames := 7, cells := 1, slots := 6, locals := 103 }) (va_Pc [.ref aX, .int v1, .ref aO] (wk_BX (dC, dI) [(cyI, .int), (cyJ, .long), (cyD, .double)] [(aX, .inr (8, [.ref aT, .ref aS, .ref aF, .ref aQ, .ref aW, .ref aP, .ref aB, .ref aR])), (aP, .inr (3, [.ref aPk, .ref aPl, .ref aPd, .ref aPs, .int pn, .int pch])), (aPk, .inl (cyI, 64, .inl pk)), (aPl, .inl (cyI, 64, .inl pl)), (aO, .inl (cyJ, 1, .inr (.inl ov)))] sz)) (va_Qi (fun (r : Int32) (u : (Nat → Int64)) => post r u) (wk_C (dC, dI) [(cyI, .int), (cyJ, .long), (cyD, .double)] (va_A [(aX, .inr (8, [.ref aT, .ref aS, .ref aF, .ref aQ, .ref aW, .ref aP, .ref aB, .ref aR])), (aP, .inr (3, [.ref aPk, .ref aPl, .ref aPd, .ref aPs, .int pn, .int pch])), (aPk, .inl (cyI, 64, .inl pk)), (aPl, .inl (cyI, 64, .inl pl)), (aO, .inl (cyJ, 1, .inr (.inl ov)))] sz) (fun (u : (Nat → Int64)) => [(aX, .inr (8, [.ref aT, .ref aS, .ref aF, .ref aQ, .ref aW, .ref aP, .ref aB, .ref aR])), (aP, .inr (3, [.ref aPk, .ref aPl, .ref aPd, .ref aPs, .int pn, .int pch])), (aPk, .inl (cyI, 64, .inl pk)), (aPl, .inl (cyI, 64, .inl pl)), (aO, .inl (cyJ, 1, .inr (.inl (u))))])) (va_A [(aX, .inr (8, [.ref aT, .ref aS, .ref aF, .ref aQ, .ref aW, .ref aP, .ref aB, .ref aR])), (aP, .inr (3, [.ref aPk, .ref aPl, .ref aPd, .ref aPs, .int pn, .int pch])), (aPk, .inl (cyI, 64, .inl pk)), (aPl, .inl (cyI, 64, .inl pl)), (aO, .inl (cyJ, 1, .inr (.inl ov)))] sz)) (vx_X (fun (_ : String) => False) (wk_X (dC, dI) [(cyI, .int), (cyJ, .long), (cyD, .double)] (va_A [(aX, .inr (8, [.ref aT, .ref aS, .ref aF, .ref aQ, .ref aW, .ref aP, .ref aB, .ref aR])), (aP, .inr (3, [.ref aPk, .ref aPl, .ref aPd, .ref aPs, .int pn, .int pch])), (aPk, .inl (cyI, 64, .inl pk)), (aPl, .inl (cyI, 64, .inl pl)), (aO, .inl (cyJ, 1, .inr (.inl ov)))] sz) [(aX, .inr (8, [.ref aT, .ref aS, .ref aF, .ref aQ, .ref aW, .ref aP, .ref aB, .ref aR])), (aP, .inr (3, [.ref aPk, .ref aPl, .ref aPd, .ref aPs, .int pn, .int pch])), (aPk, .inl (cyI, 64, .inl pk)), (aPl, .inl (cyI, 64, .inl pl)), (aO, .inl (cyJ, 1, .inr (.inl ov)))]) (va_A [(aX, .inr (8, [.ref aT, .ref aS, .ref aF, .ref aQ, .ref aW, .ref aP, .ref aB, .ref aR])), (aP, .inr (3, [.ref aPk, .ref aPl, .ref aPd, .ref aPs, .int pn, .int pch])), (aPk, .inl (cyI, 64, .inl pk)), (aPl, .inl (cyI, 64, .inl pl)), (aO, .inl (cyJ, 1, .inr (.inl ov)))] sz)) 1 6 (va_A [(aX, .inr (8, [.ref aT, .ref aS, .ref aF, .ref aQ, .ref aW, .ref aP, .ref aB, .ref aR])), (aP, .inr (3, [.ref aPk, .ref aPl, .ref aPd, .ref aPs, .int pn, .int pch])), (aPk, .inl (cyI, 64, .inl pk)), (aPl, .inl (cyI, 64, .inl pl)), (aO, .inl (cyJ, 1, .inr (.inl ov)))] sz) := by
  refine vx_ofWH (cc := cL_made) (maxL := 4) (ret := (some .int)) (by decide) rfl ?_
  intro p e s m args below meth c s₁ B hml hv
  obtain ⟨rfl, ⟨hsz, hP, hK, hD0⟩, hZ⟩ := hv
  have hx := B.exec
  have hb := B.bytes
  have hr := B.returns
  have hts := atoms_spec (ws := wsL_made) B.pre
  have hown : s.vm.findClass RL = some m.cls := findClass_of_methodNamed B.named
  have htb := vx_table (x := yL_made) B (hts _ List.mem_cons_self)
  have hlocks := B.notSynchronized
  subst hsz
  have hD := hD0.self (sz := s.heap.size)
  generalize hAe : va_A [(aX, .inr (8, [.ref aT, .ref aS, .ref aF, .ref aQ, .ref aW, .ref aP, .ref aB, .ref aR])), (aP, .inr (3, [.ref aPk, .ref aPl, .ref aPd, .ref aPs, .int pn, .int pch])), (aPk, .inl (cyI, 64, .inl pk)), (aPl, .inl (cyI, 64, .inl pl)), (aO, .inl (cyJ, 1, .inr (.inl ov)))] s.heap.size = A at hD hZ ⊢
  have hA : ∀ q : Nat, s.heap.size ≤ q → A q := fun q h => by rw [← hAe]; exact Or.inr h
  have hS : va_S A s.heap s.heap [] := va_S.rf
  have hP : va_P (dC, dI) vwCl [(aX, .inr (8, [.ref aT, .ref aS, .ref aF, .ref aQ, .ref aW, .ref aP, .ref aB, .ref aR])), (aP, .inr (3, [.ref aPk, .ref aPl, .ref aPd, .ref aPs, .int pn, .int pch])), (aPk, .inl (cyI, 64, .inl pk)), (aPl, .inl (cyI, 64, .inl pl)), (aO, .inl (cyJ, 1, .inr (.inl ov)))] s.heap := hP
  have hl := lv_entry ([.ref aX, .int v1, .ref aO]) (n := 4) (Nat.le_of_ble_eq_true rfl)
  rw [lg_entry_eq]
  generalize (lg_sl ([.ref aX, .int v1, .ref aO]) ++ List.replicate (4 - (lg_sl ([.ref aX, .int v1, .ref aO])).length) Slot.unset).toArray = ls at hl ⊢
  have hl : lv_has ls 4 [(0, .ref aX), (1, .int v1), (2, .ref aO)] := hl
  have C0 : CallFix p m c cL_made 4 s ([.ref aX, .int v1, .ref aO] : List Value).toArray wsL_made RL := ⟨hx, hb, hml, hown, hts⟩
  unfold wpL_made at h
  refine lv_aload_n hx hb dL_made_0 rfl (lv_at hl 2 rfl) ?_
  refine lv_iconst (v := 0) hx hb dL_made_1 (by decide) ?_
  refine lv_aload_n hx hb dL_made_2 rfl (lv_at hl 0 rfl) ?_
  refine lv_iload_n hx hb dL_made_3 rfl (lv_at hl 1 rfl) ?_
  refine wk_xcalli (wc := [(aX, .inr (8, [.ref aT, .ref aS, .ref aF, .ref aQ, .ref aW, .ref aP, .ref aB, .ref aR])), (aP, .inr (3, [.ref aPk, .ref aPl, .ref aPd, .ref aPs, .int pn, .int pch])), (aPk, .inl (cyI, 64, .inl pk)), (aPl, .inl (cyI, 64, .inl pl))]) (wr := [(aO, .inl (cyJ, 1, .inr (.inl ov)))]) (vx_runV (As := [.int v1]) (rest := [.int 0, .ref aO]) C0 (mtX9_made l hlt dC dI cyI (aX := aX) (aT := aT) (aS := aS) (aF := aF) (aQ := aQ) (aW := aW) (aP := aP) (aPk := aPk) (aPl := aPl) (aPd := aPd) (aPs := aPs) (aB := aB) (aR := aR) (sz := _) (pn := pn) (pch := pch) (pk := pk) (pl := pl) (v1 := v1) h) (cwV 1 hts gL_made_X9_made rfl rfl rfl (by decide +kernel) ⟨(Nat.le_of_ble_eq_true rfl), (Nat.le_of_ble_eq_true rfl)⟩) (wk_preVX (wc := [(aX, .inr (8, [.ref aT, .ref aS, .ref aF, .ref aQ, .ref aW, .ref aP, .ref aB, .ref aR])), (aP, .inr (3, [.ref aPk, .ref aPl, .ref aPd, .ref aPs, .int pn, .int pch])), (aPk, .inl (cyI, 64, .inl pk)), (aPl, .inl (cyI, 64, .inl pl))]) (hK.sub (tys' := [(cyI, .int)]) [0] rfl) hP hD hS hA hZ [0, 1, 2, 3] rfl (by decide) (va_recv hK hP (ci := 8) (q0 := 0) rfl rfl)) rfl rfl hl.1 rfl (lv_room (Nat.le_of_ble_eq_true rfl)) dL_made_4 ⟨(Nat.le_of_ble_eq_true rfl), (Nat.le_of_ble_eq_true rfl)⟩) hP hD hS hA [0, 1, 2, 3] [4] rfl rfl (by decide) (by decide) (fun E9 ce9 q9 H locs h hP hD hS hc1 hc2 hc3 => ?_) (fun r_1 u9 H locs h hP hD hS => ?_)
  · have hP : va_P (dC, dI) vwCl [(aO, .inl (cyJ, 1, .inr (.inl ov))), (aX, .inr (8, [.ref aT, .ref aS, .ref aF, .ref aQ, .ref aW, .ref aP, .ref aB, .ref aR])), (aP, .inr (3, [.ref aPk, .ref aPl, .ref aPd, .ref aPs, .int pn, .int pch])), (aPk, .inl (cyI, 64, .inl pk)), (aPl, .inl (cyI, 64, .inl pl))] H := hP
    have hD : va_D A [(aO, .inl (cyJ, 1, .inr (.inl ov))), (aX, .inr (8, [.ref aT, .ref aS, .ref aF, .ref aQ, .ref aW, .ref aP, .ref aB, .ref aR])), (aP, .inr (3, [.ref aPk, .ref aPl, .ref aPd, .ref aPs, .int pn, .int pch])), (aPk, .inl (cyI, 64, .inl pk)), (aPl, .inl (cyI, 64, .inl pl))] := hD
    rcases h with ⟨rfl, h⟩ | ⟨rfl, h⟩
    · refine vx_catch (name := xS) hown [] ⟨0, 9, 12, 15⟩ [⟨0, 9, 15, 28⟩] (by rw [htb]; rfl) (fun z hz => nomatch hz) (by decide) (by decide) (hts _ qL_made_0) (hZ.use _ _ (List.mem_of_getElem? (i := 1) rfl)) hc1 hc2 hc3 ?_
      refine lv_astore_n (lv' := [(3, .ref q9), (0, .ref aX), (1, .int v1), (2, .ref aO)]) hx hb dL_made_12 rfl hl (by decide) rfl (fun ls hl => ?_)
      refine lv_iconst (v := 1) hx hb dL_made_13 (by decide) ?_
      have hP9 : va_P (dC, dI) vwCl [(aX, .inr (8, [.ref aT, .ref aS, .ref aF, .ref aQ, .ref aW, .ref aP, .ref aB, .ref aR])), (aP, .inr (3, [.ref aPk, .ref aPl, .ref aPd, .ref aPs, .int pn, .int pch])), (aPk, .inl (cyI, 64, .inl pk)), (aPl, .inl (cyI, 64, .inl pl)), (aO, .inl (cyJ, 1, .inr (.inl ov)))] _ := (hP.sub [1, 2, 3, 4, 0] rfl)
      have hD9 : va_D A [(aX, .inr (8, [.ref aT, .ref aS, .ref aF, .ref aQ, .ref aW, .ref aP, .ref aB, .ref aR])), (aP, .inr (3, [.ref aPk, .ref aPl, .ref aPd, .ref aPs, .int pn, .int pch])), (aPk, .inl (cyI, 64, .inl pk)), (aPl, .inl (cyI, 64, .inl pl)), (aO, .inl (cyJ, 1, .inr (.inl ov)))] := (hD.sub [1, 2, 3, 4, 0] (by decide) rfl)
      refine vx_ret ?_
      refine W.widen (k := 1) (n := 6) (Nat.le_of_ble_eq_true rfl) (Nat.le_of_ble_eq_true rfl) ?_
      exact W.iret (v := 1) hx hb hr (fun t ht hW => ⟨⟨1, ov, rfl, h, by rw [ht]; exact hP9, va_K.moved hW.alike hK, hD9⟩, hS.F ht⟩) hS.2.2 dL_made_14
    · refine vx_catch (name := xI) hown [⟨0, 9, 12, 15⟩] ⟨0, 9, 15, 28⟩ [] (by rw [htb]; rfl) (fun z hz => by rcases List.mem_singleton.mp hz with rfl; exact Or.inr ⟨by decide, _, (hts _ qL_made_0), hZ.2.2.2.2.2.1⟩) (by decide) (by decide) (hts _ qL_made_1) (hZ.use _ _ (List.mem_of_getElem? (i := 2) rfl)) hc1 hc2 hc3 ?_
      refine lv_astore_n (lv' := [(3, .ref q9), (0, .ref aX), (1, .int v1), (2, .ref aO)]) hx hb dL_made_15 rfl hl (by decide) rfl (fun ls hl => ?_)
      refine lv_iconst (v := 2) hx hb dL_made_16 (by decide) ?_
      have hP9 : va_P (dC, dI) vwCl [(aX, .inr (8, [.ref aT, .ref aS, .ref aF, .ref aQ, .ref aW, .ref aP, .ref aB, .ref aR])), (aP, .inr (3, [.ref aPk, .ref aPl, .ref aPd, .ref aPs, .int pn, .int pch])), (aPk, .inl (cyI, 64, .inl pk)), (aPl, .inl (cyI, 64, .inl pl)), (aO, .inl (cyJ, 1, .inr (.inl ov)))] _ := (hP.sub [1, 2, 3, 4, 0] rfl)
      have hD9 : va_D A [(aX, .inr (8, [.ref aT, .ref aS, .ref aF, .ref aQ, .ref aW, .ref aP, .ref aB, .ref aR])), (aP, .inr (3, [.ref aPk, .ref aPl, .ref aPd, .ref aPs, .int pn, .int pch])), (aPk, .inl (cyI, 64, .inl pk)), (aPl, .inl (cyI, 64, .inl pl)), (aO, .inl (cyJ, 1, .inr (.inl ov)))] := (hD.sub [1, 2, 3, 4, 0] (by decide) rfl)
      refine vx_ret ?_
      refine W.widen (k := 1) (n := 6) (Nat.le_of_ble_eq_true rfl) (Nat.le_of_ble_eq_true rfl) ?_
      exact W.iret (v := 2) hx hb hr (fun t ht hW => ⟨⟨2, ov, rfl, h, by rw [ht]; exact hP9, va_K.moved hW.alike hK, hD9⟩, hS.F ht⟩) hS.2.2 dL_made_17
  have hP : va_P (dC, dI) vwCl [(aO, .inl (cyJ, 1, .inr (.inl ov))), (aX, .inr (8, [.ref aT, .ref aS, .ref aF, .ref aQ, .ref aW, .ref aP, .ref aB, .ref aR])), (aP, .inr (3, [.ref aPk, .ref aPl, .ref aPd, .ref aPs, .int pn, .int pch])), (aPk, .inl (cyI, 64, .inl pk)), (aPl, .inl (cyI, 64, .inl pl))] H := hP
  have hD : va_D A [(aO, .inl (cyJ, 1, .inr (.inl ov))), (aX, .inr (8, [.ref aT, .ref aS, .ref aF, .ref aQ, .ref aW, .ref aP, .ref aB, .ref aR])), (aP, .inr (3, [.ref aPk, .ref aPl, .ref aPd, .ref aPs, .int pn, .int pch])), (aPk, .inl (cyI, 64, .inl pk)), (aPl, .inl (cyI, 64, .inl pl))] := hD
  refine lv_i2l hx hb dL_made_7 rfl ?_
  refine va_last hx hb hK hP hD hS 0 1 rfl rfl wk_in01 dL_made_8 (fun H locs hP hD hS => ?_)
  have hP : va_P (dC, dI) vwCl [(aO, .inl (cyJ, 1, .inr (.inl (vp_updL ov (0 : Int32).toNatClampNeg (r_1.toInt64))))), (aX, .inr (8, [.ref aT, .ref aS, .ref aF, .ref aQ, .ref aW, .ref aP, .ref aB, .ref aR])), (aP, .inr (3, [.ref aPk, .ref aPl, .ref aPd, .ref aPs, .int pn, .int pch])), (aPk, .inl (cyI, 64, .inl pk)), (aPl, .inl (cyI, 64, .inl pl))] H := hP
  have hD : va_D A [(aO, .inl (cyJ, 1, .inr (.inl (vp_updL ov (0 : Int32).toNatClampNeg (r_1.toInt64))))), (aX, .inr (8, [.ref aT, .ref aS, .ref aF, .ref aQ, .ref aW, .ref aP, .ref aB, .ref aR])), (aP, .inr (3, [.ref aPk, .ref aPl, .ref aPd, .ref aPs, .int pn, .int pch])), (aPk, .inl (cyI, 64, .inl pk)), (aPl, .inl (cyI, 64, .inl pl))] := hD
  refine lv_goto (tgt := 18) hx hb dL_made_9 (by decide) ?_
  refine lv_iconst (v := 0) hx hb dL_made_18 (by decide) ?_
  have hP9 : va_P (dC, dI) vwCl [(aX, .inr (8, [.ref aT, .ref aS, .ref aF, .ref aQ, .ref aW, .ref aP, .ref aB, .ref aR])), (aP, .inr (3, [.ref aPk, .ref aPl, .ref aPd, .ref aPs, .int pn, .int pch])), (aPk, .inl (cyI, 64, .inl pk)), (aPl, .inl (cyI, 64, .inl pl)), (aO, .inl (cyJ, 1, .inr (.inl (vp_updL ov (0 : Int32).toNatClampNeg (r_1.toInt64)))))] _ := (hP.sub [1, 2, 3, 4, 0] rfl)
  have hD9 : va_D A [(aX, .inr (8, [.ref aT, .ref aS, .ref aF, .ref aQ, .ref aW, .ref aP, .ref aB, .ref aR])), (aP, .inr (3, [.ref aPk, .ref aPl, .ref aPd, .ref aPs, .int pn, .int pch])), (aPk, .inl (cyI, 64, .inl pk)), (aPl, .inl (cyI, 64, .inl pl)), (aO, .inl (cyJ, 1, .inr (.inl (vp_updL ov (0 : Int32).toNatClampNeg (r_1.toInt64)))))] := (hD.sub [1, 2, 3, 4, 0] (by decide) rfl)
  refine vx_ret ?_
  refine W.widen (k := 1) (n := 6) (Nat.le_of_ble_eq_true rfl) (Nat.le_of_ble_eq_true rfl) ?_
  exact W.iret (v := 0) hx hb hr (fun t ht hW => ⟨⟨0, vp_updL ov (0 : Int32).toNatClampNeg (r_1.toInt64), rfl, h, by rw [ht]; exact hP9, va_K.moved hW.alike hK, hD9⟩, hS.F ht⟩) hS.2.2 dL_made_19
-- L_ratio
theorem qL_ratio_0 : Cond.classLink RL 15 "java/lang/IllegalStateException" ∈ wsL_ratio := (List.mem_cons_of_mem _ (List.mem_append_left _ (List.mem_append_left _ (List.mem_append_left _ (List.mem_append_left _ (List.mem_append_left _ (List.mem_of_getElem? (i := 0) rfl)))))))
def wpL_ratio (tn : Int32) (pn : Int32) (pch : Int32) (pk : Nat → Int32) (pl : Nat → Int32) (pd : Nat → Int32) (od : Nat → UInt64) (post : Int32 → (Nat → UInt64) → Prop) : Prop := wpX9_ratio tn pn pch pk pl pd (fun (r_1 : UInt64) => post 0 (vf_upd od (0 : Int32).toNatClampNeg r_1)) (fun (E9 : String) => (E9 = xS ∧ (post 1 od)))
set_option maxHeartbeats 4000000 in
set_option maxRecDepth 100000 in
theorem mtL_ratio (l : Launch) (hlt : l.stackTraces = false) (dC : Nat → ClassId) (dI : Nat → Nat → Nat) (cyI cyJ cyD : ClassId) {aX aT aTb aS aF aQ aW aP aPk aPl aPd aPs aB aR aOd : Nat} {sz : Nat} {tn : Int32} {pn : Int32} {pch : Int32} {pk : Nat → Int32} {pl : Nat → Int32} {pd : Nat → Int32} {od : Nat → UInt64} {post : Int32 → (Nat → UInt64) → Prop} (h : wpL_ratio tn pn pch pk pl pd od post) : vx_Met l yL_ratio wsL_ratio ({ frames := 7, cells := 1, slots := 6, locals := 104 }) (va_Pc [.ref aX, .ref aOd] (wk_BX (dC, dI) [(cyI, .int), (cyJ, .long), (cyD, .double)] [(aX, .inr (8, [.ref aT, .ref aS, .ref aF, .ref aQ, .ref aW, .ref aP, .ref aB, .ref aR])), (aT, .inr (7, [.ref aTb, .int tn])), (aP, .inr (3, [.ref aPk, .ref aPl, .ref aPd, .ref aPs, .int pn, .int pch])), (aPk, .inl (cyI, 64, .inl pk)), (aPl, .inl (cyI, 64, .inl pl)), (aPd, .inl (cyI, 64, .inl pd)), (aOd, .inl (cyD, 1, .inr (.inr (.inr (.inl od)))))] sz)) (va_Qi (fun (r : Int32) (u : (Nat → UInt64)) => post r u) (wk_C (dC, dI) [(cyI, .int), (cyJ, .long), (cyD, .double)] (va_A [(aX, .inr (8, [.ref aT, .ref aS, .ref aF, .ref aQ, .ref aW, .ref aP, .ref aB, .ref aR])), (aT, .inr (7, [.ref aTb, .int tn])), (aP, .inr (3, [.ref aPk, .ref aPl, .ref aPd, .ref aPs, .int pn, .int pch])), (aPk, .inl (cyI, 64, .inl pk)), (aPl, .inl (cyI, 64, .inl pl)), (aPd, .inl (cyI, 64, .inl pd)), (aOd, .inl (cyD, 1, .inr (.inr (.inr (.inl od)))))] sz) (fun (u : (Nat → UInt64)) => [(aX, .inr (8, [.ref aT, .ref aS, .ref aF, .ref aQ, .ref aW, .ref aP, .ref aB, .ref aR])), (aT, .inr (7, [.ref aTb, .int tn])), (aP, .inr (3, [.ref aPk, .ref aPl, .ref aPd, .ref aPs, .int pn, .int pch])), (aPk, .inl (cyI, 64, .inl pk)), (aPl, .inl (cyI, 64, .inl pl)), (aPd, .inl (cyI, 64, .inl pd)), (aOd, .inl (cyD, 1, .inr (.inr (.inr (.inl (u))))))])) (va_A [(aX, .inr (8, [.ref aT, .ref aS, .ref aF, .ref aQ, .ref aW, .ref aP, .ref aB, .ref aR])), (aT, .inr (7, [.ref aTb, .int tn])), (aP, .inr (3, [.ref aPk, .ref aPl, .ref aPd, .ref aPs, .int pn, .int pch])), (aPk, .inl (cyI, 64, .inl pk)), (aPl, .inl (cyI, 64, .inl pl)), (aPd, .inl (cyI, 64, .inl pd)), (aOd, .inl (cyD, 1, .inr (.inr (.inr (.inl od)))))] sz)) (vx_X (fun (_ : String) => False) (wk_X (dC, dI) [(cyI, .int), (cyJ, .long), (cyD, .double)] (va_A [(aX, .inr (8, [.ref aT, .ref aS, .ref aF, .ref aQ, .ref aW, .ref aP, .ref aB, .ref aR])), (aT, .inr (7, [.ref aTb, .int tn])), (aP, .inr (3, [.ref aPk, .ref aPl, .ref aPd, .ref aPs, .int pn, .int pch])), (aPk, .inl (cyI, 64, .inl pk)), (aPl, .inl (cyI, 64, .inl pl)), (aPd, .inl (cyI, 64, .inl pd)), (aOd, .inl (cyD, 1, .inr (.inr (.inr (.inl od)))))] sz) [(aX, .inr (8, [.ref aT, .ref aS, .ref aF, .ref aQ, .ref aW, .ref aP, .ref aB, .ref aR])), (aT, .inr (7, [.ref aTb, .int tn])), (aP, .inr (3, [.ref aPk, .ref aPl, .ref aPd, .ref aPs, .int pn, .int pch])), (aPk, .inl (cyI, 64, .inl pk)), (aPl, .inl (cyI, 64, .inl pl)), (aPd, .inl (cyI, 64, .inl pd)), (aOd, .inl (cyD, 1, .inr (.inr (.inr (.inl od)))))]) (va_A [(aX, .inr (8, [.ref aT, .ref aS, .ref aF, .ref aQ, .ref aW, .ref aP, .ref aB, .ref aR])), (aT, .inr (7, [.ref aTb, .int tn])), (aP, .inr (3, [.ref aPk, .ref aPl, .ref aPd, .ref aPs, .int pn, .int pch])), (aPk, .inl (cyI, 64, .inl pk)), (aPl, .inl (cyI, 64, .inl pl)), (aPd, .inl (cyI, 64, .inl pd)), (aOd, .inl (cyD, 1, .inr (.inr (.inr (.inl od)))))] sz)) 1 6 (va_A [(aX, .inr (8, [.ref aT, .ref aS, .ref aF, .ref aQ, .ref aW, .ref aP, .ref aB, .ref aR])), (aT, .inr (7, [.ref aTb, .int tn])), (aP, .inr (3, [.ref aPk, .ref aPl, .ref aPd, .ref aPs, .int pn, .int pch])), (aPk, .inl (cyI, 64, .inl pk)), (aPl, .inl (cyI, 64, .inl pl)), (aPd, .inl (cyI, 64, .inl pd)), (aOd, .inl (cyD, 1, .inr (.inr (.inr (.inl od)))))] sz) := by
  refine vx_ofWH (cc := cL_ratio) (maxL := 3) (ret := (some .int)) (by decide) rfl ?_
  intro p e s m args below meth c s₁ B hml hv
  obtain ⟨rfl, ⟨hsz, hP, hK, hD0⟩, hZ⟩ := hv
  have hx := B.exec
  have hb := B.bytes
  have hr := B.returns
  have hts := atoms_spec (ws := wsL_ratio) B.pre
  have hown : s.vm.findClass RL = some m.cls := findClass_of_methodNamed B.named
  have htb := vx_table (x := yL_ratio) B (hts _ List.mem_cons_self)
  have hlocks := B.notSynchronized
  subst hsz
  have hD := hD0.self (sz := s.heap.size)
  generalize hAe : va_A [(aX, .inr (8, [.ref aT, .ref aS, .ref aF, .ref aQ, .ref aW, .ref aP, .ref aB, .ref aR])), (aT, .inr (7, [.ref aTb, .int tn])), (aP, .inr (3, [.ref aPk, .ref aPl, .ref aPd, .ref aPs, .int pn, .int pch])), (aPk, .inl (cyI, 64, .inl pk)), (aPl, .inl (cyI, 64, .inl pl)), (aPd, .inl (cyI, 64, .inl pd)), (aOd, .inl (cyD, 1, .inr (.inr (.inr (.inl od)))))] s.heap.size = A at hD hZ ⊢
  have hA : ∀ q : Nat, s.heap.size ≤ q → A q := fun q h => by rw [← hAe]; exact Or.inr h
  have hS : va_S A s.heap s.heap [] := va_S.rf
  have hP : va_P (dC, dI) vwCl [(aX, .inr (8, [.ref aT, .ref aS, .ref aF, .ref aQ, .ref aW, .ref aP, .ref aB, .ref aR])), (aT, .inr (7, [.ref aTb, .int tn])), (aP, .inr (3, [.ref aPk, .ref aPl, .ref aPd, .ref aPs, .int pn, .int pch])), (aPk, .inl (cyI, 64, .inl pk)), (aPl, .inl (cyI, 64, .inl pl)), (aPd, .inl (cyI, 64, .inl pd)), (aOd, .inl (cyD, 1, .inr (.inr (.inr (.inl od)))))] s.heap := hP
  have hl := lv_entry ([.ref aX, .ref aOd]) (n := 3) (Nat.le_of_ble_eq_true rfl)
  rw [lg_entry_eq]
  generalize (lg_sl ([.ref aX, .ref aOd]) ++ List.replicate (3 - (lg_sl ([.ref aX, .ref aOd])).length) Slot.unset).toArray = ls at hl ⊢
  have hl : lv_has ls 3 [(0, .ref aX), (1, .ref aOd)] := hl
  have C0 : CallFix p m c cL_ratio 3 s ([.ref aX, .ref aOd] : List Value).toArray wsL_ratio RL := ⟨hx, hb, hml, hown, hts⟩
  unfold wpL_ratio at h
  refine lv_aload_n hx hb dL_ratio_0 rfl (lv_at hl 1 rfl) ?_
  refine lv_iconst (v := 0) hx hb dL_ratio_1 (by decide) ?_
  refine lv_aload_n hx hb dL_ratio_2 rfl (lv_at hl 0 rfl) ?_
  refine wk_xcalld (wc := [(aX, .inr (8, [.ref aT, .ref aS, .ref aF, .ref aQ, .ref aW, .ref aP, .ref aB, .ref aR])), (aT, .inr (7, [.ref aTb, .int tn])), (aP, .inr (3, [.ref aPk, .ref aPl, .ref aPd, .ref aPs, .int pn, .int pch])), (aPk, .inl (cyI, 64, .inl pk)), (aPl, .inl (cyI, 64, .inl pl)), (aPd, .inl (cyI, 64, .inl pd))]) (wr := [(aOd, .inl (cyD, 1, .inr (.inr (.inr (.inl od)))))]) (vx_runV (As := []) (rest := [.int 0, .ref aOd]) C0 (mtX9_ratio l hlt dC dI cyI (aX := aX) (aT := aT) (aTb := aTb) (aS := aS) (aF := aF) (aQ := aQ) (aW := aW) (aP := aP) (aPk := aPk) (aPl := aPl) (aPd := aPd) (aPs := aPs) (aB := aB) (aR := aR) (sz := _) (tn := tn) (pn := pn) (pch := pch) (pk := pk) (pl := pl) (pd := pd) h) (cwV 0 hts gL_ratio_X9_ratio rfl rfl rfl (by decide +kernel) ⟨(Nat.le_of_ble_eq_true rfl), (Nat.le_of_ble_eq_true rfl)⟩) (wk_preVX (wc := [(aX, .inr (8, [.ref aT, .ref aS, .ref aF, .ref aQ, .ref aW, .ref aP, .ref aB, .ref aR])), (aT, .inr (7, [.ref aTb, .int tn])), (aP, .inr (3, [.ref aPk, .ref aPl, .ref aPd, .ref aPs, .int pn, .int pch])), (aPk, .inl (cyI, 64, .inl pk)), (aPl, .inl (cyI, 64, .inl pl)), (aPd, .inl (cyI, 64, .inl pd))]) (hK.sub (tys' := [(cyI, .int)]) [0] rfl) hP hD hS hA hZ [0, 1, 2, 3, 4, 5] rfl (by decide) (va_recv hK hP (ci := 8) (q0 := 0) rfl rfl)) rfl rfl hl.1 rfl (lv_room (Nat.le_of_ble_eq_true rfl)) dL_ratio_3 ⟨(Nat.le_of_ble_eq_true rfl), (Nat.le_of_ble_eq_true rfl)⟩) hP hD hS hA [0, 1, 2, 3, 4, 5] [6] rfl rfl (by decide) (by decide) (fun E9 ce9 q9 H locs h hP hD hS hc1 hc2 hc3 => ?_) (fun r_1 u9 H locs h hP hD hS => ?_)
  · have hP : va_P (dC, dI) vwCl [(aOd, .inl (cyD, 1, .inr (.inr (.inr (.inl od))))), (aX, .inr (8, [.ref aT, .ref aS, .ref aF, .ref aQ, .ref aW, .ref aP, .ref aB, .ref aR])), (aT, .inr (7, [.ref aTb, .int tn])), (aP, .inr (3, [.ref aPk, .ref aPl, .ref aPd, .ref aPs, .int pn, .int pch])), (aPk, .inl (cyI, 64, .inl pk)), (aPl, .inl (cyI, 64, .inl pl)), (aPd, .inl (cyI, 64, .inl pd))] H := hP
    have hD : va_D A [(aOd, .inl (cyD, 1, .inr (.inr (.inr (.inl od))))), (aX, .inr (8, [.ref aT, .ref aS, .ref aF, .ref aQ, .ref aW, .ref aP, .ref aB, .ref aR])), (aT, .inr (7, [.ref aTb, .int tn])), (aP, .inr (3, [.ref aPk, .ref aPl, .ref aPd, .ref aPs, .int pn, .int pch])), (aPk, .inl (cyI, 64, .inl pk)), (aPl, .inl (cyI, 64, .inl pl)), (aPd, .inl (cyI, 64, .inl pd))] := hD
    obtain ⟨rfl, h⟩ := h
    refine vx_catch (name := xS) hown [] ⟨0, 7, 10, 15⟩ [] (by rw [htb]; rfl) (fun z hz => nomatch hz) (by decide) (by decide) (hts _ qL_ratio_0) (hZ.use _ _ (List.mem_of_getElem? (i := 1) rfl)) hc1 hc2 hc3 ?_
    refine lv_astore_n (lv' := [(2, .ref q9), (0, .ref aX), (1, .ref aOd)]) hx hb dL_ratio_10 rfl hl (by decide) rfl (fun ls hl => ?_)
    refine lv_iconst (v := 1) hx hb dL_ratio_11 (by decide) ?_
    have hP9 : va_P (dC, dI) vwCl [(aX, .inr (8, [.ref aT, .ref aS, .ref aF, .ref aQ, .ref aW, .ref aP, .ref aB, .ref aR])), (aT, .inr (7, [.ref aTb, .int tn])), (aP, .inr (3, [.ref aPk, .ref aPl, .ref aPd, .ref aPs, .int pn, .int pch])), (aPk, .inl (cyI, 64, .inl pk)), (aPl, .inl (cyI, 64, .inl pl)), (aPd, .inl (cyI, 64, .inl pd)), (aOd, .inl (cyD, 1, .inr (.inr (.inr (.inl od)))))] _ := (hP.sub [1, 2, 3, 4, 5, 6, 0] rfl)
    have hD9 : va_D A [(aX, .inr (8, [.ref aT, .ref aS, .ref aF, .ref aQ, .ref aW, .ref aP, .ref aB, .ref aR])), (aT, .inr (7, [.ref aTb, .int tn])), (aP, .inr (3, [.ref aPk, .ref aPl, .ref aPd, .ref aPs, .int pn, .int pch])), (aPk, .inl (cyI, 64, .inl pk)), (aPl, .inl (cyI, 64, .inl pl)), (aPd, .inl (cyI, 64, .inl pd)), (aOd, .inl (cyD, 1, .inr (.inr (.inr (.inl od)))))] := (hD.sub [1, 2, 3, 4, 5, 6, 0] (by decide) rfl)
    refine vx_ret ?_
    refine W.widen (k := 1) (n := 6) (Nat.le_of_ble_eq_true rfl) (Nat.le_of_ble_eq_true rfl) ?_
    exact W.iret (v := 1) hx hb hr (fun t ht hW => ⟨⟨1, od, rfl, h, by rw [ht]; exact hP9, va_K.moved hW.alike hK, hD9⟩, hS.F ht⟩) hS.2.2 dL_ratio_12
  have hP : va_P (dC, dI) vwCl [(aOd, .inl (cyD, 1, .inr (.inr (.inr (.inl od))))), (aX, .inr (8, [.ref aT, .ref aS, .ref aF, .ref aQ, .ref aW, .ref aP, .ref aB, .ref aR])), (aT, .inr (7, [.ref aTb, .int tn])), (aP, .inr (3, [.ref aPk, .ref aPl, .ref aPd, .ref aPs, .int pn, .int pch])), (aPk, .inl (cyI, 64, .inl pk)), (aPl, .inl (cyI, 64, .inl pl)), (aPd, .inl (cyI, 64, .inl pd))] H := hP
  have hD : va_D A [(aOd, .inl (cyD, 1, .inr (.inr (.inr (.inl od))))), (aX, .inr (8, [.ref aT, .ref aS, .ref aF, .ref aQ, .ref aW, .ref aP, .ref aB, .ref aR])), (aT, .inr (7, [.ref aTb, .int tn])), (aP, .inr (3, [.ref aPk, .ref aPl, .ref aPd, .ref aPs, .int pn, .int pch])), (aPk, .inl (cyI, 64, .inl pk)), (aPl, .inl (cyI, 64, .inl pl)), (aPd, .inl (cyI, 64, .inl pd))] := hD
  refine va_dast hx hb hK hP hD hS 0 2 rfl rfl wk_in01 dL_ratio_6 (fun H locs hP hD hS => ?_)
  have hP : va_P (dC, dI) vwCl [(aOd, .inl (cyD, 1, .inr (.inr (.inr (.inl (vf_upd od (0 : Int32).toNatClampNeg r_1)))))), (aX, .inr (8, [.ref aT, .ref aS, .ref aF, .ref aQ, .ref aW, .ref aP, .ref aB, .ref aR])), (aT, .inr (7, [.ref aTb, .int tn])), (aP, .inr (3, [.ref aPk, .ref aPl, .ref aPd, .ref aPs, .int pn, .int pch])), (aPk, .inl (cyI, 64, .inl pk)), (aPl, .inl (cyI, 64, .inl pl)), (aPd, .inl (cyI, 64, .inl pd))] H := hP
  have hD : va_D A [(aOd, .inl (cyD, 1, .inr (.inr (.inr (.inl (vf_upd od (0 : Int32).toNatClampNeg r_1)))))), (aX, .inr (8, [.ref aT, .ref aS, .ref aF, .ref aQ, .ref aW, .ref aP, .ref aB, .ref aR])), (aT, .inr (7, [.ref aTb, .int tn])), (aP, .inr (3, [.ref aPk, .ref aPl, .ref aPd, .ref aPs, .int pn, .int pch])), (aPk, .inl (cyI, 64, .inl pk)), (aPl, .inl (cyI, 64, .inl pl)), (aPd, .inl (cyI, 64, .inl pd))] := hD
  refine lv_goto (tgt := 13) hx hb dL_ratio_7 (by decide) ?_
  refine lv_iconst (v := 0) hx hb dL_ratio_13 (by decide) ?_
  have hP9 : va_P (dC, dI) vwCl [(aX, .inr (8, [.ref aT, .ref aS, .ref aF, .ref aQ, .ref aW, .ref aP, .ref aB, .ref aR])), (aT, .inr (7, [.ref aTb, .int tn])), (aP, .inr (3, [.ref aPk, .ref aPl, .ref aPd, .ref aPs, .int pn, .int pch])), (aPk, .inl (cyI, 64, .inl pk)), (aPl, .inl (cyI, 64, .inl pl)), (aPd, .inl (cyI, 64, .inl pd)), (aOd, .inl (cyD, 1, .inr (.inr (.inr (.inl (vf_upd od (0 : Int32).toNatClampNeg r_1))))))] _ := (hP.sub [1, 2, 3, 4, 5, 6, 0] rfl)
  have hD9 : va_D A [(aX, .inr (8, [.ref aT, .ref aS, .ref aF, .ref aQ, .ref aW, .ref aP, .ref aB, .ref aR])), (aT, .inr (7, [.ref aTb, .int tn])), (aP, .inr (3, [.ref aPk, .ref aPl, .ref aPd, .ref aPs, .int pn, .int pch])), (aPk, .inl (cyI, 64, .inl pk)), (aPl, .inl (cyI, 64, .inl pl)), (aPd, .inl (cyI, 64, .inl pd)), (aOd, .inl (cyD, 1, .inr (.inr (.inr (.inl (vf_upd od (0 : Int32).toNatClampNeg r_1))))))] := (hD.sub [1, 2, 3, 4, 5, 6, 0] (by decide) rfl)
  refine vx_ret ?_
  refine W.widen (k := 1) (n := 6) (Nat.le_of_ble_eq_true rfl) (Nat.le_of_ble_eq_true rfl) ?_
  exact W.iret (v := 0) hx hb hr (fun t ht hW => ⟨⟨0, vf_upd od (0 : Int32).toNatClampNeg r_1, rfl, h, by rw [ht]; exact hP9, va_K.moved hW.alike hK, hD9⟩, hS.F ht⟩) hS.2.2 dL_ratio_14
-- L_write
theorem qL_write_0 : Cond.classLink RL 15 "java/lang/IllegalStateException" ∈ wsL_write := (List.mem_cons_of_mem _ (List.mem_append_left _ (List.mem_append_left _ (List.mem_append_left _ (List.mem_append_left _ (List.mem_append_left _ (List.mem_append_left _ (List.mem_of_getElem? (i := 0) rfl))))))))
def wpL_write (tb : Nat → Int32) (pn : Int32) (pch : Int32) (pk : Nat → Int32) (pl : Nat → Int32) (pd : Nat → Int32) (ps : Nat → Int32) (bn : Int32) (br : Nat → Int32) (ov : Nat → Int64) (post : Int32 → Int32 → (Nat → Int32) → (Nat → Int64) → Prop) : Prop := wpX9_write tb pn pch pk pl pd ps br (fun (r_1 : Int32) (bn_2 : Int32) (br_3 : Nat → Int32) => post 0 bn_2 br_3 (vp_updL ov (0 : Int32).toNatClampNeg (r_1.toInt64))) (fun (E9 : String) => (E9 = xS ∧ (post 1 bn br ov)))
set_option maxHeartbeats 4000000 in
set_option maxRecDepth 100000 in
theorem mtL_write (l : Launch) (hlt : l.stackTraces = false) (dC : Nat → ClassId) (dI : Nat → Nat → Nat) (cyI cyJ cyD : ClassId) {aX aT aTb aS aF aQ aW aP aPk aPl aPd aPs aB aBr aR aO : Nat} {sz : Nat} {tn : Int32} {tb : Nat → Int32} {pn : Int32} {pch : Int32} {pk : Nat → Int32} {pl : Nat → Int32} {pd : Nat → Int32} {ps : Nat → Int32} {bn : Int32} {br : Nat → Int32} {ov : Nat → Int64} {post : Int32 → Int32 → (Nat → Int32) → (Nat → Int64) → Prop} (h : wpL_write tb pn pch pk pl pd ps bn br ov post) : vx_Met l yL_write wsL_write ({ frames := 7, cells := 1, slots := 6, locals := 103 }) (va_Pc [.ref aX, .ref aO] (wk_BX (dC, dI) [(cyI, .int), (cyJ, .long), (cyD, .double)] [(aX, .inr (8, [.ref aT, .ref aS, .ref aF, .ref aQ, .ref aW, .ref aP, .ref aB, .ref aR])), (aT, .inr (7, [.ref aTb, .int tn])), (aTb, .inl (cyI, 64, .inl tb)), (aP, .inr (3, [.ref aPk, .ref aPl, .ref aPd, .ref aPs, .int pn, .int pch])), (aPk, .inl (cyI, 64, .inl pk)), (aPl, .inl (cyI, 64, .inl pl)), (aPd, .inl (cyI, 64, .inl pd)), (aPs, .inl (cyI, 64, .inl ps)), (aB, .inr (1, [.ref aBr, .int bn])), (aBr, .inl (cyI, 800, .inl br)), (aO, .inl (cyJ, 1, .inr (.inl ov)))] sz)) (va_Qi (fun (r : Int32) (u : Int32 × (Nat → Int32) × (Nat → Int64)) => post r u.1 u.2.1 u.2.2) (wk_C (dC, dI) [(cyI, .int), (cyJ, .long), (cyD, .double)] (va_A [(aX, .inr (8, [.ref aT, .ref aS, .ref aF, .ref aQ, .ref aW, .ref aP, .ref aB, .ref aR])), (aT, .inr (7, [.ref aTb, .int tn])), (aTb, .inl (cyI, 64, .inl tb)), (aP, .inr (3, [.ref aPk, .ref aPl, .ref aPd, .ref aPs, .int pn, .int pch])), (aPk, .inl (cyI, 64, .inl pk)), (aPl, .inl (cyI, 64, .inl pl)), (aPd, .inl (cyI, 64, .inl pd)), (aPs, .inl (cyI, 64, .inl ps)), (aB, .inr (1, [.ref aBr, .int bn])), (aBr, .inl (cyI, 800, .inl br)), (aO, .inl (cyJ, 1, .inr (.inl ov)))] sz) (fun (u : Int32 × (Nat → Int32) × (Nat → Int64)) => [(aX, .inr (8, [.ref aT, .ref aS, .ref aF, .ref aQ, .ref aW, .ref aP, .ref aB, .ref aR])), (aT, .inr (7, [.ref aTb, .int tn])), (aTb, .inl (cyI, 64, .inl tb)), (aP, .inr (3, [.ref aPk, .ref aPl, .ref aPd, .ref aPs, .int pn, .int pch])), (aPk, .inl (cyI, 64, .inl pk)), (aPl, .inl (cyI, 64, .inl pl)), (aPd, .inl (cyI, 64, .inl pd)), (aPs, .inl (cyI, 64, .inl ps)), (aB, .inr (1, [.ref aBr, .int (u.1)])), (aBr, .inl (cyI, 800, .inl (u.2.1))), (aO, .inl (cyJ, 1, .inr (.inl (u.2.2))))])) (va_A [(aX, .inr (8, [.ref aT, .ref aS, .ref aF, .ref aQ, .ref aW, .ref aP, .ref aB, .ref aR])), (aT, .inr (7, [.ref aTb, .int tn])), (aTb, .inl (cyI, 64, .inl tb)), (aP, .inr (3, [.ref aPk, .ref aPl, .ref aPd, .ref aPs, .int pn, .int pch])), (aPk, .inl (cyI, 64, .inl pk)), (aPl, .inl (cyI, 64, .inl pl)), (aPd, .inl (cyI, 64, .inl pd)), (aPs, .inl (cyI, 64, .inl ps)), (aB, .inr (1, [.ref aBr, .int bn])), (aBr, .inl (cyI, 800, .inl br)), (aO, .inl (cyJ, 1, .inr (.inl ov)))] sz)) (vx_X (fun (_ : String) => False) (wk_X (dC, dI) [(cyI, .int), (cyJ, .long), (cyD, .double)] (va_A [(aX, .inr (8, [.ref aT, .ref aS, .ref aF, .ref aQ, .ref aW, .ref aP, .ref aB, .ref aR])), (aT, .inr (7, [.ref aTb, .int tn])), (aTb, .inl (cyI, 64, .inl tb)), (aP, .inr (3, [.ref aPk, .ref aPl, .ref aPd, .ref aPs, .int pn, .int pch])), (aPk, .inl (cyI, 64, .inl pk)), (aPl, .inl (cyI, 64, .inl pl)), (aPd, .inl (cyI, 64, .inl pd)), (aPs, .inl (cyI, 64, .inl ps)), (aB, .inr (1, [.ref aBr, .int bn])), (aBr, .inl (cyI, 800, .inl br)), (aO, .inl (cyJ, 1, .inr (.inl ov)))] sz) [(aX, .inr (8, [.ref aT, .ref aS, .ref aF, .ref aQ, .ref aW, .ref aP, .ref aB, .ref aR])), (aT, .inr (7, [.ref aTb, .int tn])), (aTb, .inl (cyI, 64, .inl tb)), (aP, .inr (3, [.ref aPk, .ref aPl, .ref aPd, .ref aPs, .int pn, .int pch])), (aPk, .inl (cyI, 64, .inl pk)), (aPl, .inl (cyI, 64, .inl pl)), (aPd, .inl (cyI, 64, .inl pd)), (aPs, .inl (cyI, 64, .inl ps)), (aB, .inr (1, [.ref aBr, .int bn])), (aBr, .inl (cyI, 800, .inl br)), (aO, .inl (cyJ, 1, .inr (.inl ov)))]) (va_A [(aX, .inr (8, [.ref aT, .ref aS, .ref aF, .ref aQ, .ref aW, .ref aP, .ref aB, .ref aR])), (aT, .inr (7, [.ref aTb, .int tn])), (aTb, .inl (cyI, 64, .inl tb)), (aP, .inr (3, [.ref aPk, .ref aPl, .ref aPd, .ref aPs, .int pn, .int pch])), (aPk, .inl (cyI, 64, .inl pk)), (aPl, .inl (cyI, 64, .inl pl)), (aPd, .inl (cyI, 64, .inl pd)), (aPs, .inl (cyI, 64, .inl ps)), (aB, .inr (1, [.ref aBr, .int bn])), (aBr, .inl (cyI, 800, .inl br)), (aO, .inl (cyJ, 1, .inr (.inl ov)))] sz)) 1 6 (va_A [(aX, .inr (8, [.ref aT, .ref aS, .ref aF, .ref aQ, .ref aW, .ref aP, .ref aB, .ref aR])), (aT, .inr (7, [.ref aTb, .int tn])), (aTb, .inl (cyI, 64, .inl tb)), (aP, .inr (3, [.ref aPk, .ref aPl, .ref aPd, .ref aPs, .int pn, .int pch])), (aPk, .inl (cyI, 64, .inl pk)), (aPl, .inl (cyI, 64, .inl pl)), (aPd, .inl (cyI, 64, .inl pd)), (aPs, .inl (cyI, 64, .inl ps)), (aB, .inr (1, [.ref aBr, .int bn])), (aBr, .inl (cyI, 800, .inl br)), (aO, .inl (cyJ, 1, .inr (.inl ov)))] sz) := by
  refine vx_ofWH (cc := cL_write) (maxL := 3) (ret := (some .int)) (by decide) rfl ?_
  intro p e s m args below meth c s₁ B hml hv
  obtain ⟨rfl, ⟨hsz, hP, hK, hD0⟩, hZ⟩ := hv
  have hx := B.exec
  have hb := B.bytes
  have hr := B.returns
  have hts := atoms_spec (ws := wsL_write) B.pre
  have hown : s.vm.findClass RL = some m.cls := findClass_of_methodNamed B.named
  have htb := vx_table (x := yL_write) B (hts _ List.mem_cons_self)
  have hlocks := B.notSynchronized
  subst hsz
  have hD := hD0.self (sz := s.heap.size)
  generalize hAe : va_A [(aX, .inr (8, [.ref aT, .ref aS, .ref aF, .ref aQ, .ref aW, .ref aP, .ref aB, .ref aR])), (aT, .inr (7, [.ref aTb, .int tn])), (aTb, .inl (cyI, 64, .inl tb)), (aP, .inr (3, [.ref aPk, .ref aPl, .ref aPd, .ref aPs, .int pn, .int pch])), (aPk, .inl (cyI, 64, .inl pk)), (aPl, .inl (cyI, 64, .inl pl)), (aPd, .inl (cyI, 64, .inl pd)), (aPs, .inl (cyI, 64, .inl ps)), (aB, .inr (1, [.ref aBr, .int bn])), (aBr, .inl (cyI, 800, .inl br)), (aO, .inl (cyJ, 1, .inr (.inl ov)))] s.heap.size = A at hD hZ ⊢
  have hA : ∀ q : Nat, s.heap.size ≤ q → A q := fun q h => by rw [← hAe]; exact Or.inr h
  have hS : va_S A s.heap s.heap [] := va_S.rf
  have hP : va_P (dC, dI) vwCl [(aX, .inr (8, [.ref aT, .ref aS, .ref aF, .ref aQ, .ref aW, .ref aP, .ref aB, .ref aR])), (aT, .inr (7, [.ref aTb, .int tn])), (aTb, .inl (cyI, 64, .inl tb)), (aP, .inr (3, [.ref aPk, .ref aPl, .ref aPd, .ref aPs, .int pn, .int pch])), (aPk, .inl (cyI, 64, .inl pk)), (aPl, .inl (cyI, 64, .inl pl)), (aPd, .inl (cyI, 64, .inl pd)), (aPs, .inl (cyI, 64, .inl ps)), (aB, .inr (1, [.ref aBr, .int bn])), (aBr, .inl (cyI, 800, .inl br)), (aO, .inl (cyJ, 1, .inr (.inl ov)))] s.heap := hP
  have hl := lv_entry ([.ref aX, .ref aO]) (n := 3) (Nat.le_of_ble_eq_true rfl)
  rw [lg_entry_eq]
  generalize (lg_sl ([.ref aX, .ref aO]) ++ List.replicate (3 - (lg_sl ([.ref aX, .ref aO])).length) Slot.unset).toArray = ls at hl ⊢
  have hl : lv_has ls 3 [(0, .ref aX), (1, .ref aO)] := hl
  have C0 : CallFix p m c cL_write 3 s ([.ref aX, .ref aO] : List Value).toArray wsL_write RL := ⟨hx, hb, hml, hown, hts⟩
  unfold wpL_write at h
  refine lv_aload_n hx hb dL_write_0 rfl (lv_at hl 1 rfl) ?_
  refine lv_iconst (v := 0) hx hb dL_write_1 (by decide) ?_
  refine lv_aload_n hx hb dL_write_2 rfl (lv_at hl 0 rfl) ?_
  refine wk_xcalli (wc := [(aX, .inr (8, [.ref aT, .ref aS, .ref aF, .ref aQ, .ref aW, .ref aP, .ref aB, .ref aR])), (aT, .inr (7, [.ref aTb, .int tn])), (aTb, .inl (cyI, 64, .inl tb)), (aP, .inr (3, [.ref aPk, .ref aPl, .ref aPd, .ref aPs, .int pn, .int pch])), (aPk, .inl (cyI, 64, .inl pk)), (aPl, .inl (cyI, 64, .inl pl)), (aPd, .inl (cyI, 64, .inl pd)), (aPs, .inl (cyI, 64, .inl ps)), (aB, .inr (1, [.ref aBr, .int bn])), (aBr, .inl (cyI, 800, .inl br))]) (wr := [(aO, .inl (cyJ, 1, .inr (.inl ov)))]) (vx_runV (As := []) (rest := [.int 0, .ref aO]) C0 (mtX9_write l hlt dC dI cyI (aX := aX) (aT := aT) (aTb := aTb) (aS := aS) (aF := aF) (aQ := aQ) (aW := aW) (aP := aP) (aPk := aPk) (aPl := aPl) (aPd := aPd) (aPs := aPs) (aB := aB) (aBr := aBr) (aR := aR) (sz := _) (tn := tn) (tb := tb) (pn := pn) (pch := pch) (pk := pk) (pl := pl) (pd := pd) (ps := ps) (bn := bn) (br := br) h) (cwV 0 hts gL_write_X9_write rfl rfl rfl (by decide +kernel) ⟨(Nat.le_of_ble_eq_true rfl), (Nat.le_of_ble_eq_true rfl)⟩) (wk_preVX (wc := [(aX, .inr (8, [.ref aT, .ref aS, .ref aF, .ref aQ, .ref aW, .ref aP, .ref aB, .ref aR])), (aT, .inr (7, [.ref aTb, .int tn])), (aTb, .inl (cyI, 64, .inl tb)), (aP, .inr (3, [.ref aPk, .ref aPl, .ref aPd, .ref aPs, .int pn, .int pch])), (aPk, .inl (cyI, 64, .inl pk)), (aPl, .inl (cyI, 64, .inl pl)), (aPd, .inl (cyI, 64, .inl pd)), (aPs, .inl (cyI, 64, .inl ps)), (aB, .inr (1, [.ref aBr, .int bn])), (aBr, .inl (cyI, 800, .inl br))]) (hK.sub (tys' := [(cyI, .int)]) [0] rfl) hP hD hS hA hZ [0, 1, 2, 3, 4, 5, 6, 7, 8, 9] rfl (by decide) (va_recv hK hP (ci := 8) (q0 := 0) rfl rfl)) rfl rfl hl.1 rfl (lv_room (Nat.le_of_ble_eq_true rfl)) dL_write_3 ⟨(Nat.le_of_ble_eq_true rfl), (Nat.le_of_ble_eq_true rfl)⟩) hP hD hS hA [0, 1, 2, 3, 4, 5, 6, 7, 8, 9] [10] rfl rfl (by decide) (by decide) (fun E9 ce9 q9 H locs h hP hD hS hc1 hc2 hc3 => ?_) (fun r_1 u9 H locs h hP hD hS => ?_)
  · have hP : va_P (dC, dI) vwCl [(aO, .inl (cyJ, 1, .inr (.inl ov))), (aX, .inr (8, [.ref aT, .ref aS, .ref aF, .ref aQ, .ref aW, .ref aP, .ref aB, .ref aR])), (aT, .inr (7, [.ref aTb, .int tn])), (aTb, .inl (cyI, 64, .inl tb)), (aP, .inr (3, [.ref aPk, .ref aPl, .ref aPd, .ref aPs, .int pn, .int pch])), (aPk, .inl (cyI, 64, .inl pk)), (aPl, .inl (cyI, 64, .inl pl)), (aPd, .inl (cyI, 64, .inl pd)), (aPs, .inl (cyI, 64, .inl ps)), (aB, .inr (1, [.ref aBr, .int bn])), (aBr, .inl (cyI, 800, .inl br))] H := hP
    have hD : va_D A [(aO, .inl (cyJ, 1, .inr (.inl ov))), (aX, .inr (8, [.ref aT, .ref aS, .ref aF, .ref aQ, .ref aW, .ref aP, .ref aB, .ref aR])), (aT, .inr (7, [.ref aTb, .int tn])), (aTb, .inl (cyI, 64, .inl tb)), (aP, .inr (3, [.ref aPk, .ref aPl, .ref aPd, .ref aPs, .int pn, .int pch])), (aPk, .inl (cyI, 64, .inl pk)), (aPl, .inl (cyI, 64, .inl pl)), (aPd, .inl (cyI, 64, .inl pd)), (aPs, .inl (cyI, 64, .inl ps)), (aB, .inr (1, [.ref aBr, .int bn])), (aBr, .inl (cyI, 800, .inl br))] := hD
    obtain ⟨rfl, h⟩ := h
    refine vx_catch (name := xS) hown [] ⟨0, 8, 11, 15⟩ [] (by rw [htb]; rfl) (fun z hz => nomatch hz) (by decide) (by decide) (hts _ qL_write_0) (hZ.use _ _ (List.mem_of_getElem? (i := 1) rfl)) hc1 hc2 hc3 ?_
    refine lv_astore_n (lv' := [(2, .ref q9), (0, .ref aX), (1, .ref aO)]) hx hb dL_write_11 rfl hl (by decide) rfl (fun ls hl => ?_)
    refine lv_iconst (v := 1) hx hb dL_write_12 (by decide) ?_
    have hP9 : va_P (dC, dI) vwCl [(aX, .inr (8, [.ref aT, .ref aS, .ref aF, .ref aQ, .ref aW, .ref aP, .ref aB, .ref aR])), (aT, .inr (7, [.ref aTb, .int tn])), (aTb, .inl (cyI, 64, .inl tb)), (aP, .inr (3, [.ref aPk, .ref aPl, .ref aPd, .ref aPs, .int pn, .int pch])), (aPk, .inl (cyI, 64, .inl pk)), (aPl, .inl (cyI, 64, .inl pl)), (aPd, .inl (cyI, 64, .inl pd)), (aPs, .inl (cyI, 64, .inl ps)), (aB, .inr (1, [.ref aBr, .int bn])), (aBr, .inl (cyI, 800, .inl br)), (aO, .inl (cyJ, 1, .inr (.inl ov)))] _ := (hP.sub [1, 2, 3, 4, 5, 6, 7, 8, 9, 10, 0] rfl)
    have hD9 : va_D A [(aX, .inr (8, [.ref aT, .ref aS, .ref aF, .ref aQ, .ref aW, .ref aP, .ref aB, .ref aR])), (aT, .inr (7, [.ref aTb, .int tn])), (aTb, .inl (cyI, 64, .inl tb)), (aP, .inr (3, [.ref aPk, .ref aPl, .ref aPd, .ref aPs, .int pn, .int pch])), (aPk, .inl (cyI, 64, .inl pk)), (aPl, .inl (cyI, 64, .inl pl)), (aPd, .inl (cyI, 64, .inl pd)), (aPs, .inl (cyI, 64, .inl ps)), (aB, .inr (1, [.ref aBr, .int bn])), (aBr, .inl (cyI, 800, .inl br)), (aO, .inl (cyJ, 1, .inr (.inl ov)))] := (hD.sub [1, 2, 3, 4, 5, 6, 7, 8, 9, 10, 0] (by decide) rfl)
    refine vx_ret ?_
    refine W.widen (k := 1) (n := 6) (Nat.le_of_ble_eq_true rfl) (Nat.le_of_ble_eq_true rfl) ?_
    exact W.iret (v := 1) hx hb hr (fun t ht hW => ⟨⟨1, (bn, br, ov), rfl, h, by rw [ht]; exact hP9, va_K.moved hW.alike hK, hD9⟩, hS.F ht⟩) hS.2.2 dL_write_13
  obtain ⟨bn_2, br_3⟩ := u9
  have hP : va_P (dC, dI) vwCl [(aO, .inl (cyJ, 1, .inr (.inl ov))), (aX, .inr (8, [.ref aT, .ref aS, .ref aF, .ref aQ, .ref aW, .ref aP, .ref aB, .ref aR])), (aT, .inr (7, [.ref aTb, .int tn])), (aTb, .inl (cyI, 64, .inl tb)), (aP, .inr (3, [.ref aPk, .ref aPl, .ref aPd, .ref aPs, .int pn, .int pch])), (aPk, .inl (cyI, 64, .inl pk)), (aPl, .inl (cyI, 64, .inl pl)), (aPd, .inl (cyI, 64, .inl pd)), (aPs, .inl (cyI, 64, .inl ps)), (aB, .inr (1, [.ref aBr, .int bn_2])), (aBr, .inl (cyI, 800, .inl br_3))] H := hP
  have hD : va_D A [(aO, .inl (cyJ, 1, .inr (.inl ov))), (aX, .inr (8, [.ref aT, .ref aS, .ref aF, .ref aQ, .ref aW, .ref aP, .ref aB, .ref aR])), (aT, .inr (7, [.ref aTb, .int tn])), (aTb, .inl (cyI, 64, .inl tb)), (aP, .inr (3, [.ref aPk, .ref aPl, .ref aPd, .ref aPs, .int pn, .int pch])), (aPk, .inl (cyI, 64, .inl pk)), (aPl, .inl (cyI, 64, .inl pl)), (aPd, .inl (cyI, 64, .inl pd)), (aPs, .inl (cyI, 64, .inl ps)), (aB, .inr (1, [.ref aBr, .int bn_2])), (aBr, .inl (cyI, 800, .inl br_3))] := hD
  dsimp only at h
  refine lv_i2l hx hb dL_write_6 rfl ?_
  refine va_last hx hb hK hP hD hS 0 1 rfl rfl wk_in01 dL_write_7 (fun H locs hP hD hS => ?_)
  have hP : va_P (dC, dI) vwCl [(aO, .inl (cyJ, 1, .inr (.inl (vp_updL ov (0 : Int32).toNatClampNeg (r_1.toInt64))))), (aX, .inr (8, [.ref aT, .ref aS, .ref aF, .ref aQ, .ref aW, .ref aP, .ref aB, .ref aR])), (aT, .inr (7, [.ref aTb, .int tn])), (aTb, .inl (cyI, 64, .inl tb)), (aP, .inr (3, [.ref aPk, .ref aPl, .ref aPd, .ref aPs, .int pn, .int pch])), (aPk, .inl (cyI, 64, .inl pk)), (aPl, .inl (cyI, 64, .inl pl)), (aPd, .inl (cyI, 64, .inl pd)), (aPs, .inl (cyI, 64, .inl ps)), (aB, .inr (1, [.ref aBr, .int bn_2])), (aBr, .inl (cyI, 800, .inl br_3))] H := hP
  have hD : va_D A [(aO, .inl (cyJ, 1, .inr (.inl (vp_updL ov (0 : Int32).toNatClampNeg (r_1.toInt64))))), (aX, .inr (8, [.ref aT, .ref aS, .ref aF, .ref aQ, .ref aW, .ref aP, .ref aB, .ref aR])), (aT, .inr (7, [.ref aTb, .int tn])), (aTb, .inl (cyI, 64, .inl tb)), (aP, .inr (3, [.ref aPk, .ref aPl, .ref aPd, .ref aPs, .int pn, .int pch])), (aPk, .inl (cyI, 64, .inl pk)), (aPl, .inl (cyI, 64, .inl pl)), (aPd, .inl (cyI, 64, .inl pd)), (aPs, .inl (cyI, 64, .inl ps)), (aB, .inr (1, [.ref aBr, .int bn_2])), (aBr, .inl (cyI, 800, .inl br_3))] := hD
  refine lv_goto (tgt := 14) hx hb dL_write_8 (by decide) ?_
  refine lv_iconst (v := 0) hx hb dL_write_14 (by decide) ?_
  have hP9 : va_P (dC, dI) vwCl [(aX, .inr (8, [.ref aT, .ref aS, .ref aF, .ref aQ, .ref aW, .ref aP, .ref aB, .ref aR])), (aT, .inr (7, [.ref aTb, .int tn])), (aTb, .inl (cyI, 64, .inl tb)), (aP, .inr (3, [.ref aPk, .ref aPl, .ref aPd, .ref aPs, .int pn, .int pch])), (aPk, .inl (cyI, 64, .inl pk)), (aPl, .inl (cyI, 64, .inl pl)), (aPd, .inl (cyI, 64, .inl pd)), (aPs, .inl (cyI, 64, .inl ps)), (aB, .inr (1, [.ref aBr, .int bn_2])), (aBr, .inl (cyI, 800, .inl br_3)), (aO, .inl (cyJ, 1, .inr (.inl (vp_updL ov (0 : Int32).toNatClampNeg (r_1.toInt64)))))] _ := (hP.sub [1, 2, 3, 4, 5, 6, 7, 8, 9, 10, 0] rfl)
  have hD9 : va_D A [(aX, .inr (8, [.ref aT, .ref aS, .ref aF, .ref aQ, .ref aW, .ref aP, .ref aB, .ref aR])), (aT, .inr (7, [.ref aTb, .int tn])), (aTb, .inl (cyI, 64, .inl tb)), (aP, .inr (3, [.ref aPk, .ref aPl, .ref aPd, .ref aPs, .int pn, .int pch])), (aPk, .inl (cyI, 64, .inl pk)), (aPl, .inl (cyI, 64, .inl pl)), (aPd, .inl (cyI, 64, .inl pd)), (aPs, .inl (cyI, 64, .inl ps)), (aB, .inr (1, [.ref aBr, .int bn_2])), (aBr, .inl (cyI, 800, .inl br_3)), (aO, .inl (cyJ, 1, .inr (.inl (vp_updL ov (0 : Int32).toNatClampNeg (r_1.toInt64)))))] := (hD.sub [1, 2, 3, 4, 5, 6, 7, 8, 9, 10, 0] (by decide) rfl)
  refine vx_ret ?_
  refine W.widen (k := 1) (n := 6) (Nat.le_of_ble_eq_true rfl) (Nat.le_of_ble_eq_true rfl) ?_
  exact W.iret (v := 0) hx hb hr (fun t ht hW => ⟨⟨0, (bn_2, br_3, vp_updL ov (0 : Int32).toNatClampNeg (r_1.toInt64)), rfl, h, by rw [ht]; exact hP9, va_K.moved hW.alike hK, hD9⟩, hS.F ht⟩) hS.2.2 dL_write_15
-- L_bit
theorem qL_bit_0 : Cond.classLink RL 28 "java/lang/IndexOutOfBoundsException" ∈ wsL_bit := (List.mem_cons_of_mem _ (List.mem_append_left _ (List.mem_append_left _ (List.mem_append_left _ (List.mem_of_getElem? (i := 0) rfl)))))
def wpL_bit (bn : Int32) (br : Nat → Int32) (ov : Nat → Int64) (v1 : Int32) (post : Int32 → (Nat → Int64) → Prop) : Prop := wpX9_bit bn br v1 (fun (r_1 : Int32) => post 0 (vp_updL ov (0 : Int32).toNatClampNeg (r_1.toInt64))) (fun (E9 : String) => (E9 = xI ∧ (post 1 ov)))
set_option maxHeartbeats 4000000 in
set_option maxRecDepth 100000 in
theorem mtL_bit (l : Launch) (hlt : l.stackTraces = false) (dC : Nat → ClassId) (dI : Nat → Nat → Nat) (cyI cyJ cyD : ClassId) {aX aT aS aF aQ aW aP aB aBr aR aO : Nat} {sz : Nat} {bn : Int32} {br : Nat → Int32} {ov : Nat → Int64} {v1 : Int32} {post : Int32 → (Nat → Int64) → Prop} (h : wpL_bit bn br ov v1 post) : vx_Met l yL_bit wsL_bit ({ frames := 7, cells := 1, slots := 6, locals := 103 }) (va_Pc [.ref aX, .int v1, .ref aO] (wk_BX (dC, dI) [(cyI, .int), (cyJ, .long), (cyD, .double)] [(aX, .inr (8, [.ref aT, .ref aS, .ref aF, .ref aQ, .ref aW, .ref aP, .ref aB, .ref aR])), (aB, .inr (1, [.ref aBr, .int bn])), (aBr, .inl (cyI, 800, .inl br)), (aO, .inl (cyJ, 1, .inr (.inl ov)))] sz)) (va_Qi (fun (r : Int32) (u : (Nat → Int64)) => post r u) (wk_C (dC, dI) [(cyI, .int), (cyJ, .long), (cyD, .double)] (va_A [(aX, .inr (8, [.ref aT, .ref aS, .ref aF, .ref aQ, .ref aW, .ref aP, .ref aB, .ref aR])), (aB, .inr (1, [.ref aBr, .int bn])), (aBr, .inl (cyI, 800, .inl br)), (aO, .inl (cyJ, 1, .inr (.inl ov)))] sz) (fun (u : (Nat → Int64)) => [(aX, .inr (8, [.ref aT, .ref aS, .ref aF, .ref aQ, .ref aW, .ref aP, .ref aB, .ref aR])), (aB, .inr (1, [.ref aBr, .int bn])), (aBr, .inl (cyI, 800, .inl br)), (aO, .inl (cyJ, 1, .inr (.inl (u))))])) (va_A [(aX, .inr (8, [.ref aT, .ref aS, .ref aF, .ref aQ, .ref aW, .ref aP, .ref aB, .ref aR])), (aB, .inr (1, [.ref aBr, .int bn])), (aBr, .inl (cyI, 800, .inl br)), (aO, .inl (cyJ, 1, .inr (.inl ov)))] sz)) (vx_X (fun (_ : String) => False) (wk_X (dC, dI) [(cyI, .int), (cyJ, .long), (cyD, .double)] (va_A [(aX, .inr (8, [.ref aT, .ref aS, .ref aF, .ref aQ, .ref aW, .ref aP, .ref aB, .ref aR])), (aB, .inr (1, [.ref aBr, .int bn])), (aBr, .inl (cyI, 800, .inl br)), (aO, .inl (cyJ, 1, .inr (.inl ov)))] sz) [(aX, .inr (8, [.ref aT, .ref aS, .ref aF, .ref aQ, .ref aW, .ref aP, .ref aB, .ref aR])), (aB, .inr (1, [.ref aBr, .int bn])), (aBr, .inl (cyI, 800, .inl br)), (aO, .inl (cyJ, 1, .inr (.inl ov)))]) (va_A [(aX, .inr (8, [.ref aT, .ref aS, .ref aF, .ref aQ, .ref aW, .ref aP, .ref aB, .ref aR])), (aB, .inr (1, [.ref aBr, .int bn])), (aBr, .inl (cyI, 800, .inl br)), (aO, .inl (cyJ, 1, .inr (.inl ov)))] sz)) 1 6 (va_A [(aX, .inr (8, [.ref aT, .ref aS, .ref aF, .ref aQ, .ref aW, .ref aP, .ref aB, .ref aR])), (aB, .inr (1, [.ref aBr, .int bn])), (aBr, .inl (cyI, 800, .inl br)), (aO, .inl (cyJ, 1, .inr (.inl ov)))] sz) := by
  refine vx_ofWH (cc := cL_bit) (maxL := 4) (ret := (some .int)) (by decide) rfl ?_
  intro p e s m args below meth c s₁ B hml hv
  obtain ⟨rfl, ⟨hsz, hP, hK, hD0⟩, hZ⟩ := hv
  have hx := B.exec
  have hb := B.bytes
  have hr := B.returns
  have hts := atoms_spec (ws := wsL_bit) B.pre
  have hown : s.vm.findClass RL = some m.cls := findClass_of_methodNamed B.named
  have htb := vx_table (x := yL_bit) B (hts _ List.mem_cons_self)
  have hlocks := B.notSynchronized
  subst hsz
  have hD := hD0.self (sz := s.heap.size)
  generalize hAe : va_A [(aX, .inr (8, [.ref aT, .ref aS, .ref aF, .ref aQ, .ref aW, .ref aP, .ref aB, .ref aR])), (aB, .inr (1, [.ref aBr, .int bn])), (aBr, .inl (cyI, 800, .inl br)), (aO, .inl (cyJ, 1, .inr (.inl ov)))] s.heap.size = A at hD hZ ⊢
  have hA : ∀ q : Nat, s.heap.size ≤ q → A q := fun q h => by rw [← hAe]; exact Or.inr h
  have hS : va_S A s.heap s.heap [] := va_S.rf
  have hP : va_P (dC, dI) vwCl [(aX, .inr (8, [.ref aT, .ref aS, .ref aF, .ref aQ, .ref aW, .ref aP, .ref aB, .ref aR])), (aB, .inr (1, [.ref aBr, .int bn])), (aBr, .inl (cyI, 800, .inl br)), (aO, .inl (cyJ, 1, .inr (.inl ov)))] s.heap := hP
  have hl := lv_entry ([.ref aX, .int v1, .ref aO]) (n := 4) (Nat.le_of_ble_eq_true rfl)
  rw [lg_entry_eq]
  generalize (lg_sl ([.ref aX, .int v1, .ref aO]) ++ List.replicate (4 - (lg_sl ([.ref aX, .int v1, .ref aO])).length) Slot.unset).toArray = ls at hl ⊢
  have hl : lv_has ls 4 [(0, .ref aX), (1, .int v1), (2, .ref aO)] := hl
  have C0 : CallFix p m c cL_bit 4 s ([.ref aX, .int v1, .ref aO] : List Value).toArray wsL_bit RL := ⟨hx, hb, hml, hown, hts⟩
  unfold wpL_bit at h
  refine lv_aload_n hx hb dL_bit_0 rfl (lv_at hl 2 rfl) ?_
  refine lv_iconst (v := 0) hx hb dL_bit_1 (by decide) ?_
  refine lv_aload_n hx hb dL_bit_2 rfl (lv_at hl 0 rfl) ?_
  refine lv_iload_n hx hb dL_bit_3 rfl (lv_at hl 1 rfl) ?_
  refine wk_xcalli (wc := [(aX, .inr (8, [.ref aT, .ref aS, .ref aF, .ref aQ, .ref aW, .ref aP, .ref aB, .ref aR])), (aB, .inr (1, [.ref aBr, .int bn])), (aBr, .inl (cyI, 800, .inl br))]) (wr := [(aO, .inl (cyJ, 1, .inr (.inl ov)))]) (vx_runV (As := [.int v1]) (rest := [.int 0, .ref aO]) C0 (mtX9_bit l hlt dC dI cyI (aX := aX) (aT := aT) (aS := aS) (aF := aF) (aQ := aQ) (aW := aW) (aP := aP) (aB := aB) (aBr := aBr) (aR := aR) (sz := _) (bn := bn) (br := br) (v1 := v1) h) (cwV 1 hts gL_bit_X9_bit rfl rfl rfl (by decide +kernel) ⟨(Nat.le_of_ble_eq_true rfl), (Nat.le_of_ble_eq_true rfl)⟩) (wk_preVX (wc := [(aX, .inr (8, [.ref aT, .ref aS, .ref aF, .ref aQ, .ref aW, .ref aP, .ref aB, .ref aR])), (aB, .inr (1, [.ref aBr, .int bn])), (aBr, .inl (cyI, 800, .inl br))]) (hK.sub (tys' := [(cyI, .int)]) [0] rfl) hP hD hS hA hZ [0, 1, 2] rfl (by decide) (va_recv hK hP (ci := 8) (q0 := 0) rfl rfl)) rfl rfl hl.1 rfl (lv_room (Nat.le_of_ble_eq_true rfl)) dL_bit_4 ⟨(Nat.le_of_ble_eq_true rfl), (Nat.le_of_ble_eq_true rfl)⟩) hP hD hS hA [0, 1, 2] [3] rfl rfl (by decide) (by decide) (fun E9 ce9 q9 H locs h hP hD hS hc1 hc2 hc3 => ?_) (fun r_1 u9 H locs h hP hD hS => ?_)
  · have hP : va_P (dC, dI) vwCl [(aO, .inl (cyJ, 1, .inr (.inl ov))), (aX, .inr (8, [.ref aT, .ref aS, .ref aF, .ref aQ, .ref aW, .ref aP, .ref aB, .ref aR])), (aB, .inr (1, [.ref aBr, .int bn])), (aBr, .inl (cyI, 800, .inl br))] H := hP
    have hD : va_D A [(aO, .inl (cyJ, 1, .inr (.inl ov))), (aX, .inr (8, [.ref aT, .ref aS, .ref aF, .ref aQ, .ref aW, .ref aP, .ref aB, .ref aR])), (aB, .inr (1, [.ref aBr, .int bn])), (aBr, .inl (cyI, 800, .inl br))] := hD
    obtain ⟨rfl, h⟩ := h
    refine vx_catch (name := xI) hown [] ⟨0, 9, 12, 28⟩ [] (by rw [htb]; rfl) (fun z hz => nomatch hz) (by decide) (by decide) (hts _ qL_bit_0) (hZ.use _ _ (List.mem_of_getElem? (i := 2) rfl)) hc1 hc2 hc3 ?_
    refine lv_astore_n (lv' := [(3, .ref q9), (0, .ref aX), (1, .int v1), (2, .ref aO)]) hx hb dL_bit_12 rfl hl (by decide) rfl (fun ls hl => ?_)
    refine lv_iconst (v := 1) hx hb dL_bit_13 (by decide) ?_
    have hP9 : va_P (dC, dI) vwCl [(aX, .inr (8, [.ref aT, .ref aS, .ref aF, .ref aQ, .ref aW, .ref aP, .ref aB, .ref aR])), (aB, .inr (1, [.ref aBr, .int bn])), (aBr, .inl (cyI, 800, .inl br)), (aO, .inl (cyJ, 1, .inr (.inl ov)))] _ := (hP.sub [1, 2, 3, 0] rfl)
    have hD9 : va_D A [(aX, .inr (8, [.ref aT, .ref aS, .ref aF, .ref aQ, .ref aW, .ref aP, .ref aB, .ref aR])), (aB, .inr (1, [.ref aBr, .int bn])), (aBr, .inl (cyI, 800, .inl br)), (aO, .inl (cyJ, 1, .inr (.inl ov)))] := (hD.sub [1, 2, 3, 0] (by decide) rfl)
    refine vx_ret ?_
    refine W.widen (k := 1) (n := 6) (Nat.le_of_ble_eq_true rfl) (Nat.le_of_ble_eq_true rfl) ?_
    exact W.iret (v := 1) hx hb hr (fun t ht hW => ⟨⟨1, ov, rfl, h, by rw [ht]; exact hP9, va_K.moved hW.alike hK, hD9⟩, hS.F ht⟩) hS.2.2 dL_bit_14
  have hP : va_P (dC, dI) vwCl [(aO, .inl (cyJ, 1, .inr (.inl ov))), (aX, .inr (8, [.ref aT, .ref aS, .ref aF, .ref aQ, .ref aW, .ref aP, .ref aB, .ref aR])), (aB, .inr (1, [.ref aBr, .int bn])), (aBr, .inl (cyI, 800, .inl br))] H := hP
  have hD : va_D A [(aO, .inl (cyJ, 1, .inr (.inl ov))), (aX, .inr (8, [.ref aT, .ref aS, .ref aF, .ref aQ, .ref aW, .ref aP, .ref aB, .ref aR])), (aB, .inr (1, [.ref aBr, .int bn])), (aBr, .inl (cyI, 800, .inl br))] := hD
  refine lv_i2l hx hb dL_bit_7 rfl ?_
  refine va_last hx hb hK hP hD hS 0 1 rfl rfl wk_in01 dL_bit_8 (fun H locs hP hD hS => ?_)
  have hP : va_P (dC, dI) vwCl [(aO, .inl (cyJ, 1, .inr (.inl (vp_updL ov (0 : Int32).toNatClampNeg (r_1.toInt64))))), (aX, .inr (8, [.ref aT, .ref aS, .ref aF, .ref aQ, .ref aW, .ref aP, .ref aB, .ref aR])), (aB, .inr (1, [.ref aBr, .int bn])), (aBr, .inl (cyI, 800, .inl br))] H := hP
  have hD : va_D A [(aO, .inl (cyJ, 1, .inr (.inl (vp_updL ov (0 : Int32).toNatClampNeg (r_1.toInt64))))), (aX, .inr (8, [.ref aT, .ref aS, .ref aF, .ref aQ, .ref aW, .ref aP, .ref aB, .ref aR])), (aB, .inr (1, [.ref aBr, .int bn])), (aBr, .inl (cyI, 800, .inl br))] := hD
  refine lv_goto (tgt := 15) hx hb dL_bit_9 (by decide) ?_
  refine lv_iconst (v := 0) hx hb dL_bit_15 (by decide) ?_
  have hP9 : va_P (dC, dI) vwCl [(aX, .inr (8, [.ref aT, .ref aS, .ref aF, .ref aQ, .ref aW, .ref aP, .ref aB, .ref aR])), (aB, .inr (1, [.ref aBr, .int bn])), (aBr, .inl (cyI, 800, .inl br)), (aO, .inl (cyJ, 1, .inr (.inl (vp_updL ov (0 : Int32).toNatClampNeg (r_1.toInt64)))))] _ := (hP.sub [1, 2, 3, 0] rfl)
  have hD9 : va_D A [(aX, .inr (8, [.ref aT, .ref aS, .ref aF, .ref aQ, .ref aW, .ref aP, .ref aB, .ref aR])), (aB, .inr (1, [.ref aBr, .int bn])), (aBr, .inl (cyI, 800, .inl br)), (aO, .inl (cyJ, 1, .inr (.inl (vp_updL ov (0 : Int32).toNatClampNeg (r_1.toInt64)))))] := (hD.sub [1, 2, 3, 0] (by decide) rfl)
  refine vx_ret ?_
  refine W.widen (k := 1) (n := 6) (Nat.le_of_ble_eq_true rfl) (Nat.le_of_ble_eq_true rfl) ?_
  exact W.iret (v := 0) hx hb hr (fun t ht hW => ⟨⟨0, vp_updL ov (0 : Int32).toNatClampNeg (r_1.toInt64), rfl, h, by rw [ht]; exact hP9, va_K.moved hW.alike hK, hD9⟩, hS.F ht⟩) hS.2.2 dL_bit_16
-- L_flip
theorem qL_flip_0 : Cond.classLink RL 28 "java/lang/IndexOutOfBoundsException" ∈ wsL_flip := (List.mem_cons_of_mem _ (List.mem_append_left _ (List.mem_append_left _ (List.mem_append_left _ (List.mem_of_getElem? (i := 0) rfl)))))
def wpL_flip (bn : Int32) (br : Nat → Int32) (ov : Nat → Int64) (v1 : Int32) (post : Int32 → (Nat → Int32) → (Nat → Int64) → Prop) : Prop := wpX9_flip bn br v1 (fun (r_1 : Int32) (br_2 : Nat → Int32) => post 0 br_2 (vp_updL ov (0 : Int32).toNatClampNeg (r_1.toInt64))) (fun (E9 : String) => (E9 = xI ∧ (post 1 br ov)))
set_option maxHeartbeats 4000000 in
set_option maxRecDepth 100000 in
theorem mtL_flip (l : Launch) (hlt : l.stackTraces = false) (dC : Nat → ClassId) (dI : Nat → Nat → Nat) (cyI cyJ cyD : ClassId) {aX aT aS aF aQ aW aP aB aBr aR aO : Nat} {sz : Nat} {bn : Int32} {br : Nat → Int32} {ov : Nat → Int64} {v1 : Int32} {post : Int32 → (Nat → Int32) → (Nat → Int64) → Prop} (h : wpL_flip bn br ov v1 post) : vx_Met l yL_flip wsL_flip ({ frames := 7, cells := 1, slots := 6, locals := 104 }) (va_Pc [.ref aX, .int v1, .ref aO] (wk_BX (dC, dI) [(cyI, .int), (cyJ, .long), (cyD, .double)] [(aX, .inr (8, [.ref aT, .ref aS, .ref aF, .ref aQ, .ref aW, .ref aP, .ref aB, .ref aR])), (aB, .inr (1, [.ref aBr, .int bn])), (aBr, .inl (cyI, 800, .inl br)), (aO, .inl (cyJ, 1, .inr (.inl ov)))] sz)) (va_Qi (fun (r : Int32) (u : (Nat → Int32) × (Nat → Int64)) => post r u.1 u.2) (wk_C (dC, dI) [(cyI, .int), (cyJ, .long), (cyD, .double)] (va_A [(aX, .inr (8, [.ref aT, .ref aS, .ref aF, .ref aQ, .ref aW, .ref aP, .ref aB, .ref aR])), (aB, .inr (1, [.ref aBr, .int bn])), (aBr, .inl (cyI, 800, .inl br)), (aO, .inl (cyJ, 1, .inr (.inl ov)))] sz) (fun (u : (Nat → Int32) × (Nat → Int64)) => [(aX, .inr (8, [.ref aT, .ref aS, .ref aF, .ref aQ, .ref aW, .ref aP, .ref aB, .ref aR])), (aB, .inr (1, [.ref aBr, .int bn])), (aBr, .inl (cyI, 800, .inl (u.1))), (aO, .inl (cyJ, 1, .inr (.inl (u.2))))])) (va_A [(aX, .inr (8, [.ref aT, .ref aS, .ref aF, .ref aQ, .ref aW, .ref aP, .ref aB, .ref aR])), (aB, .inr (1, [.ref aBr, .int bn])), (aBr, .inl (cyI, 800, .inl br)), (aO, .inl (cyJ, 1, .inr (.inl ov)))] sz)) (vx_X (fun (_ : String) => False) (wk_X (dC, dI) [(cyI, .int), (cyJ, .long), (cyD, .double)] (va_A [(aX, .inr (8, [.ref aT, .ref aS, .ref aF, .ref aQ, .ref aW, .ref aP, .ref aB, .ref aR])), (aB, .inr (1, [.ref aBr, .int bn])), (aBr, .inl (cyI, 800, .inl br)), (aO, .inl (cyJ, 1, .inr (.inl ov)))] sz) [(aX, .inr (8, [.ref aT, .ref aS, .ref aF, .ref aQ, .ref aW, .ref aP, .ref aB, .ref aR])), (aB, .inr (1, [.ref aBr, .int bn])), (aBr, .inl (cyI, 800, .inl br)), (aO, .inl (cyJ, 1, .inr (.inl ov)))]) (va_A [(aX, .inr (8, [.ref aT, .ref aS, .ref aF, .ref aQ, .ref aW, .ref aP, .ref aB, .ref aR])), (aB, .inr (1, [.ref aBr, .int bn])), (aBr, .inl (cyI, 800, .inl br)), (aO, .inl (cyJ, 1, .inr (.inl ov)))] sz)) 1 6 (va_A [(aX, .inr (8, [.ref aT, .ref aS, .ref aF, .ref aQ, .ref aW, .ref aP, .ref aB, .ref aR])), (aB, .inr (1, [.ref aBr, .int bn])), (aBr, .inl (cyI, 800, .inl br)), (aO, .inl (cyJ, 1, .inr (.inl ov)))] sz) := by
  refine vx_ofWH (cc := cL_flip) (maxL := 4) (ret := (some .int)) (by decide) rfl ?_
  intro p e s m args below meth c s₁ B hml hv
  obtain ⟨rfl, ⟨hsz, hP, hK, hD0⟩, hZ⟩ := hv
  have hx := B.exec
  have hb := B.bytes
  have hr := B.returns
  have hts := atoms_spec (ws := wsL_flip) B.pre
  have hown : s.vm.findClass RL = some m.cls := findClass_of_methodNamed B.named
  have htb := vx_table (x := yL_flip) B (hts _ List.mem_cons_self)
  have hlocks := B.notSynchronized
  subst hsz
  have hD := hD0.self (sz := s.heap.size)
  generalize hAe : va_A [(aX, .inr (8, [.ref aT, .ref aS, .ref aF, .ref aQ, .ref aW, .ref aP, .ref aB, .ref aR])), (aB, .inr (1, [.ref aBr, .int bn])), (aBr, .inl (cyI, 800, .inl br)), (aO, .inl (cyJ, 1, .inr (.inl ov)))] s.heap.size = A at hD hZ ⊢
  have hA : ∀ q : Nat, s.heap.size ≤ q → A q := fun q h => by rw [← hAe]; exact Or.inr h
  have hS : va_S A s.heap s.heap [] := va_S.rf
  have hP : va_P (dC, dI) vwCl [(aX, .inr (8, [.ref aT, .ref aS, .ref aF, .ref aQ, .ref aW, .ref aP, .ref aB, .ref aR])), (aB, .inr (1, [.ref aBr, .int bn])), (aBr, .inl (cyI, 800, .inl br)), (aO, .inl (cyJ, 1, .inr (.inl ov)))] s.heap := hP
  have hl := lv_entry ([.ref aX, .int v1, .ref aO]) (n := 4) (Nat.le_of_ble_eq_true rfl)
  rw [lg_entry_eq]
  generalize (lg_sl ([.ref aX, .int v1, .ref aO]) ++ List.replicate (4 - (lg_sl ([.ref aX, .int v1, .ref aO])).length) Slot.unset).toArray = ls at hl ⊢
  have hl : lv_has ls 4 [(0, .ref aX), (1, .int v1), (2, .ref aO)] := hl
  have C0 : CallFix p m c cL_flip 4 s ([.ref aX, .int v1, .ref aO] : List Value).toArray wsL_flip RL := ⟨hx, hb, hml, hown, hts⟩
  unfold wpL_flip at h
  refine lv_aload_n hx hb dL_flip_0 rfl (lv_at hl 2 rfl) ?_
  refine lv_iconst (v := 0) hx hb dL_flip_1 (by decide) ?_
  refine lv_aload_n hx hb dL_flip_2 rfl (lv_at hl 0 rfl) ?_
  refine lv_iload_n hx hb dL_flip_3 rfl (lv_at hl 1 rfl) ?_
  refine wk_xcalli (wc := [(aX, .inr (8, [.ref aT, .ref aS, .ref aF, .ref aQ, .ref aW, .ref aP, .ref aB, .ref aR])), (aB, .inr (1, [.ref aBr, .int bn])), (aBr, .inl (cyI, 800, .inl br))]) (wr := [(aO, .inl (cyJ, 1, .inr (.inl ov)))]) (vx_runV (As := [.int v1]) (rest := [.int 0, .ref aO]) C0 (mtX9_flip l hlt dC dI cyI (aX := aX) (aT := aT) (aS := aS) (aF := aF) (aQ := aQ) (aW := aW) (aP := aP) (aB := aB) (aBr := aBr) (aR := aR) (sz := _) (bn := bn) (br := br) (v1 := v1) h) (cwV 1 hts gL_flip_X9_flip rfl rfl rfl (by decide +kernel) ⟨(Nat.le_of_ble_eq_true rfl), (Nat.le_of_ble_eq_true rfl)⟩) (wk_preVX (wc := [(aX, .inr (8, [.ref aT, .ref aS, .ref aF, .ref aQ, .ref aW, .ref aP, .ref aB, .ref aR])), (aB, .inr (1, [.ref aBr, .int bn])), (aBr, .inl (cyI, 800, .inl br))]) (hK.sub (tys' := [(cyI, .int)]) [0] rfl) hP hD hS hA hZ [0, 1, 2] rfl (by decide) (va_recv hK hP (ci := 8) (q0 := 0) rfl rfl)) rfl rfl hl.1 rfl (lv_room (Nat.le_of_ble_eq_true rfl)) dL_flip_4 ⟨(Nat.le_of_ble_eq_true rfl), (Nat.le_of_ble_eq_true rfl)⟩) hP hD hS hA [0, 1, 2] [3] rfl rfl (by decide) (by decide) (fun E9 ce9 q9 H locs h hP hD hS hc1 hc2 hc3 => ?_) (fun r_1 u9 H locs h hP hD hS => ?_)
  · have hP : va_P (dC, dI) vwCl [(aO, .inl (cyJ, 1, .inr (.inl ov))), (aX, .inr (8, [.ref aT, .ref aS, .ref aF, .ref aQ, .ref aW, .ref aP, .ref aB, .ref aR])), (aB, .inr (1, [.ref aBr, .int bn])), (aBr, .inl (cyI, 800, .inl br))] H := hP
    have hD : va_D A [(aO, .inl (cyJ, 1, .inr (.inl ov))), (aX, .inr (8, [.ref aT, .ref aS, .ref aF, .ref aQ, .ref aW, .ref aP, .ref aB, .ref aR])), (aB, .inr (1, [.ref aBr, .int bn])), (aBr, .inl (cyI, 800, .inl br))] := hD
    obtain ⟨rfl, h⟩ := h
    refine vx_catch (name := xI) hown [] ⟨0, 9, 12, 28⟩ [] (by rw [htb]; rfl) (fun z hz => nomatch hz) (by decide) (by decide) (hts _ qL_flip_0) (hZ.use _ _ (List.mem_of_getElem? (i := 2) rfl)) hc1 hc2 hc3 ?_
    refine lv_astore_n (lv' := [(3, .ref q9), (0, .ref aX), (1, .int v1), (2, .ref aO)]) hx hb dL_flip_12 rfl hl (by decide) rfl (fun ls hl => ?_)
    refine lv_iconst (v := 1) hx hb dL_flip_13 (by decide) ?_
    have hP9 : va_P (dC, dI) vwCl [(aX, .inr (8, [.ref aT, .ref aS, .ref aF, .ref aQ, .ref aW, .ref aP, .ref aB, .ref aR])), (aB, .inr (1, [.ref aBr, .int bn])), (aBr, .inl (cyI, 800, .inl br)), (aO, .inl (cyJ, 1, .inr (.inl ov)))] _ := (hP.sub [1, 2, 3, 0] rfl)
    have hD9 : va_D A [(aX, .inr (8, [.ref aT, .ref aS, .ref aF, .ref aQ, .ref aW, .ref aP, .ref aB, .ref aR])), (aB, .inr (1, [.ref aBr, .int bn])), (aBr, .inl (cyI, 800, .inl br)), (aO, .inl (cyJ, 1, .inr (.inl ov)))] := (hD.sub [1, 2, 3, 0] (by decide) rfl)
    refine vx_ret ?_
    refine W.widen (k := 1) (n := 6) (Nat.le_of_ble_eq_true rfl) (Nat.le_of_ble_eq_true rfl) ?_
    exact W.iret (v := 1) hx hb hr (fun t ht hW => ⟨⟨1, (br, ov), rfl, h, by rw [ht]; exact hP9, va_K.moved hW.alike hK, hD9⟩, hS.F ht⟩) hS.2.2 dL_flip_14
  obtain ⟨br_2, rfl⟩ : ∃ z9, z9 = u9 := ⟨_, rfl⟩
  have hP : va_P (dC, dI) vwCl [(aO, .inl (cyJ, 1, .inr (.inl ov))), (aX, .inr (8, [.ref aT, .ref aS, .ref aF, .ref aQ, .ref aW, .ref aP, .ref aB, .ref aR])), (aB, .inr (1, [.ref aBr, .int bn])), (aBr, .inl (cyI, 800, .inl br_2))] H := hP
  have hD : va_D A [(aO, .inl (cyJ, 1, .inr (.inl ov))), (aX, .inr (8, [.ref aT, .ref aS, .ref aF, .ref aQ, .ref aW, .ref aP, .ref aB, .ref aR])), (aB, .inr (1, [.ref aBr, .int bn])), (aBr, .inl (cyI, 800, .inl br_2))] := hD
  refine lv_i2l hx hb dL_flip_7 rfl ?_
  refine va_last hx hb hK hP hD hS 0 1 rfl rfl wk_in01 dL_flip_8 (fun H locs hP hD hS => ?_)
  have hP : va_P (dC, dI) vwCl [(aO, .inl (cyJ, 1, .inr (.inl (vp_updL ov (0 : Int32).toNatClampNeg (r_1.toInt64))))), (aX, .inr (8, [.ref aT, .ref aS, .ref aF, .ref aQ, .ref aW, .ref aP, .ref aB, .ref aR])), (aB, .inr (1, [.ref aBr, .int bn])), (aBr, .inl (cyI, 800, .inl br_2))] H := hP
  have hD : va_D A [(aO, .inl (cyJ, 1, .inr (.inl (vp_updL ov (0 : Int32).toNatClampNeg (r_1.toInt64))))), (aX, .inr (8, [.ref aT, .ref aS, .ref aF, .ref aQ, .ref aW, .ref aP, .ref aB, .ref aR])), (aB, .inr (1, [.ref aBr, .int bn])), (aBr, .inl (cyI, 800, .inl br_2))] := hD
  refine lv_goto (tgt := 15) hx hb dL_flip_9 (by decide) ?_
  refine lv_iconst (v := 0) hx hb dL_flip_15 (by decide) ?_
  have hP9 : va_P (dC, dI) vwCl [(aX, .inr (8, [.ref aT, .ref aS, .ref aF, .ref aQ, .ref aW, .ref aP, .ref aB, .ref aR])), (aB, .inr (1, [.ref aBr, .int bn])), (aBr, .inl (cyI, 800, .inl br_2)), (aO, .inl (cyJ, 1, .inr (.inl (vp_updL ov (0 : Int32).toNatClampNeg (r_1.toInt64)))))] _ := (hP.sub [1, 2, 3, 0] rfl)
  have hD9 : va_D A [(aX, .inr (8, [.ref aT, .ref aS, .ref aF, .ref aQ, .ref aW, .ref aP, .ref aB, .ref aR])), (aB, .inr (1, [.ref aBr, .int bn])), (aBr, .inl (cyI, 800, .inl br_2)), (aO, .inl (cyJ, 1, .inr (.inl (vp_updL ov (0 : Int32).toNatClampNeg (r_1.toInt64)))))] := (hD.sub [1, 2, 3, 0] (by decide) rfl)
  refine vx_ret ?_
  refine W.widen (k := 1) (n := 6) (Nat.le_of_ble_eq_true rfl) (Nat.le_of_ble_eq_true rfl) ?_
  exact W.iret (v := 0) hx hb hr (fun t ht hW => ⟨⟨0, (br_2, vp_updL ov (0 : Int32).toNatClampNeg (r_1.toInt64)), rfl, h, by rw [ht]; exact hP9, va_K.moved hW.alike hK, hD9⟩, hS.F ht⟩) hS.2.2 dL_flip_16
-- L_appendBits
theorem qL_appendBits_0 : Cond.classLink RL 13 "java/lang/IllegalArgumentException" ∈ wsL_appendBits := (List.mem_cons_of_mem _ (List.mem_append_left _ (List.mem_append_left _ (List.mem_append_left _ (List.mem_append_left _ (List.mem_of_getElem? (i := 0) rfl))))))
theorem qL_appendBits_1 : Cond.classLink RL 15 "java/lang/IllegalStateException" ∈ wsL_appendBits := (List.mem_cons_of_mem _ (List.mem_append_left _ (List.mem_append_left _ (List.mem_append_left _ (List.mem_append_left _ (List.mem_of_getElem? (i := 1) rfl))))))
def wpL_appendBits (bn : Int32) (br : Nat → Int32) (ov : Nat → Int64) (v1 : Int32) (v2 : Int32) (post : Int32 → Int32 → (Nat → Int32) → (Nat → Int64) → Prop) : Prop := wpX9_appendBits bn br v1 v2 (fun (r_1 : Int32) (bn_2 : Int32) (br_3 : Nat → Int32) => post 0 bn_2 br_3 (vp_updL ov (0 : Int32).toNatClampNeg (r_1.toInt64))) (fun (E9 : String) => (E9 = xA ∧ (post 1 bn br ov)) ∨ (E9 = xS ∧ (post 2 bn br ov)))
set_option maxHeartbeats 4000000 in
set_option maxRecDepth 100000 in
theorem mtL_appendBits (l : Launch) (hlt : l.stackTraces = false) (dC : Nat → ClassId) (dI : Nat → Nat → Nat) (cyI cyJ cyD : ClassId) {aX aT aS aF aQ aW aP aB aBr aR aO : Nat} {sz : Nat} {bn : Int32} {br : Nat → Int32} {ov : Nat → Int64} {v1 : Int32} {v2 : Int32} {post : Int32 → Int32 → (Nat → Int32) → (Nat → Int64) → Prop} (h : wpL_appendBits bn br ov v1 v2 post) : vx_Met l yL_appendBits wsL_appendBits ({ frames := 7, cells := 1, slots := 6, locals := 104 }) (va_Pc [.ref aX, .int v1, .int v2, .ref aO] (wk_BX (dC, dI) [(cyI, .int), (cyJ, .long), (cyD, .double)] [(aX, .inr (8, [.ref aT, .ref aS, .ref aF, .ref aQ, .ref aW, .ref aP, .ref aB, .ref aR])), (aB, .inr (1, [.ref aBr, .int bn])), (aBr, .inl (cyI, 800, .inl br)), (aO, .inl (cyJ, 1, .inr (.inl ov)))] sz)) (va_Qi (fun (r : Int32) (u : Int32 × (Nat → Int32) × (Nat → Int64)) => post r u.1 u.2.1 u.2.2) (wk_C (dC, dI) [(cyI, .int), (cyJ, .long), (cyD, .double)] (va_A [(aX, .inr (8, [.ref aT, .ref aS, .ref aF, .ref aQ, .ref aW, .ref aP, .ref aB, .ref aR])), (aB, .inr (1, [.ref aBr, .int bn])), (aBr, .inl (cyI, 800, .inl br)), (aO, .inl (cyJ, 1, .inr (.inl ov)))] sz) (fun (u : Int32 × (Nat → Int32) × (Nat → Int64)) => [(aX, .inr (8, [.ref aT, .ref aS, .ref aF, .ref aQ, .ref aW, .ref aP, .ref aB, .ref aR])), (aB, .inr (1, [.ref aBr, .int (u.1)])), (aBr, .inl (cyI, 800, .inl (u.2.1))), (aO, .inl (cyJ, 1, .inr (.inl (u.2.2))))])) (va_A [(aX, .inr (8, [.ref aT, .ref aS, .ref aF, .ref aQ, .ref aW, .ref aP, .ref aB, .ref aR])), (aB, .inr (1, [.ref aBr, .int bn])), (aBr, .inl (cyI, 800, .inl br)), (aO, .inl (cyJ, 1, .inr (.inl ov)))] sz)) (vx_X (fun (_ : String) => False) (wk_X (dC, dI) [(cyI, .int), (cyJ, .long), (cyD, .double)] (va_A [(aX, .inr (8, [.ref aT, .ref aS, .ref aF, .ref aQ, .ref aW, .ref aP, .ref aB, .ref aR])), (aB, .inr (1, [.ref aBr, .int bn])), (aBr, .inl (cyI, 800, .inl br)), (aO, .inl (cyJ, 1, .inr (.inl ov)))] sz) [(aX, .inr (8, [.ref aT, .ref aS, .ref aF, .ref aQ, .ref aW, .ref aP, .ref aB, .ref aR])), (aB, .inr (1, [.ref aBr, .int bn])), (aBr, .inl (cyI, 800, .inl br)), (aO, .inl (cyJ, 1, .inr (.inl ov)))]) (va_A [(aX, .inr (8, [.ref aT, .ref aS, .ref aF, .ref aQ, .ref aW, .ref aP, .ref aB, .ref aR])), (aB, .inr (1, [.ref aBr, .int bn])), (aBr, .inl (cyI, 800, .inl br)), (aO, .inl (cyJ, 1, .inr (.inl ov)))] sz)) 1 6 (va_A [(aX, .inr (8, [.ref aT, .ref aS, .ref aF, .ref aQ, .ref aW, .ref aP, .ref aB, .ref aR])), (aB, .inr (1, [.ref aBr, .int bn])), (aBr, .inl (cyI, 800, .inl br)), (aO, .inl (cyJ, 1, .inr (.inl ov)))] sz) := by
  refine vx_ofWH (cc := cL_appendBits) (maxL := 5) (ret := (some .int)) (by decide) rfl ?_
  intro p e s m args below meth c s₁ B hml hv
  obtain ⟨rfl, ⟨hsz, hP, hK, hD0⟩, hZ⟩ := hv
  have hx := B.exec
  have hb := B.bytes
  have hr := B.returns
  have hts := atoms_spec (ws := wsL_appendBits) B.pre
  have hown : s.vm.findClass RL = some m.cls := findClass_of_methodNamed B.named
  have htb := vx_table (x := yL_appendBits) B (hts _ List.mem_cons_self)
  have hlocks := B.notSynchronized
  subst hsz
  have hD := hD0.self (sz := s.heap.size)
  generalize hAe : va_A [(aX, .inr (8, [.ref aT, .ref aS, .ref aF, .ref aQ, .ref aW, .ref aP, .ref aB, .ref aR])), (aB, .inr (1, [.ref aBr, .int bn])), (aBr, .inl (cyI, 800, .inl br)), (aO, .inl (cyJ, 1, .inr (.inl ov)))] s.heap.size = A at hD hZ ⊢
  have hA : ∀ q : Nat, s.heap.size ≤ q → A q := fun q h => by rw [← hAe]; exact Or.inr h
  have hS : va_S A s.heap s.heap [] := va_S.rf
  have hP : va_P (dC, dI) vwCl [(aX, .inr (8, [.ref aT, .ref aS, .ref aF, .ref aQ, .ref aW, .ref aP, .ref aB, .ref aR])), (aB, .inr (1, [.ref aBr, .int bn])), (aBr, .inl (cyI, 800, .inl br)), (aO, .inl (cyJ, 1, .inr (.inl ov)))] s.heap := hP
  have hl := lv_entry ([.ref aX, .int v1, .int v2, .ref aO]) (n := 5) (Nat.le_of_ble_eq_true rfl)
  rw [lg_entry_eq]
  generalize (lg_sl ([.ref aX, .int v1, .int v2, .ref aO]) ++ List.replicate (5 - (lg_sl ([.ref aX, .int v1, .int v2, .ref aO])).length) Slot.unset).toArray = ls at hl ⊢
  have hl : lv_has ls 5 [(0, .ref aX), (1, .int v1), (2, .int v2), (3, .ref aO)] := hl
  have C0 : CallFix p m c cL_appendBits 5 s ([.ref aX, .int v1, .int v2, .ref aO] : List Value).toArray wsL_appendBits RL := ⟨hx, hb, hml, hown, hts⟩
  unfold wpL_appendBits at h
  refine lv_aload_n hx hb dL_appendBits_0 rfl (lv_at hl 3 rfl) ?_
  refine lv_iconst (v := 0) hx hb dL_appendBits_1 (by decide) ?_
  refine lv_aload_n hx hb dL_appendBits_2 rfl (lv_at hl 0 rfl) ?_
  refine lv_iload_n hx hb dL_appendBits_3 rfl (lv_at hl 1 rfl) ?_
  refine lv_iload_n hx hb dL_appendBits_4 rfl (lv_at hl 2 rfl) ?_
  refine wk_xcalli (wc := [(aX, .inr (8, [.ref aT, .ref aS, .ref aF, .ref aQ, .ref aW, .ref aP, .ref aB, .ref aR])), (aB, .inr (1, [.ref aBr, .int bn])), (aBr, .inl (cyI, 800, .inl br))]) (wr := [(aO, .inl (cyJ, 1, .inr (.inl ov)))]) (vx_runV (As := [.int v1, .int v2]) (rest := [.int 0, .ref aO]) C0 (mtX9_appendBits l hlt dC dI cyI (aX := aX) (aT := aT) (aS := aS) (aF := aF) (aQ := aQ) (aW := aW) (aP := aP) (aB := aB) (aBr := aBr) (aR := aR) (sz := _) (bn := bn) (br := br) (v1 := v1) (v2 := v2) h) (cwV 2 hts gL_appendBits_X9_appendBits rfl rfl rfl (by decide +kernel) ⟨(Nat.le_of_ble_eq_true rfl), (Nat.le_of_ble_eq_true rfl)⟩) (wk_preVX (wc := [(aX, .inr (8, [.ref aT, .ref aS, .ref aF, .ref aQ, .ref aW, .ref aP, .ref aB, .ref aR])), (aB, .inr (1, [.ref aBr, .int bn])), (aBr, .inl (cyI, 800, .inl br))]) (hK.sub (tys' := [(cyI, .int)]) [0] rfl) hP hD hS hA hZ [0, 1, 2] rfl (by decide) (va_recv hK hP (ci := 8) (q0 := 0) rfl rfl)) rfl rfl hl.1 rfl (lv_room (Nat.le_of_ble_eq_true rfl)) dL_appendBits_5 ⟨(Nat.le_of_ble_eq_true rfl), (Nat.le_of_ble_eq_true rfl)⟩) hP hD hS hA [0, 1, 2] [3] rfl rfl (by decide) (by decide) (fun E9 ce9 q9 H locs h hP hD hS hc1 hc2 hc3 => ?_) (fun r_1 u9 H locs h hP hD hS => ?_)
  · have hP : va_P (dC, dI) vwCl [(aO, .inl (cyJ, 1, .inr (.inl ov))), (aX, .inr (8, [.ref aT, .ref aS, .ref aF, .ref aQ, .ref aW, .ref aP, .ref aB, .ref aR])), (aB, .inr (1, [.ref aBr, .int bn])), (aBr, .inl (cyI, 800, .inl br))] H := hP
    have hD : va_D A [(aO, .inl (cyJ, 1, .inr (.inl ov))), (aX, .inr (8, [.ref aT, .ref aS, .ref aF, .ref aQ, .ref aW, .ref aP, .ref aB, .ref aR])), (aB, .inr (1, [.ref aBr, .int bn])), (aBr, .inl (cyI, 800, .inl br))] := hD
    rcases h with ⟨rfl, h⟩ | ⟨rfl, h⟩
    · refine vx_catch (name := xA) hown [] ⟨0, 10, 13, 13⟩ [⟨0, 10, 17, 15⟩] (by rw [htb]; rfl) (fun z hz => nomatch hz) (by decide) (by decide) (hts _ qL_appendBits_0) (hZ.use _ _ (List.mem_of_getElem? (i := 0) rfl)) hc1 hc2 hc3 ?_
      refine lv_astore (lv' := [(4, .ref q9), (0, .ref aX), (1, .int v1), (2, .int v2), (3, .ref aO)]) hx hb dL_appendBits_13 hl (by decide) rfl (fun ls hl => ?_)
      refine lv_iconst (v := 1) hx hb dL_appendBits_15 (by decide) ?_
      have hP9 : va_P (dC, dI) vwCl [(aX, .inr (8, [.ref aT, .ref aS, .ref aF, .ref aQ, .ref aW, .ref aP, .ref aB, .ref aR])), (aB, .inr (1, [.ref aBr, .int bn])), (aBr, .inl (cyI, 800, .inl br)), (aO, .inl (cyJ, 1, .inr (.inl ov)))] _ := (hP.sub [1, 2, 3, 0] rfl)
      have hD9 : va_D A [(aX, .inr (8, [.ref aT, .ref aS, .ref aF, .ref aQ, .ref aW, .ref aP, .ref aB, .ref aR])), (aB, .inr (1, [.ref aBr, .int bn])), (aBr, .inl (cyI, 800, .inl br)), (aO, .inl (cyJ, 1, .inr (.inl ov)))] := (hD.sub [1, 2, 3, 0] (by decide) rfl)
      refine vx_ret ?_
      refine W.widen (k := 1) (n := 6) (Nat.le_of_ble_eq_true rfl) (Nat.le_of_ble_eq_true rfl) ?_
      exact W.iret (v := 1) hx hb hr (fun t ht hW => ⟨⟨1, (bn, br, ov), rfl, h, by rw [ht]; exact hP9, va_K.moved hW.alike hK, hD9⟩, hS.F ht⟩) hS.2.2 dL_appendBits_16
    · refine vx_catch (name := xS) hown [⟨0, 10, 13, 13⟩] ⟨0, 10, 17, 15⟩ [] (by rw [htb]; rfl) (fun z hz => by rcases List.mem_singleton.mp hz with rfl; exact Or.inr ⟨by decide, _, (hts _ qL_appendBits_0), hZ.2.2.2.1⟩) (by decide) (by decide) (hts _ qL_appendBits_1) (hZ.use _ _ (List.mem_of_getElem? (i := 1) rfl)) hc1 hc2 hc3 ?_
      refine lv_astore (lv' := [(4, .ref q9), (0, .ref aX), (1, .int v1), (2, .int v2), (3, .ref aO)]) hx hb dL_appendBits_17 hl (by decide) rfl (fun ls hl => ?_)
      refine lv_iconst (v := 2) hx hb dL_appendBits_19 (by decide) ?_
      have hP9 : va_P (dC, dI) vwCl [(aX, .inr (8, [.ref aT, .ref aS, .ref aF, .ref aQ, .ref aW, .ref aP, .ref aB, .ref aR])), (aB, .inr (1, [.ref aBr, .int bn])), (aBr, .inl (cyI, 800, .inl br)), (aO, .inl (cyJ, 1, .inr (.inl ov)))] _ := (hP.sub [1, 2, 3, 0] rfl)
      have hD9 : va_D A [(aX, .inr (8, [.ref aT, .ref aS, .ref aF, .ref aQ, .ref aW, .ref aP, .ref aB, .ref aR])), (aB, .inr (1, [.ref aBr, .int bn])), (aBr, .inl (cyI, 800, .inl br)), (aO, .inl (cyJ, 1, .inr (.inl ov)))] := (hD.sub [1, 2, 3, 0] (by decide) rfl)
      refine vx_ret ?_
      refine W.widen (k := 1) (n := 6) (Nat.le_of_ble_eq_true rfl) (Nat.le_of_ble_eq_true rfl) ?_
      exact W.iret (v := 2) hx hb hr (fun t ht hW => ⟨⟨2, (bn, br, ov), rfl, h, by rw [ht]; exact hP9, va_K.moved hW.alike hK, hD9⟩, hS.F ht⟩) hS.2.2 dL_appendBits_20
  obtain ⟨bn_2, br_3⟩ := u9
  have hP : va_P (dC, dI) vwCl [(aO, .inl (cyJ, 1, .inr (.inl ov))), (aX, .inr (8, [.ref aT, .ref aS, .ref aF, .ref aQ, .ref aW, .ref aP, .ref aB, .ref aR])), (aB, .inr (1, [.ref aBr, .int bn_2])), (aBr, .inl (cyI, 800, .inl br_3))] H := hP
  have hD : va_D A [(aO, .inl (cyJ, 1, .inr (.inl ov))), (aX, .inr (8, [.ref aT, .ref aS, .ref aF, .ref aQ, .ref aW, .ref aP, .ref aB, .ref aR])), (aB, .inr (1, [.ref aBr, .int bn_2])), (aBr, .inl (cyI, 800, .inl br_3))] := hD
  dsimp only at h
  refine lv_i2l hx hb dL_appendBits_8 rfl ?_
  refine va_last hx hb hK hP hD hS 0 1 rfl rfl wk_in01 dL_appendBits_9 (fun H locs hP hD hS => ?_)
  have hP : va_P (dC, dI) vwCl [(aO, .inl (cyJ, 1, .inr (.inl (vp_updL ov (0 : Int32).toNatClampNeg (r_1.toInt64))))), (aX, .inr (8, [.ref aT, .ref aS, .ref aF, .ref aQ, .ref aW, .ref aP, .ref aB, .ref aR])), (aB, .inr (1, [.ref aBr, .int bn_2])), (aBr, .inl (cyI, 800, .inl br_3))] H := hP
  have hD : va_D A [(aO, .inl (cyJ, 1, .inr (.inl (vp_updL ov (0 : Int32).toNatClampNeg (r_1.toInt64))))), (aX, .inr (8, [.ref aT, .ref aS, .ref aF, .ref aQ, .ref aW, .ref aP, .ref aB, .ref aR])), (aB, .inr (1, [.ref aBr, .int bn_2])), (aBr, .inl (cyI, 800, .inl br_3))] := hD
  refine lv_goto (tgt := 21) hx hb dL_appendBits_10 (by decide) ?_
  refine lv_iconst (v := 0) hx hb dL_appendBits_21 (by decide) ?_
  have hP9 : va_P (dC, dI) vwCl [(aX, .inr (8, [.ref aT, .ref aS, .ref aF, .ref aQ, .ref aW, .ref aP, .ref aB, .ref aR])), (aB, .inr (1, [.ref aBr, .int bn_2])), (aBr, .inl (cyI, 800, .inl br_3)), (aO, .inl (cyJ, 1, .inr (.inl (vp_updL ov (0 : Int32).toNatClampNeg (r_1.toInt64)))))] _ := (hP.sub [1, 2, 3, 0] rfl)
  have hD9 : va_D A [(aX, .inr (8, [.ref aT, .ref aS, .ref aF, .ref aQ, .ref aW, .ref aP, .ref aB, .ref aR])), (aB, .inr (1, [.ref aBr, .int bn_2])), (aBr, .inl (cyI, 800, .inl br_3)), (aO, .inl (cyJ, 1, .inr (.inl (vp_updL ov (0 : Int32).toNatClampNeg (r_1.toInt64)))))] := (hD.sub [1, 2, 3, 0] (by decide) rfl)
  refine vx_ret ?_
  refine W.widen (k := 1) (n := 6) (Nat.le_of_ble_eq_true rfl) (Nat.le_of_ble_eq_true rfl) ?_
  exact W.iret (v := 0) hx hb hr (fun t ht hW => ⟨⟨0, (bn_2, br_3, vp_updL ov (0 : Int32).toNatClampNeg (r_1.toInt64)), rfl, h, by rw [ht]; exact hP9, va_K.moved hW.alike hK, hD9⟩, hS.F ht⟩) hS.2.2 dL_appendBits_22
-- L_cutBits
theorem qL_cutBits_0 : Cond.classLink RL 13 "java/lang/IllegalArgumentException" ∈ wsL_cutBits := (List.mem_cons_of_mem _ (List.mem_append_left _ (List.mem_append_left _ (List.mem_append_left _ (List.mem_of_getElem? (i := 0) rfl)))))
def wpL_cutBits (bn : Int32) (ov : Nat → Int64) (v1 : Int32) (post : Int32 → Int32 → (Nat → Int64) → Prop) : Prop := wpX9_cutBits bn v1 (fun (r_1 : Int32) (bn_2 : Int32) => post 0 bn_2 (vp_updL ov (0 : Int32).toNatClampNeg (r_1.toInt64))) (fun (E9 : String) => (E9 = xA ∧ (post 1 bn ov)))
set_option maxHeartbeats 4000000 in
set_option maxRecDepth 100000 in
theorem mtL_cutBits (l : Launch) (hlt : l.stackTraces = false) (dC : Nat → ClassId) (dI : Nat → Nat → Nat) (cyI cyJ cyD : ClassId) {aX aT aS aF aQ aW aP aB aBr aR aO : Nat} {sz : Nat} {bn : Int32} {ov : Nat → Int64} {v1 : Int32} {post : Int32 → Int32 → (Nat → Int64) → Prop} (h : wpL_cutBits bn ov v1 post) : vx_Met l yL_cutBits wsL_cutBits ({ frames := 7, cells := 1, slots := 6, locals := 103 }) (va_Pc [.ref aX, .int v1, .ref aO] (wk_BX (dC, dI) [(cyI, .int), (cyJ, .long), (cyD, .double)] [(aX, .inr (8, [.ref aT, .ref aS, .ref aF, .ref aQ, .ref aW, .ref aP, .ref aB, .ref aR])), (aB, .inr (1, [.ref aBr, .int bn])), (aO, .inl (cyJ, 1, .inr (.inl ov)))] sz)) (va_Qi (fun (r : Int32) (u : Int32 × (Nat → Int64)) => post r u.1 u.2) (wk_C (dC, dI) [(cyI, .int), (cyJ, .long), (cyD, .double)] (va_A [(aX, .inr (8, [.ref aT, .ref aS, .ref aF, .ref aQ, .ref aW, .ref aP, .ref aB, .ref aR])), (aB, .inr (1, [.ref aBr, .int bn])), (aO, .inl (cyJ, 1, .inr (.inl ov)))] sz) (fun (u : Int32 × (Nat → Int64)) => [(aX, .inr (8, [.ref aT, .ref aS, .ref aF, .ref aQ, .ref aW, .ref aP, .ref aB, .ref aR])), (aB, .inr (1, [.ref aBr, .int (u.1)])), (aO, .inl (cyJ, 1, .inr (.inl (u.2))))])) (va_A [(aX, .inr (8, [.ref aT, .ref aS, .ref aF, .ref aQ, .ref aW, .ref aP, .ref aB, .ref aR])), (aB, .inr (1, [.ref aBr, .int bn])), (aO, .inl (cyJ, 1, .inr (.inl ov)))] sz)) (vx_X (fun (_ : String) => False) (wk_X (dC, dI) [(cyI, .int), (cyJ, .long), (cyD, .double)] (va_A [(aX, .inr (8, [.ref aT, .ref aS, .ref aF, .ref aQ, .ref aW, .ref aP, .ref aB, .ref aR])), (aB, .inr (1, [.ref aBr, .int bn])), (aO, .inl (cyJ, 1, .inr (.inl ov)))] sz) [(aX, .inr (8, [.ref aT, .ref aS, .ref aF, .ref aQ, .ref aW, .ref aP, .ref aB, .ref aR])), (aB, .inr (1, [.ref aBr, .int bn])), (aO, .inl (cyJ, 1, .inr (.inl ov)))]) (va_A [(aX, .inr (8, [.ref aT, .ref aS, .ref aF, .ref aQ, .ref aW, .ref aP, .ref aB, .ref aR])), (aB, .inr (1, [.ref aBr, .int bn])), (aO, .inl (cyJ, 1, .inr (.inl ov)))] sz)) 1 6 (va_A [(aX, .inr (8, [.ref aT, .ref aS, .ref aF, .ref aQ, .ref aW, .ref aP, .ref aB, .ref aR])), (aB, .inr (1, [.ref aBr, .int bn])), (aO, .inl (cyJ, 1, .inr (.inl ov)))] sz) := by
  refine vx_ofWH (cc := cL_cutBits) (maxL := 4) (ret := (some .int)) (by decide) rfl ?_
  intro p e s m args below meth c s₁ B hml hv
  obtain ⟨rfl, ⟨hsz, hP, hK, hD0⟩, hZ⟩ := hv
  have hx := B.exec
  have hb := B.bytes
  have hr := B.returns
  have hts := atoms_spec (ws := wsL_cutBits) B.pre
  have hown : s.vm.findClass RL = some m.cls := findClass_of_methodNamed B.named
  have htb := vx_table (x := yL_cutBits) B (hts _ List.mem_cons_self)
  have hlocks := B.notSynchronized
  subst hsz
  have hD := hD0.self (sz := s.heap.size)
  generalize hAe : va_A [(aX, .inr (8, [.ref aT, .ref aS, .ref aF, .ref aQ, .ref aW, .ref aP, .ref aB, .ref aR])), (aB, .inr (1, [.ref aBr, .int bn])), (aO, .inl (cyJ, 1, .inr (.inl ov)))] s.heap.size = A at hD hZ ⊢
  have hA : ∀ q : Nat, s.heap.size ≤ q → A q := fun q h => by rw [← hAe]; exact Or.inr h
  have hS : va_S A s.heap s.heap [] := va_S.rf
  have hP : va_P (dC, dI) vwCl [(aX, .inr (8, [.ref aT, .ref aS, .ref aF, .ref aQ, .ref aW, .ref aP, .ref aB, .ref aR])), (aB, .inr (1, [.ref aBr, .int bn])), (aO, .inl (cyJ, 1, .inr (.inl ov)))] s.heap := hP
  have hl := lv_entry ([.ref aX, .int v1, .ref aO]) (n := 4) (Nat.le_of_ble_eq_true rfl)
  rw [lg_entry_eq]
  generalize (lg_sl ([.ref aX, .int v1, .ref aO]) ++ List.replicate (4 - (lg_sl ([.ref aX, .int v1, .ref aO])).length) Slot.unset).toArray = ls at hl ⊢
  have hl : lv_has ls 4 [(0, .ref aX), (1, .int v1), (2, .ref aO)] := hl
  have C0 : CallFix p m c cL_cutBits 4 s ([.ref aX, .int v1, .ref aO] : List Value).toArray wsL_cutBits RL := ⟨hx, hb, hml, hown, hts⟩
  unfold wpL_cutBits at h
  refine lv_aload_n hx hb dL_cutBits_0 rfl (lv_at hl 2 rfl) ?_
  refine lv_iconst (v := 0) hx hb dL_cutBits_1 (by decide) ?_
  refine lv_aload_n hx hb dL_cutBits_2 rfl (lv_at hl 0 rfl) ?_
  refine lv_iload_n hx hb dL_cutBits_3 rfl (lv_at hl 1 rfl) ?_
  refine wk_xcalli (wc := [(aX, .inr (8, [.ref aT, .ref aS, .ref aF, .ref aQ, .ref aW, .ref aP, .ref aB, .ref aR])), (aB, .inr (1, [.ref aBr, .int bn]))]) (wr := [(aO, .inl (cyJ, 1, .inr (.inl ov)))]) (vx_runV (As := [.int v1]) (rest := [.int 0, .ref aO]) C0 (mtX9_cutBits l hlt dC dI cyI (aX := aX) (aT := aT) (aS := aS) (aF := aF) (aQ := aQ) (aW := aW) (aP := aP) (aB := aB) (aBr := aBr) (aR := aR) (sz := _) (bn := bn) (v1 := v1) h) (cwV 1 hts gL_cutBits_X9_cutBits rfl rfl rfl (by decide +kernel) ⟨(Nat.le_of_ble_eq_true rfl), (Nat.le_of_ble_eq_true rfl)⟩) (wk_preVX (wc := [(aX, .inr (8, [.ref aT, .ref aS, .ref aF, .ref aQ, .ref aW, .ref aP, .ref aB, .ref aR])), (aB, .inr (1, [.ref aBr, .int bn]))]) (hK.sub (tys' := [(cyI, .int)]) [0] rfl) hP hD hS hA hZ [0, 1] rfl (by decide) (va_recv hK hP (ci := 8) (q0 := 0) rfl rfl)) rfl rfl hl.1 rfl (lv_room (Nat.le_of_ble_eq_true rfl)) dL_cutBits_4 ⟨(Nat.le_of_ble_eq_true rfl), (Nat.le_of_ble_eq_true rfl)⟩) hP hD hS hA [0, 1] [2] rfl rfl (by decide) (by decide) (fun E9 ce9 q9 H locs h hP hD hS hc1 hc2 hc3 => ?_) (fun r_1 u9 H locs h hP hD hS => ?_)
  · have hP : va_P (dC, dI) vwCl [(aO, .inl (cyJ, 1, .inr (.inl ov))), (aX, .inr (8, [.ref aT, .ref aS, .ref aF, .ref aQ, .ref aW, .ref aP, .ref aB, .ref aR])), (aB, .inr (1, [.ref aBr, .int bn]))] H := hP
    have hD : va_D A [(aO, .inl (cyJ, 1, .inr (.inl ov))), (aX, .inr (8, [.ref aT, .ref aS, .ref aF, .ref aQ, .ref aW, .ref aP, .ref aB, .ref aR])), (aB, .inr (1, [.ref aBr, .int bn]))] := hD
    obtain ⟨rfl, h⟩ := h
    refine vx_catch (name := xA) hown [] ⟨0, 9, 12, 13⟩ [] (by rw [htb]; rfl) (fun z hz => nomatch hz) (by decide) (by decide) (hts _ qL_cutBits_0) (hZ.use _ _ (List.mem_of_getElem? (i := 0) rfl)) hc1 hc2 hc3 ?_
    refine lv_astore_n (lv' := [(3, .ref q9), (0, .ref aX), (1, .int v1), (2, .ref aO)]) hx hb dL_cutBits_12 rfl hl (by decide) rfl (fun ls hl => ?_)
    refine lv_iconst (v := 1) hx hb dL_cutBits_13 (by decide) ?_
    have hP9 : va_P (dC, dI) vwCl [(aX, .inr (8, [.ref aT, .ref aS, .ref aF, .ref aQ, .ref aW, .ref aP, .ref aB, .ref aR])), (aB, .inr (1, [.ref aBr, .int bn])), (aO, .inl (cyJ, 1, .inr (.inl ov)))] _ := (hP.sub [1, 2, 0] rfl)
    have hD9 : va_D A [(aX, .inr (8, [.ref aT, .ref aS, .ref aF, .ref aQ, .ref aW, .ref aP, .ref aB, .ref aR])), (aB, .inr (1, [.ref aBr, .int bn])), (aO, .inl (cyJ, 1, .inr (.inl ov)))] := (hD.sub [1, 2, 0] (by decide) rfl)
    refine vx_ret ?_
    refine W.widen (k := 1) (n := 6) (Nat.le_of_ble_eq_true rfl) (Nat.le_of_ble_eq_true rfl) ?_
    exact W.iret (v := 1) hx hb hr (fun t ht hW => ⟨⟨1, (bn, ov), rfl, h, by rw [ht]; exact hP9, va_K.moved hW.alike hK, hD9⟩, hS.F ht⟩) hS.2.2 dL_cutBits_14
  obtain ⟨bn_2, rfl⟩ : ∃ z9, z9 = u9 := ⟨_, rfl⟩
  have hP : va_P (dC, dI) vwCl [(aO, .inl (cyJ, 1, .inr (.inl ov))), (aX, .inr (8, [.ref aT, .ref aS, .ref aF, .ref aQ, .ref aW, .ref aP, .ref aB, .ref aR])), (aB, .inr (1, [.ref aBr, .int bn_2]))] H := hP
  have hD : va_D A [(aO, .inl (cyJ, 1, .inr (.inl ov))), (aX, .inr (8, [.ref aT, .ref aS, .ref aF, .ref aQ, .ref aW, .ref aP, .ref aB, .ref aR])), (aB, .inr (1, [.ref aBr, .int bn_2]))] := hD
  refine lv_i2l hx hb dL_cutBits_7 rfl ?_
  refine va_last hx hb hK hP hD hS 0 1 rfl rfl wk_in01 dL_cutBits_8 (fun H locs hP hD hS => ?_)
  have hP : va_P (dC, dI) vwCl [(aO, .inl (cyJ, 1, .inr (.inl (vp_updL ov (0 : Int32).toNatClampNeg (r_1.toInt64))))), (aX, .inr (8, [.ref aT, .ref aS, .ref aF, .ref aQ, .ref aW, .ref aP, .ref aB, .ref aR])), (aB, .inr (1, [.ref aBr, .int bn_2]))] H := hP
  have hD : va_D A [(aO, .inl (cyJ, 1, .inr (.inl (vp_updL ov (0 : Int32).toNatClampNeg (r_1.toInt64))))), (aX, .inr (8, [.ref aT, .ref aS, .ref aF, .ref aQ, .ref aW, .ref aP, .ref aB, .ref aR])), (aB, .inr (1, [.ref aBr, .int bn_2]))] := hD
  refine lv_goto (tgt := 15) hx hb dL_cutBits_9 (by decide) ?_
  refine lv_iconst (v := 0) hx hb dL_cutBits_15 (by decide) ?_
  have hP9 : va_P (dC, dI) vwCl [(aX, .inr (8, [.ref aT, .ref aS, .ref aF, .ref aQ, .ref aW, .ref aP, .ref aB, .ref aR])), (aB, .inr (1, [.ref aBr, .int bn_2])), (aO, .inl (cyJ, 1, .inr (.inl (vp_updL ov (0 : Int32).toNatClampNeg (r_1.toInt64)))))] _ := (hP.sub [1, 2, 0] rfl)
  have hD9 : va_D A [(aX, .inr (8, [.ref aT, .ref aS, .ref aF, .ref aQ, .ref aW, .ref aP, .ref aB, .ref aR])), (aB, .inr (1, [.ref aBr, .int bn_2])), (aO, .inl (cyJ, 1, .inr (.inl (vp_updL ov (0 : Int32).toNatClampNeg (r_1.toInt64)))))] := (hD.sub [1, 2, 0] (by decide) rfl)
  refine vx_ret ?_
  refine W.widen (k := 1) (n := 6) (Nat.le_of_ble_eq_true rfl) (Nat.le_of_ble_eq_true rfl) ?_
  exact W.iret (v := 0) hx hb hr (fun t ht hW => ⟨⟨0, (bn_2, vp_updL ov (0 : Int32).toNatClampNeg (r_1.toInt64)), rfl, h, by rw [ht]; exact hP9, va_K.moved hW.alike hK, hD9⟩, hS.F ht⟩) hS.2.2 dL_cutBits_16
-- L_output
theorem qL_output_0 : Cond.classLink RL 28 "java/lang/IndexOutOfBoundsException" ∈ wsL_output := (List.mem_cons_of_mem _ (List.mem_append_left _ (List.mem_append_left _ (List.mem_append_left _ (List.mem_of_getElem? (i := 0) rfl)))))
def wpL_output (rn : Int32) (rb : Nat → Int32) (ov : Nat → Int64) (v1 : Int32) (post : Int32 → (Nat → Int64) → Prop) : Prop := wpX9_output rn rb v1 (fun (r_1 : Int32) => post 0 (vp_updL ov (0 : Int32).toNatClampNeg (r_1.toInt64))) (fun (E9 : String) => (E9 = xI ∧ (post 1 ov)))
set_option maxHeartbeats 4000000 in
set_option maxRecDepth 100000 in
theorem mtL_output (l : Launch) (hlt : l.stackTraces = false) (dC : Nat → ClassId) (dI : Nat → Nat → Nat) (cyI cyJ cyD : ClassId) {aX aT aS aF aQ aW aP aB aR aRb aO : Nat} {sz : Nat} {rn : Int32} {rf : Int32} {rx : Int32} {rp : Int32} {rb : Nat → Int32} {ov : Nat → Int64} {v1 : Int32} {post : Int32 → (Nat → Int64) → Prop} (h : wpL_output rn rb ov v1 post) : vx_Met l yL_output wsL_output ({ frames := 7, cells := 1, slots := 6, locals := 103 }) (va_Pc [.ref aX, .int v1, .ref aO] (wk_BX (dC, dI) [(cyI, .int), (cyJ, .long), (cyD, .double)] [(aX, .inr (8, [.ref aT, .ref aS, .ref aF, .ref aQ, .ref aW, .ref aP, .ref aB, .ref aR])), (aR, .inr (5, [.ref aRb, .int rn, .int rf, .int rx, .int rp])), (aRb, .inl (cyI, 200, .inl rb)), (aO, .inl (cyJ, 1, .inr (.inl ov)))] sz)) (va_Qi (fun (r : Int32) (u : (Nat → Int64)) => post r u) (wk_C (dC, dI) [(cyI, .int), (cyJ, .long), (cyD, .double)] (va_A [(aX, .inr (8, [.ref aT, .ref aS, .ref aF, .ref aQ, .ref aW, .ref aP, .ref aB, .ref aR])), (aR, .inr (5, [.ref aRb, .int rn, .int rf, .int rx, .int rp])), (aRb, .inl (cyI, 200, .inl rb)), (aO, .inl (cyJ, 1, .inr (.inl ov)))] sz) (fun (u : (Nat → Int64)) => [(aX, .inr (8, [.ref aT, .ref aS, .ref aF, .ref aQ, .ref aW, .ref aP, .ref aB, .ref aR])), (aR, .inr (5, [.ref aRb, .int rn, .int rf, .int rx, .int rp])), (aRb, .inl (cyI, 200, .inl rb)), (aO, .inl (cyJ, 1, .inr (.inl (u))))])) (va_A [(aX, .inr (8, [.ref aT, .ref aS, .ref aF, .ref aQ, .ref aW, .ref aP, .ref aB, .ref aR])), (aR, .inr (5, [.ref aRb, .int rn, .int rf, .int rx, .int rp])), (aRb, .inl (cyI, 200, .inl rb)), (aO, .inl (cyJ, 1, .inr (.inl ov)))] sz)) (vx_X (fun (_ : String) => False) (wk_X (dC, dI) [(cyI, .int), (cyJ, .long), (cyD, .double)] (va_A [(aX, .inr (8, [.ref aT, .ref aS, .ref aF, .ref aQ, .ref aW, .ref aP, .ref aB, .ref aR])), (aR, .inr (5, [.ref aRb, .int rn, .int rf, .int rx, .int rp])), (aRb, .inl (cyI, 200, .inl rb)), (aO, .inl (cyJ, 1, .inr (.inl ov)))] sz) [(aX, .inr (8, [.ref aT, .ref aS, .ref aF, .ref aQ, .ref aW, .ref aP, .ref aB, .ref aR])), (aR, .inr (5, [.ref aRb, .int rn, .int rf, .int rx, .int rp])), (aRb, .inl (cyI, 200, .inl rb)), (aO, .inl (cyJ, 1, .inr (.inl ov)))]) (va_A [(aX, .inr (8, [.ref aT, .ref aS, .ref aF, .ref aQ, .ref aW, .ref aP, .ref aB, .ref aR])), (aR, .inr (5, [.ref aRb, .int rn, .int rf, .int rx, .int rp])), (aRb, .inl (cyI, 200, .inl rb)), (aO, .inl (cyJ, 1, .inr (.inl ov)))] sz)) 1 6 (va_A [(aX, .inr (8, [.ref aT, .ref aS, .ref aF, .ref aQ, .ref aW, .ref aP, .ref aB, .ref aR])), (aR, .inr (5, [.ref aRb, .int rn, .int rf, .int rx, .int rp])), (aRb, .inl (cyI, 200, .inl rb)), (aO, .inl (cyJ, 1, .inr (.inl ov)))] sz) := by
  refine vx_ofWH (cc := cL_output) (maxL := 4) (ret := (some .int)) (by decide) rfl ?_
  intro p e s m args below meth c s₁ B hml hv
  obtain ⟨rfl, ⟨hsz, hP, hK, hD0⟩, hZ⟩ := hv
  have hx := B.exec
  have hb := B.bytes
  have hr := B.returns
  have hts := atoms_spec (ws := wsL_output) B.pre
  have hown : s.vm.findClass RL = some m.cls := findClass_of_methodNamed B.named
  have htb := vx_table (x := yL_output) B (hts _ List.mem_cons_self)
  have hlocks := B.notSynchronized
  subst hsz
  have hD := hD0.self (sz := s.heap.size)
  generalize hAe : va_A [(aX, .inr (8, [.ref aT, .ref aS, .ref aF, .ref aQ, .ref aW, .ref aP, .ref aB, .ref aR])), (aR, .inr (5, [.ref aRb, .int rn, .int rf, .int rx, .int rp])), (aRb, .inl (cyI, 200, .inl rb)), (aO, .inl (cyJ, 1, .inr (.inl ov)))] s.heap.size = A at hD hZ ⊢
  have hA : ∀ q : Nat, s.heap.size ≤ q → A q := fun q h => by rw [← hAe]; exact Or.inr h
  have hS : va_S A s.heap s.heap [] := va_S.rf
  have hP : va_P (dC, dI) vwCl [(aX, .inr (8, [.ref aT, .ref aS, .ref aF, .ref aQ, .ref aW, .ref aP, .ref aB, .ref aR])), (aR, .inr (5, [.ref aRb, .int rn, .int rf, .int rx, .int rp])), (aRb, .inl (cyI, 200, .inl rb)), (aO, .inl (cyJ, 1, .inr (.inl ov)))] s.heap := hP
  have hl := lv_entry ([.ref aX, .int v1, .ref aO]) (n := 4) (Nat.le_of_ble_eq_true rfl)
  rw [lg_entry_eq]
  generalize (lg_sl ([.ref aX, .int v1, .ref aO]) ++ List.replicate (4 - (lg_sl ([.ref aX, .int v1, .ref aO])).length) Slot.unset).toArray = ls at hl ⊢
  have hl : lv_has ls 4 [(0, .ref aX), (1, .int v1), (2, .ref aO)] := hl
  have C0 : CallFix p m c cL_output 4 s ([.ref aX, .int v1, .ref aO] : List Value).toArray wsL_output RL := ⟨hx, hb, hml, hown, hts⟩
  unfold wpL_output at h
  refine lv_aload_n hx hb dL_output_0 rfl (lv_at hl 2 rfl) ?_
  refine lv_iconst (v := 0) hx hb dL_output_1 (by decide) ?_
  refine lv_aload_n hx hb dL_output_2 rfl (lv_at hl 0 rfl) ?_
  refine lv_iload_n hx hb dL_output_3 rfl (lv_at hl 1 rfl) ?_
  refine wk_xcalli (wc := [(aX, .inr (8, [.ref aT, .ref aS, .ref aF, .ref aQ, .ref aW, .ref aP, .ref aB, .ref aR])), (aR, .inr (5, [.ref aRb, .int rn, .int rf, .int rx, .int rp])), (aRb, .inl (cyI, 200, .inl rb))]) (wr := [(aO, .inl (cyJ, 1, .inr (.inl ov)))]) (vx_runV (As := [.int v1]) (rest := [.int 0, .ref aO]) C0 (mtX9_output l hlt dC dI cyI (aX := aX) (aT := aT) (aS := aS) (aF := aF) (aQ := aQ) (aW := aW) (aP := aP) (aB := aB) (aR := aR) (aRb := aRb) (sz := _) (rn := rn) (rf := rf) (rx := rx) (rp := rp) (rb := rb) (v1 := v1) h) (cwV 1 hts gL_output_X9_output rfl rfl rfl (by decide +kernel) ⟨(Nat.le_of_ble_eq_true rfl), (Nat.le_of_ble_eq_true rfl)⟩) (wk_preVX (wc := [(aX, .inr (8, [.ref aT, .ref aS, .ref aF, .ref aQ, .ref aW, .ref aP, .ref aB, .ref aR])), (aR, .inr (5, [.ref aRb, .int rn, .int rf, .int rx, .int rp])), (aRb, .inl (cyI, 200, .inl rb))]) (hK.sub (tys' := [(cyI, .int)]) [0] rfl) hP hD hS hA hZ [0, 1, 2] rfl (by decide) (va_recv hK hP (ci := 8) (q0 := 0) rfl rfl)) rfl rfl hl.1 rfl (lv_room (Nat.le_of_ble_eq_true rfl)) dL_output_4 ⟨(Nat.le_of_ble_eq_true rfl), (Nat.le_of_ble_eq_true rfl)⟩) hP hD hS hA [0, 1, 2] [3] rfl rfl (by decide) (by decide) (fun E9 ce9 q9 H locs h hP hD hS hc1 hc2 hc3 => ?_) (fun r_1 u9 H locs h hP hD hS => ?_)
  · have hP : va_P (dC, dI) vwCl [(aO, .inl (cyJ, 1, .inr (.inl ov))), (aX, .inr (8, [.ref aT, .ref aS, .ref aF, .ref aQ, .ref aW, .ref aP, .ref aB, .ref aR])), (aR, .inr (5, [.ref aRb, .int rn, .int rf, .int rx, .int rp])), (aRb, .inl (cyI, 200, .inl rb))] H := hP
    have hD : va_D A [(aO, .inl (cyJ, 1, .inr (.inl ov))), (aX, .inr (8, [.ref aT, .ref aS, .ref aF, .ref aQ, .ref aW, .ref aP, .ref aB, .ref aR])), (aR, .inr (5, [.ref aRb, .int rn, .int rf, .int rx, .int rp])), (aRb, .inl (cyI, 200, .inl rb))] := hD
    obtain ⟨rfl, h⟩ := h
    refine vx_catch (name := xI) hown [] ⟨0, 9, 12, 28⟩ [] (by rw [htb]; rfl) (fun z hz => nomatch hz) (by decide) (by decide) (hts _ qL_output_0) (hZ.use _ _ (List.mem_of_getElem? (i := 2) rfl)) hc1 hc2 hc3 ?_
    refine lv_astore_n (lv' := [(3, .ref q9), (0, .ref aX), (1, .int v1), (2, .ref aO)]) hx hb dL_output_12 rfl hl (by decide) rfl (fun ls hl => ?_)
    refine lv_iconst (v := 1) hx hb dL_output_13 (by decide) ?_
    have hP9 : va_P (dC, dI) vwCl [(aX, .inr (8, [.ref aT, .ref aS, .ref aF, .ref aQ, .ref aW, .ref aP, .ref aB, .ref aR])), (aR, .inr (5, [.ref aRb, .int rn, .int rf, .int rx, .int rp])), (aRb, .inl (cyI, 200, .inl rb)), (aO, .inl (cyJ, 1, .inr (.inl ov)))] _ := (hP.sub [1, 2, 3, 0] rfl)
    have hD9 : va_D A [(aX, .inr (8, [.ref aT, .ref aS, .ref aF, .ref aQ, .ref aW, .ref aP, .ref aB, .ref aR])), (aR, .inr (5, [.ref aRb, .int rn, .int rf, .int rx, .int rp])), (aRb, .inl (cyI, 200, .inl rb)), (aO, .inl (cyJ, 1, .inr (.inl ov)))] := (hD.sub [1, 2, 3, 0] (by decide) rfl)
    refine vx_ret ?_
    refine W.widen (k := 1) (n := 6) (Nat.le_of_ble_eq_true rfl) (Nat.le_of_ble_eq_true rfl) ?_
    exact W.iret (v := 1) hx hb hr (fun t ht hW => ⟨⟨1, ov, rfl, h, by rw [ht]; exact hP9, va_K.moved hW.alike hK, hD9⟩, hS.F ht⟩) hS.2.2 dL_output_14
  have hP : va_P (dC, dI) vwCl [(aO, .inl (cyJ, 1, .inr (.inl ov))), (aX, .inr (8, [.ref aT, .ref aS, .ref aF, .ref aQ, .ref aW, .ref aP, .ref aB, .ref aR])), (aR, .inr (5, [.ref aRb, .int rn, .int rf, .int rx, .int rp])), (aRb, .inl (cyI, 200, .inl rb))] H := hP
  have hD : va_D A [(aO, .inl (cyJ, 1, .inr (.inl ov))), (aX, .inr (8, [.ref aT, .ref aS, .ref aF, .ref aQ, .ref aW, .ref aP, .ref aB, .ref aR])), (aR, .inr (5, [.ref aRb, .int rn, .int rf, .int rx, .int rp])), (aRb, .inl (cyI, 200, .inl rb))] := hD
  refine lv_i2l hx hb dL_output_7 rfl ?_
  refine va_last hx hb hK hP hD hS 0 1 rfl rfl wk_in01 dL_output_8 (fun H locs hP hD hS => ?_)
  have hP : va_P (dC, dI) vwCl [(aO, .inl (cyJ, 1, .inr (.inl (vp_updL ov (0 : Int32).toNatClampNeg (r_1.toInt64))))), (aX, .inr (8, [.ref aT, .ref aS, .ref aF, .ref aQ, .ref aW, .ref aP, .ref aB, .ref aR])), (aR, .inr (5, [.ref aRb, .int rn, .int rf, .int rx, .int rp])), (aRb, .inl (cyI, 200, .inl rb))] H := hP
  have hD : va_D A [(aO, .inl (cyJ, 1, .inr (.inl (vp_updL ov (0 : Int32).toNatClampNeg (r_1.toInt64))))), (aX, .inr (8, [.ref aT, .ref aS, .ref aF, .ref aQ, .ref aW, .ref aP, .ref aB, .ref aR])), (aR, .inr (5, [.ref aRb, .int rn, .int rf, .int rx, .int rp])), (aRb, .inl (cyI, 200, .inl rb))] := hD
  refine lv_goto (tgt := 15) hx hb dL_output_9 (by decide) ?_
  refine lv_iconst (v := 0) hx hb dL_output_15 (by decide) ?_
  have hP9 : va_P (dC, dI) vwCl [(aX, .inr (8, [.ref aT, .ref aS, .ref aF, .ref aQ, .ref aW, .ref aP, .ref aB, .ref aR])), (aR, .inr (5, [.ref aRb, .int rn, .int rf, .int rx, .int rp])), (aRb, .inl (cyI, 200, .inl rb)), (aO, .inl (cyJ, 1, .inr (.inl (vp_updL ov (0 : Int32).toNatClampNeg (r_1.toInt64)))))] _ := (hP.sub [1, 2, 3, 0] rfl)
  have hD9 : va_D A [(aX, .inr (8, [.ref aT, .ref aS, .ref aF, .ref aQ, .ref aW, .ref aP, .ref aB, .ref aR])), (aR, .inr (5, [.ref aRb, .int rn, .int rf, .int rx, .int rp])), (aRb, .inl (cyI, 200, .inl rb)), (aO, .inl (cyJ, 1, .inr (.inl (vp_updL ov (0 : Int32).toNatClampNeg (r_1.toInt64)))))] := (hD.sub [1, 2, 3, 0] (by decide) rfl)
  refine vx_ret ?_
  refine W.widen (k := 1) (n := 6) (Nat.le_of_ble_eq_true rfl) (Nat.le_of_ble_eq_true rfl) ?_
  exact W.iret (v := 0) hx hb hr (fun t ht hW => ⟨⟨0, vp_updL ov (0 : Int32).toNatClampNeg (r_1.toInt64), rfl, h, by rw [ht]; exact hP9, va_K.moved hW.alike hK, hD9⟩, hS.F ht⟩) hS.2.2 dL_output_16
