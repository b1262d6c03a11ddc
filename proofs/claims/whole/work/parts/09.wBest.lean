-- X0_tokenWeight
theorem qX0_tokenWeight_0 : Cond.fieldLink RX0 31 "MatchCoder$BestWay" "settings" "LMatchCoder$Settings;" ∈ wsX0_tokenWeight := (List.mem_cons_of_mem _ (List.mem_append_left _ (List.mem_append_left _ (List.mem_of_getElem? (i := 0) rfl))))
theorem qX0_tokenWeight_1 : Cond.fieldLink RX0 110 "MatchCoder$Settings" "price" "I" ∈ wsX0_tokenWeight := (List.mem_cons_of_mem _ (List.mem_append_left _ (List.mem_append_left _ (List.mem_of_getElem? (i := 1) rfl))))
theorem inX0_tokenWeight_wsX00 : ∀ w ∈ wsX00, w ∈ wsX0_tokenWeight := fun _ h => List.mem_cons_of_mem _ (List.mem_append_left _ (List.mem_append_right _ h))
theorem inX0_tokenWeight_wsX70 : ∀ w ∈ wsX70, w ∈ wsX0_tokenWeight := fun _ h => List.mem_cons_of_mem _ (List.mem_append_right _ h)
def wpX0_tokenWeight (sp : Int32) (v1 : Int32) (post : Int32 → Prop) : Prop := post (((v1 + sp) * 128) + 1)
set_option maxHeartbeats 4000000 in
set_option maxRecDepth 100000 in
theorem mtX0_tokenWeight (l : Launch) (dC : Nat → ClassId) (dI : Nat → Nat → Nat) (cyI : ClassId) {aT aS aW aWw aWr aWm aWl aWd : Nat} {sz : Nat} {sw : Int32} {sl : Int32} {sg : Int32} {sp : Int32} {v1 : Int32} {post : Int32 → Prop} (h : wpX0_tokenWeight sp v1 post) : Met l yX0_tokenWeight wsX0_tokenWeight ({ frames := 0, cells := 0, slots := 0, locals := 0 }) (va_Pc [.ref aW, .int v1] (wk_B (dC, dI) [(cyI, .int)] [(aS, .inr (6, [.int sw, .int sl, .int sg, .int sp])), (aW, .inr (0, [.ref aT, .ref aS, .ref aWw, .ref aWr, .ref aWm, .ref aWl, .ref aWd]))] sz)) (va_Qi (fun (r : Int32) (u : Unit) => post r ) (wk_C (dC, dI) [(cyI, .int)] (va_A [(aS, .inr (6, [.int sw, .int sl, .int sg, .int sp])), (aW, .inr (0, [.ref aT, .ref aS, .ref aWw, .ref aWr, .ref aWm, .ref aWl, .ref aWd]))] sz) (fun (u : Unit) => [(aS, .inr (6, [.int sw, .int sl, .int sg, .int sp])), (aW, .inr (0, [.ref aT, .ref aS, .ref aWw, .ref aWr, .ref aWm, .ref aWl, .ref aWd]))])) (va_A [(aS, .inr (6, [.int sw, .int sl, .int sg, .int sp])), (aW, .inr (0, [.ref aT, .ref aS, .ref aWw, .ref aWr, .ref aWm, .ref aWl, .ref aWd]))] sz)) 0 0 (va_A [(aS, .inr (6, [.int sw, .int sl, .int sg, .int sp])), (aW, .inr (0, [.ref aT, .ref aS, .ref aWw, .ref aWr, .ref aWm, .ref aWl, .ref aWd]))] sz) := by
  refine Met.ofW (cc := cX0_tokenWeight) (maxL := 2) (ret := (some .int)) (by decide) rfl ?_
  intro p e s m args below meth c s₁ B hml hv
  obtain ⟨rfl, hsz, hP, hK, hD0⟩ := hv
  have hx := B.exec
  have hb := B.bytes
  have hr := B.returns
  have hts := atoms_spec (ws := wsX0_tokenWeight) B.pre
  have hown : s.vm.findClass RX0 = some m.cls := findClass_of_methodNamed B.named
  have hlocks := B.notSynchronized
  subst hsz
  have hD := hD0.self (sz := s.heap.size)
  generalize hAe : va_A [(aS, .inr (6, [.int sw, .int sl, .int sg, .int sp])), (aW, .inr (0, [.ref aT, .ref aS, .ref aWw, .ref aWr, .ref aWm, .ref aWl, .ref aWd]))] s.heap.size = A at hD ⊢
  have hA : ∀ q : Nat, s.heap.size ≤ q → A q := fun q h => by rw [← hAe]; exact Or.inr h
  have hS : va_S A s.heap s.heap [] := va_S.rf
  have hP : va_P (dC, dI) vwCl [(aS, .inr (6, [.int sw, .int sl, .int sg, .int sp])), (aW, .inr (0, [.ref aT, .ref aS, .ref aWw, .ref aWr, .ref aWm, .ref aWl, .ref aWd]))] s.heap := hP
  have hl := lv_entry ([.ref aW, .int v1]) (n := 2) (Nat.le_of_ble_eq_true rfl)
  rw [lg_entry_eq]
  generalize (lg_sl ([.ref aW, .int v1]) ++ List.replicate (2 - (lg_sl ([.ref aW, .int v1])).length) Slot.unset).toArray = ls at hl ⊢
  have hl : lv_has ls 2 [(0, .ref aW), (1, .int v1)] := hl
  have C0 : CallFix p m c cX0_tokenWeight 2 s ([.ref aW, .int v1] : List Value).toArray wsX0_tokenWeight RX0 := ⟨hx, hb, hml, hown, hts⟩
  unfold wpX0_tokenWeight at h
  refine lv_iload_n hx hb dX0_tokenWeight_0 rfl (lv_at hl 1 rfl) ?_
  refine lv_aload_n hx hb dX0_tokenWeight_1 rfl (lv_at hl 0 rfl) ?_
  refine va_get (D := (dC, dI)) (ci := 0) (v := .ref aS) (C := RX0) (T := TX0) (N := 7) hx hb hts inX0_tokenWeight_wsX00 hown hK hP 1 rfl rfl 1 (by decide) (hts _ qX0_tokenWeight_0) (fun _ h9 => h9) rfl dX0_tokenWeight_2 ?_
  refine va_get (D := (dC, dI)) (ci := 6) (v := .int sp) (C := RX7) (T := TX7) (N := 4) hx hb hts inX0_tokenWeight_wsX70 hown hK hP 0 rfl rfl 3 (by decide) (hts _ qX0_tokenWeight_1) (fun _ h9 => h9) rfl dX0_tokenWeight_5 ?_
  refine lv_iadd hx hb dX0_tokenWeight_8 ?_
  refine lv_sipush (v := 128) hx hb dX0_tokenWeight_9 (by decide) ?_
  refine lv_imul hx hb dX0_tokenWeight_12 ?_
  refine lv_iconst (v := 1) hx hb dX0_tokenWeight_13 (by decide) ?_
  refine lv_iadd hx hb dX0_tokenWeight_14 ?_
  have hP9 : va_P (dC, dI) vwCl [(aS, .inr (6, [.int sw, .int sl, .int sg, .int sp])), (aW, .inr (0, [.ref aT, .ref aS, .ref aWw, .ref aWr, .ref aWm, .ref aWl, .ref aWd]))] _ := hP
  have hD9 : va_D A [(aS, .inr (6, [.int sw, .int sl, .int sg, .int sp])), (aW, .inr (0, [.ref aT, .ref aS, .ref aWw, .ref aWr, .ref aWm, .ref aWl, .ref aWd]))] := hD
  exact W.iret (v := ((v1 + sp) * 128) + 1) hx hb hr (fun t ht hW => ⟨⟨((v1 + sp) * 128) + 1, (), rfl, h, by rw [ht]; exact hP9, va_K.moved hW.alike hK, hD9⟩, hS.F ht⟩) hS.2.2 dX0_tokenWeight_15
-- X0_literalWeight
theorem qX0_literalWeight_0 : Cond.fieldLink RX0 11 "MatchCoder$BestWay" "weights" "[I" ∈ wsX0_literalWeight := (List.mem_cons_of_mem _ (List.mem_append_left _ (List.mem_append_left _ (List.mem_of_getElem? (i := 0) rfl))))
theorem inX0_literalWeight_wsX00 : ∀ w ∈ wsX00, w ∈ wsX0_literalWeight := fun _ h => List.mem_cons_of_mem _ (List.mem_append_left _ (List.mem_append_right _ h))
def wpX0_literalWeight (sp : Int32) (ww : Nat → Int32) (v1 : Int32) (v2 : Int32) (post : Int32 → Prop) : Prop := wpX0_tokenWeight sp 9 (fun (r_1 : Int32) => vp_in (((v1 + 1) * 65) + v2) 4225 ∧ (post (r_1 + (ww (((v1 + 1) * 65) + v2).toNatClampNeg))))
set_option maxHeartbeats 4000000 in
set_option maxRecDepth 100000 in
theorem mtX0_literalWeight (l : Launch) (dC : Nat → ClassId) (dI : Nat → Nat → Nat) (cyI : ClassId) {aT aS aW aWw aWr aWm aWl aWd : Nat} {sz : Nat} {sw : Int32} {sl : Int32} {sg : Int32} {sp : Int32} {ww : Nat → Int32} {v1 : Int32} {v2 : Int32} {post : Int32 → Prop} (h : wpX0_literalWeight sp ww v1 v2 post) : Met l yX0_literalWeight wsX0_literalWeight ({ frames := 1, cells := 0, slots := 0, locals := 21 }) (va_Pc [.ref aW, .int v1, .int v2] (wk_B (dC, dI) [(cyI, .int)] [(aS, .inr (6, [.int sw, .int sl, .int sg, .int sp])), (aW, .inr (0, [.ref aT, .ref aS, .ref aWw, .ref aWr, .ref aWm, .ref aWl, .ref aWd])), (aWw, .inl (cyI, 4225, .inl ww))] sz)) (va_Qi (fun (r : Int32) (u : Unit) => post r ) (wk_C (dC, dI) [(cyI, .int)] (va_A [(aS, .inr (6, [.int sw, .int sl, .int sg, .int sp])), (aW, .inr (0, [.ref aT, .ref aS, .ref aWw, .ref aWr, .ref aWm, .ref aWl, .ref aWd])), (aWw, .inl (cyI, 4225, .inl ww))] sz) (fun (u : Unit) => [(aS, .inr (6, [.int sw, .int sl, .int sg, .int sp])), (aW, .inr (0, [.ref aT, .ref aS, .ref aWw, .ref aWr, .ref aWm, .ref aWl, .ref aWd])), (aWw, .inl (cyI, 4225, .inl ww))])) (va_A [(aS, .inr (6, [.int sw, .int sl, .int sg, .int sp])), (aW, .inr (0, [.ref aT, .ref aS, .ref aWw, .ref aWr, .ref aWm, .ref aWl, .ref aWd])), (aWw, .inl (cyI, 4225, .inl ww))] sz)) 0 0 (va_A [(aS, .inr (6, [.int sw, .int sl, .int sg, .int sp])), (aW, .inr (0, [.ref aT, .ref aS, .ref aWw, .ref aWr, .ref aWm, .ref aWl, .ref aWd])), (aWw, .inl (cyI, 4225, .inl ww))] sz) := by
  refine Met.ofW (cc := cX0_literalWeight) (maxL := 3) (ret := (some .int)) (by decide) rfl ?_
  intro p e s m args below meth c s₁ B hml hv
  obtain ⟨rfl, hsz, hP, hK, hD0⟩ := hv
  have hx := B.exec
  have hb := B.bytes
  have hr := B.returns
  have hts := atoms_spec (ws := wsX0_literalWeight) B.pre
  have hown : s.vm.findClass RX0 = some m.cls := findClass_of_methodNamed B.named
  have hlocks := B.notSynchronized
  subst hsz
  have hD := hD0.self (sz := s.heap.size)
  generalize hAe : va_A [(aS, .inr (6, [.int sw, .int sl, .int sg, .int sp])), (aW, .inr (0, [.ref aT, .ref aS, .ref aWw, .ref aWr, .ref aWm, .ref aWl, .ref aWd])), (aWw, .inl (cyI, 4225, .inl ww))] s.heap.size = A at hD ⊢
  have hA : ∀ q : Nat, s.heap.size ≤ q → A q := fun q h => by rw [← hAe]; exact Or.inr h
  have hS : va_S A s.heap s.heap [] := va_S.rf
  have hP : va_P (dC, dI) vwCl [(aS, .inr (6, [.int sw, .int sl, .int sg, .int sp])), (aW, .inr (0, [.ref aT, .ref aS, .ref aWw, .ref aWr, .ref aWm, .ref aWl, .ref aWd])), (aWw, .inl (cyI, 4225, .inl ww))] s.heap := hP
  have hl := lv_entry ([.ref aW, .int v1, .int v2]) (n := 3) (Nat.le_of_ble_eq_true rfl)
  rw [lg_entry_eq]
  generalize (lg_sl ([.ref aW, .int v1, .int v2]) ++ List.replicate (3 - (lg_sl ([.ref aW, .int v1, .int v2])).length) Slot.unset).toArray = ls at hl ⊢
  have hl : lv_has ls 3 [(0, .ref aW), (1, .int v1), (2, .int v2)] := hl
  have C0 : CallFix p m c cX0_literalWeight 3 s ([.ref aW, .int v1, .int v2] : List Value).toArray wsX0_literalWeight RX0 := ⟨hx, hb, hml, hown, hts⟩
  unfold wpX0_literalWeight at h
  refine lv_aload_n hx hb dX0_literalWeight_0 rfl (lv_at hl 0 rfl) ?_
  refine lv_bipush (v := 9) hx hb dX0_literalWeight_1 (by decide) ?_
  refine wk_calli (wc := [(aS, .inr (6, [.int sw, .int sl, .int sg, .int sp])), (aW, .inr (0, [.ref aT, .ref aS, .ref aWw, .ref aWr, .ref aWm, .ref aWl, .ref aWd]))]) (wr := [(aWw, .inl (cyI, 4225, .inl ww))]) (va_runV (As := [.int 9]) (rest := []) C0 (mtX0_tokenWeight l dC dI cyI (aT := aT) (aS := aS) (aW := aW) (aWw := aWw) (aWr := aWr) (aWm := aWm) (aWl := aWl) (aWd := aWd) (sz := _) (sw := sw) (sl := sl) (sg := sg) (sp := sp) (v1 := 9) h) (cwV 1 hts gX0_literalWeight_X0_tokenWeight rfl rfl rfl (by decide +kernel) ⟨(Nat.le_of_ble_eq_true rfl), (Nat.le_of_ble_eq_true rfl)⟩) (wk_preV (wc := [(aS, .inr (6, [.int sw, .int sl, .int sg, .int sp])), (aW, .inr (0, [.ref aT, .ref aS, .ref aWw, .ref aWr, .ref aWm, .ref aWl, .ref aWd]))]) hK hP hD [0, 1] rfl (by decide) (va_recv hK hP (ci := 0) (q0 := 1) rfl rfl)) rfl rfl hl.1 rfl (lv_room (Nat.le_of_ble_eq_true rfl)) dX0_literalWeight_3 ⟨(Nat.le_of_ble_eq_true rfl), (Nat.le_of_ble_eq_true rfl)⟩) hP hD hS hA [0, 1] [2] rfl rfl (by decide) (by decide) (fun r_1 u9 H locs h hP hD hS => ?_)
  have hP : va_P (dC, dI) vwCl [(aWw, .inl (cyI, 4225, .inl ww)), (aS, .inr (6, [.int sw, .int sl, .int sg, .int sp])), (aW, .inr (0, [.ref aT, .ref aS, .ref aWw, .ref aWr, .ref aWm, .ref aWl, .ref aWd]))] H := hP
  have hD : va_D A [(aWw, .inl (cyI, 4225, .inl ww)), (aS, .inr (6, [.int sw, .int sl, .int sg, .int sp])), (aW, .inr (0, [.ref aT, .ref aS, .ref aWw, .ref aWr, .ref aWm, .ref aWl, .ref aWd]))] := hD
  refine lv_aload_n hx hb dX0_literalWeight_6 rfl (lv_at hl 0 rfl) ?_
  refine va_get (D := (dC, dI)) (ci := 0) (v := .ref aWw) (C := RX0) (T := TX0) (N := 7) hx hb hts inX0_literalWeight_wsX00 hown hK hP 2 rfl rfl 2 (by decide) (hts _ qX0_literalWeight_0) (fun _ h9 => h9) rfl dX0_literalWeight_7 ?_
  refine lv_iload_n hx hb dX0_literalWeight_10 rfl (lv_at hl 1 rfl) ?_
  refine lv_iconst (v := 1) hx hb dX0_literalWeight_11 (by decide) ?_
  refine lv_iadd hx hb dX0_literalWeight_12 ?_
  refine lv_bipush (v := 65) hx hb dX0_literalWeight_13 (by decide) ?_
  refine lv_imul hx hb dX0_literalWeight_15 ?_
  refine lv_iload_n hx hb dX0_literalWeight_16 rfl (lv_at hl 2 rfl) ?_
  refine lv_iadd hx hb dX0_literalWeight_17 ?_
  obtain ⟨hi_2, h⟩ := h
  refine va_iald hx hb hK hP 0 0 rfl rfl hi_2 dX0_literalWeight_18 ?_
  refine lv_iadd hx hb dX0_literalWeight_19 ?_
  have hP9 : va_P (dC, dI) vwCl [(aS, .inr (6, [.int sw, .int sl, .int sg, .int sp])), (aW, .inr (0, [.ref aT, .ref aS, .ref aWw, .ref aWr, .ref aWm, .ref aWl, .ref aWd])), (aWw, .inl (cyI, 4225, .inl ww))] _ := (hP.sub [1, 2, 0] rfl)
  have hD9 : va_D A [(aS, .inr (6, [.int sw, .int sl, .int sg, .int sp])), (aW, .inr (0, [.ref aT, .ref aS, .ref aWw, .ref aWr, .ref aWm, .ref aWl, .ref aWd])), (aWw, .inl (cyI, 4225, .inl ww))] := (hD.sub [1, 2, 0] (by decide) rfl)
  exact W.iret (v := r_1 + (ww (((v1 + 1) * 65) + v2).toNatClampNeg)) hx hb hr (fun t ht hW => ⟨⟨r_1 + (ww (((v1 + 1) * 65) + v2).toNatClampNeg), (), rfl, h, by rw [ht]; exact hP9, va_K.moved hW.alike hK, hD9⟩, hS.F ht⟩) hS.2.2 dX0_literalWeight_20
-- X0_againWeight
theorem qX0_againWeight_0 : Cond.fieldLink RX0 11 "MatchCoder$BestWay" "weights" "[I" ∈ wsX0_againWeight := (List.mem_cons_of_mem _ (List.mem_append_left _ (List.mem_append_left _ (List.mem_of_getElem? (i := 0) rfl))))
theorem inX0_againWeight_wsX00 : ∀ w ∈ wsX00, w ∈ wsX0_againWeight := fun _ h => List.mem_cons_of_mem _ (List.mem_append_left _ (List.mem_append_right _ h))
def wpX0_againWeight (sp : Int32) (ww : Nat → Int32) (v1 : Int32) (v2 : Int32) (v3 : Int32) (post : Int32 → Prop) : Prop := wpX2_againBits v3 (fun (r_1 : Int32) => wpX0_tokenWeight sp r_1 (fun (r_2 : Int32) => vp_in (((v1 + v3) * 65) + v2) 4225 ∧ (post (r_2 + (ww (((v1 + v3) * 65) + v2).toNatClampNeg)))))
set_option maxHeartbeats 4000000 in
set_option maxRecDepth 100000 in
theorem mtX0_againWeight (l : Launch) (dC : Nat → ClassId) (dI : Nat → Nat → Nat) (cyI : ClassId) {aT aS aW aWw aWr aWm aWl aWd : Nat} {sz : Nat} {sw : Int32} {sl : Int32} {sg : Int32} {sp : Int32} {ww : Nat → Int32} {v1 : Int32} {v2 : Int32} {v3 : Int32} {post : Int32 → Prop} (h : wpX0_againWeight sp ww v1 v2 v3 post) : Met l yX0_againWeight wsX0_againWeight ({ frames := 2, cells := 0, slots := 0, locals := 40 }) (va_Pc [.ref aW, .int v1, .int v2, .int v3] (wk_B (dC, dI) [(cyI, .int)] [(aS, .inr (6, [.int sw, .int sl, .int sg, .int sp])), (aW, .inr (0, [.ref aT, .ref aS, .ref aWw, .ref aWr, .ref aWm, .ref aWl, .ref aWd])), (aWw, .inl (cyI, 4225, .inl ww))] sz)) (va_Qi (fun (r : Int32) (u : Unit) => post r ) (wk_C (dC, dI) [(cyI, .int)] (va_A [(aS, .inr (6, [.int sw, .int sl, .int sg, .int sp])), (aW, .inr (0, [.ref aT, .ref aS, .ref aWw, .ref aWr, .ref aWm, .ref aWl, .ref aWd])), (aWw, .inl (cyI, 4225, .inl ww))] sz) (fun (u : Unit) => [(aS, .inr (6, [.int sw, .int sl, .int sg, .int sp])), (aW, .inr (0, [.ref aT, .ref aS, .ref aWw, .ref aWr, .ref aWm, .ref aWl, .ref aWd])), (aWw, .inl (cyI, 4225, .inl ww))])) (va_A [(aS, .inr (6, [.int sw, .int sl, .int sg, .int sp])), (aW, .inr (0, [.ref aT, .ref aS, .ref aWw, .ref aWr, .ref aWm, .ref aWl, .ref aWd])), (aWw, .inl (cyI, 4225, .inl ww))] sz)) 0 0 (va_A [(aS, .inr (6, [.int sw, .int sl, .int sg, .int sp])), (aW, .inr (0, [.ref aT, .ref aS, .ref aWw, .ref aWr, .ref aWm, .ref aWl, .ref aWd])), (aWw, .inl (cyI, 4225, .inl ww))] sz) := by
  refine Met.ofW (cc := cX0_againWeight) (maxL := 4) (ret := (some .int)) (by decide) rfl ?_
  intro p e s m args below meth c s₁ B hml hv
  obtain ⟨rfl, hsz, hP, hK, hD0⟩ := hv
  have hx := B.exec
  have hb := B.bytes
  have hr := B.returns
  have hts := atoms_spec (ws := wsX0_againWeight) B.pre
  have hown : s.vm.findClass RX0 = some m.cls := findClass_of_methodNamed B.named
  have hlocks := B.notSynchronized
  subst hsz
  have hD := hD0.self (sz := s.heap.size)
  generalize hAe : va_A [(aS, .inr (6, [.int sw, .int sl, .int sg, .int sp])), (aW, .inr (0, [.ref aT, .ref aS, .ref aWw, .ref aWr, .ref aWm, .ref aWl, .ref aWd])), (aWw, .inl (cyI, 4225, .inl ww))] s.heap.size = A at hD ⊢
  have hA : ∀ q : Nat, s.heap.size ≤ q → A q := fun q h => by rw [← hAe]; exact Or.inr h
  have hS : va_S A s.heap s.heap [] := va_S.rf
  have hP : va_P (dC, dI) vwCl [(aS, .inr (6, [.int sw, .int sl, .int sg, .int sp])), (aW, .inr (0, [.ref aT, .ref aS, .ref aWw, .ref aWr, .ref aWm, .ref aWl, .ref aWd])), (aWw, .inl (cyI, 4225, .inl ww))] s.heap := hP
  have hl := lv_entry ([.ref aW, .int v1, .int v2, .int v3]) (n := 4) (Nat.le_of_ble_eq_true rfl)
  rw [lg_entry_eq]
  generalize (lg_sl ([.ref aW, .int v1, .int v2, .int v3]) ++ List.replicate (4 - (lg_sl ([.ref aW, .int v1, .int v2, .int v3])).length) Slot.unset).toArray = ls at hl ⊢
  have hl : lv_has ls 4 [(0, .ref aW), (1, .int v1), (2, .int v2), (3, .int v3)] := hl
  have C0 : CallFix p m c cX0_againWeight 4 s ([.ref aW, .int v1, .int v2, .int v3] : List Value).toArray wsX0_againWeight RX0 := ⟨hx, hb, hml, hown, hts⟩
  unfold wpX0_againWeight at h
  refine lv_aload_n hx hb dX0_againWeight_0 rfl (lv_at hl 0 rfl) ?_
  refine lv_iload_n hx hb dX0_againWeight_1 rfl (lv_at hl 3 rfl) ?_
  refine wk_calli (wc := []) (wr := [(aS, .inr (6, [.int sw, .int sl, .int sg, .int sp])), (aW, .inr (0, [.ref aT, .ref aS, .ref aWw, .ref aWr, .ref aWm, .ref aWl, .ref aWd])), (aWw, .inl (cyI, 4225, .inl ww))]) (va_runS (As := [.int v3]) (rest := [.ref aW]) C0 (mtX2_againBits l dC dI cyI (sz := _) (v0 := v3) h) (va_cwS 1 hts gX0_againWeight_X2_againBits rfl rfl rfl (by decide +kernel) ⟨(Nat.le_of_ble_eq_true rfl), (Nat.le_of_ble_eq_true rfl)⟩) (wk_preS (wc := []) hK hP hD [] rfl (by decide)) rfl rfl hl.1 rfl (lv_room (Nat.le_of_ble_eq_true rfl)) dX0_againWeight_2 ⟨(Nat.le_of_ble_eq_true rfl), (Nat.le_of_ble_eq_true rfl)⟩) hP hD hS hA [] [0, 1, 2] rfl rfl (by decide) (by decide) (fun r_1 u9 H locs h hP hD hS => ?_)
  have hP : va_P (dC, dI) vwCl [(aS, .inr (6, [.int sw, .int sl, .int sg, .int sp])), (aW, .inr (0, [.ref aT, .ref aS, .ref aWw, .ref aWr, .ref aWm, .ref aWl, .ref aWd])), (aWw, .inl (cyI, 4225, .inl ww))] H := hP
  have hD : va_D A [(aS, .inr (6, [.int sw, .int sl, .int sg, .int sp])), (aW, .inr (0, [.ref aT, .ref aS, .ref aWw, .ref aWr, .ref aWm, .ref aWl, .ref aWd])), (aWw, .inl (cyI, 4225, .inl ww))] := hD
  refine wk_calli (wc := [(aS, .inr (6, [.int sw, .int sl, .int sg, .int sp])), (aW, .inr (0, [.ref aT, .ref aS, .ref aWw, .ref aWr, .ref aWm, .ref aWl, .ref aWd]))]) (wr := [(aWw, .inl (cyI, 4225, .inl ww))]) (va_runV (As := [.int r_1]) (rest := []) C0 (mtX0_tokenWeight l dC dI cyI (aT := aT) (aS := aS) (aW := aW) (aWw := aWw) (aWr := aWr) (aWm := aWm) (aWl := aWl) (aWd := aWd) (sz := _) (sw := sw) (sl := sl) (sg := sg) (sp := sp) (v1 := r_1) h) (cwV 1 hts gX0_againWeight_X0_tokenWeight rfl rfl rfl (by decide +kernel) ⟨(Nat.le_of_ble_eq_true rfl), (Nat.le_of_ble_eq_true rfl)⟩) (wk_preV (wc := [(aS, .inr (6, [.int sw, .int sl, .int sg, .int sp])), (aW, .inr (0, [.ref aT, .ref aS, .ref aWw, .ref aWr, .ref aWm, .ref aWl, .ref aWd]))]) hK hP hD [0, 1] rfl (by decide) (va_recv hK hP (ci := 0) (q0 := 1) rfl rfl)) rfl rfl hl.1 rfl (lv_room (Nat.le_of_ble_eq_true rfl)) dX0_againWeight_5 ⟨(Nat.le_of_ble_eq_true rfl), (Nat.le_of_ble_eq_true rfl)⟩) hP hD hS hA [0, 1] [2] rfl rfl (by decide) (by decide) (fun r_2 u9 H locs h hP hD hS => ?_)
  have hP : va_P (dC, dI) vwCl [(aWw, .inl (cyI, 4225, .inl ww)), (aS, .inr (6, [.int sw, .int sl, .int sg, .int sp])), (aW, .inr (0, [.ref aT, .ref aS, .ref aWw, .ref aWr, .ref aWm, .ref aWl, .ref aWd]))] H := hP
  have hD : va_D A [(aWw, .inl (cyI, 4225, .inl ww)), (aS, .inr (6, [.int sw, .int sl, .int sg, .int sp])), (aW, .inr (0, [.ref aT, .ref aS, .ref aWw, .ref aWr, .ref aWm, .ref aWl, .ref aWd]))] := hD
  refine lv_aload_n hx hb dX0_againWeight_8 rfl (lv_at hl 0 rfl) ?_
  refine va_get (D := (dC, dI)) (ci := 0) (v := .ref aWw) (C := RX0) (T := TX0) (N := 7) hx hb hts inX0_againWeight_wsX00 hown hK hP 2 rfl rfl 2 (by decide) (hts _ qX0_againWeight_0) (fun _ h9 => h9) rfl dX0_againWeight_9 ?_
  refine lv_iload_n hx hb dX0_againWeight_12 rfl (lv_at hl 1 rfl) ?_
  refine lv_iload_n hx hb dX0_againWeight_13 rfl (lv_at hl 3 rfl) ?_
  refine lv_iadd hx hb dX0_againWeight_14 ?_
  refine lv_bipush (v := 65) hx hb dX0_againWeight_15 (by decide) ?_
  refine lv_imul hx hb dX0_againWeight_17 ?_
  refine lv_iload_n hx hb dX0_againWeight_18 rfl (lv_at hl 2 rfl) ?_
  refine lv_iadd hx hb dX0_againWeight_19 ?_
  obtain ⟨hi_3, h⟩ := h
  refine va_iald hx hb hK hP 0 0 rfl rfl hi_3 dX0_againWeight_20 ?_
  refine lv_iadd hx hb dX0_againWeight_21 ?_
  have hP9 : va_P (dC, dI) vwCl [(aS, .inr (6, [.int sw, .int sl, .int sg, .int sp])), (aW, .inr (0, [.ref aT, .ref aS, .ref aWw, .ref aWr, .ref aWm, .ref aWl, .ref aWd])), (aWw, .inl (cyI, 4225, .inl ww))] _ := (hP.sub [1, 2, 0] rfl)
  have hD9 : va_D A [(aS, .inr (6, [.int sw, .int sl, .int sg, .int sp])), (aW, .inr (0, [.ref aT, .ref aS, .ref aWw, .ref aWr, .ref aWm, .ref aWl, .ref aWd])), (aWw, .inl (cyI, 4225, .inl ww))] := (hD.sub [1, 2, 0] (by decide) rfl)
  exact W.iret (v := r_2 + (ww (((v1 + v3) * 65) + v2).toNatClampNeg)) hx hb hr (fun t ht hW => ⟨⟨r_2 + (ww (((v1 + v3) * 65) + v2).toNatClampNeg), (), rfl, h, by rw [ht]; exact hP9, va_K.moved hW.alike hK, hD9⟩, hS.F ht⟩) hS.2.2 dX0_againWeight_22
-- X0_againLength
theorem qX0_againLength_0 : Cond.fieldLink RX0 31 "MatchCoder$BestWay" "settings" "LMatchCoder$Settings;" ∈ wsX0_againLength := (List.mem_cons_of_mem _ (List.mem_append_left _ (List.mem_append_left _ (List.mem_append_left _ (List.mem_of_getElem? (i := 0) rfl)))))
theorem qX0_againLength_1 : Cond.fieldLink RX0 85 "MatchCoder$Settings" "greatest" "I" ∈ wsX0_againLength := (List.mem_cons_of_mem _ (List.mem_append_left _ (List.mem_append_left _ (List.mem_append_left _ (List.mem_of_getElem? (i := 1) rfl)))))
theorem qX0_againLength_2 : Cond.methodLink RX0 66 Lib.Math.min.name ∈ wsX0_againLength := (List.mem_cons_of_mem _ (List.mem_append_left _ (List.mem_append_left _ (List.mem_append_left _ (List.mem_of_getElem? (i := 2) rfl)))))
theorem qX0_againLength_3 : Cond.static Lib.Math.min.name ∈ wsX0_againLength := (List.mem_cons_of_mem _ (List.mem_append_left _ (List.mem_append_left _ (List.mem_append_left _ (List.mem_of_getElem? (i := 3) rfl)))))
theorem qX0_againLength_4 : Cond.initialized "java/lang/Math" ∈ wsX0_againLength := (List.mem_cons_of_mem _ (List.mem_append_left _ (List.mem_append_left _ (List.mem_append_left _ (List.mem_of_getElem? (i := 4) rfl)))))
theorem qX0_againLength_5 : Cond.code Lib.Math.min.name Lib.Math.min.code 2 (some .int) ∈ wsX0_againLength := (List.mem_cons_of_mem _ (List.mem_append_left _ (List.mem_append_left _ (List.mem_append_left _ (List.mem_of_getElem? (i := 5) rfl)))))
theorem qX0_againLength_6 : Cond.constant RX0 84 (1073741824) ∈ wsX0_againLength := (List.mem_cons_of_mem _ (List.mem_append_left _ (List.mem_append_left _ (List.mem_append_left _ (List.mem_of_getElem? (i := 6) rfl)))))
theorem inX0_againLength_wsX00 : ∀ w ∈ wsX00, w ∈ wsX0_againLength := fun _ h => List.mem_cons_of_mem _ (List.mem_append_left _ (List.mem_append_right _ h))
theorem inX0_againLength_wsX70 : ∀ w ∈ wsX70, w ∈ wsX0_againLength := fun _ h => List.mem_cons_of_mem _ (List.mem_append_right _ h)
def wpX0_againLength_55 (v5 : Int32) (v6 : Int32) (v7 : Int32) (KB : Int32 → Int32 → Int32 → Prop) (K61 : Int32 → Prop) : Prop := KB v5 v6 (v7 + 1)
set_option maxHeartbeats 4000000 in
set_option maxRecDepth 100000 in
theorem wjX0_againLength_55 {p : Program} {l : Launch} {e : Env} {s : State} {m : MethodId} {args : Array Value} {below : List Frame} {meth : Method} {c : Code} {A : Nat → Prop} {Q : State → Prop} {dC : Nat → ClassId} {dI : Nat → Nat → Nat} {cyI : ClassId} {aT aS aW aWw aWr aWm aWl aWd : Nat} {v1 : Int32} {v2 : Int32} {v4 : Int32} {v5 : Int32} {v6 : Int32} {v7 : Int32} {sw : Int32} {sl : Int32} {sg : Int32} {sp : Int32} {ww : Nat → Int32} {KB : Int32 → Int32 → Int32 → Prop} {K61 : Int32 → Prop} (C0 : CallFix p m c cX0_againLength 9 s args wsX0_againLength RX0) (hA : ∀ q : Nat, s.heap.size ≤ q → A q) (hK : va_K (dC, dI) vwCl [(cyI, .int)] s) (h : wpX0_againLength_55 v5 v6 v7 KB K61) (H : Heap) (locs : List Loc) (ls : Array Slot) (hP : va_P (dC, dI) vwCl [(aS, .inr (6, [.int sw, .int sl, .int sg, .int sp])), (aW, .inr (0, [.ref aT, .ref aS, .ref aWw, .ref aWr, .ref aWm, .ref aWl, .ref aWd])), (aWw, .inl (cyI, 4225, .inl ww))] H) (hD : va_D A [(aS, .inr (6, [.int sw, .int sl, .int sg, .int sp])), (aW, .inr (0, [.ref aT, .ref aS, .ref aWw, .ref aWr, .ref aWm, .ref aWl, .ref aWd])), (aWw, .inl (cyI, 4225, .inl ww))]) (hS : va_S A s.heap H locs) (hl : lv_has ls 9 [(0, .ref aW), (1, .int v1), (2, .int v2), (4, .int v4), (5, .int v5), (6, .int v6), (7, .int v7)]) (hKB : ∀ (v5 : Int32) (v6 : Int32) (v7 : Int32), KB v5 v6 v7 → ∀ (H : Heap) (locs : List Loc) (ls : Array Slot), va_P (dC, dI) vwCl [(aS, .inr (6, [.int sw, .int sl, .int sg, .int sp])), (aW, .inr (0, [.ref aT, .ref aS, .ref aWw, .ref aWr, .ref aWm, .ref aWl, .ref aWd])), (aWw, .inl (cyI, 4225, .inl ww))] H → va_D A [(aS, .inr (6, [.int sw, .int sl, .int sg, .int sp])), (aW, .inr (0, [.ref aT, .ref aS, .ref aWw, .ref aWr, .ref aWm, .ref aWl, .ref aWd])), (aWw, .inl (cyI, 4225, .inl ww))] → va_S A s.heap H locs → lv_has ls 9 [(0, .ref aW), (1, .int v1), (2, .int v2), (4, .int v4), (5, .int v5), (6, .int v6), (7, .int v7)] → W p l e ({ frames := 3, cells := 0, slots := 0, locals := 63 } : Room) s m args below meth c H locs 0 0 Q (F0 m 23 ls [])) (hK61 : ∀ (v5 : Int32), K61 v5 → ∀ (H : Heap) (locs : List Loc) (ls : Array Slot), va_P (dC, dI) vwCl [(aS, .inr (6, [.int sw, .int sl, .int sg, .int sp])), (aW, .inr (0, [.ref aT, .ref aS, .ref aWw, .ref aWr, .ref aWm, .ref aWl, .ref aWd])), (aWw, .inl (cyI, 4225, .inl ww))] H → va_D A [(aS, .inr (6, [.int sw, .int sl, .int sg, .int sp])), (aW, .inr (0, [.ref aT, .ref aS, .ref aWw, .ref aWr, .ref aWm, .ref aWl, .ref aWd])), (aWw, .inl (cyI, 4225, .inl ww))] → va_S A s.heap H locs → lv_has ls 9 [(5, .int v5)] → W p l e ({ frames := 3, cells := 0, slots := 0, locals := 63 } : Room) s m args below meth c H locs 0 0 Q (F0 m 61 ls [])) : W p l e ({ frames := 3, cells := 0, slots := 0, locals := 63 } : Room) s m args below meth c H locs 0 0 Q (F0 m 55 ls []) := by
  obtain ⟨hx, hb, hml, hown, hts⟩ := id C0
  unfold wpX0_againLength_55 at h
  refine lv_iinc (v := v7 + 1) (lv' := [(7, .int (v7 + 1)), (0, .ref aW), (1, .int v1), (2, .int v2), (4, .int v4), (5, .int v5), (6, .int v6)]) hx hb dX0_againLength_55 hl (k := 6) rfl rfl (by decide) rfl (fun ls hl => ?_)
  refine lv_goto (tgt := 23) hx hb dX0_againLength_58 (by decide) ?_
  exact hKB _ _ _ h _ _ _ hP hD hS (lv_sub hl [1, 2, 3, 4, 5, 6, 0] rfl)
def wpX0_againLength_23 (v1 : Int32) (v2 : Int32) (v4 : Int32) (sp : Int32) (ww : Nat → Int32) (K61 : Int32 → Prop) : Nat → Int32 → Int32 → Int32 → Prop
  | 0, _, _, _ => False
  | n23 + 1, v5, v6, v7 => (v4 < v7 → (K61 v5)) ∧ (¬ v4 < v7 → (wpX0_againWeight sp ww v1 v2 v7 (fun (r_2 : Int32) => (v6 < r_2 → (wpX0_againLength_55 v5 v6 v7 (wpX0_againLength_23 v1 v2 v4 sp ww K61 n23) K61)) ∧ (¬ v6 < r_2 → (wpX0_againLength_55 v7 r_2 v7 (wpX0_againLength_23 v1 v2 v4 sp ww K61 n23) K61)))))
set_option maxHeartbeats 4000000 in
set_option maxRecDepth 100000 in
theorem wlX0_againLength_23 {p : Program} {l : Launch} {e : Env} {s : State} {m : MethodId} {args : Array Value} {below : List Frame} {meth : Method} {c : Code} {A : Nat → Prop} {Q : State → Prop} {dC : Nat → ClassId} {dI : Nat → Nat → Nat} {cyI : ClassId} {aT aS aW aWw aWr aWm aWl aWd : Nat} {v1 : Int32} {v2 : Int32} {v4 : Int32} {sw : Int32} {sl : Int32} {sg : Int32} {sp : Int32} {ww : Nat → Int32} {K61 : Int32 → Prop} (C0 : CallFix p m c cX0_againLength 9 s args wsX0_againLength RX0) (hA : ∀ q : Nat, s.heap.size ≤ q → A q) (hK : va_K (dC, dI) vwCl [(cyI, .int)] s) (hK61 : ∀ (v5 : Int32), K61 v5 → ∀ (H : Heap) (locs : List Loc) (ls : Array Slot), va_P (dC, dI) vwCl [(aS, .inr (6, [.int sw, .int sl, .int sg, .int sp])), (aW, .inr (0, [.ref aT, .ref aS, .ref aWw, .ref aWr, .ref aWm, .ref aWl, .ref aWd])), (aWw, .inl (cyI, 4225, .inl ww))] H → va_D A [(aS, .inr (6, [.int sw, .int sl, .int sg, .int sp])), (aW, .inr (0, [.ref aT, .ref aS, .ref aWw, .ref aWr, .ref aWm, .ref aWl, .ref aWd])), (aWw, .inl (cyI, 4225, .inl ww))] → va_S A s.heap H locs → lv_has ls 9 [(5, .int v5)] → W p l e ({ frames := 3, cells := 0, slots := 0, locals := 63 } : Room) s m args below meth c H locs 0 0 Q (F0 m 61 ls [])) :
    ∀ (n23 : Nat) (v5 : Int32) (v6 : Int32) (v7 : Int32), wpX0_againLength_23 v1 v2 v4 sp ww K61 n23 v5 v6 v7 → ∀ (H : Heap) (locs : List Loc) (ls : Array Slot), va_P (dC, dI) vwCl [(aS, .inr (6, [.int sw, .int sl, .int sg, .int sp])), (aW, .inr (0, [.ref aT, .ref aS, .ref aWw, .ref aWr, .ref aWm, .ref aWl, .ref aWd])), (aWw, .inl (cyI, 4225, .inl ww))] H → va_D A [(aS, .inr (6, [.int sw, .int sl, .int sg, .int sp])), (aW, .inr (0, [.ref aT, .ref aS, .ref aWw, .ref aWr, .ref aWm, .ref aWl, .ref aWd])), (aWw, .inl (cyI, 4225, .inl ww))] → va_S A s.heap H locs → lv_has ls 9 [(0, .ref aW), (1, .int v1), (2, .int v2), (4, .int v4), (5, .int v5), (6, .int v6), (7, .int v7)] → W p l e ({ frames := 3, cells := 0, slots := 0, locals := 63 } : Room) s m args below meth c H locs 0 0 Q (F0 m 23 ls []) := by
  obtain ⟨hx, hb, hml, hown, hts⟩ := id C0
  intro n23
  induction n23 with
  | zero => intro _ _ _ h; exact h.elim
  | succ n23 ih23 =>
    intro v5 v6 v7 h H locs ls hP hD hS hl
    rw [wpX0_againLength_23] at h
    refine lv_iload hx hb dX0_againLength_23 (lv_at hl 6 rfl) ?_
    refine lv_iload hx hb dX0_againLength_25 (lv_at hl 3 rfl) ?_
    refine lv_icmp_gt (tgt := 61) hx hb dX0_againLength_27 (by decide) (fun c_1 => ?_) (fun c_1 => ?_)
    · replace h := h.1 c_1
      exact hK61 _ h _ _ _ hP hD hS (lv_sub hl [4] rfl)
    · replace h := h.2 c_1
      refine lv_aload_n hx hb dX0_againLength_30 rfl (lv_at hl 0 rfl) ?_
      refine lv_iload_n hx hb dX0_againLength_31 rfl (lv_at hl 1 rfl) ?_
      refine lv_iload_n hx hb dX0_againLength_32 rfl (lv_at hl 2 rfl) ?_
      refine lv_iload hx hb dX0_againLength_33 (lv_at hl 6 rfl) ?_
      refine wk_calli (wc := [(aS, .inr (6, [.int sw, .int sl, .int sg, .int sp])), (aW, .inr (0, [.ref aT, .ref aS, .ref aWw, .ref aWr, .ref aWm, .ref aWl, .ref aWd])), (aWw, .inl (cyI, 4225, .inl ww))]) (wr := []) (va_runV (As := [.int v1, .int v2, .int v7]) (rest := []) C0 (mtX0_againWeight l dC dI cyI (aT := aT) (aS := aS) (aW := aW) (aWw := aWw) (aWr := aWr) (aWm := aWm) (aWl := aWl) (aWd := aWd) (sz := _) (sw := sw) (sl := sl) (sg := sg) (sp := sp) (ww := ww) (v1 := v1) (v2 := v2) (v3 := v7) h) (cwV 3 hts gX0_againLength_X0_againWeight rfl rfl rfl (by decide +kernel) ⟨(Nat.le_of_ble_eq_true rfl), (Nat.le_of_ble_eq_true rfl)⟩) (wk_preV (wc := [(aS, .inr (6, [.int sw, .int sl, .int sg, .int sp])), (aW, .inr (0, [.ref aT, .ref aS, .ref aWw, .ref aWr, .ref aWm, .ref aWl, .ref aWd])), (aWw, .inl (cyI, 4225, .inl ww))]) hK hP hD [0, 1, 2] rfl (by decide) (va_recv hK hP (ci := 0) (q0 := 1) rfl rfl)) rfl rfl hl.1 rfl (lv_room (Nat.le_of_ble_eq_true rfl)) dX0_againLength_35 ⟨(Nat.le_of_ble_eq_true rfl), (Nat.le_of_ble_eq_true rfl)⟩) hP hD hS hA [0, 1, 2] [] rfl rfl (by decide) (by decide) (fun r_2 u9 H locs h hP hD hS => ?_)
      have hP : va_P (dC, dI) vwCl [(aS, .inr (6, [.int sw, .int sl, .int sg, .int sp])), (aW, .inr (0, [.ref aT, .ref aS, .ref aWw, .ref aWr, .ref aWm, .ref aWl, .ref aWd])), (aWw, .inl (cyI, 4225, .inl ww))] H := hP
      have hD : va_D A [(aS, .inr (6, [.int sw, .int sl, .int sg, .int sp])), (aW, .inr (0, [.ref aT, .ref aS, .ref aWw, .ref aWr, .ref aWm, .ref aWl, .ref aWd])), (aWw, .inl (cyI, 4225, .inl ww))] := hD
      refine lv_istore (lv' := [(8, .int r_2), (0, .ref aW), (1, .int v1), (2, .int v2), (4, .int v4), (5, .int v5), (6, .int v6), (7, .int v7)]) hx hb dX0_againLength_38 hl (by decide) rfl (fun ls hl => ?_)
      refine lv_iload hx hb dX0_againLength_40 (lv_at hl 0 rfl) ?_
      refine lv_iload hx hb dX0_againLength_42 (lv_at hl 6 rfl) ?_
      refine lv_icmp_gt (tgt := 55) hx hb dX0_againLength_44 (by decide) (fun c_3 => ?_) (fun c_3 => ?_)
      · replace h := h.1 c_3
        exact wjX0_againLength_55 C0 hA hK h _ _ _ hP hD hS (lv_sub hl [1, 2, 3, 4, 5, 6, 7] rfl) ih23 hK61
      · replace h := h.2 c_3
        refine lv_iload hx hb dX0_againLength_47 (lv_at hl 0 rfl) ?_
        refine lv_istore (lv' := [(6, .int r_2), (8, .int r_2), (0, .ref aW), (1, .int v1), (2, .int v2), (4, .int v4), (5, .int v5), (7, .int v7)]) hx hb dX0_againLength_49 hl (by decide) rfl (fun ls hl => ?_)
        refine lv_iload hx hb dX0_againLength_51 (lv_at hl 7 rfl) ?_
        refine lv_istore (lv' := [(5, .int v7), (6, .int r_2), (8, .int r_2), (0, .ref aW), (1, .int v1), (2, .int v2), (4, .int v4), (7, .int v7)]) hx hb dX0_againLength_53 hl (by decide) rfl (fun ls hl => ?_)
        exact wjX0_againLength_55 C0 hA hK h _ _ _ hP hD hS (lv_sub hl [3, 4, 5, 6, 0, 1, 7] rfl) ih23 hK61
def wpX0_againLength (sg : Int32) (sp : Int32) (ww : Nat → Int32) (v1 : Int32) (v2 : Int32) (v3 : Int32) (post : Int32 → Prop) : Prop := ∃ n23 : Nat, wpX0_againLength_23 v1 v2 (if sg < v3 then sg else v3) sp ww (fun (v5_4 : Int32) => post v5_4) n23 0 1073741824 1
set_option maxHeartbeats 4000000 in
set_option maxRecDepth 100000 in
theorem mtX0_againLength (l : Launch) (dC : Nat → ClassId) (dI : Nat → Nat → Nat) (cyI : ClassId) {aT aS aW aWw aWr aWm aWl aWd : Nat} {sz : Nat} {sw : Int32} {sl : Int32} {sg : Int32} {sp : Int32} {ww : Nat → Int32} {v1 : Int32} {v2 : Int32} {v3 : Int32} {post : Int32 → Prop} (h : wpX0_againLength sg sp ww v1 v2 v3 post) : Met l yX0_againLength wsX0_againLength ({ frames := 3, cells := 0, slots := 0, locals := 63 }) (va_Pc [.ref aW, .int v1, .int v2, .int v3] (wk_B (dC, dI) [(cyI, .int)] [(aS, .inr (6, [.int sw, .int sl, .int sg, .int sp])), (aW, .inr (0, [.ref aT, .ref aS, .ref aWw, .ref aWr, .ref aWm, .ref aWl, .ref aWd])), (aWw, .inl (cyI, 4225, .inl ww))] sz)) (va_Qi (fun (r : Int32) (u : Unit) => post r ) (wk_C (dC, dI) [(cyI, .int)] (va_A [(aS, .inr (6, [.int sw, .int sl, .int sg, .int sp])), (aW, .inr (0, [.ref aT, .ref aS, .ref aWw, .ref aWr, .ref aWm, .ref aWl, .ref aWd])), (aWw, .inl (cyI, 4225, .inl ww))] sz) (fun (u : Unit) => [(aS, .inr (6, [.int sw, .int sl, .int sg, .int sp])), (aW, .inr (0, [.ref aT, .ref aS, .ref aWw, .ref aWr, .ref aWm, .ref aWl, .ref aWd])), (aWw, .inl (cyI, 4225, .inl ww))])) (va_A [(aS, .inr (6, [.int sw, .int sl, .int sg, .int sp])), (aW, .inr (0, [.ref aT, .ref aS, .ref aWw, .ref aWr, .ref aWm, .ref aWl, .ref aWd])), (aWw, .inl (cyI, 4225, .inl ww))] sz)) 0 0 (va_A [(aS, .inr (6, [.int sw, .int sl, .int sg, .int sp])), (aW, .inr (0, [.ref aT, .ref aS, .ref aWw, .ref aWr, .ref aWm, .ref aWl, .ref aWd])), (aWw, .inl (cyI, 4225, .inl ww))] sz) := by
  refine Met.ofW (cc := cX0_againLength) (maxL := 9) (ret := (some .int)) (by decide) rfl ?_
  intro p e s m args below meth c s₁ B hml hv
  obtain ⟨rfl, hsz, hP, hK, hD0⟩ := hv
  have hx := B.exec
  have hb := B.bytes
  have hr := B.returns
  have hts := atoms_spec (ws := wsX0_againLength) B.pre
  have hown : s.vm.findClass RX0 = some m.cls := findClass_of_methodNamed B.named
  have hlocks := B.notSynchronized
  subst hsz
  have hD := hD0.self (sz := s.heap.size)
  generalize hAe : va_A [(aS, .inr (6, [.int sw, .int sl, .int sg, .int sp])), (aW, .inr (0, [.ref aT, .ref aS, .ref aWw, .ref aWr, .ref aWm, .ref aWl, .ref aWd])), (aWw, .inl (cyI, 4225, .inl ww))] s.heap.size = A at hD ⊢
  have hA : ∀ q : Nat, s.heap.size ≤ q → A q := fun q h => by rw [← hAe]; exact Or.inr h
  have hS : va_S A s.heap s.heap [] := va_S.rf
  have hP : va_P (dC, dI) vwCl [(aS, .inr (6, [.int sw, .int sl, .int sg, .int sp])), (aW, .inr (0, [.ref aT, .ref aS, .ref aWw, .ref aWr, .ref aWm, .ref aWl, .ref aWd])), (aWw, .inl (cyI, 4225, .inl ww))] s.heap := hP
  have hl := lv_entry ([.ref aW, .int v1, .int v2, .int v3]) (n := 9) (Nat.le_of_ble_eq_true rfl)
  rw [lg_entry_eq]
  generalize (lg_sl ([.ref aW, .int v1, .int v2, .int v3]) ++ List.replicate (9 - (lg_sl ([.ref aW, .int v1, .int v2, .int v3])).length) Slot.unset).toArray = ls at hl ⊢
  have hl : lv_has ls 9 [(0, .ref aW), (1, .int v1), (2, .int v2), (3, .int v3)] := hl
  have C0 : CallFix p m c cX0_againLength 9 s ([.ref aW, .int v1, .int v2, .int v3] : List Value).toArray wsX0_againLength RX0 := ⟨hx, hb, hml, hown, hts⟩
  unfold wpX0_againLength at h
  refine lv_iload_n hx hb dX0_againLength_0 rfl (lv_at hl 3 rfl) ?_
  refine lv_aload_n hx hb dX0_againLength_1 rfl (lv_at hl 0 rfl) ?_
  refine va_get (D := (dC, dI)) (ci := 0) (v := .ref aS) (C := RX0) (T := TX0) (N := 7) hx hb hts inX0_againLength_wsX00 hown hK hP 1 rfl rfl 1 (by decide) (hts _ qX0_againLength_0) (fun _ h9 => h9) rfl dX0_againLength_2 ?_
  refine va_get (D := (dC, dI)) (ci := 6) (v := .int sg) (C := RX7) (T := TX7) (N := 4) hx hb hts inX0_againLength_wsX70 hown hK hP 0 rfl rfl 2 (by decide) (hts _ qX0_againLength_1) (fun _ h9 => h9) rfl dX0_againLength_5 ?_
  refine va_mmin hx hb (hml.trans hl.1.symm) hown (hts _ qX0_againLength_2) (hts _ qX0_againLength_3) (hts _ qX0_againLength_4) (hts _ qX0_againLength_5) (Nat.le_of_ble_eq_true rfl) (Nat.le_of_ble_eq_true rfl) (Nat.zero_le _) (Nat.zero_le _) dX0_againLength_8 ?_
  refine lv_istore (lv' := [(4, .int (if sg < v3 then sg else v3)), (0, .ref aW), (1, .int v1), (2, .int v2), (3, .int v3)]) hx hb dX0_againLength_11 hl (by decide) rfl (fun ls hl => ?_)
  refine lv_iconst (v := 0) hx hb dX0_againLength_13 (by decide) ?_
  refine lv_istore (lv' := [(5, .int 0), (4, .int (if sg < v3 then sg else v3)), (0, .ref aW), (1, .int v1), (2, .int v2), (3, .int v3)]) hx hb dX0_againLength_14 hl (by decide) rfl (fun ls hl => ?_)
  refine lv_ldc hx hb hown (hts _ qX0_againLength_6) dX0_againLength_16 ?_
  refine lv_istore (lv' := [(6, .int 1073741824), (5, .int 0), (4, .int (if sg < v3 then sg else v3)), (0, .ref aW), (1, .int v1), (2, .int v2), (3, .int v3)]) hx hb dX0_againLength_18 hl (by decide) rfl (fun ls hl => ?_)
  refine lv_iconst (v := 1) hx hb dX0_againLength_20 (by decide) ?_
  refine lv_istore (lv' := [(7, .int 1), (6, .int 1073741824), (5, .int 0), (4, .int (if sg < v3 then sg else v3)), (0, .ref aW), (1, .int v1), (2, .int v2), (3, .int v3)]) hx hb dX0_againLength_21 hl (by decide) rfl (fun ls hl => ?_)
  obtain ⟨n23, h⟩ := h
  refine wlX0_againLength_23 C0 hA hK ?_ n23 _ _ _ h _ _ _ hP hD hS (lv_sub hl [4, 5, 6, 3, 2, 1, 0] rfl)
  · intro v5_4 h H locs ls hP hD hS hl
    refine lv_iload hx hb dX0_againLength_61 (lv_at hl 0 rfl) ?_
    have hP9 : va_P (dC, dI) vwCl [(aS, .inr (6, [.int sw, .int sl, .int sg, .int sp])), (aW, .inr (0, [.ref aT, .ref aS, .ref aWw, .ref aWr, .ref aWm, .ref aWl, .ref aWd])), (aWw, .inl (cyI, 4225, .inl ww))] _ := hP
    have hD9 : va_D A [(aS, .inr (6, [.int sw, .int sl, .int sg, .int sp])), (aW, .inr (0, [.ref aT, .ref aS, .ref aWw, .ref aWr, .ref aWm, .ref aWl, .ref aWd])), (aWw, .inl (cyI, 4225, .inl ww))] := hD
    exact W.iret (v := v5_4) hx hb hr (fun t ht hW => ⟨⟨v5_4, (), rfl, h, by rw [ht]; exact hP9, va_K.moved hW.alike hK, hD9⟩, hS.F ht⟩) hS.2.2 dX0_againLength_63
-- X0_lightest
theorem qX0_lightest_0 : Cond.fieldLink RX0 18 "MatchCoder$BestWay" "matchWeights" "[I" ∈ wsX0_lightest := (List.mem_cons_of_mem _ (List.mem_append_left _ (List.mem_append_left _ (List.mem_append_left _ (List.mem_of_getElem? (i := 0) rfl)))))
theorem qX0_lightest_1 : Cond.methodLink RX0 66 Lib.Math.min.name ∈ wsX0_lightest := (List.mem_cons_of_mem _ (List.mem_append_left _ (List.mem_append_left _ (List.mem_append_left _ (List.mem_of_getElem? (i := 1) rfl)))))
theorem qX0_lightest_2 : Cond.static Lib.Math.min.name ∈ wsX0_lightest := (List.mem_cons_of_mem _ (List.mem_append_left _ (List.mem_append_left _ (List.mem_append_left _ (List.mem_of_getElem? (i := 2) rfl)))))
theorem qX0_lightest_3 : Cond.initialized "java/lang/Math" ∈ wsX0_lightest := (List.mem_cons_of_mem _ (List.mem_append_left _ (List.mem_append_left _ (List.mem_append_left _ (List.mem_of_getElem? (i := 3) rfl)))))
theorem qX0_lightest_4 : Cond.code Lib.Math.min.name Lib.Math.min.code 2 (some .int) ∈ wsX0_lightest := (List.mem_cons_of_mem _ (List.mem_append_left _ (List.mem_append_left _ (List.mem_append_left _ (List.mem_of_getElem? (i := 4) rfl)))))
theorem qX0_lightest_5 : Cond.fieldLink RX0 15 "MatchCoder$BestWay" "runs" "[I" ∈ wsX0_lightest := (List.mem_cons_of_mem _ (List.mem_append_left _ (List.mem_append_left _ (List.mem_append_left _ (List.mem_of_getElem? (i := 5) rfl)))))
theorem inX0_lightest_wsX00 : ∀ w ∈ wsX00, w ∈ wsX0_lightest := fun _ h => List.mem_cons_of_mem _ (List.mem_append_left _ (List.mem_append_right _ h))
def wpX0_lightest (sg : Int32) (sp : Int32) (ww : Nat → Int32) (wr : Nat → Int32) (wm : Nat → Int32) (v1 : Int32) (v2 : Int32) (post : Int32 → Prop) : Prop := wpX0_literalWeight sp ww v1 v2 (fun (r_1 : Int32) => vp_in v1 64 ∧ (vp_in v2 65 ∧ (wpX0_againLength sg sp ww v1 v2 (wr v2.toNatClampNeg) (fun (r_4 : Int32) => (r_4 = 0 → (post (if (wm v1.toNatClampNeg) < r_1 then wm v1.toNatClampNeg else r_1))) ∧ (¬ r_4 = 0 → (wpX0_againWeight sp ww v1 v2 r_4 (fun (r_6 : Int32) => post (if r_6 < (if (wm v1.toNatClampNeg) < r_1 then wm v1.toNatClampNeg else r_1) then r_6 else (if (wm v1.toNatClampNeg) < r_1 then wm v1.toNatClampNeg else r_1)))))))))
set_option maxHeartbeats 4000000 in
set_option maxRecDepth 100000 in
theorem mtX0_lightest (l : Launch) (dC : Nat → ClassId) (dI : Nat → Nat → Nat) (cyI : ClassId) {aT aS aW aWw aWr aWm aWl aWd : Nat} {sz : Nat} {sw : Int32} {sl : Int32} {sg : Int32} {sp : Int32} {ww : Nat → Int32} {wr : Nat → Int32} {wm : Nat → Int32} {v1 : Int32} {v2 : Int32} {post : Int32 → Prop} (h : wpX0_lightest sg sp ww wr wm v1 v2 post) : Met l yX0_lightest wsX0_lightest ({ frames := 4, cells := 0, slots := 0, locals := 91 }) (va_Pc [.ref aW, .int v1, .int v2] (wk_B (dC, dI) [(cyI, .int)] [(aS, .inr (6, [.int sw, .int sl, .int sg, .int sp])), (aW, .inr (0, [.ref aT, .ref aS, .ref aWw, .ref aWr, .ref aWm, .ref aWl, .ref aWd])), (aWw, .inl (cyI, 4225, .inl ww)), (aWr, .inl (cyI, 65, .inl wr)), (aWm, .inl (cyI, 64, .inl wm))] sz)) (va_Qi (fun (r : Int32) (u : Unit) => post r ) (wk_C (dC, dI) [(cyI, .int)] (va_A [(aS, .inr (6, [.int sw, .int sl, .int sg, .int sp])), (aW, .inr (0, [.ref aT, .ref aS, .ref aWw, .ref aWr, .ref aWm, .ref aWl, .ref aWd])), (aWw, .inl (cyI, 4225, .inl ww)), (aWr, .inl (cyI, 65, .inl wr)), (aWm, .inl (cyI, 64, .inl wm))] sz) (fun (u : Unit) => [(aS, .inr (6, [.int sw, .int sl, .int sg, .int sp])), (aW, .inr (0, [.ref aT, .ref aS, .ref aWw, .ref aWr, .ref aWm, .ref aWl, .ref aWd])), (aWw, .inl (cyI, 4225, .inl ww)), (aWr, .inl (cyI, 65, .inl wr)), (aWm, .inl (cyI, 64, .inl wm))])) (va_A [(aS, .inr (6, [.int sw, .int sl, .int sg, .int sp])), (aW, .inr (0, [.ref aT, .ref aS, .ref aWw, .ref aWr, .ref aWm, .ref aWl, .ref aWd])), (aWw, .inl (cyI, 4225, .inl ww)), (aWr, .inl (cyI, 65, .inl wr)), (aWm, .inl (cyI, 64, .inl wm))] sz)) 0 0 (va_A [(aS, .inr (6, [.int sw, .int sl, .int sg, .int sp])), (aW, .inr (0, [.ref aT, .ref aS, .ref aWw, .ref aWr, .ref aWm, .ref aWl, .ref aWd])), (aWw, .inl (cyI, 4225, .inl ww)), (aWr, .inl (cyI, 65, .inl wr)), (aWm, .inl (cyI, 64, .inl wm))] sz) := by
  refine Met.ofW (cc := cX0_lightest) (maxL := 5) (ret := (some .int)) (by decide) rfl ?_
  intro p e s m args below meth c s₁ B hml hv
  obtain ⟨rfl, hsz, hP, hK, hD0⟩ := hv
  have hx := B.exec
  have hb := B.bytes
  have hr := B.returns
  have hts := atoms_spec (ws := wsX0_lightest) B.pre
  have hown : s.vm.findClass RX0 = some m.cls := findClass_of_methodNamed B.named
  have hlocks := B.notSynchronized
  subst hsz
  have hD := hD0.self (sz := s.heap.size)
  generalize hAe : va_A [(aS, .inr (6, [.int sw, .int sl, .int sg, .int sp])), (aW, .inr (0, [.ref aT, .ref aS, .ref aWw, .ref aWr, .ref aWm, .ref aWl, .ref aWd])), (aWw, .inl (cyI, 4225, .inl ww)), (aWr, .inl (cyI, 65, .inl wr)), (aWm, .inl (cyI, 64, .inl wm))] s.heap.size = A at hD ⊢
  have hA : ∀ q : Nat, s.heap.size ≤ q → A q := fun q h => by rw [← hAe]; exact Or.inr h
  have hS : va_S A s.heap s.heap [] := va_S.rf
  have hP : va_P (dC, dI) vwCl [(aS, .inr (6, [.int sw, .int sl, .int sg, .int sp])), (aW, .inr (0, [.ref aT, .ref aS, .ref aWw, .ref aWr, .ref aWm, .ref aWl, .ref aWd])), (aWw, .inl (cyI, 4225, .inl ww)), (aWr, .inl (cyI, 65, .inl wr)), (aWm, .inl (cyI, 64, .inl wm))] s.heap := hP
  have hl := lv_entry ([.ref aW, .int v1, .int v2]) (n := 5) (Nat.le_of_ble_eq_true rfl)
  rw [lg_entry_eq]
  generalize (lg_sl ([.ref aW, .int v1, .int v2]) ++ List.replicate (5 - (lg_sl ([.ref aW, .int v1, .int v2])).length) Slot.unset).toArray = ls at hl ⊢
  have hl : lv_has ls 5 [(0, .ref aW), (1, .int v1), (2, .int v2)] := hl
  have C0 : CallFix p m c cX0_lightest 5 s ([.ref aW, .int v1, .int v2] : List Value).toArray wsX0_lightest RX0 := ⟨hx, hb, hml, hown, hts⟩
  unfold wpX0_lightest at h
  refine lv_aload_n hx hb dX0_lightest_0 rfl (lv_at hl 0 rfl) ?_
  refine lv_iload_n hx hb dX0_lightest_1 rfl (lv_at hl 1 rfl) ?_
  refine lv_iload_n hx hb dX0_lightest_2 rfl (lv_at hl 2 rfl) ?_
  refine wk_calli (wc := [(aS, .inr (6, [.int sw, .int sl, .int sg, .int sp])), (aW, .inr (0, [.ref aT, .ref aS, .ref aWw, .ref aWr, .ref aWm, .ref aWl, .ref aWd])), (aWw, .inl (cyI, 4225, .inl ww))]) (wr := [(aWr, .inl (cyI, 65, .inl wr)), (aWm, .inl (cyI, 64, .inl wm))]) (va_runV (As := [.int v1, .int v2]) (rest := []) C0 (mtX0_literalWeight l dC dI cyI (aT := aT) (aS := aS) (aW := aW) (aWw := aWw) (aWr := aWr) (aWm := aWm) (aWl := aWl) (aWd := aWd) (sz := _) (sw := sw) (sl := sl) (sg := sg) (sp := sp) (ww := ww) (v1 := v1) (v2 := v2) h) (cwV 2 hts gX0_lightest_X0_literalWeight rfl rfl rfl (by decide +kernel) ⟨(Nat.le_of_ble_eq_true rfl), (Nat.le_of_ble_eq_true rfl)⟩) (wk_preV (wc := [(aS, .inr (6, [.int sw, .int sl, .int sg, .int sp])), (aW, .inr (0, [.ref aT, .ref aS, .ref aWw, .ref aWr, .ref aWm, .ref aWl, .ref aWd])), (aWw, .inl (cyI, 4225, .inl ww))]) hK hP hD [0, 1, 2] rfl (by decide) (va_recv hK hP (ci := 0) (q0 := 1) rfl rfl)) rfl rfl hl.1 rfl (lv_room (Nat.le_of_ble_eq_true rfl)) dX0_lightest_3 ⟨(Nat.le_of_ble_eq_true rfl), (Nat.le_of_ble_eq_true rfl)⟩) hP hD hS hA [0, 1, 2] [3, 4] rfl rfl (by decide) (by decide) (fun r_1 u9 H locs h hP hD hS => ?_)
  have hP : va_P (dC, dI) vwCl [(aWr, .inl (cyI, 65, .inl wr)), (aWm, .inl (cyI, 64, .inl wm)), (aS, .inr (6, [.int sw, .int sl, .int sg, .int sp])), (aW, .inr (0, [.ref aT, .ref aS, .ref aWw, .ref aWr, .ref aWm, .ref aWl, .ref aWd])), (aWw, .inl (cyI, 4225, .inl ww))] H := hP
  have hD : va_D A [(aWr, .inl (cyI, 65, .inl wr)), (aWm, .inl (cyI, 64, .inl wm)), (aS, .inr (6, [.int sw, .int sl, .int sg, .int sp])), (aW, .inr (0, [.ref aT, .ref aS, .ref aWw, .ref aWr, .ref aWm, .ref aWl, .ref aWd])), (aWw, .inl (cyI, 4225, .inl ww))] := hD
  refine lv_aload_n hx hb dX0_lightest_6 rfl (lv_at hl 0 rfl) ?_
  refine va_get (D := (dC, dI)) (ci := 0) (v := .ref aWm) (C := RX0) (T := TX0) (N := 7) hx hb hts inX0_lightest_wsX00 hown hK hP 3 rfl rfl 4 (by decide) (hts _ qX0_lightest_0) (fun _ h9 => h9) rfl dX0_lightest_7 ?_
  refine lv_iload_n hx hb dX0_lightest_10 rfl (lv_at hl 1 rfl) ?_
  obtain ⟨hi_2, h⟩ := h
  refine va_iald hx hb hK hP 1 0 rfl rfl hi_2 dX0_lightest_11 ?_
  refine va_mmin hx hb (hml.trans hl.1.symm) hown (hts _ qX0_lightest_1) (hts _ qX0_lightest_2) (hts _ qX0_lightest_3) (hts _ qX0_lightest_4) (Nat.le_of_ble_eq_true rfl) (Nat.le_of_ble_eq_true rfl) (Nat.zero_le _) (Nat.zero_le _) dX0_lightest_12 ?_
  refine lv_istore_n (lv' := [(3, .int (if (wm v1.toNatClampNeg) < r_1 then wm v1.toNatClampNeg else r_1)), (0, .ref aW), (1, .int v1), (2, .int v2)]) hx hb dX0_lightest_15 rfl hl (by decide) rfl (fun ls hl => ?_)
  refine lv_aload_n hx hb dX0_lightest_16 rfl (lv_at hl 1 rfl) ?_
  refine lv_iload_n hx hb dX0_lightest_17 rfl (lv_at hl 2 rfl) ?_
  refine lv_iload_n hx hb dX0_lightest_18 rfl (lv_at hl 3 rfl) ?_
  refine lv_aload_n hx hb dX0_lightest_19 rfl (lv_at hl 1 rfl) ?_
  refine va_get (D := (dC, dI)) (ci := 0) (v := .ref aWr) (C := RX0) (T := TX0) (N := 7) hx hb hts inX0_lightest_wsX00 hown hK hP 3 rfl rfl 3 (by decide) (hts _ qX0_lightest_5) (fun _ h9 => h9) rfl dX0_lightest_20 ?_
  refine lv_iload_n hx hb dX0_lightest_23 rfl (lv_at hl 3 rfl) ?_
  obtain ⟨hi_3, h⟩ := h
  refine va_iald hx hb hK hP 0 0 rfl rfl hi_3 dX0_lightest_24 ?_
  refine wk_calli (wc := [(aS, .inr (6, [.int sw, .int sl, .int sg, .int sp])), (aW, .inr (0, [.ref aT, .ref aS, .ref aWw, .ref aWr, .ref aWm, .ref aWl, .ref aWd])), (aWw, .inl (cyI, 4225, .inl ww))]) (wr := [(aWr, .inl (cyI, 65, .inl wr)), (aWm, .inl (cyI, 64, .inl wm))]) (va_runV (As := [.int v1, .int v2, .int (wr v2.toNatClampNeg)]) (rest := []) C0 (mtX0_againLength l dC dI cyI (aT := aT) (aS := aS) (aW := aW) (aWw := aWw) (aWr := aWr) (aWm := aWm) (aWl := aWl) (aWd := aWd) (sz := _) (sw := sw) (sl := sl) (sg := sg) (sp := sp) (ww := ww) (v1 := v1) (v2 := v2) (v3 := wr v2.toNatClampNeg) h) (cwV 3 hts gX0_lightest_X0_againLength rfl rfl rfl (by decide +kernel) ⟨(Nat.le_of_ble_eq_true rfl), (Nat.le_of_ble_eq_true rfl)⟩) (wk_preV (wc := [(aS, .inr (6, [.int sw, .int sl, .int sg, .int sp])), (aW, .inr (0, [.ref aT, .ref aS, .ref aWw, .ref aWr, .ref aWm, .ref aWl, .ref aWd])), (aWw, .inl (cyI, 4225, .inl ww))]) hK hP hD [2, 3, 4] rfl (by decide) (va_recv hK hP (ci := 0) (q0 := 3) rfl rfl)) rfl rfl hl.1 rfl (lv_room (Nat.le_of_ble_eq_true rfl)) dX0_lightest_25 ⟨(Nat.le_of_ble_eq_true rfl), (Nat.le_of_ble_eq_true rfl)⟩) hP hD hS hA [2, 3, 4] [0, 1] rfl rfl (by decide) (by decide) (fun r_4 u9 H locs h hP hD hS => ?_)
  have hP : va_P (dC, dI) vwCl [(aWr, .inl (cyI, 65, .inl wr)), (aWm, .inl (cyI, 64, .inl wm)), (aS, .inr (6, [.int sw, .int sl, .int sg, .int sp])), (aW, .inr (0, [.ref aT, .ref aS, .ref aWw, .ref aWr, .ref aWm, .ref aWl, .ref aWd])), (aWw, .inl (cyI, 4225, .inl ww))] H := hP
  have hD : va_D A [(aWr, .inl (cyI, 65, .inl wr)), (aWm, .inl (cyI, 64, .inl wm)), (aS, .inr (6, [.int sw, .int sl, .int sg, .int sp])), (aW, .inr (0, [.ref aT, .ref aS, .ref aWw, .ref aWr, .ref aWm, .ref aWl, .ref aWd])), (aWw, .inl (cyI, 4225, .inl ww))] := hD
  refine lv_istore (lv' := [(4, .int r_4), (3, .int (if (wm v1.toNatClampNeg) < r_1 then wm v1.toNatClampNeg else r_1)), (0, .ref aW), (1, .int v1), (2, .int v2)]) hx hb dX0_lightest_28 hl (by decide) rfl (fun ls hl => ?_)
  refine lv_iload hx hb dX0_lightest_30 (lv_at hl 0 rfl) ?_
  refine lv_if_ne (tgt := 39) hx hb dX0_lightest_32 (by decide) (fun c_5 => ?_) (fun c_5 => ?_)
  · replace h := h.2 c_5
    refine lv_iload_n hx hb dX0_lightest_39 rfl (lv_at hl 1 rfl) ?_
    refine lv_aload_n hx hb dX0_lightest_40 rfl (lv_at hl 2 rfl) ?_
    refine lv_iload_n hx hb dX0_lightest_41 rfl (lv_at hl 3 rfl) ?_
    refine lv_iload_n hx hb dX0_lightest_42 rfl (lv_at hl 4 rfl) ?_
    refine lv_iload hx hb dX0_lightest_43 (lv_at hl 0 rfl) ?_
    refine wk_calli (wc := [(aS, .inr (6, [.int sw, .int sl, .int sg, .int sp])), (aW, .inr (0, [.ref aT, .ref aS, .ref aWw, .ref aWr, .ref aWm, .ref aWl, .ref aWd])), (aWw, .inl (cyI, 4225, .inl ww))]) (wr := [(aWr, .inl (cyI, 65, .inl wr)), (aWm, .inl (cyI, 64, .inl wm))]) (va_runV (As := [.int v1, .int v2, .int r_4]) (rest := [.int (if (wm v1.toNatClampNeg) < r_1 then wm v1.toNatClampNeg else r_1)]) C0 (mtX0_againWeight l dC dI cyI (aT := aT) (aS := aS) (aW := aW) (aWw := aWw) (aWr := aWr) (aWm := aWm) (aWl := aWl) (aWd := aWd) (sz := _) (sw := sw) (sl := sl) (sg := sg) (sp := sp) (ww := ww) (v1 := v1) (v2 := v2) (v3 := r_4) h) (cwV 3 hts gX0_lightest_X0_againWeight rfl rfl rfl (by decide +kernel) ⟨(Nat.le_of_ble_eq_true rfl), (Nat.le_of_ble_eq_true rfl)⟩) (wk_preV (wc := [(aS, .inr (6, [.int sw, .int sl, .int sg, .int sp])), (aW, .inr (0, [.ref aT, .ref aS, .ref aWw, .ref aWr, .ref aWm, .ref aWl, .ref aWd])), (aWw, .inl (cyI, 4225, .inl ww))]) hK hP hD [2, 3, 4] rfl (by decide) (va_recv hK hP (ci := 0) (q0 := 3) rfl rfl)) rfl rfl hl.1 rfl (lv_room (Nat.le_of_ble_eq_true rfl)) dX0_lightest_45 ⟨(Nat.le_of_ble_eq_true rfl), (Nat.le_of_ble_eq_true rfl)⟩) hP hD hS hA [2, 3, 4] [0, 1] rfl rfl (by decide) (by decide) (fun r_6 u9 H locs h hP hD hS => ?_)
    have hP : va_P (dC, dI) vwCl [(aWr, .inl (cyI, 65, .inl wr)), (aWm, .inl (cyI, 64, .inl wm)), (aS, .inr (6, [.int sw, .int sl, .int sg, .int sp])), (aW, .inr (0, [.ref aT, .ref aS, .ref aWw, .ref aWr, .ref aWm, .ref aWl, .ref aWd])), (aWw, .inl (cyI, 4225, .inl ww))] H := hP
    have hD : va_D A [(aWr, .inl (cyI, 65, .inl wr)), (aWm, .inl (cyI, 64, .inl wm)), (aS, .inr (6, [.int sw, .int sl, .int sg, .int sp])), (aW, .inr (0, [.ref aT, .ref aS, .ref aWw, .ref aWr, .ref aWm, .ref aWl, .ref aWd])), (aWw, .inl (cyI, 4225, .inl ww))] := hD
    refine va_mmin hx hb (hml.trans hl.1.symm) hown (hts _ qX0_lightest_1) (hts _ qX0_lightest_2) (hts _ qX0_lightest_3) (hts _ qX0_lightest_4) (Nat.le_of_ble_eq_true rfl) (Nat.le_of_ble_eq_true rfl) (Nat.zero_le _) (Nat.zero_le _) dX0_lightest_48 ?_
    have hP9 : va_P (dC, dI) vwCl [(aS, .inr (6, [.int sw, .int sl, .int sg, .int sp])), (aW, .inr (0, [.ref aT, .ref aS, .ref aWw, .ref aWr, .ref aWm, .ref aWl, .ref aWd])), (aWw, .inl (cyI, 4225, .inl ww)), (aWr, .inl (cyI, 65, .inl wr)), (aWm, .inl (cyI, 64, .inl wm))] _ := (hP.sub [2, 3, 4, 0, 1] rfl)
    have hD9 : va_D A [(aS, .inr (6, [.int sw, .int sl, .int sg, .int sp])), (aW, .inr (0, [.ref aT, .ref aS, .ref aWw, .ref aWr, .ref aWm, .ref aWl, .ref aWd])), (aWw, .inl (cyI, 4225, .inl ww)), (aWr, .inl (cyI, 65, .inl wr)), (aWm, .inl (cyI, 64, .inl wm))] := (hD.sub [2, 3, 4, 0, 1] (by decide) rfl)
    exact W.iret (v := (if r_6 < (if (wm v1.toNatClampNeg) < r_1 then wm v1.toNatClampNeg else r_1) then r_6 else (if (wm v1.toNatClampNeg) < r_1 then wm v1.toNatClampNeg else r_1))) hx hb hr (fun t ht hW => ⟨⟨(if r_6 < (if (wm v1.toNatClampNeg) < r_1 then wm v1.toNatClampNeg else r_1) then r_6 else (if (wm v1.toNatClampNeg) < r_1 then wm v1.toNatClampNeg else r_1)), (), rfl, h, by rw [ht]; exact hP9, va_K.moved hW.alike hK, hD9⟩, hS.F ht⟩) hS.2.2 dX0_lightest_51
  · replace h := h.1 c_5
    refine lv_iload_n hx hb dX0_lightest_35 rfl (lv_at hl 1 rfl) ?_
    refine lv_goto (tgt := 51) hx hb dX0_lightest_36 (by decide) ?_
    have hP9 : va_P (dC, dI) vwCl [(aS, .inr (6, [.int sw, .int sl, .int sg, .int sp])), (aW, .inr (0, [.ref aT, .ref aS, .ref aWw, .ref aWr, .ref aWm, .ref aWl, .ref aWd])), (aWw, .inl (cyI, 4225, .inl ww)), (aWr, .inl (cyI, 65, .inl wr)), (aWm, .inl (cyI, 64, .inl wm))] _ := (hP.sub [2, 3, 4, 0, 1] rfl)
    have hD9 : va_D A [(aS, .inr (6, [.int sw, .int sl, .int sg, .int sp])), (aW, .inr (0, [.ref aT, .ref aS, .ref aWw, .ref aWr, .ref aWm, .ref aWl, .ref aWd])), (aWw, .inl (cyI, 4225, .inl ww)), (aWr, .inl (cyI, 65, .inl wr)), (aWm, .inl (cyI, 64, .inl wm))] := (hD.sub [2, 3, 4, 0, 1] (by decide) rfl)
    exact W.iret (v := (if (wm v1.toNatClampNeg) < r_1 then wm v1.toNatClampNeg else r_1)) hx hb hr (fun t ht hW => ⟨⟨(if (wm v1.toNatClampNeg) < r_1 then wm v1.toNatClampNeg else r_1), (), rfl, h, by rw [ht]; exact hP9, va_K.moved hW.alike hK, hD9⟩, hS.F ht⟩) hS.2.2 dX0_lightest_51
-- X0_offerMatch
theorem qX0_offerMatch_0 : Cond.fieldLink RX0 11 "MatchCoder$BestWay" "weights" "[I" ∈ wsX0_offerMatch := (List.mem_cons_of_mem _ (List.mem_append_left _ (List.mem_append_left _ (List.mem_of_getElem? (i := 0) rfl))))
theorem qX0_offerMatch_1 : Cond.fieldLink RX0 18 "MatchCoder$BestWay" "matchWeights" "[I" ∈ wsX0_offerMatch := (List.mem_cons_of_mem _ (List.mem_append_left _ (List.mem_append_left _ (List.mem_of_getElem? (i := 1) rfl))))
theorem qX0_offerMatch_2 : Cond.fieldLink RX0 21 "MatchCoder$BestWay" "matchLengths" "[I" ∈ wsX0_offerMatch := (List.mem_cons_of_mem _ (List.mem_append_left _ (List.mem_append_left _ (List.mem_of_getElem? (i := 2) rfl))))
theorem qX0_offerMatch_3 : Cond.fieldLink RX0 24 "MatchCoder$BestWay" "matchDistances" "[I" ∈ wsX0_offerMatch := (List.mem_cons_of_mem _ (List.mem_append_left _ (List.mem_append_left _ (List.mem_of_getElem? (i := 3) rfl))))
theorem inX0_offerMatch_wsX00 : ∀ w ∈ wsX00, w ∈ wsX0_offerMatch := fun _ h => List.mem_cons_of_mem _ (List.mem_append_left _ (List.mem_append_right _ h))
def wpX0_offerMatch_69 (v1 : Int32) (v2 : Int32) (v3 : Int32) (v4 : Int32) (wm : Nat → Int32) (wl : Nat → Int32) (wd : Nat → Int32) (post : (Nat → Int32) → (Nat → Int32) → (Nat → Int32) → Prop) : Prop := vp_in v1 64 ∧ (post (upd wm v1.toNatClampNeg v4) (upd wl v1.toNatClampNeg v3) (upd wd v1.toNatClampNeg v2))
set_option maxHeartbeats 4000000 in
set_option maxRecDepth 100000 in
theorem wjX0_offerMatch_69 {p : Program} {l : Launch} {e : Env} {s : State} {m : MethodId} {args : Array Value} {below : List Frame} {meth : Method} {c : Code} {A : Nat → Prop} {Q : State → Prop} {dC : Nat → ClassId} {dI : Nat → Nat → Nat} {cyI : ClassId} {aT aS aW aWw aWr aWm aWl aWd : Nat} {v1 : Int32} {v2 : Int32} {v3 : Int32} {v4 : Int32} {sw : Int32} {sl : Int32} {sg : Int32} {sp : Int32} {ww : Nat → Int32} {wm : Nat → Int32} {wl : Nat → Int32} {wd : Nat → Int32} {post : (Nat → Int32) → (Nat → Int32) → (Nat → Int32) → Prop} (C0 : CallFix p m c cX0_offerMatch 6 s args wsX0_offerMatch RX0) (hA : ∀ q : Nat, s.heap.size ≤ q → A q) (hK : va_K (dC, dI) vwCl [(cyI, .int)] s) (h : wpX0_offerMatch_69 v1 v2 v3 v4 wm wl wd post) (H : Heap) (locs : List Loc) (ls : Array Slot) (hP : va_P (dC, dI) vwCl [(aS, .inr (6, [.int sw, .int sl, .int sg, .int sp])), (aW, .inr (0, [.ref aT, .ref aS, .ref aWw, .ref aWr, .ref aWm, .ref aWl, .ref aWd])), (aWw, .inl (cyI, 4225, .inl ww)), (aWm, .inl (cyI, 64, .inl wm)), (aWl, .inl (cyI, 64, .inl wl)), (aWd, .inl (cyI, 64, .inl wd))] H) (hD : va_D A [(aS, .inr (6, [.int sw, .int sl, .int sg, .int sp])), (aW, .inr (0, [.ref aT, .ref aS, .ref aWw, .ref aWr, .ref aWm, .ref aWl, .ref aWd])), (aWw, .inl (cyI, 4225, .inl ww)), (aWm, .inl (cyI, 64, .inl wm)), (aWl, .inl (cyI, 64, .inl wl)), (aWd, .inl (cyI, 64, .inl wd))]) (hS : va_S A s.heap H locs) (hl : lv_has ls 6 [(0, .ref aW), (1, .int v1), (2, .int v2), (3, .int v3), (4, .int v4)]) (hR91 : ∀ (wm9 : Nat → Int32) (wl9 : Nat → Int32) (wd9 : Nat → Int32), post wm9 wl9 wd9 → ∀ (H : Heap) (locs : List Loc) (ls : Array Slot), va_P (dC, dI) vwCl [(aS, .inr (6, [.int sw, .int sl, .int sg, .int sp])), (aW, .inr (0, [.ref aT, .ref aS, .ref aWw, .ref aWr, .ref aWm, .ref aWl, .ref aWd])), (aWw, .inl (cyI, 4225, .inl ww)), (aWm, .inl (cyI, 64, .inl wm9)), (aWl, .inl (cyI, 64, .inl wl9)), (aWd, .inl (cyI, 64, .inl wd9))] H → va_D A [(aS, .inr (6, [.int sw, .int sl, .int sg, .int sp])), (aW, .inr (0, [.ref aT, .ref aS, .ref aWw, .ref aWr, .ref aWm, .ref aWl, .ref aWd])), (aWw, .inl (cyI, 4225, .inl ww)), (aWm, .inl (cyI, 64, .inl wm9)), (aWl, .inl (cyI, 64, .inl wl9)), (aWd, .inl (cyI, 64, .inl wd9))] → va_S A s.heap H locs → W p l e ({ frames := 2, cells := 0, slots := 0, locals := 41 } : Room) s m args below meth c H locs 0 0 Q (F0 m 91 ls [])) : W p l e ({ frames := 2, cells := 0, slots := 0, locals := 41 } : Room) s m args below meth c H locs 0 0 Q (F0 m 69 ls []) := by
  obtain ⟨hx, hb, hml, hown, hts⟩ := id C0
  unfold wpX0_offerMatch_69 at h
  refine lv_aload_n hx hb dX0_offerMatch_69 rfl (lv_at hl 0 rfl) ?_
  refine va_get (D := (dC, dI)) (ci := 0) (v := .ref aWm) (C := RX0) (T := TX0) (N := 7) hx hb hts inX0_offerMatch_wsX00 hown hK hP 1 rfl rfl 4 (by decide) (hts _ qX0_offerMatch_1) (fun _ h9 => h9) rfl dX0_offerMatch_70 ?_
  refine lv_iload_n hx hb dX0_offerMatch_73 rfl (lv_at hl 1 rfl) ?_
  refine lv_iload hx hb dX0_offerMatch_74 (lv_at hl 4 rfl) ?_
  obtain ⟨hi_7, h⟩ := h
  refine va_iast hx hb hK hP hD hS 3 0 rfl rfl hi_7 dX0_offerMatch_76 (fun H locs hP hD hS => ?_)
  have hP : va_P (dC, dI) vwCl [(aS, .inr (6, [.int sw, .int sl, .int sg, .int sp])), (aW, .inr (0, [.ref aT, .ref aS, .ref aWw, .ref aWr, .ref aWm, .ref aWl, .ref aWd])), (aWw, .inl (cyI, 4225, .inl ww)), (aWm, .inl (cyI, 64, .inl (upd wm v1.toNatClampNeg v4))), (aWl, .inl (cyI, 64, .inl wl)), (aWd, .inl (cyI, 64, .inl wd))] H := hP
  have hD : va_D A [(aS, .inr (6, [.int sw, .int sl, .int sg, .int sp])), (aW, .inr (0, [.ref aT, .ref aS, .ref aWw, .ref aWr, .ref aWm, .ref aWl, .ref aWd])), (aWw, .inl (cyI, 4225, .inl ww)), (aWm, .inl (cyI, 64, .inl (upd wm v1.toNatClampNeg v4))), (aWl, .inl (cyI, 64, .inl wl)), (aWd, .inl (cyI, 64, .inl wd))] := hD
  refine lv_aload_n hx hb dX0_offerMatch_77 rfl (lv_at hl 0 rfl) ?_
  refine va_get (D := (dC, dI)) (ci := 0) (v := .ref aWl) (C := RX0) (T := TX0) (N := 7) hx hb hts inX0_offerMatch_wsX00 hown hK hP 1 rfl rfl 5 (by decide) (hts _ qX0_offerMatch_2) (fun _ h9 => h9) rfl dX0_offerMatch_78 ?_
  refine lv_iload_n hx hb dX0_offerMatch_81 rfl (lv_at hl 1 rfl) ?_
  refine lv_iload_n hx hb dX0_offerMatch_82 rfl (lv_at hl 3 rfl) ?_
  refine va_iast hx hb hK hP hD hS 4 0 rfl rfl hi_7 dX0_offerMatch_83 (fun H locs hP hD hS => ?_)
  have hP : va_P (dC, dI) vwCl [(aS, .inr (6, [.int sw, .int sl, .int sg, .int sp])), (aW, .inr (0, [.ref aT, .ref aS, .ref aWw, .ref aWr, .ref aWm, .ref aWl, .ref aWd])), (aWw, .inl (cyI, 4225, .inl ww)), (aWm, .inl (cyI, 64, .inl (upd wm v1.toNatClampNeg v4))), (aWl, .inl (cyI, 64, .inl (upd wl v1.toNatClampNeg v3))), (aWd, .inl (cyI, 64, .inl wd))] H := hP
  have hD : va_D A [(aS, .inr (6, [.int sw, .int sl, .int sg, .int sp])), (aW, .inr (0, [.ref aT, .ref aS, .ref aWw, .ref aWr, .ref aWm, .ref aWl, .ref aWd])), (aWw, .inl (cyI, 4225, .inl ww)), (aWm, .inl (cyI, 64, .inl (upd wm v1.toNatClampNeg v4))), (aWl, .inl (cyI, 64, .inl (upd wl v1.toNatClampNeg v3))), (aWd, .inl (cyI, 64, .inl wd))] := hD
  refine lv_aload_n hx hb dX0_offerMatch_84 rfl (lv_at hl 0 rfl) ?_
  refine va_get (D := (dC, dI)) (ci := 0) (v := .ref aWd) (C := RX0) (T := TX0) (N := 7) hx hb hts inX0_offerMatch_wsX00 hown hK hP 1 rfl rfl 6 (by decide) (hts _ qX0_offerMatch_3) (fun _ h9 => h9) rfl dX0_offerMatch_85 ?_
  refine lv_iload_n hx hb dX0_offerMatch_88 rfl (lv_at hl 1 rfl) ?_
  refine lv_iload_n hx hb dX0_offerMatch_89 rfl (lv_at hl 2 rfl) ?_
  refine va_iast hx hb hK hP hD hS 5 0 rfl rfl hi_7 dX0_offerMatch_90 (fun H locs hP hD hS => ?_)
  have hP : va_P (dC, dI) vwCl [(aS, .inr (6, [.int sw, .int sl, .int sg, .int sp])), (aW, .inr (0, [.ref aT, .ref aS, .ref aWw, .ref aWr, .ref aWm, .ref aWl, .ref aWd])), (aWw, .inl (cyI, 4225, .inl ww)), (aWm, .inl (cyI, 64, .inl (upd wm v1.toNatClampNeg v4))), (aWl, .inl (cyI, 64, .inl (upd wl v1.toNatClampNeg v3))), (aWd, .inl (cyI, 64, .inl (upd wd v1.toNatClampNeg v2)))] H := hP
  have hD : va_D A [(aS, .inr (6, [.int sw, .int sl, .int sg, .int sp])), (aW, .inr (0, [.ref aT, .ref aS, .ref aWw, .ref aWr, .ref aWm, .ref aWl, .ref aWd])), (aWw, .inl (cyI, 4225, .inl ww)), (aWm, .inl (cyI, 64, .inl (upd wm v1.toNatClampNeg v4))), (aWl, .inl (cyI, 64, .inl (upd wl v1.toNatClampNeg v3))), (aWd, .inl (cyI, 64, .inl (upd wd v1.toNatClampNeg v2)))] := hD
  exact hR91 _ _ _ h _ _ _ hP hD hS
def wpX0_offerMatch (sp : Int32) (ww : Nat → Int32) (wm : Nat → Int32) (wl : Nat → Int32) (wd : Nat → Int32) (v1 : Int32) (v2 : Int32) (v3 : Int32) (post : (Nat → Int32) → (Nat → Int32) → (Nat → Int32) → Prop) : Prop := wpX2_matchBits v2 v3 (fun (r_1 : Int32) => wpX0_tokenWeight sp r_1 (fun (r_2 : Int32) => vp_in (((v1 + v3) * 65) + v2) 4225 ∧ (vp_in v1 64 ∧ (((r_2 + (ww (((v1 + v3) * 65) + v2).toNatClampNeg)) = (wm v1.toNatClampNeg) → ((v3 ≤ (wl v1.toNatClampNeg) → (((r_2 + (ww (((v1 + v3) * 65) + v2).toNatClampNeg)) < (wm v1.toNatClampNeg) → (wpX0_offerMatch_69 v1 v2 v3 (r_2 + (ww (((v1 + v3) * 65) + v2).toNatClampNeg)) wm wl wd post)) ∧ (¬ (r_2 + (ww (((v1 + v3) * 65) + v2).toNatClampNeg)) < (wm v1.toNatClampNeg) → (post wm wl wd)))) ∧ (¬ v3 ≤ (wl v1.toNatClampNeg) → (((r_2 + (ww (((v1 + v3) * 65) + v2).toNatClampNeg)) < (wm v1.toNatClampNeg) → (wpX0_offerMatch_69 v1 v2 v3 (r_2 + (ww (((v1 + v3) * 65) + v2).toNatClampNeg)) wm wl wd post)) ∧ (¬ (r_2 + (ww (((v1 + v3) * 65) + v2).toNatClampNeg)) < (wm v1.toNatClampNeg) → (wpX0_offerMatch_69 v1 v2 v3 (r_2 + (ww (((v1 + v3) * 65) + v2).toNatClampNeg)) wm wl wd post)))))) ∧ (¬ (r_2 + (ww (((v1 + v3) * 65) + v2).toNatClampNeg)) = (wm v1.toNatClampNeg) → (((r_2 + (ww (((v1 + v3) * 65) + v2).toNatClampNeg)) < (wm v1.toNatClampNeg) → (wpX0_offerMatch_69 v1 v2 v3 (r_2 + (ww (((v1 + v3) * 65) + v2).toNatClampNeg)) wm wl wd post)) ∧ (¬ (r_2 + (ww (((v1 + v3) * 65) + v2).toNatClampNeg)) < (wm v1.toNatClampNeg) → (post wm wl wd))))))))
set_option maxHeartbeats 4000000 in
set_option maxRecDepth 100000 in
theorem mtX0_offerMatch (l : Launch) (dC : Nat → ClassId) (dI : Nat → Nat → Nat) (cyI : ClassId) {aT aS aW aWw aWr aWm aWl aWd : Nat} {sz : Nat} {sw : Int32} {sl : Int32} {sg : Int32} {sp : Int32} {ww : Nat → Int32} {wm : Nat → Int32} {wl : Nat → Int32} {wd : Nat → Int32} {v1 : Int32} {v2 : Int32} {v3 : Int32} {post : (Nat → Int32) → (Nat → Int32) → (Nat → Int32) → Prop} (h : wpX0_offerMatch sp ww wm wl wd v1 v2 v3 post) : Met l yX0_offerMatch wsX0_offerMatch ({ frames := 2, cells := 0, slots := 0, locals := 41 }) (va_Pc [.ref aW, .int v1, .int v2, .int v3] (wk_B (dC, dI) [(cyI, .int)] [(aS, .inr (6, [.int sw, .int sl, .int sg, .int sp])), (aW, .inr (0, [.ref aT, .ref aS, .ref aWw, .ref aWr, .ref aWm, .ref aWl, .ref aWd])), (aWw, .inl (cyI, 4225, .inl ww)), (aWm, .inl (cyI, 64, .inl wm)), (aWl, .inl (cyI, 64, .inl wl)), (aWd, .inl (cyI, 64, .inl wd))] sz)) (va_Qv (fun (u : (Nat → Int32) × (Nat → Int32) × (Nat → Int32)) => post u.1 u.2.1 u.2.2) (wk_C (dC, dI) [(cyI, .int)] (va_A [(aS, .inr (6, [.int sw, .int sl, .int sg, .int sp])), (aW, .inr (0, [.ref aT, .ref aS, .ref aWw, .ref aWr, .ref aWm, .ref aWl, .ref aWd])), (aWw, .inl (cyI, 4225, .inl ww)), (aWm, .inl (cyI, 64, .inl wm)), (aWl, .inl (cyI, 64, .inl wl)), (aWd, .inl (cyI, 64, .inl wd))] sz) (fun (u : (Nat → Int32) × (Nat → Int32) × (Nat → Int32)) => [(aS, .inr (6, [.int sw, .int sl, .int sg, .int sp])), (aW, .inr (0, [.ref aT, .ref aS, .ref aWw, .ref aWr, .ref aWm, .ref aWl, .ref aWd])), (aWw, .inl (cyI, 4225, .inl ww)), (aWm, .inl (cyI, 64, .inl (u.1))), (aWl, .inl (cyI, 64, .inl (u.2.1))), (aWd, .inl (cyI, 64, .inl (u.2.2)))])) (va_A [(aS, .inr (6, [.int sw, .int sl, .int sg, .int sp])), (aW, .inr (0, [.ref aT, .ref aS, .ref aWw, .ref aWr, .ref aWm, .ref aWl, .ref aWd])), (aWw, .inl (cyI, 4225, .inl ww)), (aWm, .inl (cyI, 64, .inl wm)), (aWl, .inl (cyI, 64, .inl wl)), (aWd, .inl (cyI, 64, .inl wd))] sz)) 0 0 (va_A [(aS, .inr (6, [.int sw, .int sl, .int sg, .int sp])), (aW, .inr (0, [.ref aT, .ref aS, .ref aWw, .ref aWr, .ref aWm, .ref aWl, .ref aWd])), (aWw, .inl (cyI, 4225, .inl ww)), (aWm, .inl (cyI, 64, .inl wm)), (aWl, .inl (cyI, 64, .inl wl)), (aWd, .inl (cyI, 64, .inl wd))] sz) := by
  refine Met.ofW (cc := cX0_offerMatch) (maxL := 6) (ret := none) (by decide) rfl ?_
  intro p e s m args below meth c s₁ B hml hv
  obtain ⟨rfl, hsz, hP, hK, hD0⟩ := hv
  have hx := B.exec
  have hb := B.bytes
  have hr := B.returns
  have hts := atoms_spec (ws := wsX0_offerMatch) B.pre
  have hown : s.vm.findClass RX0 = some m.cls := findClass_of_methodNamed B.named
  have hlocks := B.notSynchronized
  subst hsz
  have hD := hD0.self (sz := s.heap.size)
  generalize hAe : va_A [(aS, .inr (6, [.int sw, .int sl, .int sg, .int sp])), (aW, .inr (0, [.ref aT, .ref aS, .ref aWw, .ref aWr, .ref aWm, .ref aWl, .ref aWd])), (aWw, .inl (cyI, 4225, .inl ww)), (aWm, .inl (cyI, 64, .inl wm)), (aWl, .inl (cyI, 64, .inl wl)), (aWd, .inl (cyI, 64, .inl wd))] s.heap.size = A at hD ⊢
  have hA : ∀ q : Nat, s.heap.size ≤ q → A q := fun q h => by rw [← hAe]; exact Or.inr h
  have hS : va_S A s.heap s.heap [] := va_S.rf
  have hP : va_P (dC, dI) vwCl [(aS, .inr (6, [.int sw, .int sl, .int sg, .int sp])), (aW, .inr (0, [.ref aT, .ref aS, .ref aWw, .ref aWr, .ref aWm, .ref aWl, .ref aWd])), (aWw, .inl (cyI, 4225, .inl ww)), (aWm, .inl (cyI, 64, .inl wm)), (aWl, .inl (cyI, 64, .inl wl)), (aWd, .inl (cyI, 64, .inl wd))] s.heap := hP
  have hl := lv_entry ([.ref aW, .int v1, .int v2, .int v3]) (n := 6) (Nat.le_of_ble_eq_true rfl)
  rw [lg_entry_eq]
  generalize (lg_sl ([.ref aW, .int v1, .int v2, .int v3]) ++ List.replicate (6 - (lg_sl ([.ref aW, .int v1, .int v2, .int v3])).length) Slot.unset).toArray = ls at hl ⊢
  have hl : lv_has ls 6 [(0, .ref aW), (1, .int v1), (2, .int v2), (3, .int v3)] := hl
  have C0 : CallFix p m c cX0_offerMatch 6 s ([.ref aW, .int v1, .int v2, .int v3] : List Value).toArray wsX0_offerMatch RX0 := ⟨hx, hb, hml, hown, hts⟩
  unfold wpX0_offerMatch at h
  refine lv_aload_n hx hb dX0_offerMatch_0 rfl (lv_at hl 0 rfl) ?_
  refine lv_iload_n hx hb dX0_offerMatch_1 rfl (lv_at hl 2 rfl) ?_
  refine lv_iload_n hx hb dX0_offerMatch_2 rfl (lv_at hl 3 rfl) ?_
  refine wk_calli (wc := []) (wr := [(aS, .inr (6, [.int sw, .int sl, .int sg, .int sp])), (aW, .inr (0, [.ref aT, .ref aS, .ref aWw, .ref aWr, .ref aWm, .ref aWl, .ref aWd])), (aWw, .inl (cyI, 4225, .inl ww)), (aWm, .inl (cyI, 64, .inl wm)), (aWl, .inl (cyI, 64, .inl wl)), (aWd, .inl (cyI, 64, .inl wd))]) (va_runS (As := [.int v2, .int v3]) (rest := [.ref aW]) C0 (mtX2_matchBits l dC dI cyI (sz := _) (v0 := v2) (v1 := v3) h) (va_cwS 2 hts gX0_offerMatch_X2_matchBits rfl rfl rfl (by decide +kernel) ⟨(Nat.le_of_ble_eq_true rfl), (Nat.le_of_ble_eq_true rfl)⟩) (wk_preS (wc := []) hK hP hD [] rfl (by decide)) rfl rfl hl.1 rfl (lv_room (Nat.le_of_ble_eq_true rfl)) dX0_offerMatch_3 ⟨(Nat.le_of_ble_eq_true rfl), (Nat.le_of_ble_eq_true rfl)⟩) hP hD hS hA [] [0, 1, 2, 3, 4, 5] rfl rfl (by decide) (by decide) (fun r_1 u9 H locs h hP hD hS => ?_)
  have hP : va_P (dC, dI) vwCl [(aS, .inr (6, [.int sw, .int sl, .int sg, .int sp])), (aW, .inr (0, [.ref aT, .ref aS, .ref aWw, .ref aWr, .ref aWm, .ref aWl, .ref aWd])), (aWw, .inl (cyI, 4225, .inl ww)), (aWm, .inl (cyI, 64, .inl wm)), (aWl, .inl (cyI, 64, .inl wl)), (aWd, .inl (cyI, 64, .inl wd))] H := hP
  have hD : va_D A [(aS, .inr (6, [.int sw, .int sl, .int sg, .int sp])), (aW, .inr (0, [.ref aT, .ref aS, .ref aWw, .ref aWr, .ref aWm, .ref aWl, .ref aWd])), (aWw, .inl (cyI, 4225, .inl ww)), (aWm, .inl (cyI, 64, .inl wm)), (aWl, .inl (cyI, 64, .inl wl)), (aWd, .inl (cyI, 64, .inl wd))] := hD
  refine wk_calli (wc := [(aS, .inr (6, [.int sw, .int sl, .int sg, .int sp])), (aW, .inr (0, [.ref aT, .ref aS, .ref aWw, .ref aWr, .ref aWm, .ref aWl, .ref aWd]))]) (wr := [(aWw, .inl (cyI, 4225, .inl ww)), (aWm, .inl (cyI, 64, .inl wm)), (aWl, .inl (cyI, 64, .inl wl)), (aWd, .inl (cyI, 64, .inl wd))]) (va_runV (As := [.int r_1]) (rest := []) C0 (mtX0_tokenWeight l dC dI cyI (aT := aT) (aS := aS) (aW := aW) (aWw := aWw) (aWr := aWr) (aWm := aWm) (aWl := aWl) (aWd := aWd) (sz := _) (sw := sw) (sl := sl) (sg := sg) (sp := sp) (v1 := r_1) h) (cwV 1 hts gX0_offerMatch_X0_tokenWeight rfl rfl rfl (by decide +kernel) ⟨(Nat.le_of_ble_eq_true rfl), (Nat.le_of_ble_eq_true rfl)⟩) (wk_preV (wc := [(aS, .inr (6, [.int sw, .int sl, .int sg, .int sp])), (aW, .inr (0, [.ref aT, .ref aS, .ref aWw, .ref aWr, .ref aWm, .ref aWl, .ref aWd]))]) hK hP hD [0, 1] rfl (by decide) (va_recv hK hP (ci := 0) (q0 := 1) rfl rfl)) rfl rfl hl.1 rfl (lv_room (Nat.le_of_ble_eq_true rfl)) dX0_offerMatch_6 ⟨(Nat.le_of_ble_eq_true rfl), (Nat.le_of_ble_eq_true rfl)⟩) hP hD hS hA [0, 1] [2, 3, 4, 5] rfl rfl (by decide) (by decide) (fun r_2 u9 H locs h hP hD hS => ?_)
  have hP : va_P (dC, dI) vwCl [(aWw, .inl (cyI, 4225, .inl ww)), (aWm, .inl (cyI, 64, .inl wm)), (aWl, .inl (cyI, 64, .inl wl)), (aWd, .inl (cyI, 64, .inl wd)), (aS, .inr (6, [.int sw, .int sl, .int sg, .int sp])), (aW, .inr (0, [.ref aT, .ref aS, .ref aWw, .ref aWr, .ref aWm, .ref aWl, .ref aWd]))] H := hP
  have hD : va_D A [(aWw, .inl (cyI, 4225, .inl ww)), (aWm, .inl (cyI, 64, .inl wm)), (aWl, .inl (cyI, 64, .inl wl)), (aWd, .inl (cyI, 64, .inl wd)), (aS, .inr (6, [.int sw, .int sl, .int sg, .int sp])), (aW, .inr (0, [.ref aT, .ref aS, .ref aWw, .ref aWr, .ref aWm, .ref aWl, .ref aWd]))] := hD
  refine lv_aload_n hx hb dX0_offerMatch_9 rfl (lv_at hl 0 rfl) ?_
  refine va_get (D := (dC, dI)) (ci := 0) (v := .ref aWw) (C := RX0) (T := TX0) (N := 7) hx hb hts inX0_offerMatch_wsX00 hown hK hP 5 rfl rfl 2 (by decide) (hts _ qX0_offerMatch_0) (fun _ h9 => h9) rfl dX0_offerMatch_10 ?_
  refine lv_iload_n hx hb dX0_offerMatch_13 rfl (lv_at hl 1 rfl) ?_
  refine lv_iload_n hx hb dX0_offerMatch_14 rfl (lv_at hl 3 rfl) ?_
  refine lv_iadd hx hb dX0_offerMatch_15 ?_
  refine lv_bipush (v := 65) hx hb dX0_offerMatch_16 (by decide) ?_
  refine lv_imul hx hb dX0_offerMatch_18 ?_
  refine lv_iload_n hx hb dX0_offerMatch_19 rfl (lv_at hl 2 rfl) ?_
  refine lv_iadd hx hb dX0_offerMatch_20 ?_
  obtain ⟨hi_3, h⟩ := h
  refine va_iald hx hb hK hP 0 0 rfl rfl hi_3 dX0_offerMatch_21 ?_
  refine lv_iadd hx hb dX0_offerMatch_22 ?_
  refine lv_istore (lv' := [(4, .int (r_2 + (ww (((v1 + v3) * 65) + v2).toNatClampNeg))), (0, .ref aW), (1, .int v1), (2, .int v2), (3, .int v3)]) hx hb dX0_offerMatch_23 hl (by decide) rfl (fun ls hl => ?_)
  refine lv_iload hx hb dX0_offerMatch_25 (lv_at hl 0 rfl) ?_
  refine lv_aload_n hx hb dX0_offerMatch_27 rfl (lv_at hl 1 rfl) ?_
  refine va_get (D := (dC, dI)) (ci := 0) (v := .ref aWm) (C := RX0) (T := TX0) (N := 7) hx hb hts inX0_offerMatch_wsX00 hown hK hP 5 rfl rfl 4 (by decide) (hts _ qX0_offerMatch_1) (fun _ h9 => h9) rfl dX0_offerMatch_28 ?_
  refine lv_iload_n hx hb dX0_offerMatch_31 rfl (lv_at hl 2 rfl) ?_
  obtain ⟨hi_4, h⟩ := h
  refine va_iald hx hb hK hP 1 0 rfl rfl hi_4 dX0_offerMatch_32 ?_
  refine lv_icmp_ne (tgt := 50) hx hb dX0_offerMatch_33 (by decide) (fun c_5 => ?_) (fun c_5 => ?_)
  · replace h := h.2 c_5
    refine lv_iconst (v := 0) hx hb dX0_offerMatch_50 (by decide) ?_
    refine lv_istore (lv' := [(5, .int 0), (4, .int (r_2 + (ww (((v1 + v3) * 65) + v2).toNatClampNeg))), (0, .ref aW), (1, .int v1), (2, .int v2), (3, .int v3)]) hx hb dX0_offerMatch_51 hl (by decide) rfl (fun ls hl => ?_)
    refine lv_iload hx hb dX0_offerMatch_53 (lv_at hl 1 rfl) ?_
    refine lv_aload_n hx hb dX0_offerMatch_55 rfl (lv_at hl 2 rfl) ?_
    refine va_get (D := (dC, dI)) (ci := 0) (v := .ref aWm) (C := RX0) (T := TX0) (N := 7) hx hb hts inX0_offerMatch_wsX00 hown hK hP 5 rfl rfl 4 (by decide) (hts _ qX0_offerMatch_1) (fun _ h9 => h9) rfl dX0_offerMatch_56 ?_
    refine lv_iload_n hx hb dX0_offerMatch_59 rfl (lv_at hl 3 rfl) ?_
    refine va_iald hx hb hK hP 1 0 rfl rfl hi_4 dX0_offerMatch_60 ?_
    refine lv_icmp_lt (tgt := 69) hx hb dX0_offerMatch_61 (by decide) (fun c_6 => ?_) (fun c_6 => ?_)
    · replace h := h.1 c_6
      refine wjX0_offerMatch_69 C0 hA hK h _ _ _ (hP.sub [4, 5, 0, 1, 2, 3] rfl) (hD.sub [4, 5, 0, 1, 2, 3] (by decide) rfl) hS (lv_sub hl [2, 3, 4, 5, 1] rfl) ?_
      · intro wm_8 wl_9 wd_10 h H locs ls hP hD hS
        have hP9 : va_P (dC, dI) vwCl [(aS, .inr (6, [.int sw, .int sl, .int sg, .int sp])), (aW, .inr (0, [.ref aT, .ref aS, .ref aWw, .ref aWr, .ref aWm, .ref aWl, .ref aWd])), (aWw, .inl (cyI, 4225, .inl ww)), (aWm, .inl (cyI, 64, .inl wm_8)), (aWl, .inl (cyI, 64, .inl wl_9)), (aWd, .inl (cyI, 64, .inl wd_10))] _ := hP
        have hD9 : va_D A [(aS, .inr (6, [.int sw, .int sl, .int sg, .int sp])), (aW, .inr (0, [.ref aT, .ref aS, .ref aWw, .ref aWr, .ref aWm, .ref aWl, .ref aWd])), (aWw, .inl (cyI, 4225, .inl ww)), (aWm, .inl (cyI, 64, .inl wm_8)), (aWl, .inl (cyI, 64, .inl wl_9)), (aWd, .inl (cyI, 64, .inl wd_10))] := hD
        exact W.vret hx hb hr (fun t ht hW => ⟨⟨(wm_8, wl_9, wd_10), rfl, h, by rw [ht]; exact hP9, va_K.moved hW.alike hK, hD9⟩, hS.F ht⟩) hS.2.2 dX0_offerMatch_91
    · replace h := h.2 c_6
      refine lv_iload hx hb dX0_offerMatch_64 (lv_at hl 0 rfl) ?_
      refine lv_if_eq (tgt := 91) hx hb dX0_offerMatch_66 (by decide) (fun _ => ?_) (fun c9 => absurd (by decide) c9)
      have hP9 : va_P (dC, dI) vwCl [(aS, .inr (6, [.int sw, .int sl, .int sg, .int sp])), (aW, .inr (0, [.ref aT, .ref aS, .ref aWw, .ref aWr, .ref aWm, .ref aWl, .ref aWd])), (aWw, .inl (cyI, 4225, .inl ww)), (aWm, .inl (cyI, 64, .inl wm)), (aWl, .inl (cyI, 64, .inl wl)), (aWd, .inl (cyI, 64, .inl wd))] _ := (hP.sub [4, 5, 0, 1, 2, 3] rfl)
      have hD9 : va_D A [(aS, .inr (6, [.int sw, .int sl, .int sg, .int sp])), (aW, .inr (0, [.ref aT, .ref aS, .ref aWw, .ref aWr, .ref aWm, .ref aWl, .ref aWd])), (aWw, .inl (cyI, 4225, .inl ww)), (aWm, .inl (cyI, 64, .inl wm)), (aWl, .inl (cyI, 64, .inl wl)), (aWd, .inl (cyI, 64, .inl wd))] := (hD.sub [4, 5, 0, 1, 2, 3] (by decide) rfl)
      exact W.vret hx hb hr (fun t ht hW => ⟨⟨(wm, wl, wd), rfl, h, by rw [ht]; exact hP9, va_K.moved hW.alike hK, hD9⟩, hS.F ht⟩) hS.2.2 dX0_offerMatch_91
  · replace h := h.1 c_5
    refine lv_iload_n hx hb dX0_offerMatch_36 rfl (lv_at hl 4 rfl) ?_
    refine lv_aload_n hx hb dX0_offerMatch_37 rfl (lv_at hl 1 rfl) ?_
    refine va_get (D := (dC, dI)) (ci := 0) (v := .ref aWl) (C := RX0) (T := TX0) (N := 7) hx hb hts inX0_offerMatch_wsX00 hown hK hP 5 rfl rfl 5 (by decide) (hts _ qX0_offerMatch_2) (fun _ h9 => h9) rfl dX0_offerMatch_38 ?_
    refine lv_iload_n hx hb dX0_offerMatch_41 rfl (lv_at hl 2 rfl) ?_
    refine va_iald hx hb hK hP 2 0 rfl rfl hi_4 dX0_offerMatch_42 ?_
    refine lv_icmp_le (tgt := 50) hx hb dX0_offerMatch_43 (by decide) (fun c_11 => ?_) (fun c_11 => ?_)
    · replace h := h.1 c_11
      refine lv_iconst (v := 0) hx hb dX0_offerMatch_50 (by decide) ?_
      refine lv_istore (lv' := [(5, .int 0), (4, .int (r_2 + (ww (((v1 + v3) * 65) + v2).toNatClampNeg))), (0, .ref aW), (1, .int v1), (2, .int v2), (3, .int v3)]) hx hb dX0_offerMatch_51 hl (by decide) rfl (fun ls hl => ?_)
      refine lv_iload hx hb dX0_offerMatch_53 (lv_at hl 1 rfl) ?_
      refine lv_aload_n hx hb dX0_offerMatch_55 rfl (lv_at hl 2 rfl) ?_
      refine va_get (D := (dC, dI)) (ci := 0) (v := .ref aWm) (C := RX0) (T := TX0) (N := 7) hx hb hts inX0_offerMatch_wsX00 hown hK hP 5 rfl rfl 4 (by decide) (hts _ qX0_offerMatch_1) (fun _ h9 => h9) rfl dX0_offerMatch_56 ?_
      refine lv_iload_n hx hb dX0_offerMatch_59 rfl (lv_at hl 3 rfl) ?_
      refine va_iald hx hb hK hP 1 0 rfl rfl hi_4 dX0_offerMatch_60 ?_
      refine lv_icmp_lt (tgt := 69) hx hb dX0_offerMatch_61 (by decide) (fun c_12 => ?_) (fun c_12 => ?_)
      · replace h := h.1 c_12
        refine wjX0_offerMatch_69 C0 hA hK h _ _ _ (hP.sub [4, 5, 0, 1, 2, 3] rfl) (hD.sub [4, 5, 0, 1, 2, 3] (by decide) rfl) hS (lv_sub hl [2, 3, 4, 5, 1] rfl) ?_
        · intro wm_13 wl_14 wd_15 h H locs ls hP hD hS
          have hP9 : va_P (dC, dI) vwCl [(aS, .inr (6, [.int sw, .int sl, .int sg, .int sp])), (aW, .inr (0, [.ref aT, .ref aS, .ref aWw, .ref aWr, .ref aWm, .ref aWl, .ref aWd])), (aWw, .inl (cyI, 4225, .inl ww)), (aWm, .inl (cyI, 64, .inl wm_13)), (aWl, .inl (cyI, 64, .inl wl_14)), (aWd, .inl (cyI, 64, .inl wd_15))] _ := hP
          have hD9 : va_D A [(aS, .inr (6, [.int sw, .int sl, .int sg, .int sp])), (aW, .inr (0, [.ref aT, .ref aS, .ref aWw, .ref aWr, .ref aWm, .ref aWl, .ref aWd])), (aWw, .inl (cyI, 4225, .inl ww)), (aWm, .inl (cyI, 64, .inl wm_13)), (aWl, .inl (cyI, 64, .inl wl_14)), (aWd, .inl (cyI, 64, .inl wd_15))] := hD
          exact W.vret hx hb hr (fun t ht hW => ⟨⟨(wm_13, wl_14, wd_15), rfl, h, by rw [ht]; exact hP9, va_K.moved hW.alike hK, hD9⟩, hS.F ht⟩) hS.2.2 dX0_offerMatch_91
      · replace h := h.2 c_12
        refine lv_iload hx hb dX0_offerMatch_64 (lv_at hl 0 rfl) ?_
        refine lv_if_eq (tgt := 91) hx hb dX0_offerMatch_66 (by decide) (fun _ => ?_) (fun c9 => absurd (by decide) c9)
        have hP9 : va_P (dC, dI) vwCl [(aS, .inr (6, [.int sw, .int sl, .int sg, .int sp])), (aW, .inr (0, [.ref aT, .ref aS, .ref aWw, .ref aWr, .ref aWm, .ref aWl, .ref aWd])), (aWw, .inl (cyI, 4225, .inl ww)), (aWm, .inl (cyI, 64, .inl wm)), (aWl, .inl (cyI, 64, .inl wl)), (aWd, .inl (cyI, 64, .inl wd))] _ := (hP.sub [4, 5, 0, 1, 2, 3] rfl)
        have hD9 : va_D A [(aS, .inr (6, [.int sw, .int sl, .int sg, .int sp])), (aW, .inr (0, [.ref aT, .ref aS, .ref aWw, .ref aWr, .ref aWm, .ref aWl, .ref aWd])), (aWw, .inl (cyI, 4225, .inl ww)), (aWm, .inl (cyI, 64, .inl wm)), (aWl, .inl (cyI, 64, .inl wl)), (aWd, .inl (cyI, 64, .inl wd))] := (hD.sub [4, 5, 0, 1, 2, 3] (by decide) rfl)
        exact W.vret hx hb hr (fun t ht hW => ⟨⟨(wm, wl, wd), rfl, h, by rw [ht]; exact hP9, va_K.moved hW.alike hK, hD9⟩, hS.F ht⟩) hS.2.2 dX0_offerMatch_91
    · replace h := h.2 c_11
      refine lv_iconst (v := 1) hx hb dX0_offerMatch_46 (by decide) ?_
      refine lv_goto (tgt := 51) hx hb dX0_offerMatch_47 (by decide) ?_
      refine lv_istore (lv' := [(5, .int 1), (4, .int (r_2 + (ww (((v1 + v3) * 65) + v2).toNatClampNeg))), (0, .ref aW), (1, .int v1), (2, .int v2), (3, .int v3)]) hx hb dX0_offerMatch_51 hl (by decide) rfl (fun ls hl => ?_)
      refine lv_iload hx hb dX0_offerMatch_53 (lv_at hl 1 rfl) ?_
      refine lv_aload_n hx hb dX0_offerMatch_55 rfl (lv_at hl 2 rfl) ?_
      refine va_get (D := (dC, dI)) (ci := 0) (v := .ref aWm) (C := RX0) (T := TX0) (N := 7) hx hb hts inX0_offerMatch_wsX00 hown hK hP 5 rfl rfl 4 (by decide) (hts _ qX0_offerMatch_1) (fun _ h9 => h9) rfl dX0_offerMatch_56 ?_
      refine lv_iload_n hx hb dX0_offerMatch_59 rfl (lv_at hl 3 rfl) ?_
      refine va_iald hx hb hK hP 1 0 rfl rfl hi_4 dX0_offerMatch_60 ?_
      refine lv_icmp_lt (tgt := 69) hx hb dX0_offerMatch_61 (by decide) (fun c_16 => ?_) (fun c_16 => ?_)
      · replace h := h.1 c_16
        refine wjX0_offerMatch_69 C0 hA hK h _ _ _ (hP.sub [4, 5, 0, 1, 2, 3] rfl) (hD.sub [4, 5, 0, 1, 2, 3] (by decide) rfl) hS (lv_sub hl [2, 3, 4, 5, 1] rfl) ?_
        · intro wm_17 wl_18 wd_19 h H locs ls hP hD hS
          have hP9 : va_P (dC, dI) vwCl [(aS, .inr (6, [.int sw, .int sl, .int sg, .int sp])), (aW, .inr (0, [.ref aT, .ref aS, .ref aWw, .ref aWr, .ref aWm, .ref aWl, .ref aWd])), (aWw, .inl (cyI, 4225, .inl ww)), (aWm, .inl (cyI, 64, .inl wm_17)), (aWl, .inl (cyI, 64, .inl wl_18)), (aWd, .inl (cyI, 64, .inl wd_19))] _ := hP
          have hD9 : va_D A [(aS, .inr (6, [.int sw, .int sl, .int sg, .int sp])), (aW, .inr (0, [.ref aT, .ref aS, .ref aWw, .ref aWr, .ref aWm, .ref aWl, .ref aWd])), (aWw, .inl (cyI, 4225, .inl ww)), (aWm, .inl (cyI, 64, .inl wm_17)), (aWl, .inl (cyI, 64, .inl wl_18)), (aWd, .inl (cyI, 64, .inl wd_19))] := hD
          exact W.vret hx hb hr (fun t ht hW => ⟨⟨(wm_17, wl_18, wd_19), rfl, h, by rw [ht]; exact hP9, va_K.moved hW.alike hK, hD9⟩, hS.F ht⟩) hS.2.2 dX0_offerMatch_91
      · replace h := h.2 c_16
        refine lv_iload hx hb dX0_offerMatch_64 (lv_at hl 0 rfl) ?_
        refine lv_if_eq (tgt := 91) hx hb dX0_offerMatch_66 (by decide) (fun c9 => absurd c9 (by decide)) (fun _ => ?_)
        refine wjX0_offerMatch_69 C0 hA hK h _ _ _ (hP.sub [4, 5, 0, 1, 2, 3] rfl) (hD.sub [4, 5, 0, 1, 2, 3] (by decide) rfl) hS (lv_sub hl [2, 3, 4, 5, 1] rfl) ?_
        · intro wm_20 wl_21 wd_22 h H locs ls hP hD hS
          have hP9 : va_P (dC, dI) vwCl [(aS, .inr (6, [.int sw, .int sl, .int sg, .int sp])), (aW, .inr (0, [.ref aT, .ref aS, .ref aWw, .ref aWr, .ref aWm, .ref aWl, .ref aWd])), (aWw, .inl (cyI, 4225, .inl ww)), (aWm, .inl (cyI, 64, .inl wm_20)), (aWl, .inl (cyI, 64, .inl wl_21)), (aWd, .inl (cyI, 64, .inl wd_22))] _ := hP
          have hD9 : va_D A [(aS, .inr (6, [.int sw, .int sl, .int sg, .int sp])), (aW, .inr (0, [.ref aT, .ref aS, .ref aWw, .ref aWr, .ref aWm, .ref aWl, .ref aWd])), (aWw, .inl (cyI, 4225, .inl ww)), (aWm, .inl (cyI, 64, .inl wm_20)), (aWl, .inl (cyI, 64, .inl wl_21)), (aWd, .inl (cyI, 64, .inl wd_22))] := hD
          exact W.vret hx hb hr (fun t ht hW => ⟨⟨(wm_20, wl_21, wd_22), rfl, h, by rw [ht]; exact hP9, va_K.moved hW.alike hK, hD9⟩, hS.F ht⟩) hS.2.2 dX0_offerMatch_91
-- X0_weighMatches
theorem qX0_weighMatches_0 : Cond.fieldLink RX0 18 "MatchCoder$BestWay" "matchWeights" "[I" ∈ wsX0_weighMatches := (List.mem_cons_of_mem _ (List.mem_append_left _ (List.mem_append_left _ (List.mem_append_left _ (List.mem_of_getElem? (i := 0) rfl)))))
theorem qX0_weighMatches_1 : Cond.constant RX0 84 (1073741824) ∈ wsX0_weighMatches := (List.mem_cons_of_mem _ (List.mem_append_left _ (List.mem_append_left _ (List.mem_append_left _ (List.mem_of_getElem? (i := 1) rfl)))))
theorem qX0_weighMatches_2 : Cond.fieldLink RX0 21 "MatchCoder$BestWay" "matchLengths" "[I" ∈ wsX0_weighMatches := (List.mem_cons_of_mem _ (List.mem_append_left _ (List.mem_append_left _ (List.mem_append_left _ (List.mem_of_getElem? (i := 2) rfl)))))
theorem qX0_weighMatches_3 : Cond.fieldLink RX0 24 "MatchCoder$BestWay" "matchDistances" "[I" ∈ wsX0_weighMatches := (List.mem_cons_of_mem _ (List.mem_append_left _ (List.mem_append_left _ (List.mem_append_left _ (List.mem_of_getElem? (i := 3) rfl)))))
theorem qX0_weighMatches_4 : Cond.fieldLink RX0 15 "MatchCoder$BestWay" "runs" "[I" ∈ wsX0_weighMatches := (List.mem_cons_of_mem _ (List.mem_append_left _ (List.mem_append_left _ (List.mem_append_left _ (List.mem_of_getElem? (i := 4) rfl)))))
theorem qX0_weighMatches_5 : Cond.fieldLink RX0 31 "MatchCoder$BestWay" "settings" "LMatchCoder$Settings;" ∈ wsX0_weighMatches := (List.mem_cons_of_mem _ (List.mem_append_left _ (List.mem_append_left _ (List.mem_append_left _ (List.mem_of_getElem? (i := 5) rfl)))))
theorem qX0_weighMatches_6 : Cond.fieldLink RX0 85 "MatchCoder$Settings" "greatest" "I" ∈ wsX0_weighMatches := (List.mem_cons_of_mem _ (List.mem_append_left _ (List.mem_append_left _ (List.mem_append_left _ (List.mem_of_getElem? (i := 6) rfl)))))
theorem qX0_weighMatches_7 : Cond.methodLink RX0 66 Lib.Math.min.name ∈ wsX0_weighMatches := (List.mem_cons_of_mem _ (List.mem_append_left _ (List.mem_append_left _ (List.mem_append_left _ (List.mem_of_getElem? (i := 7) rfl)))))
theorem qX0_weighMatches_8 : Cond.static Lib.Math.min.name ∈ wsX0_weighMatches := (List.mem_cons_of_mem _ (List.mem_append_left _ (List.mem_append_left _ (List.mem_append_left _ (List.mem_of_getElem? (i := 8) rfl)))))
theorem qX0_weighMatches_9 : Cond.initialized "java/lang/Math" ∈ wsX0_weighMatches := (List.mem_cons_of_mem _ (List.mem_append_left _ (List.mem_append_left _ (List.mem_append_left _ (List.mem_of_getElem? (i := 9) rfl)))))
theorem qX0_weighMatches_10 : Cond.code Lib.Math.min.name Lib.Math.min.code 2 (some .int) ∈ wsX0_weighMatches := (List.mem_cons_of_mem _ (List.mem_append_left _ (List.mem_append_left _ (List.mem_append_left _ (List.mem_of_getElem? (i := 10) rfl)))))
theorem qX0_weighMatches_11 : Cond.fieldLink RX0 88 "MatchCoder$Settings" "least" "I" ∈ wsX0_weighMatches := (List.mem_cons_of_mem _ (List.mem_append_left _ (List.mem_append_left _ (List.mem_append_left _ (List.mem_of_getElem? (i := 11) rfl)))))
theorem inX0_weighMatches_wsX00 : ∀ w ∈ wsX00, w ∈ wsX0_weighMatches := fun _ h => List.mem_cons_of_mem _ (List.mem_append_left _ (List.mem_append_right _ h))
theorem inX0_weighMatches_wsX70 : ∀ w ∈ wsX70, w ∈ wsX0_weighMatches := fun _ h => List.mem_cons_of_mem _ (List.mem_append_right _ h)
def wpX0_weighMatches_56 (v1 : Int32) (v3 : Int32) (v4 : Int32) (sp : Int32) (ww : Nat → Int32) (K77 : (Nat → Int32) → (Nat → Int32) → (Nat → Int32) → Prop) : Nat → Int32 → (Nat → Int32) → (Nat → Int32) → (Nat → Int32) → Prop
  | 0, _, _, _, _ => False
  | n56 + 1, v5, wm, wl, wd => (v4 < v5 → (K77 wm wl wd)) ∧ (¬ v4 < v5 → (wpX0_offerMatch sp ww wm wl wd v1 v3 v5 (fun (wm_5 : Nat → Int32) (wl_6 : Nat → Int32) (wd_7 : Nat → Int32) => wpX0_weighMatches_56 v1 v3 v4 sp ww K77 n56 (v5 + 1) wm_5 wl_6 wd_7)))
set_option maxHeartbeats 4000000 in
set_option maxRecDepth 100000 in
theorem wlX0_weighMatches_56 {p : Program} {l : Launch} {e : Env} {s : State} {m : MethodId} {args : Array Value} {below : List Frame} {meth : Method} {c : Code} {A : Nat → Prop} {Q : State → Prop} {dC : Nat → ClassId} {dI : Nat → Nat → Nat} {cyI : ClassId} {aT aS aW aWw aWr aWm aWl aWd : Nat} {v1 : Int32} {v2 : Int32} {v3 : Int32} {v4 : Int32} {sw : Int32} {sl : Int32} {sg : Int32} {sp : Int32} {ww : Nat → Int32} {wr : Nat → Int32} {K77 : (Nat → Int32) → (Nat → Int32) → (Nat → Int32) → Prop} (C0 : CallFix p m c cX0_weighMatches 6 s args wsX0_weighMatches RX0) (hA : ∀ q : Nat, s.heap.size ≤ q → A q) (hK : va_K (dC, dI) vwCl [(cyI, .int)] s) (hK77 : ∀ (wm : Nat → Int32) (wl : Nat → Int32) (wd : Nat → Int32), K77 wm wl wd → ∀ (H : Heap) (locs : List Loc) (ls : Array Slot), va_P (dC, dI) vwCl [(aS, .inr (6, [.int sw, .int sl, .int sg, .int sp])), (aW, .inr (0, [.ref aT, .ref aS, .ref aWw, .ref aWr, .ref aWm, .ref aWl, .ref aWd])), (aWw, .inl (cyI, 4225, .inl ww)), (aWr, .inl (cyI, 65, .inl wr)), (aWm, .inl (cyI, 64, .inl wm)), (aWl, .inl (cyI, 64, .inl wl)), (aWd, .inl (cyI, 64, .inl wd))] H → va_D A [(aS, .inr (6, [.int sw, .int sl, .int sg, .int sp])), (aW, .inr (0, [.ref aT, .ref aS, .ref aWw, .ref aWr, .ref aWm, .ref aWl, .ref aWd])), (aWw, .inl (cyI, 4225, .inl ww)), (aWr, .inl (cyI, 65, .inl wr)), (aWm, .inl (cyI, 64, .inl wm)), (aWl, .inl (cyI, 64, .inl wl)), (aWd, .inl (cyI, 64, .inl wd))] → va_S A s.heap H locs → lv_has ls 6 [(0, .ref aW), (1, .int v1), (2, .int v2), (3, .int v3)] → W p l e ({ frames := 3, cells := 0, slots := 0, locals := 66 } : Room) s m args below meth c H locs 0 0 Q (F0 m 77 ls [])) :
    ∀ (n56 : Nat) (v5 : Int32) (wm : Nat → Int32) (wl : Nat → Int32) (wd : Nat → Int32), wpX0_weighMatches_56 v1 v3 v4 sp ww K77 n56 v5 wm wl wd → ∀ (H : Heap) (locs : List Loc) (ls : Array Slot), va_P (dC, dI) vwCl [(aS, .inr (6, [.int sw, .int sl, .int sg, .int sp])), (aW, .inr (0, [.ref aT, .ref aS, .ref aWw, .ref aWr, .ref aWm, .ref aWl, .ref aWd])), (aWw, .inl (cyI, 4225, .inl ww)), (aWr, .inl (cyI, 65, .inl wr)), (aWm, .inl (cyI, 64, .inl wm)), (aWl, .inl (cyI, 64, .inl wl)), (aWd, .inl (cyI, 64, .inl wd))] H → va_D A [(aS, .inr (6, [.int sw, .int sl, .int sg, .int sp])), (aW, .inr (0, [.ref aT, .ref aS, .ref aWw, .ref aWr, .ref aWm, .ref aWl, .ref aWd])), (aWw, .inl (cyI, 4225, .inl ww)), (aWr, .inl (cyI, 65, .inl wr)), (aWm, .inl (cyI, 64, .inl wm)), (aWl, .inl (cyI, 64, .inl wl)), (aWd, .inl (cyI, 64, .inl wd))] → va_S A s.heap H locs → lv_has ls 6 [(0, .ref aW), (1, .int v1), (2, .int v2), (3, .int v3), (4, .int v4), (5, .int v5)] → W p l e ({ frames := 3, cells := 0, slots := 0, locals := 66 } : Room) s m args below meth c H locs 0 0 Q (F0 m 56 ls []) := by
  obtain ⟨hx, hb, hml, hown, hts⟩ := id C0
  intro n56
  induction n56 with
  | zero => intro _ _ _ _ h; exact h.elim
  | succ n56 ih56 =>
    intro v5 wm wl wd h H locs ls hP hD hS hl
    rw [wpX0_weighMatches_56] at h
    refine lv_iload hx hb dX0_weighMatches_56 (lv_at hl 5 rfl) ?_
    refine lv_iload hx hb dX0_weighMatches_58 (lv_at hl 4 rfl) ?_
    refine lv_icmp_gt (tgt := 77) hx hb dX0_weighMatches_60 (by decide) (fun c_4 => ?_) (fun c_4 => ?_)
    · replace h := h.1 c_4
      exact hK77 _ _ _ h _ _ _ hP hD hS (lv_sub hl [0, 1, 2, 3] rfl)
    · replace h := h.2 c_4
      refine lv_aload_n hx hb dX0_weighMatches_63 rfl (lv_at hl 0 rfl) ?_
      refine lv_iload_n hx hb dX0_weighMatches_64 rfl (lv_at hl 1 rfl) ?_
      refine lv_iload_n hx hb dX0_weighMatches_65 rfl (lv_at hl 3 rfl) ?_
      refine lv_iload hx hb dX0_weighMatches_66 (lv_at hl 5 rfl) ?_
      refine wk_callv (wc := [(aS, .inr (6, [.int sw, .int sl, .int sg, .int sp])), (aW, .inr (0, [.ref aT, .ref aS, .ref aWw, .ref aWr, .ref aWm, .ref aWl, .ref aWd])), (aWw, .inl (cyI, 4225, .inl ww)), (aWm, .inl (cyI, 64, .inl wm)), (aWl, .inl (cyI, 64, .inl wl)), (aWd, .inl (cyI, 64, .inl wd))]) (wr := [(aWr, .inl (cyI, 65, .inl wr))]) (va_runV (As := [.int v1, .int v3, .int v5]) (rest := []) C0 (mtX0_offerMatch l dC dI cyI (aT := aT) (aS := aS) (aW := aW) (aWw := aWw) (aWr := aWr) (aWm := aWm) (aWl := aWl) (aWd := aWd) (sz := _) (sw := sw) (sl := sl) (sg := sg) (sp := sp) (ww := ww) (wm := wm) (wl := wl) (wd := wd) (v1 := v1) (v2 := v3) (v3 := v5) h) (cwV 3 hts gX0_weighMatches_X0_offerMatch rfl rfl rfl (by decide +kernel) ⟨(Nat.le_of_ble_eq_true rfl), (Nat.le_of_ble_eq_true rfl)⟩) (wk_preV (wc := [(aS, .inr (6, [.int sw, .int sl, .int sg, .int sp])), (aW, .inr (0, [.ref aT, .ref aS, .ref aWw, .ref aWr, .ref aWm, .ref aWl, .ref aWd])), (aWw, .inl (cyI, 4225, .inl ww)), (aWm, .inl (cyI, 64, .inl wm)), (aWl, .inl (cyI, 64, .inl wl)), (aWd, .inl (cyI, 64, .inl wd))]) hK hP hD [0, 1, 2, 4, 5, 6] rfl (by decide) (va_recv hK hP (ci := 0) (q0 := 1) rfl rfl)) rfl rfl hl.1 rfl (lv_room (Nat.le_of_ble_eq_true rfl)) dX0_weighMatches_68 ⟨(Nat.le_of_ble_eq_true rfl), (Nat.le_of_ble_eq_true rfl)⟩) hP hD hS hA [0, 1, 2, 4, 5, 6] [3] rfl rfl (by decide) (by decide) (fun u9 H locs h hP hD hS => ?_)
      obtain ⟨wm_5, wl_6, wd_7⟩ := u9
      have hP : va_P (dC, dI) vwCl [(aWr, .inl (cyI, 65, .inl wr)), (aS, .inr (6, [.int sw, .int sl, .int sg, .int sp])), (aW, .inr (0, [.ref aT, .ref aS, .ref aWw, .ref aWr, .ref aWm, .ref aWl, .ref aWd])), (aWw, .inl (cyI, 4225, .inl ww)), (aWm, .inl (cyI, 64, .inl wm_5)), (aWl, .inl (cyI, 64, .inl wl_6)), (aWd, .inl (cyI, 64, .inl wd_7))] H := hP
      have hD : va_D A [(aWr, .inl (cyI, 65, .inl wr)), (aS, .inr (6, [.int sw, .int sl, .int sg, .int sp])), (aW, .inr (0, [.ref aT, .ref aS, .ref aWw, .ref aWr, .ref aWm, .ref aWl, .ref aWd])), (aWw, .inl (cyI, 4225, .inl ww)), (aWm, .inl (cyI, 64, .inl wm_5)), (aWl, .inl (cyI, 64, .inl wl_6)), (aWd, .inl (cyI, 64, .inl wd_7))] := hD
      dsimp only at h
      refine lv_iinc (v := v5 + 1) (lv' := [(5, .int (v5 + 1)), (0, .ref aW), (1, .int v1), (2, .int v2), (3, .int v3), (4, .int v4)]) hx hb dX0_weighMatches_71 hl (k := 5) rfl rfl (by decide) rfl (fun ls hl => ?_)
      refine lv_goto (tgt := 56) hx hb dX0_weighMatches_74 (by decide) ?_
      exact ih56 _ _ _ _ h _ _ _ (hP.sub [1, 2, 3, 0, 4, 5, 6] rfl) (hD.sub [1, 2, 3, 0, 4, 5, 6] (by decide) rfl) hS (lv_sub hl [1, 2, 3, 4, 5, 0] rfl)
def wpX0_weighMatches_24 (v1 : Int32) (v2 : Int32) (sl : Int32) (sg : Int32) (sp : Int32) (ww : Nat → Int32) (wr : Nat → Int32) (K83 : (Nat → Int32) → (Nat → Int32) → (Nat → Int32) → Prop) : Nat → Int32 → (Nat → Int32) → (Nat → Int32) → (Nat → Int32) → Prop
  | 0, _, _, _, _ => False
  | n24 + 1, v3, wm, wl, wd => (v2 < v3 → (K83 wm wl wd)) ∧ (¬ v2 < v3 → (vp_in v3 65 ∧ (∃ n56 : Nat, wpX0_weighMatches_56 v1 v3 (if sg < (wr v3.toNatClampNeg) then sg else wr v3.toNatClampNeg) sp ww (fun (wm_8 : Nat → Int32) (wl_9 : Nat → Int32) (wd_10 : Nat → Int32) => wpX0_weighMatches_24 v1 v2 sl sg sp ww wr K83 n24 (v3 + 1) wm_8 wl_9 wd_10) n56 sl wm wl wd)))
set_option maxHeartbeats 4000000 in
set_option maxRecDepth 100000 in
theorem wlX0_weighMatches_24 {p : Program} {l : Launch} {e : Env} {s : State} {m : MethodId} {args : Array Value} {below : List Frame} {meth : Method} {c : Code} {A : Nat → Prop} {Q : State → Prop} {dC : Nat → ClassId} {dI : Nat → Nat → Nat} {cyI : ClassId} {aT aS aW aWw aWr aWm aWl aWd : Nat} {v1 : Int32} {v2 : Int32} {sw : Int32} {sl : Int32} {sg : Int32} {sp : Int32} {ww : Nat → Int32} {wr : Nat → Int32} {K83 : (Nat → Int32) → (Nat → Int32) → (Nat → Int32) → Prop} (C0 : CallFix p m c cX0_weighMatches 6 s args wsX0_weighMatches RX0) (hA : ∀ q : Nat, s.heap.size ≤ q → A q) (hK : va_K (dC, dI) vwCl [(cyI, .int)] s) (hK83 : ∀ (wm : Nat → Int32) (wl : Nat → Int32) (wd : Nat → Int32), K83 wm wl wd → ∀ (H : Heap) (locs : List Loc) (ls : Array Slot), va_P (dC, dI) vwCl [(aS, .inr (6, [.int sw, .int sl, .int sg, .int sp])), (aW, .inr (0, [.ref aT, .ref aS, .ref aWw, .ref aWr, .ref aWm, .ref aWl, .ref aWd])), (aWw, .inl (cyI, 4225, .inl ww)), (aWr, .inl (cyI, 65, .inl wr)), (aWm, .inl (cyI, 64, .inl wm)), (aWl, .inl (cyI, 64, .inl wl)), (aWd, .inl (cyI, 64, .inl wd))] H → va_D A [(aS, .inr (6, [.int sw, .int sl, .int sg, .int sp])), (aW, .inr (0, [.ref aT, .ref aS, .ref aWw, .ref aWr, .ref aWm, .ref aWl, .ref aWd])), (aWw, .inl (cyI, 4225, .inl ww)), (aWr, .inl (cyI, 65, .inl wr)), (aWm, .inl (cyI, 64, .inl wm)), (aWl, .inl (cyI, 64, .inl wl)), (aWd, .inl (cyI, 64, .inl wd))] → va_S A s.heap H locs → lv_has ls 6 [] → W p l e ({ frames := 3, cells := 0, slots := 0, locals := 66 } : Room) s m args below meth c H locs 0 0 Q (F0 m 83 ls [])) :
    ∀ (n24 : Nat) (v3 : Int32) (wm : Nat → Int32) (wl : Nat → Int32) (wd : Nat → Int32), wpX0_weighMatches_24 v1 v2 sl sg sp ww wr K83 n24 v3 wm wl wd → ∀ (H : Heap) (locs : List Loc) (ls : Array Slot), va_P (dC, dI) vwCl [(aS, .inr (6, [.int sw, .int sl, .int sg, .int sp])), (aW, .inr (0, [.ref aT, .ref aS, .ref aWw, .ref aWr, .ref aWm, .ref aWl, .ref aWd])), (aWw, .inl (cyI, 4225, .inl ww)), (aWr, .inl (cyI, 65, .inl wr)), (aWm, .inl (cyI, 64, .inl wm)), (aWl, .inl (cyI, 64, .inl wl)), (aWd, .inl (cyI, 64, .inl wd))] H → va_D A [(aS, .inr (6, [.int sw, .int sl, .int sg, .int sp])), (aW, .inr (0, [.ref aT, .ref aS, .ref aWw, .ref aWr, .ref aWm, .ref aWl, .ref aWd])), (aWw, .inl (cyI, 4225, .inl ww)), (aWr, .inl (cyI, 65, .inl wr)), (aWm, .inl (cyI, 64, .inl wm)), (aWl, .inl (cyI, 64, .inl wl)), (aWd, .inl (cyI, 64, .inl wd))] → va_S A s.heap H locs → lv_has ls 6 [(0, .ref aW), (1, .int v1), (2, .int v2), (3, .int v3)] → W p l e ({ frames := 3, cells := 0, slots := 0, locals := 66 } : Room) s m args below meth c H locs 0 0 Q (F0 m 24 ls []) := by
  obtain ⟨hx, hb, hml, hown, hts⟩ := id C0
  intro n24
  induction n24 with
  | zero => intro _ _ _ _ h; exact h.elim
  | succ n24 ih24 =>
    intro v3 wm wl wd h H locs ls hP hD hS hl
    rw [wpX0_weighMatches_24] at h
    refine lv_iload_n hx hb dX0_weighMatches_24 rfl (lv_at hl 3 rfl) ?_
    refine lv_iload_n hx hb dX0_weighMatches_25 rfl (lv_at hl 2 rfl) ?_
    refine lv_icmp_gt (tgt := 83) hx hb dX0_weighMatches_26 (by decide) (fun c_2 => ?_) (fun c_2 => ?_)
    · replace h := h.1 c_2
      exact hK83 _ _ _ h _ _ _ hP hD hS (lv_sub hl [] rfl)
    · replace h := h.2 c_2
      refine lv_aload_n hx hb dX0_weighMatches_29 rfl (lv_at hl 0 rfl) ?_
      refine va_get (D := (dC, dI)) (ci := 0) (v := .ref aWr) (C := RX0) (T := TX0) (N := 7) hx hb hts inX0_weighMatches_wsX00 hown hK hP 1 rfl rfl 3 (by decide) (hts _ qX0_weighMatches_4) (fun _ h9 => h9) rfl dX0_weighMatches_30 ?_
      refine lv_iload_n hx hb dX0_weighMatches_33 rfl (lv_at hl 3 rfl) ?_
      obtain ⟨hi_3, h⟩ := h
      refine va_iald hx hb hK hP 3 0 rfl rfl hi_3 dX0_weighMatches_34 ?_
      refine lv_aload_n hx hb dX0_weighMatches_35 rfl (lv_at hl 0 rfl) ?_
      refine va_get (D := (dC, dI)) (ci := 0) (v := .ref aS) (C := RX0) (T := TX0) (N := 7) hx hb hts inX0_weighMatches_wsX00 hown hK hP 1 rfl rfl 1 (by decide) (hts _ qX0_weighMatches_5) (fun _ h9 => h9) rfl dX0_weighMatches_36 ?_
      refine va_get (D := (dC, dI)) (ci := 6) (v := .int sg) (C := RX7) (T := TX7) (N := 4) hx hb hts inX0_weighMatches_wsX70 hown hK hP 0 rfl rfl 2 (by decide) (hts _ qX0_weighMatches_6) (fun _ h9 => h9) rfl dX0_weighMatches_39 ?_
      refine va_mmin hx hb (hml.trans hl.1.symm) hown (hts _ qX0_weighMatches_7) (hts _ qX0_weighMatches_8) (hts _ qX0_weighMatches_9) (hts _ qX0_weighMatches_10) (Nat.le_of_ble_eq_true rfl) (Nat.le_of_ble_eq_true rfl) (Nat.zero_le _) (Nat.zero_le _) dX0_weighMatches_42 ?_
      refine lv_istore (lv' := [(4, .int (if sg < (wr v3.toNatClampNeg) then sg else wr v3.toNatClampNeg)), (0, .ref aW), (1, .int v1), (2, .int v2), (3, .int v3)]) hx hb dX0_weighMatches_45 hl (by decide) rfl (fun ls hl => ?_)
      refine lv_aload_n hx hb dX0_weighMatches_47 rfl (lv_at hl 1 rfl) ?_
      refine va_get (D := (dC, dI)) (ci := 0) (v := .ref aS) (C := RX0) (T := TX0) (N := 7) hx hb hts inX0_weighMatches_wsX00 hown hK hP 1 rfl rfl 1 (by decide) (hts _ qX0_weighMatches_5) (fun _ h9 => h9) rfl dX0_weighMatches_48 ?_
      refine va_get (D := (dC, dI)) (ci := 6) (v := .int sl) (C := RX7) (T := TX7) (N := 4) hx hb hts inX0_weighMatches_wsX70 hown hK hP 0 rfl rfl 1 (by decide) (hts _ qX0_weighMatches_11) (fun _ h9 => h9) rfl dX0_weighMatches_51 ?_
      refine lv_istore (lv' := [(5, .int sl), (4, .int (if sg < (wr v3.toNatClampNeg) then sg else wr v3.toNatClampNeg)), (0, .ref aW), (1, .int v1), (2, .int v2), (3, .int v3)]) hx hb dX0_weighMatches_54 hl (by decide) rfl (fun ls hl => ?_)
      obtain ⟨n56, h⟩ := h
      refine wlX0_weighMatches_56 C0 hA hK ?_ n56 _ _ _ _ h _ _ _ hP hD hS (lv_sub hl [2, 3, 4, 5, 1, 0] rfl)
      · intro wm_8 wl_9 wd_10 h H locs ls hP hD hS hl
        refine lv_iinc (v := v3 + 1) (lv' := [(3, .int (v3 + 1)), (0, .ref aW), (1, .int v1), (2, .int v2)]) hx hb dX0_weighMatches_77 hl (k := 3) rfl rfl (by decide) rfl (fun ls hl => ?_)
        refine lv_goto (tgt := 24) hx hb dX0_weighMatches_80 (by decide) ?_
        exact ih24 _ _ _ _ h _ _ _ hP hD hS (lv_sub hl [1, 2, 3, 0] rfl)
def wpX0_weighMatches (sl : Int32) (sg : Int32) (sp : Int32) (ww : Nat → Int32) (wr : Nat → Int32) (wm : Nat → Int32) (wl : Nat → Int32) (wd : Nat → Int32) (v1 : Int32) (v2 : Int32) (post : (Nat → Int32) → (Nat → Int32) → (Nat → Int32) → Prop) : Prop := vp_in v1 64 ∧ (∃ n24 : Nat, wpX0_weighMatches_24 v1 v2 sl sg sp ww wr (fun (wm_11 : Nat → Int32) (wl_12 : Nat → Int32) (wd_13 : Nat → Int32) => post wm_11 wl_12 wd_13) n24 1 (upd wm v1.toNatClampNeg 1073741824) (upd wl v1.toNatClampNeg 0) (upd wd v1.toNatClampNeg 0))
set_option maxHeartbeats 4000000 in
set_option maxRecDepth 100000 in
theorem mtX0_weighMatches (l : Launch) (dC : Nat → ClassId) (dI : Nat → Nat → Nat) (cyI : ClassId) {aT aS aW aWw aWr aWm aWl aWd : Nat} {sz : Nat} {sw : Int32} {sl : Int32} {sg : Int32} {sp : Int32} {ww : Nat → Int32} {wr : Nat → Int32} {wm : Nat → Int32} {wl : Nat → Int32} {wd : Nat → Int32} {v1 : Int32} {v2 : Int32} {post : (Nat → Int32) → (Nat → Int32) → (Nat → Int32) → Prop} (h : wpX0_weighMatches sl sg sp ww wr wm wl wd v1 v2 post) : Met l yX0_weighMatches wsX0_weighMatches ({ frames := 3, cells := 0, slots := 0, locals := 66 }) (va_Pc [.ref aW, .int v1, .int v2] (wk_B (dC, dI) [(cyI, .int)] [(aS, .inr (6, [.int sw, .int sl, .int sg, .int sp])), (aW, .inr (0, [.ref aT, .ref aS, .ref aWw, .ref aWr, .ref aWm, .ref aWl, .ref aWd])), (aWw, .inl (cyI, 4225, .inl ww)), (aWr, .inl (cyI, 65, .inl wr)), (aWm, .inl (cyI, 64, .inl wm)), (aWl, .inl (cyI, 64, .inl wl)), (aWd, .inl (cyI, 64, .inl wd))] sz)) (va_Qv (fun (u : (Nat → Int32) × (Nat → Int32) × (Nat → Int32)) => post u.1 u.2.1 u.2.2) (wk_C (dC, dI) [(cyI, .int)] (va_A [(aS, .inr (6, [.int sw, .int sl, .int sg, .int sp])), (aW, .inr (0, [.ref aT, .ref aS, .ref aWw, .ref aWr, .ref aWm, .ref aWl, .ref aWd])), (aWw, .inl (cyI, 4225, .inl ww)), (aWr, .inl (cyI, 65, .inl wr)), (aWm, .inl (cyI, 64, .inl wm)), (aWl, .inl (cyI, 64, .inl wl)), (aWd, .inl (cyI, 64, .inl wd))] sz) (fun (u : (Nat → Int32) × (Nat → Int32) × (Nat → Int32)) => [(aS, .inr (6, [.int sw, .int sl, .int sg, .int sp])), (aW, .inr (0, [.ref aT, .ref aS, .ref aWw, .ref aWr, .ref aWm, .ref aWl, .ref aWd])), (aWw, .inl (cyI, 4225, .inl ww)), (aWr, .inl (cyI, 65, .inl wr)), (aWm, .inl (cyI, 64, .inl (u.1))), (aWl, .inl (cyI, 64, .inl (u.2.1))), (aWd, .inl (cyI, 64, .inl (u.2.2)))])) (va_A [(aS, .inr (6, [.int sw, .int sl, .int sg, .int sp])), (aW, .inr (0, [.ref aT, .ref aS, .ref aWw, .ref aWr, .ref aWm, .ref aWl, .ref aWd])), (aWw, .inl (cyI, 4225, .inl ww)), (aWr, .inl (cyI, 65, .inl wr)), (aWm, .inl (cyI, 64, .inl wm)), (aWl, .inl (cyI, 64, .inl wl)), (aWd, .inl (cyI, 64, .inl wd))] sz)) 0 0 (va_A [(aS, .inr (6, [.int sw, .int sl, .int sg, .int sp])), (aW, .inr (0, [.ref aT, .ref aS, .ref aWw, .ref aWr, .ref aWm, .ref aWl, .ref aWd])), (aWw, .inl (cyI, 4225, .inl ww)), (aWr, .inl (cyI, 65, .inl wr)), (aWm, .inl (cyI, 64, .inl wm)), (aWl, .inl (cyI, 64, .inl wl)), (aWd, .inl (cyI, 64, .inl wd))] sz) := by
  refine Met.ofW (cc := cX0_weighMatches) (maxL := 6) (ret := none) (by decide) rfl ?_
  intro p e s m args below meth c s₁ B hml hv
  obtain ⟨rfl, hsz, hP, hK, hD0⟩ := hv
  have hx := B.exec
  have hb := B.bytes
  have hr := B.returns
  have hts := atoms_spec (ws := wsX0_weighMatches) B.pre
  have hown : s.vm.findClass RX0 = some m.cls := findClass_of_methodNamed B.named
  have hlocks := B.notSynchronized
  subst hsz
  have hD := hD0.self (sz := s.heap.size)
  generalize hAe : va_A [(aS, .inr (6, [.int sw, .int sl, .int sg, .int sp])), (aW, .inr (0, [.ref aT, .ref aS, .ref aWw, .ref aWr, .ref aWm, .ref aWl, .ref aWd])), (aWw, .inl (cyI, 4225, .inl ww)), (aWr, .inl (cyI, 65, .inl wr)), (aWm, .inl (cyI, 64, .inl wm)), (aWl, .inl (cyI, 64, .inl wl)), (aWd, .inl (cyI, 64, .inl wd))] s.heap.size = A at hD ⊢
  have hA : ∀ q : Nat, s.heap.size ≤ q → A q := fun q h => by rw [← hAe]; exact Or.inr h
  have hS : va_S A s.heap s.heap [] := va_S.rf
  have hP : va_P (dC, dI) vwCl [(aS, .inr (6, [.int sw, .int sl, .int sg, .int sp])), (aW, .inr (0, [.ref aT, .ref aS, .ref aWw, .ref aWr, .ref aWm, .ref aWl, .ref aWd])), (aWw, .inl (cyI, 4225, .inl ww)), (aWr, .inl (cyI, 65, .inl wr)), (aWm, .inl (cyI, 64, .inl wm)), (aWl, .inl (cyI, 64, .inl wl)), (aWd, .inl (cyI, 64, .inl wd))] s.heap := hP
  have hl := lv_entry ([.ref aW, .int v1, .int v2]) (n := 6) (Nat.le_of_ble_eq_true rfl)
  rw [lg_entry_eq]
  generalize (lg_sl ([.ref aW, .int v1, .int v2]) ++ List.replicate (6 - (lg_sl ([.ref aW, .int v1, .int v2])).length) Slot.unset).toArray = ls at hl ⊢
  have hl : lv_has ls 6 [(0, .ref aW), (1, .int v1), (2, .int v2)] := hl
  have C0 : CallFix p m c cX0_weighMatches 6 s ([.ref aW, .int v1, .int v2] : List Value).toArray wsX0_weighMatches RX0 := ⟨hx, hb, hml, hown, hts⟩
  unfold wpX0_weighMatches at h
  refine lv_aload_n hx hb dX0_weighMatches_0 rfl (lv_at hl 0 rfl) ?_
  refine va_get (D := (dC, dI)) (ci := 0) (v := .ref aWm) (C := RX0) (T := TX0) (N := 7) hx hb hts inX0_weighMatches_wsX00 hown hK hP 1 rfl rfl 4 (by decide) (hts _ qX0_weighMatches_0) (fun _ h9 => h9) rfl dX0_weighMatches_1 ?_
  refine lv_iload_n hx hb dX0_weighMatches_4 rfl (lv_at hl 1 rfl) ?_
  refine lv_ldc hx hb hown (hts _ qX0_weighMatches_1) dX0_weighMatches_5 ?_
  obtain ⟨hi_1, h⟩ := h
  refine va_iast hx hb hK hP hD hS 4 0 rfl rfl hi_1 dX0_weighMatches_7 (fun H locs hP hD hS => ?_)
  have hP : va_P (dC, dI) vwCl [(aS, .inr (6, [.int sw, .int sl, .int sg, .int sp])), (aW, .inr (0, [.ref aT, .ref aS, .ref aWw, .ref aWr, .ref aWm, .ref aWl, .ref aWd])), (aWw, .inl (cyI, 4225, .inl ww)), (aWr, .inl (cyI, 65, .inl wr)), (aWm, .inl (cyI, 64, .inl (upd wm v1.toNatClampNeg 1073741824))), (aWl, .inl (cyI, 64, .inl wl)), (aWd, .inl (cyI, 64, .inl wd))] H := hP
  have hD : va_D A [(aS, .inr (6, [.int sw, .int sl, .int sg, .int sp])), (aW, .inr (0, [.ref aT, .ref aS, .ref aWw, .ref aWr, .ref aWm, .ref aWl, .ref aWd])), (aWw, .inl (cyI, 4225, .inl ww)), (aWr, .inl (cyI, 65, .inl wr)), (aWm, .inl (cyI, 64, .inl (upd wm v1.toNatClampNeg 1073741824))), (aWl, .inl (cyI, 64, .inl wl)), (aWd, .inl (cyI, 64, .inl wd))] := hD
  refine lv_aload_n hx hb dX0_weighMatches_8 rfl (lv_at hl 0 rfl) ?_
  refine va_get (D := (dC, dI)) (ci := 0) (v := .ref aWl) (C := RX0) (T := TX0) (N := 7) hx hb hts inX0_weighMatches_wsX00 hown hK hP 1 rfl rfl 5 (by decide) (hts _ qX0_weighMatches_2) (fun _ h9 => h9) rfl dX0_weighMatches_9 ?_
  refine lv_iload_n hx hb dX0_weighMatches_12 rfl (lv_at hl 1 rfl) ?_
  refine lv_iconst (v := 0) hx hb dX0_weighMatches_13 (by decide) ?_
  refine va_iast hx hb hK hP hD hS 5 0 rfl rfl hi_1 dX0_weighMatches_14 (fun H locs hP hD hS => ?_)
  have hP : va_P (dC, dI) vwCl [(aS, .inr (6, [.int sw, .int sl, .int sg, .int sp])), (aW, .inr (0, [.ref aT, .ref aS, .ref aWw, .ref aWr, .ref aWm, .ref aWl, .ref aWd])), (aWw, .inl (cyI, 4225, .inl ww)), (aWr, .inl (cyI, 65, .inl wr)), (aWm, .inl (cyI, 64, .inl (upd wm v1.toNatClampNeg 1073741824))), (aWl, .inl (cyI, 64, .inl (upd wl v1.toNatClampNeg 0))), (aWd, .inl (cyI, 64, .inl wd))] H := hP
  have hD : va_D A [(aS, .inr (6, [.int sw, .int sl, .int sg, .int sp])), (aW, .inr (0, [.ref aT, .ref aS, .ref aWw, .ref aWr, .ref aWm, .ref aWl, .ref aWd])), (aWw, .inl (cyI, 4225, .inl ww)), (aWr, .inl (cyI, 65, .inl wr)), (aWm, .inl (cyI, 64, .inl (upd wm v1.toNatClampNeg 1073741824))), (aWl, .inl (cyI, 64, .inl (upd wl v1.toNatClampNeg 0))), (aWd, .inl (cyI, 64, .inl wd))] := hD
  refine lv_aload_n hx hb dX0_weighMatches_15 rfl (lv_at hl 0 rfl) ?_
  refine va_get (D := (dC, dI)) (ci := 0) (v := .ref aWd) (C := RX0) (T := TX0) (N := 7) hx hb hts inX0_weighMatches_wsX00 hown hK hP 1 rfl rfl 6 (by decide) (hts _ qX0_weighMatches_3) (fun _ h9 => h9) rfl dX0_weighMatches_16 ?_
  refine lv_iload_n hx hb dX0_weighMatches_19 rfl (lv_at hl 1 rfl) ?_
  refine lv_iconst (v := 0) hx hb dX0_weighMatches_20 (by decide) ?_
  refine va_iast hx hb hK hP hD hS 6 0 rfl rfl hi_1 dX0_weighMatches_21 (fun H locs hP hD hS => ?_)
  have hP : va_P (dC, dI) vwCl [(aS, .inr (6, [.int sw, .int sl, .int sg, .int sp])), (aW, .inr (0, [.ref aT, .ref aS, .ref aWw, .ref aWr, .ref aWm, .ref aWl, .ref aWd])), (aWw, .inl (cyI, 4225, .inl ww)), (aWr, .inl (cyI, 65, .inl wr)), (aWm, .inl (cyI, 64, .inl (upd wm v1.toNatClampNeg 1073741824))), (aWl, .inl (cyI, 64, .inl (upd wl v1.toNatClampNeg 0))), (aWd, .inl (cyI, 64, .inl (upd wd v1.toNatClampNeg 0)))] H := hP
  have hD : va_D A [(aS, .inr (6, [.int sw, .int sl, .int sg, .int sp])), (aW, .inr (0, [.ref aT, .ref aS, .ref aWw, .ref aWr, .ref aWm, .ref aWl, .ref aWd])), (aWw, .inl (cyI, 4225, .inl ww)), (aWr, .inl (cyI, 65, .inl wr)), (aWm, .inl (cyI, 64, .inl (upd wm v1.toNatClampNeg 1073741824))), (aWl, .inl (cyI, 64, .inl (upd wl v1.toNatClampNeg 0))), (aWd, .inl (cyI, 64, .inl (upd wd v1.toNatClampNeg 0)))] := hD
  refine lv_iconst (v := 1) hx hb dX0_weighMatches_22 (by decide) ?_
  refine lv_istore_n (lv' := [(3, .int 1), (0, .ref aW), (1, .int v1), (2, .int v2)]) hx hb dX0_weighMatches_23 rfl hl (by decide) rfl (fun ls hl => ?_)
  obtain ⟨n24, h⟩ := h
  refine wlX0_weighMatches_24 C0 hA hK ?_ n24 _ _ _ _ h _ _ _ hP hD hS (lv_sub hl [1, 2, 3, 0] rfl)
  · intro wm_11 wl_12 wd_13 h H locs ls hP hD hS hl
    have hP9 : va_P (dC, dI) vwCl [(aS, .inr (6, [.int sw, .int sl, .int sg, .int sp])), (aW, .inr (0, [.ref aT, .ref aS, .ref aWw, .ref aWr, .ref aWm, .ref aWl, .ref aWd])), (aWw, .inl (cyI, 4225, .inl ww)), (aWr, .inl (cyI, 65, .inl wr)), (aWm, .inl (cyI, 64, .inl wm_11)), (aWl, .inl (cyI, 64, .inl wl_12)), (aWd, .inl (cyI, 64, .inl wd_13))] _ := hP
    have hD9 : va_D A [(aS, .inr (6, [.int sw, .int sl, .int sg, .int sp])), (aW, .inr (0, [.ref aT, .ref aS, .ref aWw, .ref aWr, .ref aWm, .ref aWl, .ref aWd])), (aWw, .inl (cyI, 4225, .inl ww)), (aWr, .inl (cyI, 65, .inl wr)), (aWm, .inl (cyI, 64, .inl wm_11)), (aWl, .inl (cyI, 64, .inl wl_12)), (aWd, .inl (cyI, 64, .inl wd_13))] := hD
    exact W.vret hx hb hr (fun t ht hW => ⟨⟨(wm_11, wl_12, wd_13), rfl, h, by rw [ht]; exact hP9, va_K.moved hW.alike hK, hD9⟩, hS.F ht⟩) hS.2.2 dX0_weighMatches_83
-- X0_growRuns
theorem qX0_growRuns_0 : Cond.fieldLink RX0 27 "MatchCoder$BestWay" "text" "LMatchCoder$Text;" ∈ wsX0_growRuns := (List.mem_cons_of_mem _ (List.mem_append_left _ (List.mem_append_left _ (List.mem_of_getElem? (i := 0) rfl))))
theorem qX0_growRuns_1 : Cond.fieldLink RX0 81 "MatchCoder$Text" "bytes" "[I" ∈ wsX0_growRuns := (List.mem_cons_of_mem _ (List.mem_append_left _ (List.mem_append_left _ (List.mem_of_getElem? (i := 1) rfl))))
theorem qX0_growRuns_2 : Cond.fieldLink RX0 15 "MatchCoder$BestWay" "runs" "[I" ∈ wsX0_growRuns := (List.mem_cons_of_mem _ (List.mem_append_left _ (List.mem_append_left _ (List.mem_of_getElem? (i := 2) rfl))))
theorem inX0_growRuns_wsX00 : ∀ w ∈ wsX00, w ∈ wsX0_growRuns := fun _ h => List.mem_cons_of_mem _ (List.mem_append_left _ (List.mem_append_right _ h))
theorem inX0_growRuns_wsX80 : ∀ w ∈ wsX80, w ∈ wsX0_growRuns := fun _ h => List.mem_cons_of_mem _ (List.mem_append_right _ h)
def wpX0_growRuns_59 (v3 : Int32) (k0 : Int32) (k1 : Int32) (wr : Nat → Int32) (KB : Int32 → (Nat → Int32) → Prop) (K66 : (Nat → Int32) → Prop) : Prop := vp_in k1 65 ∧ (KB (v3 + 1) (upd wr k1.toNatClampNeg k0))
set_option maxHeartbeats 4000000 in
set_option maxRecDepth 100000 in
theorem wjX0_growRuns_59 {p : Program} {l : Launch} {e : Env} {s : State} {m : MethodId} {args : Array Value} {below : List Frame} {meth : Method} {c : Code} {A : Nat → Prop} {Q : State → Prop} {dC : Nat → ClassId} {dI : Nat → Nat → Nat} {cyI : ClassId} {aT aTb aS aW aWw aWr aWm aWl aWd : Nat} {v1 : Int32} {v2 : Int32} {v3 : Int32} {k0 : Int32} {k1 : Int32} {tn : Int32} {tb : Nat → Int32} {wr : Nat → Int32} {KB : Int32 → (Nat → Int32) → Prop} {K66 : (Nat → Int32) → Prop} (C0 : CallFix p m c cX0_growRuns 5 s args wsX0_growRuns RX0) (hA : ∀ q : Nat, s.heap.size ≤ q → A q) (hK : va_K (dC, dI) vwCl [(cyI, .int)] s) (h : wpX0_growRuns_59 v3 k0 k1 wr KB K66) (H : Heap) (locs : List Loc) (ls : Array Slot) (hP : va_P (dC, dI) vwCl [(aT, .inr (7, [.ref aTb, .int tn])), (aTb, .inl (cyI, 64, .inl tb)), (aW, .inr (0, [.ref aT, .ref aS, .ref aWw, .ref aWr, .ref aWm, .ref aWl, .ref aWd])), (aWr, .inl (cyI, 65, .inl wr))] H) (hD : va_D A [(aT, .inr (7, [.ref aTb, .int tn])), (aTb, .inl (cyI, 64, .inl tb)), (aW, .inr (0, [.ref aT, .ref aS, .ref aWw, .ref aWr, .ref aWm, .ref aWl, .ref aWd])), (aWr, .inl (cyI, 65, .inl wr))]) (hS : va_S A s.heap H locs) (hl : lv_has ls 5 [(0, .ref aW), (1, .int v1), (2, .int v2), (3, .int v3)]) (hKB : ∀ (v3 : Int32) (wr : Nat → Int32), KB v3 wr → ∀ (H : Heap) (locs : List Loc) (ls : Array Slot), va_P (dC, dI) vwCl [(aT, .inr (7, [.ref aTb, .int tn])), (aTb, .inl (cyI, 64, .inl tb)), (aW, .inr (0, [.ref aT, .ref aS, .ref aWw, .ref aWr, .ref aWm, .ref aWl, .ref aWd])), (aWr, .inl (cyI, 65, .inl wr))] H → va_D A [(aT, .inr (7, [.ref aTb, .int tn])), (aTb, .inl (cyI, 64, .inl tb)), (aW, .inr (0, [.ref aT, .ref aS, .ref aWw, .ref aWr, .ref aWm, .ref aWl, .ref aWd])), (aWr, .inl (cyI, 65, .inl wr))] → va_S A s.heap H locs → lv_has ls 5 [(0, .ref aW), (1, .int v1), (2, .int v2), (3, .int v3)] → W p l e ({ frames := 0, cells := 0, slots := 0, locals := 0 } : Room) s m args below meth c H locs 0 0 Q (F0 m 2 ls [])) (hK66 : ∀ (wr : Nat → Int32), K66 wr → ∀ (H : Heap) (locs : List Loc) (ls : Array Slot), va_P (dC, dI) vwCl [(aT, .inr (7, [.ref aTb, .int tn])), (aTb, .inl (cyI, 64, .inl tb)), (aW, .inr (0, [.ref aT, .ref aS, .ref aWw, .ref aWr, .ref aWm, .ref aWl, .ref aWd])), (aWr, .inl (cyI, 65, .inl wr))] H → va_D A [(aT, .inr (7, [.ref aTb, .int tn])), (aTb, .inl (cyI, 64, .inl tb)), (aW, .inr (0, [.ref aT, .ref aS, .ref aWw, .ref aWr, .ref aWm, .ref aWl, .ref aWd])), (aWr, .inl (cyI, 65, .inl wr))] → va_S A s.heap H locs → lv_has ls 5 [] → W p l e ({ frames := 0, cells := 0, slots := 0, locals := 0 } : Room) s m args below meth c H locs 0 0 Q (F0 m 66 ls [])) : W p l e ({ frames := 0, cells := 0, slots := 0, locals := 0 } : Room) s m args below meth c H locs 0 0 Q (F0 m 59 ls [.int k0, .int k1, .ref aWr]) := by
  obtain ⟨hx, hb, hml, hown, hts⟩ := id C0
  unfold wpX0_growRuns_59 at h
  obtain ⟨hi_6, h⟩ := h
  refine va_iast hx hb hK hP hD hS 3 0 rfl rfl hi_6 dX0_growRuns_59 (fun H locs hP hD hS => ?_)
  have hP : va_P (dC, dI) vwCl [(aT, .inr (7, [.ref aTb, .int tn])), (aTb, .inl (cyI, 64, .inl tb)), (aW, .inr (0, [.ref aT, .ref aS, .ref aWw, .ref aWr, .ref aWm, .ref aWl, .ref aWd])), (aWr, .inl (cyI, 65, .inl (upd wr k1.toNatClampNeg k0)))] H := hP
  have hD : va_D A [(aT, .inr (7, [.ref aTb, .int tn])), (aTb, .inl (cyI, 64, .inl tb)), (aW, .inr (0, [.ref aT, .ref aS, .ref aWw, .ref aWr, .ref aWm, .ref aWl, .ref aWd])), (aWr, .inl (cyI, 65, .inl (upd wr k1.toNatClampNeg k0)))] := hD
  refine lv_iinc (v := v3 + 1) (lv' := [(3, .int (v3 + 1)), (0, .ref aW), (1, .int v1), (2, .int v2)]) hx hb dX0_growRuns_60 hl (k := 3) rfl rfl (by decide) rfl (fun ls hl => ?_)
  refine lv_goto (tgt := 2) hx hb dX0_growRuns_63 (by decide) ?_
  exact hKB _ _ h _ _ _ hP hD hS (lv_sub hl [1, 2, 3, 0] rfl)
def wpX0_growRuns_35 (v3 : Int32) (k0 : Int32) (wr : Nat → Int32) (KB : Int32 → (Nat → Int32) → Prop) (K66 : (Nat → Int32) → Prop) : Prop := (k0 = 0 → (wpX0_growRuns_59 v3 0 v3 wr KB K66)) ∧ (¬ k0 = 0 → (vp_in v3 65 ∧ (wpX0_growRuns_59 v3 ((wr v3.toNatClampNeg) + 1) v3 wr KB K66)))
set_option maxHeartbeats 4000000 in
set_option maxRecDepth 100000 in
theorem wjX0_growRuns_35 {p : Program} {l : Launch} {e : Env} {s : State} {m : MethodId} {args : Array Value} {below : List Frame} {meth : Method} {c : Code} {A : Nat → Prop} {Q : State → Prop} {dC : Nat → ClassId} {dI : Nat → Nat → Nat} {cyI : ClassId} {aT aTb aS aW aWw aWr aWm aWl aWd : Nat} {v1 : Int32} {v2 : Int32} {v3 : Int32} {k0 : Int32} {tn : Int32} {tb : Nat → Int32} {wr : Nat → Int32} {KB : Int32 → (Nat → Int32) → Prop} {K66 : (Nat → Int32) → Prop} (C0 : CallFix p m c cX0_growRuns 5 s args wsX0_growRuns RX0) (hA : ∀ q : Nat, s.heap.size ≤ q → A q) (hK : va_K (dC, dI) vwCl [(cyI, .int)] s) (h : wpX0_growRuns_35 v3 k0 wr KB K66) (H : Heap) (locs : List Loc) (ls : Array Slot) (hP : va_P (dC, dI) vwCl [(aT, .inr (7, [.ref aTb, .int tn])), (aTb, .inl (cyI, 64, .inl tb)), (aW, .inr (0, [.ref aT, .ref aS, .ref aWw, .ref aWr, .ref aWm, .ref aWl, .ref aWd])), (aWr, .inl (cyI, 65, .inl wr))] H) (hD : va_D A [(aT, .inr (7, [.ref aTb, .int tn])), (aTb, .inl (cyI, 64, .inl tb)), (aW, .inr (0, [.ref aT, .ref aS, .ref aWw, .ref aWr, .ref aWm, .ref aWl, .ref aWd])), (aWr, .inl (cyI, 65, .inl wr))]) (hS : va_S A s.heap H locs) (hl : lv_has ls 5 [(0, .ref aW), (1, .int v1), (2, .int v2), (3, .int v3)]) (hKB : ∀ (v3 : Int32) (wr : Nat → Int32), KB v3 wr → ∀ (H : Heap) (locs : List Loc) (ls : Array Slot), va_P (dC, dI) vwCl [(aT, .inr (7, [.ref aTb, .int tn])), (aTb, .inl (cyI, 64, .inl tb)), (aW, .inr (0, [.ref aT, .ref aS, .ref aWw, .ref aWr, .ref aWm, .ref aWl, .ref aWd])), (aWr, .inl (cyI, 65, .inl wr))] H → va_D A [(aT, .inr (7, [.ref aTb, .int tn])), (aTb, .inl (cyI, 64, .inl tb)), (aW, .inr (0, [.ref aT, .ref aS, .ref aWw, .ref aWr, .ref aWm, .ref aWl, .ref aWd])), (aWr, .inl (cyI, 65, .inl wr))] → va_S A s.heap H locs → lv_has ls 5 [(0, .ref aW), (1, .int v1), (2, .int v2), (3, .int v3)] → W p l e ({ frames := 0, cells := 0, slots := 0, locals := 0 } : Room) s m args below meth c H locs 0 0 Q (F0 m 2 ls [])) (hK66 : ∀ (wr : Nat → Int32), K66 wr → ∀ (H : Heap) (locs : List Loc) (ls : Array Slot), va_P (dC, dI) vwCl [(aT, .inr (7, [.ref aTb, .int tn])), (aTb, .inl (cyI, 64, .inl tb)), (aW, .inr (0, [.ref aT, .ref aS, .ref aWw, .ref aWr, .ref aWm, .ref aWl, .ref aWd])), (aWr, .inl (cyI, 65, .inl wr))] H → va_D A [(aT, .inr (7, [.ref aTb, .int tn])), (aTb, .inl (cyI, 64, .inl tb)), (aW, .inr (0, [.ref aT, .ref aS, .ref aWw, .ref aWr, .ref aWm, .ref aWl, .ref aWd])), (aWr, .inl (cyI, 65, .inl wr))] → va_S A s.heap H locs → lv_has ls 5 [] → W p l e ({ frames := 0, cells := 0, slots := 0, locals := 0 } : Room) s m args below meth c H locs 0 0 Q (F0 m 66 ls [])) : W p l e ({ frames := 0, cells := 0, slots := 0, locals := 0 } : Room) s m args below meth c H locs 0 0 Q (F0 m 35 ls [.int k0]) := by
  obtain ⟨hx, hb, hml, hown, hts⟩ := id C0
  unfold wpX0_growRuns_35 at h
  refine lv_istore (lv' := [(4, .int k0), (0, .ref aW), (1, .int v1), (2, .int v2), (3, .int v3)]) hx hb dX0_growRuns_35 hl (by decide) rfl (fun ls hl => ?_)
  refine lv_aload_n hx hb dX0_growRuns_37 rfl (lv_at hl 1 rfl) ?_
  refine va_get (D := (dC, dI)) (ci := 0) (v := .ref aWr) (C := RX0) (T := TX0) (N := 7) hx hb hts inX0_growRuns_wsX00 hown hK hP 2 rfl rfl 3 (by decide) (hts _ qX0_growRuns_2) (fun _ h9 => h9) rfl dX0_growRuns_38 ?_
  refine lv_iload_n hx hb dX0_growRuns_41 rfl (lv_at hl 4 rfl) ?_
  refine lv_iload hx hb dX0_growRuns_42 (lv_at hl 0 rfl) ?_
  refine lv_if_eq (tgt := 58) hx hb dX0_growRuns_44 (by decide) (fun c_5 => ?_) (fun c_5 => ?_)
  · replace h := h.1 c_5
    refine lv_iconst (v := 0) hx hb dX0_growRuns_58 (by decide) ?_
    exact wjX0_growRuns_59 C0 hA hK h _ _ _ hP hD hS (lv_sub hl [1, 2, 3, 4] rfl) hKB hK66
  · replace h := h.2 c_5
    refine lv_aload_n hx hb dX0_growRuns_47 rfl (lv_at hl 1 rfl) ?_
    refine va_get (D := (dC, dI)) (ci := 0) (v := .ref aWr) (C := RX0) (T := TX0) (N := 7) hx hb hts inX0_growRuns_wsX00 hown hK hP 2 rfl rfl 3 (by decide) (hts _ qX0_growRuns_2) (fun _ h9 => h9) rfl dX0_growRuns_48 ?_
    refine lv_iload_n hx hb dX0_growRuns_51 rfl (lv_at hl 4 rfl) ?_
    obtain ⟨hi_7, h⟩ := h
    refine va_iald hx hb hK hP 3 0 rfl rfl hi_7 dX0_growRuns_52 ?_
    refine lv_iconst (v := 1) hx hb dX0_growRuns_53 (by decide) ?_
    refine lv_iadd hx hb dX0_growRuns_54 ?_
    refine lv_goto (tgt := 59) hx hb dX0_growRuns_55 (by decide) ?_
    exact wjX0_growRuns_59 C0 hA hK h _ _ _ hP hD hS (lv_sub hl [1, 2, 3, 4] rfl) hKB hK66
def wpX0_growRuns_2 (v1 : Int32) (v2 : Int32) (tb : Nat → Int32) (K66 : (Nat → Int32) → Prop) : Nat → Int32 → (Nat → Int32) → Prop
  | 0, _, _ => False
  | n2 + 1, v3, wr => (v2 < v3 → (K66 wr)) ∧ (¬ v2 < v3 → (vp_in v1 64 ∧ (vp_in (v1 - v3) 64 ∧ (((tb v1.toNatClampNeg) = (tb (v1 - v3).toNatClampNeg) → (wpX0_growRuns_35 v3 1 wr (wpX0_growRuns_2 v1 v2 tb K66 n2) K66)) ∧ (¬ (tb v1.toNatClampNeg) = (tb (v1 - v3).toNatClampNeg) → (wpX0_growRuns_35 v3 0 wr (wpX0_growRuns_2 v1 v2 tb K66 n2) K66))))))
set_option maxHeartbeats 4000000 in
set_option maxRecDepth 100000 in
theorem wlX0_growRuns_2 {p : Program} {l : Launch} {e : Env} {s : State} {m : MethodId} {args : Array Value} {below : List Frame} {meth : Method} {c : Code} {A : Nat → Prop} {Q : State → Prop} {dC : Nat → ClassId} {dI : Nat → Nat → Nat} {cyI : ClassId} {aT aTb aS aW aWw aWr aWm aWl aWd : Nat} {v1 : Int32} {v2 : Int32} {tn : Int32} {tb : Nat → Int32} {K66 : (Nat → Int32) → Prop} (C0 : CallFix p m c cX0_growRuns 5 s args wsX0_growRuns RX0) (hA : ∀ q : Nat, s.heap.size ≤ q → A q) (hK : va_K (dC, dI) vwCl [(cyI, .int)] s) (hK66 : ∀ (wr : Nat → Int32), K66 wr → ∀ (H : Heap) (locs : List Loc) (ls : Array Slot), va_P (dC, dI) vwCl [(aT, .inr (7, [.ref aTb, .int tn])), (aTb, .inl (cyI, 64, .inl tb)), (aW, .inr (0, [.ref aT, .ref aS, .ref aWw, .ref aWr, .ref aWm, .ref aWl, .ref aWd])), (aWr, .inl (cyI, 65, .inl wr))] H → va_D A [(aT, .inr (7, [.ref aTb, .int tn])), (aTb, .inl (cyI, 64, .inl tb)), (aW, .inr (0, [.ref aT, .ref aS, .ref aWw, .ref aWr, .ref aWm, .ref aWl, .ref aWd])), (aWr, .inl (cyI, 65, .inl wr))] → va_S A s.heap H locs → lv_has ls 5 [] → W p l e ({ frames := 0, cells := 0, slots := 0, locals := 0 } : Room) s m args below meth c H locs 0 0 Q (F0 m 66 ls [])) :
    ∀ (n2 : Nat) (v3 : Int32) (wr : Nat → Int32), wpX0_growRuns_2 v1 v2 tb K66 n2 v3 wr → ∀ (H : Heap) (locs : List Loc) (ls : Array Slot), va_P (dC, dI) vwCl [(aT, .inr (7, [.ref aTb, .int tn])), (aTb, .inl (cyI, 64, .inl tb)), (aW, .inr (0, [.ref aT, .ref aS, .ref aWw, .ref aWr, .ref aWm, .ref aWl, .ref aWd])), (aWr, .inl (cyI, 65, .inl wr))] H → va_D A [(aT, .inr (7, [.ref aTb, .int tn])), (aTb, .inl (cyI, 64, .inl tb)), (aW, .inr (0, [.ref aT, .ref aS, .ref aWw, .ref aWr, .ref aWm, .ref aWl, .ref aWd])), (aWr, .inl (cyI, 65, .inl wr))] → va_S A s.heap H locs → lv_has ls 5 [(0, .ref aW), (1, .int v1), (2, .int v2), (3, .int v3)] → W p l e ({ frames := 0, cells := 0, slots := 0, locals := 0 } : Room) s m args below meth c H locs 0 0 Q (F0 m 2 ls []) := by
  obtain ⟨hx, hb, hml, hown, hts⟩ := id C0
  intro n2
  induction n2 with
  | zero => intro _ _ h; exact h.elim
  | succ n2 ih2 =>
    intro v3 wr h H locs ls hP hD hS hl
    rw [wpX0_growRuns_2] at h
    refine lv_iload_n hx hb dX0_growRuns_2 rfl (lv_at hl 3 rfl) ?_
    refine lv_iload_n hx hb dX0_growRuns_3 rfl (lv_at hl 2 rfl) ?_
    refine lv_icmp_gt (tgt := 66) hx hb dX0_growRuns_4 (by decide) (fun c_1 => ?_) (fun c_1 => ?_)
    · replace h := h.1 c_1
      exact hK66 _ h _ _ _ hP hD hS (lv_sub hl [] rfl)
    · replace h := h.2 c_1
      refine lv_aload_n hx hb dX0_growRuns_7 rfl (lv_at hl 0 rfl) ?_
      refine va_get (D := (dC, dI)) (ci := 0) (v := .ref aT) (C := RX0) (T := TX0) (N := 7) hx hb hts inX0_growRuns_wsX00 hown hK hP 2 rfl rfl 0 (by decide) (hts _ qX0_growRuns_0) (fun _ h9 => h9) rfl dX0_growRuns_8 ?_
      refine va_get (D := (dC, dI)) (ci := 7) (v := .ref aTb) (C := RX8) (T := TX8) (N := 2) hx hb hts inX0_growRuns_wsX80 hown hK hP 0 rfl rfl 0 (by decide) (hts _ qX0_growRuns_1) (fun _ h9 => h9) rfl dX0_growRuns_11 ?_
      refine lv_iload_n hx hb dX0_growRuns_14 rfl (lv_at hl 1 rfl) ?_
      obtain ⟨hi_2, h⟩ := h
      refine va_iald hx hb hK hP 1 0 rfl rfl hi_2 dX0_growRuns_15 ?_
      refine lv_aload_n hx hb dX0_growRuns_16 rfl (lv_at hl 0 rfl) ?_
      refine va_get (D := (dC, dI)) (ci := 0) (v := .ref aT) (C := RX0) (T := TX0) (N := 7) hx hb hts inX0_growRuns_wsX00 hown hK hP 2 rfl rfl 0 (by decide) (hts _ qX0_growRuns_0) (fun _ h9 => h9) rfl dX0_growRuns_17 ?_
      refine va_get (D := (dC, dI)) (ci := 7) (v := .ref aTb) (C := RX8) (T := TX8) (N := 2) hx hb hts inX0_growRuns_wsX80 hown hK hP 0 rfl rfl 0 (by decide) (hts _ qX0_growRuns_1) (fun _ h9 => h9) rfl dX0_growRuns_20 ?_
      refine lv_iload_n hx hb dX0_growRuns_23 rfl (lv_at hl 1 rfl) ?_
      refine lv_iload_n hx hb dX0_growRuns_24 rfl (lv_at hl 3 rfl) ?_
      refine lv_isub hx hb dX0_growRuns_25 ?_
      obtain ⟨hi_3, h⟩ := h
      refine va_iald hx hb hK hP 1 0 rfl rfl hi_3 dX0_growRuns_26 ?_
      refine lv_icmp_ne (tgt := 34) hx hb dX0_growRuns_27 (by decide) (fun c_4 => ?_) (fun c_4 => ?_)
      · replace h := h.2 c_4
        refine lv_iconst (v := 0) hx hb dX0_growRuns_34 (by decide) ?_
        exact wjX0_growRuns_35 C0 hA hK h _ _ _ hP hD hS (lv_sub hl [0, 1, 2, 3] rfl) ih2 hK66
      · replace h := h.1 c_4
        refine lv_iconst (v := 1) hx hb dX0_growRuns_30 (by decide) ?_
        refine lv_goto (tgt := 35) hx hb dX0_growRuns_31 (by decide) ?_
        exact wjX0_growRuns_35 C0 hA hK h _ _ _ hP hD hS (lv_sub hl [0, 1, 2, 3] rfl) ih2 hK66
def wpX0_growRuns (tb : Nat → Int32) (wr : Nat → Int32) (v1 : Int32) (v2 : Int32) (post : (Nat → Int32) → Prop) : Prop := ∃ n2 : Nat, wpX0_growRuns_2 v1 v2 tb (fun (wr_8 : Nat → Int32) => post wr_8) n2 1 wr
set_option maxHeartbeats 4000000 in
set_option maxRecDepth 100000 in
theorem mtX0_growRuns (l : Launch) (dC : Nat → ClassId) (dI : Nat → Nat → Nat) (cyI : ClassId) {aT aTb aS aW aWw aWr aWm aWl aWd : Nat} {sz : Nat} {tn : Int32} {tb : Nat → Int32} {wr : Nat → Int32} {v1 : Int32} {v2 : Int32} {post : (Nat → Int32) → Prop} (h : wpX0_growRuns tb wr v1 v2 post) : Met l yX0_growRuns wsX0_growRuns ({ frames := 0, cells := 0, slots := 0, locals := 0 }) (va_Pc [.ref aW, .int v1, .int v2] (wk_B (dC, dI) [(cyI, .int)] [(aT, .inr (7, [.ref aTb, .int tn])), (aTb, .inl (cyI, 64, .inl tb)), (aW, .inr (0, [.ref aT, .ref aS, .ref aWw, .ref aWr, .ref aWm, .ref aWl, .ref aWd])), (aWr, .inl (cyI, 65, .inl wr))] sz)) (va_Qv (fun (u : (Nat → Int32)) => post u) (wk_C (dC, dI) [(cyI, .int)] (va_A [(aT, .inr (7, [.ref aTb, .int tn])), (aTb, .inl (cyI, 64, .inl tb)), (aW, .inr (0, [.ref aT, .ref aS, .ref aWw, .ref aWr, .ref aWm, .ref aWl, .ref aWd])), (aWr, .inl (cyI, 65, .inl wr))] sz) (fun (u : (Nat → Int32)) => [(aT, .inr (7, [.ref aTb, .int tn])), (aTb, .inl (cyI, 64, .inl tb)), (aW, .inr (0, [.ref aT, .ref aS, .ref aWw, .ref aWr, .ref aWm, .ref aWl, .ref aWd])), (aWr, .inl (cyI, 65, .inl (u)))])) (va_A [(aT, .inr (7, [.ref aTb, .int tn])), (aTb, .inl (cyI, 64, .inl tb)), (aW, .inr (0, [.ref aT, .ref aS, .ref aWw, .ref aWr, .ref aWm, .ref aWl, .ref aWd])), (aWr, .inl (cyI, 65, .inl wr))] sz)) 0 0 (va_A [(aT, .inr (7, [.ref aTb, .int tn])), (aTb, .inl (cyI, 64, .inl tb)), (aW, .inr (0, [.ref aT, .ref aS, .ref aWw, .ref aWr, .ref aWm, .ref aWl, .ref aWd])), (aWr, .inl (cyI, 65, .inl wr))] sz) := by
  refine Met.ofW (cc := cX0_growRuns) (maxL := 5) (ret := none) (by decide) rfl ?_
  intro p e s m args below meth c s₁ B hml hv
  obtain ⟨rfl, hsz, hP, hK, hD0⟩ := hv
  have hx := B.exec
  have hb := B.bytes
  have hr := B.returns
  have hts := atoms_spec (ws := wsX0_growRuns) B.pre
  have hown : s.vm.findClass RX0 = some m.cls := findClass_of_methodNamed B.named
  have hlocks := B.notSynchronized
  subst hsz
  have hD := hD0.self (sz := s.heap.size)
  generalize hAe : va_A [(aT, .inr (7, [.ref aTb, .int tn])), (aTb, .inl (cyI, 64, .inl tb)), (aW, .inr (0, [.ref aT, .ref aS, .ref aWw, .ref aWr, .ref aWm, .ref aWl, .ref aWd])), (aWr, .inl (cyI, 65, .inl wr))] s.heap.size = A at hD ⊢
  have hA : ∀ q : Nat, s.heap.size ≤ q → A q := fun q h => by rw [← hAe]; exact Or.inr h
  have hS : va_S A s.heap s.heap [] := va_S.rf
  have hP : va_P (dC, dI) vwCl [(aT, .inr (7, [.ref aTb, .int tn])), (aTb, .inl (cyI, 64, .inl tb)), (aW, .inr (0, [.ref aT, .ref aS, .ref aWw, .ref aWr, .ref aWm, .ref aWl, .ref aWd])), (aWr, .inl (cyI, 65, .inl wr))] s.heap := hP
  have hl := lv_entry ([.ref aW, .int v1, .int v2]) (n := 5) (Nat.le_of_ble_eq_true rfl)
  rw [lg_entry_eq]
  generalize (lg_sl ([.ref aW, .int v1, .int v2]) ++ List.replicate (5 - (lg_sl ([.ref aW, .int v1, .int v2])).length) Slot.unset).toArray = ls at hl ⊢
  have hl : lv_has ls 5 [(0, .ref aW), (1, .int v1), (2, .int v2)] := hl
  have C0 : CallFix p m c cX0_growRuns 5 s ([.ref aW, .int v1, .int v2] : List Value).toArray wsX0_growRuns RX0 := ⟨hx, hb, hml, hown, hts⟩
  unfold wpX0_growRuns at h
  refine lv_iconst (v := 1) hx hb dX0_growRuns_0 (by decide) ?_
  refine lv_istore_n (lv' := [(3, .int 1), (0, .ref aW), (1, .int v1), (2, .int v2)]) hx hb dX0_growRuns_1 rfl hl (by decide) rfl (fun ls hl => ?_)
  obtain ⟨n2, h⟩ := h
  refine wlX0_growRuns_2 C0 hA hK ?_ n2 _ _ h _ _ _ hP hD hS (lv_sub hl [1, 2, 3, 0] rfl)
  · intro wr_8 h H locs ls hP hD hS hl
    have hP9 : va_P (dC, dI) vwCl [(aT, .inr (7, [.ref aTb, .int tn])), (aTb, .inl (cyI, 64, .inl tb)), (aW, .inr (0, [.ref aT, .ref aS, .ref aWw, .ref aWr, .ref aWm, .ref aWl, .ref aWd])), (aWr, .inl (cyI, 65, .inl wr_8))] _ := hP
    have hD9 : va_D A [(aT, .inr (7, [.ref aTb, .int tn])), (aTb, .inl (cyI, 64, .inl tb)), (aW, .inr (0, [.ref aT, .ref aS, .ref aWw, .ref aWr, .ref aWm, .ref aWl, .ref aWd])), (aWr, .inl (cyI, 65, .inl wr_8))] := hD
    exact W.vret hx hb hr (fun t ht hW => ⟨⟨wr_8, rfl, h, by rw [ht]; exact hP9, va_K.moved hW.alike hK, hD9⟩, hS.F ht⟩) hS.2.2 dX0_growRuns_66
-- X0_weighStates
theorem qX0_weighStates_0 : Cond.fieldLink RX0 27 "MatchCoder$BestWay" "text" "LMatchCoder$Text;" ∈ wsX0_weighStates := (List.mem_cons_of_mem _ (List.mem_append_left _ (List.mem_append_left _ (List.mem_append_left _ (List.mem_append_left _ (List.mem_of_getElem? (i := 0) rfl))))))
theorem qX0_weighStates_1 : Cond.fieldLink RX0 40 "MatchCoder$Text" "count" "I" ∈ wsX0_weighStates := (List.mem_cons_of_mem _ (List.mem_append_left _ (List.mem_append_left _ (List.mem_append_left _ (List.mem_append_left _ (List.mem_of_getElem? (i := 1) rfl))))))
theorem qX0_weighStates_2 : Cond.fieldLink RX0 11 "MatchCoder$BestWay" "weights" "[I" ∈ wsX0_weighStates := (List.mem_cons_of_mem _ (List.mem_append_left _ (List.mem_append_left _ (List.mem_append_left _ (List.mem_append_left _ (List.mem_of_getElem? (i := 2) rfl))))))
theorem qX0_weighStates_3 : Cond.fieldLink RX0 15 "MatchCoder$BestWay" "runs" "[I" ∈ wsX0_weighStates := (List.mem_cons_of_mem _ (List.mem_append_left _ (List.mem_append_left _ (List.mem_append_left _ (List.mem_append_left _ (List.mem_of_getElem? (i := 3) rfl))))))
theorem qX0_weighStates_4 : Cond.fieldLink RX0 31 "MatchCoder$BestWay" "settings" "LMatchCoder$Settings;" ∈ wsX0_weighStates := (List.mem_cons_of_mem _ (List.mem_append_left _ (List.mem_append_left _ (List.mem_append_left _ (List.mem_append_left _ (List.mem_of_getElem? (i := 4) rfl))))))
theorem qX0_weighStates_5 : Cond.fieldLink RX0 61 "MatchCoder$Settings" "window" "I" ∈ wsX0_weighStates := (List.mem_cons_of_mem _ (List.mem_append_left _ (List.mem_append_left _ (List.mem_append_left _ (List.mem_append_left _ (List.mem_of_getElem? (i := 5) rfl))))))
theorem qX0_weighStates_6 : Cond.methodLink RX0 66 Lib.Math.min.name ∈ wsX0_weighStates := (List.mem_cons_of_mem _ (List.mem_append_left _ (List.mem_append_left _ (List.mem_append_left _ (List.mem_append_left _ (List.mem_of_getElem? (i := 6) rfl))))))
theorem qX0_weighStates_7 : Cond.static Lib.Math.min.name ∈ wsX0_weighStates := (List.mem_cons_of_mem _ (List.mem_append_left _ (List.mem_append_left _ (List.mem_append_left _ (List.mem_append_left _ (List.mem_of_getElem? (i := 7) rfl))))))
theorem qX0_weighStates_8 : Cond.initialized "java/lang/Math" ∈ wsX0_weighStates := (List.mem_cons_of_mem _ (List.mem_append_left _ (List.mem_append_left _ (List.mem_append_left _ (List.mem_append_left _ (List.mem_of_getElem? (i := 8) rfl))))))
theorem qX0_weighStates_9 : Cond.code Lib.Math.min.name Lib.Math.min.code 2 (some .int) ∈ wsX0_weighStates := (List.mem_cons_of_mem _ (List.mem_append_left _ (List.mem_append_left _ (List.mem_append_left _ (List.mem_append_left _ (List.mem_of_getElem? (i := 9) rfl))))))
theorem inX0_weighStates_wsX00 : ∀ w ∈ wsX00, w ∈ wsX0_weighStates := fun _ h => List.mem_cons_of_mem _ (List.mem_append_left _ (List.mem_append_left _ (List.mem_append_right _ h)))
theorem inX0_weighStates_wsX80 : ∀ w ∈ wsX80, w ∈ wsX0_weighStates := fun _ h => List.mem_cons_of_mem _ (List.mem_append_left _ (List.mem_append_right _ h))
theorem inX0_weighStates_wsX70 : ∀ w ∈ wsX70, w ∈ wsX0_weighStates := fun _ h => List.mem_cons_of_mem _ (List.mem_append_right _ h)
def wpX0_weighStates_10 (v1 : Int32) (K41 : (Nat → Int32) → (Nat → Int32) → Prop) : Nat → Int32 → (Nat → Int32) → (Nat → Int32) → Prop
  | 0, _, _, _ => False
  | n10 + 1, v2, ww, wr => (65 ≤ v2 → (K41 ww wr)) ∧ (¬ 65 ≤ v2 → (vp_in ((v1 * 65) + v2) 4225 ∧ (vp_in v2 65 ∧ (wpX0_weighStates_10 v1 K41 n10 (v2 + 1) (upd ww ((v1 * 65) + v2).toNatClampNeg 0) (upd wr v2.toNatClampNeg 0)))))
set_option maxHeartbeats 4000000 in
set_option maxRecDepth 100000 in
theorem wlX0_weighStates_10 {p : Program} {l : Launch} {e : Env} {s : State} {m : MethodId} {args : Array Value} {below : List Frame} {meth : Method} {c : Code} {A : Nat → Prop} {Q : State → Prop} {dC : Nat → ClassId} {dI : Nat → Nat → Nat} {cyI : ClassId} {aT aTb aS aW aWw aWr aWm aWl aWd : Nat} {v1 : Int32} {tn : Int32} {tb : Nat → Int32} {sw : Int32} {sl : Int32} {sg : Int32} {sp : Int32} {wm : Nat → Int32} {wl : Nat → Int32} {wd : Nat → Int32} {K41 : (Nat → Int32) → (Nat → Int32) → Prop} (C0 : CallFix p m c cX0_weighStates 5 s args wsX0_weighStates RX0) (hA : ∀ q : Nat, s.heap.size ≤ q → A q) (hK : va_K (dC, dI) vwCl [(cyI, .int)] s) (hK41 : ∀ (ww : Nat → Int32) (wr : Nat → Int32), K41 ww wr → ∀ (H : Heap) (locs : List Loc) (ls : Array Slot), va_P (dC, dI) vwCl [(aT, .inr (7, [.ref aTb, .int tn])), (aTb, .inl (cyI, 64, .inl tb)), (aS, .inr (6, [.int sw, .int sl, .int sg, .int sp])), (aW, .inr (0, [.ref aT, .ref aS, .ref aWw, .ref aWr, .ref aWm, .ref aWl, .ref aWd])), (aWw, .inl (cyI, 4225, .inl ww)), (aWr, .inl (cyI, 65, .inl wr)), (aWm, .inl (cyI, 64, .inl wm)), (aWl, .inl (cyI, 64, .inl wl)), (aWd, .inl (cyI, 64, .inl wd))] H → va_D A [(aT, .inr (7, [.ref aTb, .int tn])), (aTb, .inl (cyI, 64, .inl tb)), (aS, .inr (6, [.int sw, .int sl, .int sg, .int sp])), (aW, .inr (0, [.ref aT, .ref aS, .ref aWw, .ref aWr, .ref aWm, .ref aWl, .ref aWd])), (aWw, .inl (cyI, 4225, .inl ww)), (aWr, .inl (cyI, 65, .inl wr)), (aWm, .inl (cyI, 64, .inl wm)), (aWl, .inl (cyI, 64, .inl wl)), (aWd, .inl (cyI, 64, .inl wd))] → va_S A s.heap H locs → lv_has ls 5 [(0, .ref aW), (1, .int v1)] → W p l e ({ frames := 5, cells := 0, slots := 0, locals := 115 } : Room) s m args below meth c H locs 0 0 Q (F0 m 41 ls [])) :
    ∀ (n10 : Nat) (v2 : Int32) (ww : Nat → Int32) (wr : Nat → Int32), wpX0_weighStates_10 v1 K41 n10 v2 ww wr → ∀ (H : Heap) (locs : List Loc) (ls : Array Slot), va_P (dC, dI) vwCl [(aT, .inr (7, [.ref aTb, .int tn])), (aTb, .inl (cyI, 64, .inl tb)), (aS, .inr (6, [.int sw, .int sl, .int sg, .int sp])), (aW, .inr (0, [.ref aT, .ref aS, .ref aWw, .ref aWr, .ref aWm, .ref aWl, .ref aWd])), (aWw, .inl (cyI, 4225, .inl ww)), (aWr, .inl (cyI, 65, .inl wr)), (aWm, .inl (cyI, 64, .inl wm)), (aWl, .inl (cyI, 64, .inl wl)), (aWd, .inl (cyI, 64, .inl wd))] H → va_D A [(aT, .inr (7, [.ref aTb, .int tn])), (aTb, .inl (cyI, 64, .inl tb)), (aS, .inr (6, [.int sw, .int sl, .int sg, .int sp])), (aW, .inr (0, [.ref aT, .ref aS, .ref aWw, .ref aWr, .ref aWm, .ref aWl, .ref aWd])), (aWw, .inl (cyI, 4225, .inl ww)), (aWr, .inl (cyI, 65, .inl wr)), (aWm, .inl (cyI, 64, .inl wm)), (aWl, .inl (cyI, 64, .inl wl)), (aWd, .inl (cyI, 64, .inl wd))] → va_S A s.heap H locs → lv_has ls 5 [(0, .ref aW), (1, .int v1), (2, .int v2)] → W p l e ({ frames := 5, cells := 0, slots := 0, locals := 115 } : Room) s m args below meth c H locs 0 0 Q (F0 m 10 ls []) := by
  obtain ⟨hx, hb, hml, hown, hts⟩ := id C0
  intro n10
  induction n10 with
  | zero => intro _ _ _ h; exact h.elim
  | succ n10 ih10 =>
    intro v2 ww wr h H locs ls hP hD hS hl
    rw [wpX0_weighStates_10] at h
    refine lv_iload_n hx hb dX0_weighStates_10 rfl (lv_at hl 2 rfl) ?_
    refine lv_bipush (v := 65) hx hb dX0_weighStates_11 (by decide) ?_
    refine lv_icmp_ge (tgt := 41) hx hb dX0_weighStates_13 (by decide) (fun c_1 => ?_) (fun c_1 => ?_)
    · replace h := h.1 c_1
      exact hK41 _ _ h _ _ _ hP hD hS (lv_sub hl [0, 1] rfl)
    · replace h := h.2 c_1
      refine lv_aload_n hx hb dX0_weighStates_16 rfl (lv_at hl 0 rfl) ?_
      refine va_get (D := (dC, dI)) (ci := 0) (v := .ref aWw) (C := RX0) (T := TX0) (N := 7) hx hb hts inX0_weighStates_wsX00 hown hK hP 3 rfl rfl 2 (by decide) (hts _ qX0_weighStates_2) (fun _ h9 => h9) rfl dX0_weighStates_17 ?_
      refine lv_iload_n hx hb dX0_weighStates_20 rfl (lv_at hl 1 rfl) ?_
      refine lv_bipush (v := 65) hx hb dX0_weighStates_21 (by decide) ?_
      refine lv_imul hx hb dX0_weighStates_23 ?_
      refine lv_iload_n hx hb dX0_weighStates_24 rfl (lv_at hl 2 rfl) ?_
      refine lv_iadd hx hb dX0_weighStates_25 ?_
      refine lv_iconst (v := 0) hx hb dX0_weighStates_26 (by decide) ?_
      obtain ⟨hi_2, h⟩ := h
      refine va_iast hx hb hK hP hD hS 4 0 rfl rfl hi_2 dX0_weighStates_27 (fun H locs hP hD hS => ?_)
      have hP : va_P (dC, dI) vwCl [(aT, .inr (7, [.ref aTb, .int tn])), (aTb, .inl (cyI, 64, .inl tb)), (aS, .inr (6, [.int sw, .int sl, .int sg, .int sp])), (aW, .inr (0, [.ref aT, .ref aS, .ref aWw, .ref aWr, .ref aWm, .ref aWl, .ref aWd])), (aWw, .inl (cyI, 4225, .inl (upd ww ((v1 * 65) + v2).toNatClampNeg 0))), (aWr, .inl (cyI, 65, .inl wr)), (aWm, .inl (cyI, 64, .inl wm)), (aWl, .inl (cyI, 64, .inl wl)), (aWd, .inl (cyI, 64, .inl wd))] H := hP
      have hD : va_D A [(aT, .inr (7, [.ref aTb, .int tn])), (aTb, .inl (cyI, 64, .inl tb)), (aS, .inr (6, [.int sw, .int sl, .int sg, .int sp])), (aW, .inr (0, [.ref aT, .ref aS, .ref aWw, .ref aWr, .ref aWm, .ref aWl, .ref aWd])), (aWw, .inl (cyI, 4225, .inl (upd ww ((v1 * 65) + v2).toNatClampNeg 0))), (aWr, .inl (cyI, 65, .inl wr)), (aWm, .inl (cyI, 64, .inl wm)), (aWl, .inl (cyI, 64, .inl wl)), (aWd, .inl (cyI, 64, .inl wd))] := hD
      refine lv_aload_n hx hb dX0_weighStates_28 rfl (lv_at hl 0 rfl) ?_
      refine va_get (D := (dC, dI)) (ci := 0) (v := .ref aWr) (C := RX0) (T := TX0) (N := 7) hx hb hts inX0_weighStates_wsX00 hown hK hP 3 rfl rfl 3 (by decide) (hts _ qX0_weighStates_3) (fun _ h9 => h9) rfl dX0_weighStates_29 ?_
      refine lv_iload_n hx hb dX0_weighStates_32 rfl (lv_at hl 2 rfl) ?_
      refine lv_iconst (v := 0) hx hb dX0_weighStates_33 (by decide) ?_
      obtain ⟨hi_3, h⟩ := h
      refine va_iast hx hb hK hP hD hS 5 0 rfl rfl hi_3 dX0_weighStates_34 (fun H locs hP hD hS => ?_)
      have hP : va_P (dC, dI) vwCl [(aT, .inr (7, [.ref aTb, .int tn])), (aTb, .inl (cyI, 64, .inl tb)), (aS, .inr (6, [.int sw, .int sl, .int sg, .int sp])), (aW, .inr (0, [.ref aT, .ref aS, .ref aWw, .ref aWr, .ref aWm, .ref aWl, .ref aWd])), (aWw, .inl (cyI, 4225, .inl (upd ww ((v1 * 65) + v2).toNatClampNeg 0))), (aWr, .inl (cyI, 65, .inl (upd wr v2.toNatClampNeg 0))), (aWm, .inl (cyI, 64, .inl wm)), (aWl, .inl (cyI, 64, .inl wl)), (aWd, .inl (cyI, 64, .inl wd))] H := hP
      have hD : va_D A [(aT, .inr (7, [.ref aTb, .int tn])), (aTb, .inl (cyI, 64, .inl tb)), (aS, .inr (6, [.int sw, .int sl, .int sg, .int sp])), (aW, .inr (0, [.ref aT, .ref aS, .ref aWw, .ref aWr, .ref aWm, .ref aWl, .ref aWd])), (aWw, .inl (cyI, 4225, .inl (upd ww ((v1 * 65) + v2).toNatClampNeg 0))), (aWr, .inl (cyI, 65, .inl (upd wr v2.toNatClampNeg 0))), (aWm, .inl (cyI, 64, .inl wm)), (aWl, .inl (cyI, 64, .inl wl)), (aWd, .inl (cyI, 64, .inl wd))] := hD
      refine lv_iinc (v := v2 + 1) (lv' := [(2, .int (v2 + 1)), (0, .ref aW), (1, .int v1)]) hx hb dX0_weighStates_35 hl (k := 2) rfl rfl (by decide) rfl (fun ls hl => ?_)
      refine lv_goto (tgt := 10) hx hb dX0_weighStates_38 (by decide) ?_
      exact ih10 _ _ _ h _ _ _ hP hD hS (lv_sub hl [1, 2, 0] rfl)
def wpX0_weighStates_76 (v2 : Int32) (v3 : Int32) (sg : Int32) (sp : Int32) (wr : Nat → Int32) (wm : Nat → Int32) (K107 : (Nat → Int32) → Prop) : Nat → Int32 → (Nat → Int32) → Prop
  | 0, _, _ => False
  | n76 + 1, v4, ww => (v3 < v4 → (K107 ww)) ∧ (¬ v3 < v4 → (wpX0_lightest sg sp ww wr wm v2 v4 (fun (r_12 : Int32) => vp_in ((v2 * 65) + v4) 4225 ∧ (wpX0_weighStates_76 v2 v3 sg sp wr wm K107 n76 (v4 + 1) (upd ww ((v2 * 65) + v4).toNatClampNeg r_12)))))
set_option maxHeartbeats 4000000 in
set_option maxRecDepth 100000 in
theorem wlX0_weighStates_76 {p : Program} {l : Launch} {e : Env} {s : State} {m : MethodId} {args : Array Value} {below : List Frame} {meth : Method} {c : Code} {A : Nat → Prop} {Q : State → Prop} {dC : Nat → ClassId} {dI : Nat → Nat → Nat} {cyI : ClassId} {aT aTb aS aW aWw aWr aWm aWl aWd : Nat} {v2 : Int32} {v3 : Int32} {tn : Int32} {tb : Nat → Int32} {sw : Int32} {sl : Int32} {sg : Int32} {sp : Int32} {wr : Nat → Int32} {wm : Nat → Int32} {wl : Nat → Int32} {wd : Nat → Int32} {K107 : (Nat → Int32) → Prop} (C0 : CallFix p m c cX0_weighStates 5 s args wsX0_weighStates RX0) (hA : ∀ q : Nat, s.heap.size ≤ q → A q) (hK : va_K (dC, dI) vwCl [(cyI, .int)] s) (hK107 : ∀ (ww : Nat → Int32), K107 ww → ∀ (H : Heap) (locs : List Loc) (ls : Array Slot), va_P (dC, dI) vwCl [(aT, .inr (7, [.ref aTb, .int tn])), (aTb, .inl (cyI, 64, .inl tb)), (aS, .inr (6, [.int sw, .int sl, .int sg, .int sp])), (aW, .inr (0, [.ref aT, .ref aS, .ref aWw, .ref aWr, .ref aWm, .ref aWl, .ref aWd])), (aWw, .inl (cyI, 4225, .inl ww)), (aWr, .inl (cyI, 65, .inl wr)), (aWm, .inl (cyI, 64, .inl wm)), (aWl, .inl (cyI, 64, .inl wl)), (aWd, .inl (cyI, 64, .inl wd))] H → va_D A [(aT, .inr (7, [.ref aTb, .int tn])), (aTb, .inl (cyI, 64, .inl tb)), (aS, .inr (6, [.int sw, .int sl, .int sg, .int sp])), (aW, .inr (0, [.ref aT, .ref aS, .ref aWw, .ref aWr, .ref aWm, .ref aWl, .ref aWd])), (aWw, .inl (cyI, 4225, .inl ww)), (aWr, .inl (cyI, 65, .inl wr)), (aWm, .inl (cyI, 64, .inl wm)), (aWl, .inl (cyI, 64, .inl wl)), (aWd, .inl (cyI, 64, .inl wd))] → va_S A s.heap H locs → lv_has ls 5 [(0, .ref aW), (2, .int v2)] → W p l e ({ frames := 5, cells := 0, slots := 0, locals := 115 } : Room) s m args below meth c H locs 0 0 Q (F0 m 107 ls [])) :
    ∀ (n76 : Nat) (v4 : Int32) (ww : Nat → Int32), wpX0_weighStates_76 v2 v3 sg sp wr wm K107 n76 v4 ww → ∀ (H : Heap) (locs : List Loc) (ls : Array Slot), va_P (dC, dI) vwCl [(aT, .inr (7, [.ref aTb, .int tn])), (aTb, .inl (cyI, 64, .inl tb)), (aS, .inr (6, [.int sw, .int sl, .int sg, .int sp])), (aW, .inr (0, [.ref aT, .ref aS, .ref aWw, .ref aWr, .ref aWm, .ref aWl, .ref aWd])), (aWw, .inl (cyI, 4225, .inl ww)), (aWr, .inl (cyI, 65, .inl wr)), (aWm, .inl (cyI, 64, .inl wm)), (aWl, .inl (cyI, 64, .inl wl)), (aWd, .inl (cyI, 64, .inl wd))] H → va_D A [(aT, .inr (7, [.ref aTb, .int tn])), (aTb, .inl (cyI, 64, .inl tb)), (aS, .inr (6, [.int sw, .int sl, .int sg, .int sp])), (aW, .inr (0, [.ref aT, .ref aS, .ref aWw, .ref aWr, .ref aWm, .ref aWl, .ref aWd])), (aWw, .inl (cyI, 4225, .inl ww)), (aWr, .inl (cyI, 65, .inl wr)), (aWm, .inl (cyI, 64, .inl wm)), (aWl, .inl (cyI, 64, .inl wl)), (aWd, .inl (cyI, 64, .inl wd))] → va_S A s.heap H locs → lv_has ls 5 [(0, .ref aW), (2, .int v2), (3, .int v3), (4, .int v4)] → W p l e ({ frames := 5, cells := 0, slots := 0, locals := 115 } : Room) s m args below meth c H locs 0 0 Q (F0 m 76 ls []) := by
  obtain ⟨hx, hb, hml, hown, hts⟩ := id C0
  intro n76
  induction n76 with
  | zero => intro _ _ h; exact h.elim
  | succ n76 ih76 =>
    intro v4 ww h H locs ls hP hD hS hl
    rw [wpX0_weighStates_76] at h
    refine lv_iload hx hb dX0_weighStates_76 (lv_at hl 3 rfl) ?_
    refine lv_iload_n hx hb dX0_weighStates_78 rfl (lv_at hl 2 rfl) ?_
    refine lv_icmp_gt (tgt := 107) hx hb dX0_weighStates_79 (by decide) (fun c_11 => ?_) (fun c_11 => ?_)
    · replace h := h.1 c_11
      exact hK107 _ h _ _ _ hP hD hS (lv_sub hl [0, 1] rfl)
    · replace h := h.2 c_11
      refine lv_aload_n hx hb dX0_weighStates_82 rfl (lv_at hl 0 rfl) ?_
      refine va_get (D := (dC, dI)) (ci := 0) (v := .ref aWw) (C := RX0) (T := TX0) (N := 7) hx hb hts inX0_weighStates_wsX00 hown hK hP 3 rfl rfl 2 (by decide) (hts _ qX0_weighStates_2) (fun _ h9 => h9) rfl dX0_weighStates_83 ?_
      refine lv_iload_n hx hb dX0_weighStates_86 rfl (lv_at hl 1 rfl) ?_
      refine lv_bipush (v := 65) hx hb dX0_weighStates_87 (by decide) ?_
      refine lv_imul hx hb dX0_weighStates_89 ?_
      refine lv_iload hx hb dX0_weighStates_90 (lv_at hl 3 rfl) ?_
      refine lv_iadd hx hb dX0_weighStates_92 ?_
      refine lv_aload_n hx hb dX0_weighStates_93 rfl (lv_at hl 0 rfl) ?_
      refine lv_iload_n hx hb dX0_weighStates_94 rfl (lv_at hl 1 rfl) ?_
      refine lv_iload hx hb dX0_weighStates_95 (lv_at hl 3 rfl) ?_
      refine wk_calli (wc := [(aS, .inr (6, [.int sw, .int sl, .int sg, .int sp])), (aW, .inr (0, [.ref aT, .ref aS, .ref aWw, .ref aWr, .ref aWm, .ref aWl, .ref aWd])), (aWw, .inl (cyI, 4225, .inl ww)), (aWr, .inl (cyI, 65, .inl wr)), (aWm, .inl (cyI, 64, .inl wm))]) (wr := [(aT, .inr (7, [.ref aTb, .int tn])), (aTb, .inl (cyI, 64, .inl tb)), (aWl, .inl (cyI, 64, .inl wl)), (aWd, .inl (cyI, 64, .inl wd))]) (va_runV (As := [.int v2, .int v4]) (rest := [.int ((v2 * 65) + v4), .ref aWw]) C0 (mtX0_lightest l dC dI cyI (aT := aT) (aS := aS) (aW := aW) (aWw := aWw) (aWr := aWr) (aWm := aWm) (aWl := aWl) (aWd := aWd) (sz := _) (sw := sw) (sl := sl) (sg := sg) (sp := sp) (ww := ww) (wr := wr) (wm := wm) (v1 := v2) (v2 := v4) h) (cwV 2 hts gX0_weighStates_X0_lightest rfl rfl rfl (by decide +kernel) ⟨(Nat.le_of_ble_eq_true rfl), (Nat.le_of_ble_eq_true rfl)⟩) (wk_preV (wc := [(aS, .inr (6, [.int sw, .int sl, .int sg, .int sp])), (aW, .inr (0, [.ref aT, .ref aS, .ref aWw, .ref aWr, .ref aWm, .ref aWl, .ref aWd])), (aWw, .inl (cyI, 4225, .inl ww)), (aWr, .inl (cyI, 65, .inl wr)), (aWm, .inl (cyI, 64, .inl wm))]) hK hP hD [2, 3, 4, 5, 6] rfl (by decide) (va_recv hK hP (ci := 0) (q0 := 3) rfl rfl)) rfl rfl hl.1 rfl (lv_room (Nat.le_of_ble_eq_true rfl)) dX0_weighStates_97 ⟨(Nat.le_of_ble_eq_true rfl), (Nat.le_of_ble_eq_true rfl)⟩) hP hD hS hA [2, 3, 4, 5, 6] [0, 1, 7, 8] rfl rfl (by decide) (by decide) (fun r_12 u9 H locs h hP hD hS => ?_)
      have hP : va_P (dC, dI) vwCl [(aT, .inr (7, [.ref aTb, .int tn])), (aTb, .inl (cyI, 64, .inl tb)), (aWl, .inl (cyI, 64, .inl wl)), (aWd, .inl (cyI, 64, .inl wd)), (aS, .inr (6, [.int sw, .int sl, .int sg, .int sp])), (aW, .inr (0, [.ref aT, .ref aS, .ref aWw, .ref aWr, .ref aWm, .ref aWl, .ref aWd])), (aWw, .inl (cyI, 4225, .inl ww)), (aWr, .inl (cyI, 65, .inl wr)), (aWm, .inl (cyI, 64, .inl wm))] H := hP
      have hD : va_D A [(aT, .inr (7, [.ref aTb, .int tn])), (aTb, .inl (cyI, 64, .inl tb)), (aWl, .inl (cyI, 64, .inl wl)), (aWd, .inl (cyI, 64, .inl wd)), (aS, .inr (6, [.int sw, .int sl, .int sg, .int sp])), (aW, .inr (0, [.ref aT, .ref aS, .ref aWw, .ref aWr, .ref aWm, .ref aWl, .ref aWd])), (aWw, .inl (cyI, 4225, .inl ww)), (aWr, .inl (cyI, 65, .inl wr)), (aWm, .inl (cyI, 64, .inl wm))] := hD
      obtain ⟨hi_13, h⟩ := h
      refine va_iast hx hb hK hP hD hS 6 0 rfl rfl hi_13 dX0_weighStates_100 (fun H locs hP hD hS => ?_)
      have hP : va_P (dC, dI) vwCl [(aT, .inr (7, [.ref aTb, .int tn])), (aTb, .inl (cyI, 64, .inl tb)), (aWl, .inl (cyI, 64, .inl wl)), (aWd, .inl (cyI, 64, .inl wd)), (aS, .inr (6, [.int sw, .int sl, .int sg, .int sp])), (aW, .inr (0, [.ref aT, .ref aS, .ref aWw, .ref aWr, .ref aWm, .ref aWl, .ref aWd])), (aWw, .inl (cyI, 4225, .inl (upd ww ((v2 * 65) + v4).toNatClampNeg r_12))), (aWr, .inl (cyI, 65, .inl wr)), (aWm, .inl (cyI, 64, .inl wm))] H := hP
      have hD : va_D A [(aT, .inr (7, [.ref aTb, .int tn])), (aTb, .inl (cyI, 64, .inl tb)), (aWl, .inl (cyI, 64, .inl wl)), (aWd, .inl (cyI, 64, .inl wd)), (aS, .inr (6, [.int sw, .int sl, .int sg, .int sp])), (aW, .inr (0, [.ref aT, .ref aS, .ref aWw, .ref aWr, .ref aWm, .ref aWl, .ref aWd])), (aWw, .inl (cyI, 4225, .inl (upd ww ((v2 * 65) + v4).toNatClampNeg r_12))), (aWr, .inl (cyI, 65, .inl wr)), (aWm, .inl (cyI, 64, .inl wm))] := hD
      refine lv_iinc (v := v4 + 1) (lv' := [(4, .int (v4 + 1)), (0, .ref aW), (2, .int v2), (3, .int v3)]) hx hb dX0_weighStates_101 hl (k := 3) rfl rfl (by decide) rfl (fun ls hl => ?_)
      refine lv_goto (tgt := 76) hx hb dX0_weighStates_104 (by decide) ?_
      exact ih76 _ _ h _ _ _ (hP.sub [0, 1, 4, 5, 6, 7, 8, 2, 3] rfl) (hD.sub [0, 1, 4, 5, 6, 7, 8, 2, 3] (by decide) rfl) hS (lv_sub hl [1, 2, 3, 0] rfl)
def wpX0_weighStates_45 (tb : Nat → Int32) (sw : Int32) (sl : Int32) (sg : Int32) (sp : Int32) (K113 : (Nat → Int32) → (Nat → Int32) → (Nat → Int32) → (Nat → Int32) → (Nat → Int32) → Prop) : Nat → Int32 → (Nat → Int32) → (Nat → Int32) → (Nat → Int32) → (Nat → Int32) → (Nat → Int32) → Prop
  | 0, _, _, _, _, _, _ => False
  | n45 + 1, v2, ww, wr, wm, wl, wd => (v2 < 0 → (K113 ww wr wm wl wd)) ∧ (¬ v2 < 0 → (wpX0_growRuns tb wr v2 (if sw < v2 then sw else v2) (fun (wr_7 : Nat → Int32) => wpX0_weighMatches sl sg sp ww wr_7 wm wl wd v2 (if sw < v2 then sw else v2) (fun (wm_8 : Nat → Int32) (wl_9 : Nat → Int32) (wd_10 : Nat → Int32) => ∃ n76 : Nat, wpX0_weighStates_76 v2 (if sw < v2 then sw else v2) sg sp wr_7 wm_8 (fun (ww_14 : Nat → Int32) => wpX0_weighStates_45 tb sw sl sg sp K113 n45 (v2 + (-1)) ww_14 wr_7 wm_8 wl_9 wd_10) n76 0 ww))))
set_option maxHeartbeats 4000000 in
set_option maxRecDepth 100000 in
theorem wlX0_weighStates_45 {p : Program} {l : Launch} {e : Env} {s : State} {m : MethodId} {args : Array Value} {below : List Frame} {meth : Method} {c : Code} {A : Nat → Prop} {Q : State → Prop} {dC : Nat → ClassId} {dI : Nat → Nat → Nat} {cyI : ClassId} {aT aTb aS aW aWw aWr aWm aWl aWd : Nat} {tn : Int32} {tb : Nat → Int32} {sw : Int32} {sl : Int32} {sg : Int32} {sp : Int32} {K113 : (Nat → Int32) → (Nat → Int32) → (Nat → Int32) → (Nat → Int32) → (Nat → Int32) → Prop} (C0 : CallFix p m c cX0_weighStates 5 s args wsX0_weighStates RX0) (hA : ∀ q : Nat, s.heap.size ≤ q → A q) (hK : va_K (dC, dI) vwCl [(cyI, .int)] s) (hK113 : ∀ (ww : Nat → Int32) (wr : Nat → Int32) (wm : Nat → Int32) (wl : Nat → Int32) (wd : Nat → Int32), K113 ww wr wm wl wd → ∀ (H : Heap) (locs : List Loc) (ls : Array Slot), va_P (dC, dI) vwCl [(aT, .inr (7, [.ref aTb, .int tn])), (aTb, .inl (cyI, 64, .inl tb)), (aS, .inr (6, [.int sw, .int sl, .int sg, .int sp])), (aW, .inr (0, [.ref aT, .ref aS, .ref aWw, .ref aWr, .ref aWm, .ref aWl, .ref aWd])), (aWw, .inl (cyI, 4225, .inl ww)), (aWr, .inl (cyI, 65, .inl wr)), (aWm, .inl (cyI, 64, .inl wm)), (aWl, .inl (cyI, 64, .inl wl)), (aWd, .inl (cyI, 64, .inl wd))] H → va_D A [(aT, .inr (7, [.ref aTb, .int tn])), (aTb, .inl (cyI, 64, .inl tb)), (aS, .inr (6, [.int sw, .int sl, .int sg, .int sp])), (aW, .inr (0, [.ref aT, .ref aS, .ref aWw, .ref aWr, .ref aWm, .ref aWl, .ref aWd])), (aWw, .inl (cyI, 4225, .inl ww)), (aWr, .inl (cyI, 65, .inl wr)), (aWm, .inl (cyI, 64, .inl wm)), (aWl, .inl (cyI, 64, .inl wl)), (aWd, .inl (cyI, 64, .inl wd))] → va_S A s.heap H locs → lv_has ls 5 [] → W p l e ({ frames := 5, cells := 0, slots := 0, locals := 115 } : Room) s m args below meth c H locs 0 0 Q (F0 m 113 ls [])) :
    ∀ (n45 : Nat) (v2 : Int32) (ww : Nat → Int32) (wr : Nat → Int32) (wm : Nat → Int32) (wl : Nat → Int32) (wd : Nat → Int32), wpX0_weighStates_45 tb sw sl sg sp K113 n45 v2 ww wr wm wl wd → ∀ (H : Heap) (locs : List Loc) (ls : Array Slot), va_P (dC, dI) vwCl [(aT, .inr (7, [.ref aTb, .int tn])), (aTb, .inl (cyI, 64, .inl tb)), (aS, .inr (6, [.int sw, .int sl, .int sg, .int sp])), (aW, .inr (0, [.ref aT, .ref aS, .ref aWw, .ref aWr, .ref aWm, .ref aWl, .ref aWd])), (aWw, .inl (cyI, 4225, .inl ww)), (aWr, .inl (cyI, 65, .inl wr)), (aWm, .inl (cyI, 64, .inl wm)), (aWl, .inl (cyI, 64, .inl wl)), (aWd, .inl (cyI, 64, .inl wd))] H → va_D A [(aT, .inr (7, [.ref aTb, .int tn])), (aTb, .inl (cyI, 64, .inl tb)), (aS, .inr (6, [.int sw, .int sl, .int sg, .int sp])), (aW, .inr (0, [.ref aT, .ref aS, .ref aWw, .ref aWr, .ref aWm, .ref aWl, .ref aWd])), (aWw, .inl (cyI, 4225, .inl ww)), (aWr, .inl (cyI, 65, .inl wr)), (aWm, .inl (cyI, 64, .inl wm)), (aWl, .inl (cyI, 64, .inl wl)), (aWd, .inl (cyI, 64, .inl wd))] → va_S A s.heap H locs → lv_has ls 5 [(0, .ref aW), (2, .int v2)] → W p l e ({ frames := 5, cells := 0, slots := 0, locals := 115 } : Room) s m args below meth c H locs 0 0 Q (F0 m 45 ls []) := by
  obtain ⟨hx, hb, hml, hown, hts⟩ := id C0
  intro n45
  induction n45 with
  | zero => intro _ _ _ _ _ _ h; exact h.elim
  | succ n45 ih45 =>
    intro v2 ww wr wm wl wd h H locs ls hP hD hS hl
    rw [wpX0_weighStates_45] at h
    refine lv_iload_n hx hb dX0_weighStates_45 rfl (lv_at hl 1 rfl) ?_
    refine lv_if_lt (tgt := 113) hx hb dX0_weighStates_46 (by decide) (fun c_6 => ?_) (fun c_6 => ?_)
    · replace h := h.1 c_6
      exact hK113 _ _ _ _ _ h _ _ _ hP hD hS (lv_sub hl [] rfl)
    · replace h := h.2 c_6
      refine lv_iload_n hx hb dX0_weighStates_49 rfl (lv_at hl 1 rfl) ?_
      refine lv_aload_n hx hb dX0_weighStates_50 rfl (lv_at hl 0 rfl) ?_
      refine va_get (D := (dC, dI)) (ci := 0) (v := .ref aS) (C := RX0) (T := TX0) (N := 7) hx hb hts inX0_weighStates_wsX00 hown hK hP 3 rfl rfl 1 (by decide) (hts _ qX0_weighStates_4) (fun _ h9 => h9) rfl dX0_weighStates_51 ?_
      refine va_get (D := (dC, dI)) (ci := 6) (v := .int sw) (C := RX7) (T := TX7) (N := 4) hx hb hts inX0_weighStates_wsX70 hown hK hP 2 rfl rfl 0 (by decide) (hts _ qX0_weighStates_5) (fun _ h9 => h9) rfl dX0_weighStates_54 ?_
      refine va_mmin hx hb (hml.trans hl.1.symm) hown (hts _ qX0_weighStates_6) (hts _ qX0_weighStates_7) (hts _ qX0_weighStates_8) (hts _ qX0_weighStates_9) (Nat.le_of_ble_eq_true rfl) (Nat.le_of_ble_eq_true rfl) (Nat.zero_le _) (Nat.zero_le _) dX0_weighStates_57 ?_
      refine lv_istore_n (lv' := [(3, .int (if sw < v2 then sw else v2)), (0, .ref aW), (2, .int v2)]) hx hb dX0_weighStates_60 rfl hl (by decide) rfl (fun ls hl => ?_)
      refine lv_aload_n hx hb dX0_weighStates_61 rfl (lv_at hl 1 rfl) ?_
      refine lv_iload_n hx hb dX0_weighStates_62 rfl (lv_at hl 2 rfl) ?_
      refine lv_iload_n hx hb dX0_weighStates_63 rfl (lv_at hl 0 rfl) ?_
      refine wk_callv (wc := [(aT, .inr (7, [.ref aTb, .int tn])), (aTb, .inl (cyI, 64, .inl tb)), (aW, .inr (0, [.ref aT, .ref aS, .ref aWw, .ref aWr, .ref aWm, .ref aWl, .ref aWd])), (aWr, .inl (cyI, 65, .inl wr))]) (wr := [(aS, .inr (6, [.int sw, .int sl, .int sg, .int sp])), (aWw, .inl (cyI, 4225, .inl ww)), (aWm, .inl (cyI, 64, .inl wm)), (aWl, .inl (cyI, 64, .inl wl)), (aWd, .inl (cyI, 64, .inl wd))]) (va_runV (As := [.int v2, .int (if sw < v2 then sw else v2)]) (rest := []) C0 (mtX0_growRuns l dC dI cyI (aT := aT) (aTb := aTb) (aS := aS) (aW := aW) (aWw := aWw) (aWr := aWr) (aWm := aWm) (aWl := aWl) (aWd := aWd) (sz := _) (tn := tn) (tb := tb) (wr := wr) (v1 := v2) (v2 := (if sw < v2 then sw else v2)) h) (cwV 2 hts gX0_weighStates_X0_growRuns rfl rfl rfl (by decide +kernel) ⟨(Nat.le_of_ble_eq_true rfl), (Nat.le_of_ble_eq_true rfl)⟩) (wk_preV (wc := [(aT, .inr (7, [.ref aTb, .int tn])), (aTb, .inl (cyI, 64, .inl tb)), (aW, .inr (0, [.ref aT, .ref aS, .ref aWw, .ref aWr, .ref aWm, .ref aWl, .ref aWd])), (aWr, .inl (cyI, 65, .inl wr))]) hK hP hD [0, 1, 3, 5] rfl (by decide) (va_recv hK hP (ci := 0) (q0 := 3) rfl rfl)) rfl rfl hl.1 rfl (lv_room (Nat.le_of_ble_eq_true rfl)) dX0_weighStates_64 ⟨(Nat.le_of_ble_eq_true rfl), (Nat.le_of_ble_eq_true rfl)⟩) hP hD hS hA [0, 1, 3, 5] [2, 4, 6, 7, 8] rfl rfl (by decide) (by decide) (fun u9 H locs h hP hD hS => ?_)
      obtain ⟨wr_7, rfl⟩ : ∃ z9, z9 = u9 := ⟨_, rfl⟩
      have hP : va_P (dC, dI) vwCl [(aS, .inr (6, [.int sw, .int sl, .int sg, .int sp])), (aWw, .inl (cyI, 4225, .inl ww)), (aWm, .inl (cyI, 64, .inl wm)), (aWl, .inl (cyI, 64, .inl wl)), (aWd, .inl (cyI, 64, .inl wd)), (aT, .inr (7, [.ref aTb, .int tn])), (aTb, .inl (cyI, 64, .inl tb)), (aW, .inr (0, [.ref aT, .ref aS, .ref aWw, .ref aWr, .ref aWm, .ref aWl, .ref aWd])), (aWr, .inl (cyI, 65, .inl wr_7))] H := hP
      have hD : va_D A [(aS, .inr (6, [.int sw, .int sl, .int sg, .int sp])), (aWw, .inl (cyI, 4225, .inl ww)), (aWm, .inl (cyI, 64, .inl wm)), (aWl, .inl (cyI, 64, .inl wl)), (aWd, .inl (cyI, 64, .inl wd)), (aT, .inr (7, [.ref aTb, .int tn])), (aTb, .inl (cyI, 64, .inl tb)), (aW, .inr (0, [.ref aT, .ref aS, .ref aWw, .ref aWr, .ref aWm, .ref aWl, .ref aWd])), (aWr, .inl (cyI, 65, .inl wr_7))] := hD
      refine lv_aload_n hx hb dX0_weighStates_67 rfl (lv_at hl 1 rfl) ?_
      refine lv_iload_n hx hb dX0_weighStates_68 rfl (lv_at hl 2 rfl) ?_
      refine lv_iload_n hx hb dX0_weighStates_69 rfl (lv_at hl 0 rfl) ?_
      refine wk_callv (wc := [(aS, .inr (6, [.int sw, .int sl, .int sg, .int sp])), (aW, .inr (0, [.ref aT, .ref aS, .ref aWw, .ref aWr, .ref aWm, .ref aWl, .ref aWd])), (aWw, .inl (cyI, 4225, .inl ww)), (aWr, .inl (cyI, 65, .inl wr_7)), (aWm, .inl (cyI, 64, .inl wm)), (aWl, .inl (cyI, 64, .inl wl)), (aWd, .inl (cyI, 64, .inl wd))]) (wr := [(aT, .inr (7, [.ref aTb, .int tn])), (aTb, .inl (cyI, 64, .inl tb))]) (va_runV (As := [.int v2, .int (if sw < v2 then sw else v2)]) (rest := []) C0 (mtX0_weighMatches l dC dI cyI (aT := aT) (aS := aS) (aW := aW) (aWw := aWw) (aWr := aWr) (aWm := aWm) (aWl := aWl) (aWd := aWd) (sz := _) (sw := sw) (sl := sl) (sg := sg) (sp := sp) (ww := ww) (wr := wr_7) (wm := wm) (wl := wl) (wd := wd) (v1 := v2) (v2 := (if sw < v2 then sw else v2)) h) (cwV 2 hts gX0_weighStates_X0_weighMatches rfl rfl rfl (by decide +kernel) ⟨(Nat.le_of_ble_eq_true rfl), (Nat.le_of_ble_eq_true rfl)⟩) (wk_preV (wc := [(aS, .inr (6, [.int sw, .int sl, .int sg, .int sp])), (aW, .inr (0, [.ref aT, .ref aS, .ref aWw, .ref aWr, .ref aWm, .ref aWl, .ref aWd])), (aWw, .inl (cyI, 4225, .inl ww)), (aWr, .inl (cyI, 65, .inl wr_7)), (aWm, .inl (cyI, 64, .inl wm)), (aWl, .inl (cyI, 64, .inl wl)), (aWd, .inl (cyI, 64, .inl wd))]) hK hP hD [0, 7, 1, 8, 2, 3, 4] rfl (by decide) (va_recv hK hP (ci := 0) (q0 := 7) rfl rfl)) rfl rfl hl.1 rfl (lv_room (Nat.le_of_ble_eq_true rfl)) dX0_weighStates_70 ⟨(Nat.le_of_ble_eq_true rfl), (Nat.le_of_ble_eq_true rfl)⟩) hP hD hS hA [0, 7, 1, 8, 2, 3, 4] [5, 6] rfl rfl (by decide) (by decide) (fun u9 H locs h hP hD hS => ?_)
      obtain ⟨wm_8, wl_9, wd_10⟩ := u9
      have hP : va_P (dC, dI) vwCl [(aT, .inr (7, [.ref aTb, .int tn])), (aTb, .inl (cyI, 64, .inl tb)), (aS, .inr (6, [.int sw, .int sl, .int sg, .int sp])), (aW, .inr (0, [.ref aT, .ref aS, .ref aWw, .ref aWr, .ref aWm, .ref aWl, .ref aWd])), (aWw, .inl (cyI, 4225, .inl ww)), (aWr, .inl (cyI, 65, .inl wr_7)), (aWm, .inl (cyI, 64, .inl wm_8)), (aWl, .inl (cyI, 64, .inl wl_9)), (aWd, .inl (cyI, 64, .inl wd_10))] H := hP
      have hD : va_D A [(aT, .inr (7, [.ref aTb, .int tn])), (aTb, .inl (cyI, 64, .inl tb)), (aS, .inr (6, [.int sw, .int sl, .int sg, .int sp])), (aW, .inr (0, [.ref aT, .ref aS, .ref aWw, .ref aWr, .ref aWm, .ref aWl, .ref aWd])), (aWw, .inl (cyI, 4225, .inl ww)), (aWr, .inl (cyI, 65, .inl wr_7)), (aWm, .inl (cyI, 64, .inl wm_8)), (aWl, .inl (cyI, 64, .inl wl_9)), (aWd, .inl (cyI, 64, .inl wd_10))] := hD
      dsimp only at h
      refine lv_iconst (v := 0) hx hb dX0_weighStates_73 (by decide) ?_
      refine lv_istore (lv' := [(4, .int 0), (3, .int (if sw < v2 then sw else v2)), (0, .ref aW), (2, .int v2)]) hx hb dX0_weighStates_74 hl (by decide) rfl (fun ls hl => ?_)
      obtain ⟨n76, h⟩ := h
      refine wlX0_weighStates_76 C0 hA hK ?_ n76 _ _ h _ _ _ hP hD hS (lv_sub hl [2, 3, 1, 0] rfl)
      · intro ww_14 h H locs ls hP hD hS hl
        refine lv_iinc (v := v2 + (-1)) (lv' := [(2, .int (v2 + (-1))), (0, .ref aW)]) hx hb dX0_weighStates_107 hl (k := 1) rfl rfl (by decide) rfl (fun ls hl => ?_)
        refine lv_goto (tgt := 45) hx hb dX0_weighStates_110 (by decide) ?_
        exact ih45 _ _ _ _ _ _ h _ _ _ hP hD hS (lv_sub hl [1, 0] rfl)
def wpX0_weighStates (tn : Int32) (tb : Nat → Int32) (sw : Int32) (sl : Int32) (sg : Int32) (sp : Int32) (ww : Nat → Int32) (wr : Nat → Int32) (wm : Nat → Int32) (wl : Nat → Int32) (wd : Nat → Int32) (post : (Nat → Int32) → (Nat → Int32) → (Nat → Int32) → (Nat → Int32) → (Nat → Int32) → Prop) : Prop := ∃ n10 : Nat, wpX0_weighStates_10 tn (fun (ww_4 : Nat → Int32) (wr_5 : Nat → Int32) => ∃ n45 : Nat, wpX0_weighStates_45 tb sw sl sg sp (fun (ww_15 : Nat → Int32) (wr_16 : Nat → Int32) (wm_17 : Nat → Int32) (wl_18 : Nat → Int32) (wd_19 : Nat → Int32) => post ww_15 wr_16 wm_17 wl_18 wd_19) n45 (tn - 1) ww_4 wr_5 wm wl wd) n10 0 ww wr
set_option maxHeartbeats 4000000 in
set_option maxRecDepth 100000 in
theorem mtX0_weighStates (l : Launch) (dC : Nat → ClassId) (dI : Nat → Nat → Nat) (cyI : ClassId) {aT aTb aS aW aWw aWr aWm aWl aWd : Nat} {sz : Nat} {tn : Int32} {tb : Nat → Int32} {sw : Int32} {sl : Int32} {sg : Int32} {sp : Int32} {ww : Nat → Int32} {wr : Nat → Int32} {wm : Nat → Int32} {wl : Nat → Int32} {wd : Nat → Int32} {post : (Nat → Int32) → (Nat → Int32) → (Nat → Int32) → (Nat → Int32) → (Nat → Int32) → Prop} (h : wpX0_weighStates tn tb sw sl sg sp ww wr wm wl wd post) : Met l yX0_weighStates wsX0_weighStates ({ frames := 5, cells := 0, slots := 0, locals := 115 }) (va_Pc [.ref aW] (wk_B (dC, dI) [(cyI, .int)] [(aT, .inr (7, [.ref aTb, .int tn])), (aTb, .inl (cyI, 64, .inl tb)), (aS, .inr (6, [.int sw, .int sl, .int sg, .int sp])), (aW, .inr (0, [.ref aT, .ref aS, .ref aWw, .ref aWr, .ref aWm, .ref aWl, .ref aWd])), (aWw, .inl (cyI, 4225, .inl ww)), (aWr, .inl (cyI, 65, .inl wr)), (aWm, .inl (cyI, 64, .inl wm)), (aWl, .inl (cyI, 64, .inl wl)), (aWd, .inl (cyI, 64, .inl wd))] sz)) (va_Qv (fun (u : (Nat → Int32) × (Nat → Int32) × (Nat → Int32) × (Nat → Int32) × (Nat → Int32)) => post u.1 u.2.1 u.2.2.1 u.2.2.2.1 u.2.2.2.2) (wk_C (dC, dI) [(cyI, .int)] (va_A [(aT, .inr (7, [.ref aTb, .int tn])), (aTb, .inl (cyI, 64, .inl tb)), (aS, .inr (6, [.int sw, .int sl, .int sg, .int sp])), (aW, .inr (0, [.ref aT, .ref aS, .ref aWw, .ref aWr, .ref aWm, .ref aWl, .ref aWd])), (aWw, .inl (cyI, 4225, .inl ww)), (aWr, .inl (cyI, 65, .inl wr)), (aWm, .inl (cyI, 64, .inl wm)), (aWl, .inl (cyI, 64, .inl wl)), (aWd, .inl (cyI, 64, .inl wd))] sz) (fun (u : (Nat → Int32) × (Nat → Int32) × (Nat → Int32) × (Nat → Int32) × (Nat → Int32)) => [(aT, .inr (7, [.ref aTb, .int tn])), (aTb, .inl (cyI, 64, .inl tb)), (aS, .inr (6, [.int sw, .int sl, .int sg, .int sp])), (aW, .inr (0, [.ref aT, .ref aS, .ref aWw, .ref aWr, .ref aWm, .ref aWl, .ref aWd])), (aWw, .inl (cyI, 4225, .inl (u.1))), (aWr, .inl (cyI, 65, .inl (u.2.1))), (aWm, .inl (cyI, 64, .inl (u.2.2.1))), (aWl, .inl (cyI, 64, .inl (u.2.2.2.1))), (aWd, .inl (cyI, 64, .inl (u.2.2.2.2)))])) (va_A [(aT, .inr (7, [.ref aTb, .int tn])), (aTb, .inl (cyI, 64, .inl tb)), (aS, .inr (6, [.int sw, .int sl, .int sg, .int sp])), (aW, .inr (0, [.ref aT, .ref aS, .ref aWw, .ref aWr, .ref aWm, .ref aWl, .ref aWd])), (aWw, .inl (cyI, 4225, .inl ww)), (aWr, .inl (cyI, 65, .inl wr)), (aWm, .inl (cyI, 64, .inl wm)), (aWl, .inl (cyI, 64, .inl wl)), (aWd, .inl (cyI, 64, .inl wd))] sz)) 0 0 (va_A [(aT, .inr (7, [.ref aTb, .int tn])), (aTb, .inl (cyI, 64, .inl tb)), (aS, .inr (6, [.int sw, .int sl, .int sg, .int sp])), (aW, .inr (0, [.ref aT, .ref aS, .ref aWw, .ref aWr, .ref aWm, .ref aWl, .ref aWd])), (aWw, .inl (cyI, 4225, .inl ww)), (aWr, .inl (cyI, 65, .inl wr)), (aWm, .inl (cyI, 64, .inl wm)), (aWl, .inl (cyI, 64, .inl wl)), (aWd, .inl (cyI, 64, .inl wd))] sz) := by
  refine Met.ofW (cc := cX0_weighStates) (maxL := 5) (ret := none) (by decide) rfl ?_
  intro p e s m args below meth c s₁ B hml hv
  obtain ⟨rfl, hsz, hP, hK, hD0⟩ := hv
  have hx := B.exec
  have hb := B.bytes
  have hr := B.returns
  have hts := atoms_spec (ws := wsX0_weighStates) B.pre
  have hown : s.vm.findClass RX0 = some m.cls := findClass_of_methodNamed B.named
  have hlocks := B.notSynchronized
  subst hsz
  have hD := hD0.self (sz := s.heap.size)
  generalize hAe : va_A [(aT, .inr (7, [.ref aTb, .int tn])), (aTb, .inl (cyI, 64, .inl tb)), (aS, .inr (6, [.int sw, .int sl, .int sg, .int sp])), (aW, .inr (0, [.ref aT, .ref aS, .ref aWw, .ref aWr, .ref aWm, .ref aWl, .ref aWd])), (aWw, .inl (cyI, 4225, .inl ww)), (aWr, .inl (cyI, 65, .inl wr)), (aWm, .inl (cyI, 64, .inl wm)), (aWl, .inl (cyI, 64, .inl wl)), (aWd, .inl (cyI, 64, .inl wd))] s.heap.size = A at hD ⊢
  have hA : ∀ q : Nat, s.heap.size ≤ q → A q := fun q h => by rw [← hAe]; exact Or.inr h
  have hS : va_S A s.heap s.heap [] := va_S.rf
  have hP : va_P (dC, dI) vwCl [(aT, .inr (7, [.ref aTb, .int tn])), (aTb, .inl (cyI, 64, .inl tb)), (aS, .inr (6, [.int sw, .int sl, .int sg, .int sp])), (aW, .inr (0, [.ref aT, .ref aS, .ref aWw, .ref aWr, .ref aWm, .ref aWl, .ref aWd])), (aWw, .inl (cyI, 4225, .inl ww)), (aWr, .inl (cyI, 65, .inl wr)), (aWm, .inl (cyI, 64, .inl wm)), (aWl, .inl (cyI, 64, .inl wl)), (aWd, .inl (cyI, 64, .inl wd))] s.heap := hP
  have hl := lv_entry ([.ref aW]) (n := 5) (Nat.le_of_ble_eq_true rfl)
  rw [lg_entry_eq]
  generalize (lg_sl ([.ref aW]) ++ List.replicate (5 - (lg_sl ([.ref aW])).length) Slot.unset).toArray = ls at hl ⊢
  have hl : lv_has ls 5 [(0, .ref aW)] := hl
  have C0 : CallFix p m c cX0_weighStates 5 s ([.ref aW] : List Value).toArray wsX0_weighStates RX0 := ⟨hx, hb, hml, hown, hts⟩
  unfold wpX0_weighStates at h
  refine lv_aload_n hx hb dX0_weighStates_0 rfl (lv_at hl 0 rfl) ?_
  refine va_get (D := (dC, dI)) (ci := 0) (v := .ref aT) (C := RX0) (T := TX0) (N := 7) hx hb hts inX0_weighStates_wsX00 hown hK hP 3 rfl rfl 0 (by decide) (hts _ qX0_weighStates_0) (fun _ h9 => h9) rfl dX0_weighStates_1 ?_
  refine va_get (D := (dC, dI)) (ci := 7) (v := .int tn) (C := RX8) (T := TX8) (N := 2) hx hb hts inX0_weighStates_wsX80 hown hK hP 0 rfl rfl 1 (by decide) (hts _ qX0_weighStates_1) (fun _ h9 => h9) rfl dX0_weighStates_4 ?_
  refine lv_istore_n (lv' := [(1, .int tn), (0, .ref aW)]) hx hb dX0_weighStates_7 rfl hl (by decide) rfl (fun ls hl => ?_)
  refine lv_iconst (v := 0) hx hb dX0_weighStates_8 (by decide) ?_
  refine lv_istore_n (lv' := [(2, .int 0), (1, .int tn), (0, .ref aW)]) hx hb dX0_weighStates_9 rfl hl (by decide) rfl (fun ls hl => ?_)
  obtain ⟨n10, h⟩ := h
  refine wlX0_weighStates_10 C0 hA hK ?_ n10 _ _ _ h _ _ _ hP hD hS (lv_sub hl [2, 1, 0] rfl)
  · intro ww_4 wr_5 h H locs ls hP hD hS hl
    refine lv_iload_n hx hb dX0_weighStates_41 rfl (lv_at hl 1 rfl) ?_
    refine lv_iconst (v := 1) hx hb dX0_weighStates_42 (by decide) ?_
    refine lv_isub hx hb dX0_weighStates_43 ?_
    refine lv_istore_n (lv' := [(2, .int (tn - 1)), (0, .ref aW), (1, .int tn)]) hx hb dX0_weighStates_44 rfl hl (by decide) rfl (fun ls hl => ?_)
    obtain ⟨n45, h⟩ := h
    refine wlX0_weighStates_45 C0 hA hK ?_ n45 _ _ _ _ _ _ h _ _ _ hP hD hS (lv_sub hl [1, 0] rfl)
    · intro ww_15 wr_16 wm_17 wl_18 wd_19 h H locs ls hP hD hS hl
      have hP9 : va_P (dC, dI) vwCl [(aT, .inr (7, [.ref aTb, .int tn])), (aTb, .inl (cyI, 64, .inl tb)), (aS, .inr (6, [.int sw, .int sl, .int sg, .int sp])), (aW, .inr (0, [.ref aT, .ref aS, .ref aWw, .ref aWr, .ref aWm, .ref aWl, .ref aWd])), (aWw, .inl (cyI, 4225, .inl ww_15)), (aWr, .inl (cyI, 65, .inl wr_16)), (aWm, .inl (cyI, 64, .inl wm_17)), (aWl, .inl (cyI, 64, .inl wl_18)), (aWd, .inl (cyI, 64, .inl wd_19))] _ := hP
      have hD9 : va_D A [(aT, .inr (7, [.ref aTb, .int tn])), (aTb, .inl (cyI, 64, .inl tb)), (aS, .inr (6, [.int sw, .int sl, .int sg, .int sp])), (aW, .inr (0, [.ref aT, .ref aS, .ref aWw, .ref aWr, .ref aWm, .ref aWl, .ref aWd])), (aWw, .inl (cyI, 4225, .inl ww_15)), (aWr, .inl (cyI, 65, .inl wr_16)), (aWm, .inl (cyI, 64, .inl wm_17)), (aWl, .inl (cyI, 64, .inl wl_18)), (aWd, .inl (cyI, 64, .inl wd_19))] := hD
      exact W.vret hx hb hr (fun t ht hW => ⟨⟨(ww_15, wr_16, wm_17, wl_18, wd_19), rfl, h, by rw [ht]; exact hP9, va_K.moved hW.alike hK, hD9⟩, hS.F ht⟩) hS.2.2 dX0_weighStates_113
-- X0_choose
theorem qX0_choose_0 : Cond.fieldLink RX0 27 "MatchCoder$BestWay" "text" "LMatchCoder$Text;" ∈ wsX0_choose := (List.mem_cons_of_mem _ (List.mem_append_left _ (List.mem_append_left _ (List.mem_append_left _ (List.mem_append_left _ (List.mem_append_left _ (List.mem_of_getElem? (i := 0) rfl)))))))
theorem qX0_choose_1 : Cond.fieldLink RX0 40 "MatchCoder$Text" "count" "I" ∈ wsX0_choose := (List.mem_cons_of_mem _ (List.mem_append_left _ (List.mem_append_left _ (List.mem_append_left _ (List.mem_append_left _ (List.mem_append_left _ (List.mem_of_getElem? (i := 1) rfl)))))))
theorem qX0_choose_2 : Cond.fieldLink RX0 11 "MatchCoder$BestWay" "weights" "[I" ∈ wsX0_choose := (List.mem_cons_of_mem _ (List.mem_append_left _ (List.mem_append_left _ (List.mem_append_left _ (List.mem_append_left _ (List.mem_append_left _ (List.mem_of_getElem? (i := 2) rfl)))))))
theorem qX0_choose_3 : Cond.fieldLink RX0 18 "MatchCoder$BestWay" "matchWeights" "[I" ∈ wsX0_choose := (List.mem_cons_of_mem _ (List.mem_append_left _ (List.mem_append_left _ (List.mem_append_left _ (List.mem_append_left _ (List.mem_append_left _ (List.mem_of_getElem? (i := 3) rfl)))))))
theorem qX0_choose_4 : Cond.fieldLink RX0 24 "MatchCoder$BestWay" "matchDistances" "[I" ∈ wsX0_choose := (List.mem_cons_of_mem _ (List.mem_append_left _ (List.mem_append_left _ (List.mem_append_left _ (List.mem_append_left _ (List.mem_append_left _ (List.mem_of_getElem? (i := 4) rfl)))))))
theorem qX0_choose_5 : Cond.fieldLink RX0 21 "MatchCoder$BestWay" "matchLengths" "[I" ∈ wsX0_choose := (List.mem_cons_of_mem _ (List.mem_append_left _ (List.mem_append_left _ (List.mem_append_left _ (List.mem_append_left _ (List.mem_append_left _ (List.mem_of_getElem? (i := 5) rfl)))))))
theorem inX0_choose_wsX00 : ∀ w ∈ wsX00, w ∈ wsX0_choose := fun _ h => List.mem_cons_of_mem _ (List.mem_append_left _ (List.mem_append_left _ (List.mem_append_left _ (List.mem_append_right _ h))))
theorem inX0_choose_wsX80 : ∀ w ∈ wsX80, w ∈ wsX0_choose := fun _ h => List.mem_cons_of_mem _ (List.mem_append_left _ (List.mem_append_left _ (List.mem_append_right _ h)))
def wpX0_choose_141 (v2 : Int32) (v3 : Int32) (v4 : Int32) (pn : Int32) (pk : Nat → Int32) (pl : Nat → Int32) (pd : Nat → Int32) (ps : Nat → Int32) (KB : Int32 → Int32 → Int32 → Int32 → (Nat → Int32) → (Nat → Int32) → (Nat → Int32) → (Nat → Int32) → Prop) (K147 : Int32 → (Nat → Int32) → (Nat → Int32) → (Nat → Int32) → (Nat → Int32) → Prop) : Prop := KB v2 v3 (v4 + 1) pn pk pl pd ps
set_option maxHeartbeats 4000000 in
set_option maxRecDepth 100000 in
theorem wjX0_choose_141 {p : Program} {l : Launch} {e : Env} {s : State} {m : MethodId} {args : Array Value} {below : List Frame} {meth : Method} {c : Code} {A : Nat → Prop} {Q : State → Prop} {dC : Nat → ClassId} {dI : Nat → Nat → Nat} {cyI : ClassId} {aT aTb aS aW aWw aWr aWm aWl aWd aP aPk aPl aPd aPs : Nat} {v2 : Int32} {v3 : Int32} {v4 : Int32} {tn : Int32} {tb : Nat → Int32} {sw : Int32} {sl : Int32} {sg : Int32} {sp : Int32} {ww : Nat → Int32} {wm : Nat → Int32} {wl : Nat → Int32} {wd : Nat → Int32} {pn : Int32} {pch : Int32} {pk : Nat → Int32} {pl : Nat → Int32} {pd : Nat → Int32} {ps : Nat → Int32} {KB : Int32 → Int32 → Int32 → Int32 → (Nat → Int32) → (Nat → Int32) → (Nat → Int32) → (Nat → Int32) → Prop} {K147 : Int32 → (Nat → Int32) → (Nat → Int32) → (Nat → Int32) → (Nat → Int32) → Prop} (C0 : CallFix p m c cX0_choose 7 s args wsX0_choose RX0) (hA : ∀ q : Nat, s.heap.size ≤ q → A q) (hK : va_K (dC, dI) vwCl [(cyI, .int)] s) (h : wpX0_choose_141 v2 v3 v4 pn pk pl pd ps KB K147) (H : Heap) (locs : List Loc) (ls : Array Slot) (hP : va_P (dC, dI) vwCl [(aT, .inr (7, [.ref aTb, .int tn])), (aTb, .inl (cyI, 64, .inl tb)), (aS, .inr (6, [.int sw, .int sl, .int sg, .int sp])), (aW, .inr (0, [.ref aT, .ref aS, .ref aWw, .ref aWr, .ref aWm, .ref aWl, .ref aWd])), (aWw, .inl (cyI, 4225, .inl ww)), (aWm, .inl (cyI, 64, .inl wm)), (aWl, .inl (cyI, 64, .inl wl)), (aWd, .inl (cyI, 64, .inl wd)), (aP, .inr (3, [.ref aPk, .ref aPl, .ref aPd, .ref aPs, .int pn, .int pch])), (aPk, .inl (cyI, 64, .inl pk)), (aPl, .inl (cyI, 64, .inl pl)), (aPd, .inl (cyI, 64, .inl pd)), (aPs, .inl (cyI, 64, .inl ps))] H) (hD : va_D A [(aT, .inr (7, [.ref aTb, .int tn])), (aTb, .inl (cyI, 64, .inl tb)), (aS, .inr (6, [.int sw, .int sl, .int sg, .int sp])), (aW, .inr (0, [.ref aT, .ref aS, .ref aWw, .ref aWr, .ref aWm, .ref aWl, .ref aWd])), (aWw, .inl (cyI, 4225, .inl ww)), (aWm, .inl (cyI, 64, .inl wm)), (aWl, .inl (cyI, 64, .inl wl)), (aWd, .inl (cyI, 64, .inl wd)), (aP, .inr (3, [.ref aPk, .ref aPl, .ref aPd, .ref aPs, .int pn, .int pch])), (aPk, .inl (cyI, 64, .inl pk)), (aPl, .inl (cyI, 64, .inl pl)), (aPd, .inl (cyI, 64, .inl pd)), (aPs, .inl (cyI, 64, .inl ps))]) (hS : va_S A s.heap H locs) (hl : lv_has ls 7 [(0, .ref aW), (1, .ref aP), (2, .int v2), (3, .int v3), (4, .int v4)]) (hKB : ∀ (v2 : Int32) (v3 : Int32) (v4 : Int32) (pn : Int32) (pk : Nat → Int32) (pl : Nat → Int32) (pd : Nat → Int32) (ps : Nat → Int32), KB v2 v3 v4 pn pk pl pd ps → ∀ (H : Heap) (locs : List Loc) (ls : Array Slot), va_P (dC, dI) vwCl [(aT, .inr (7, [.ref aTb, .int tn])), (aTb, .inl (cyI, 64, .inl tb)), (aS, .inr (6, [.int sw, .int sl, .int sg, .int sp])), (aW, .inr (0, [.ref aT, .ref aS, .ref aWw, .ref aWr, .ref aWm, .ref aWl, .ref aWd])), (aWw, .inl (cyI, 4225, .inl ww)), (aWm, .inl (cyI, 64, .inl wm)), (aWl, .inl (cyI, 64, .inl wl)), (aWd, .inl (cyI, 64, .inl wd)), (aP, .inr (3, [.ref aPk, .ref aPl, .ref aPd, .ref aPs, .int pn, .int pch])), (aPk, .inl (cyI, 64, .inl pk)), (aPl, .inl (cyI, 64, .inl pl)), (aPd, .inl (cyI, 64, .inl pd)), (aPs, .inl (cyI, 64, .inl ps))] H → va_D A [(aT, .inr (7, [.ref aTb, .int tn])), (aTb, .inl (cyI, 64, .inl tb)), (aS, .inr (6, [.int sw, .int sl, .int sg, .int sp])), (aW, .inr (0, [.ref aT, .ref aS, .ref aWw, .ref aWr, .ref aWm, .ref aWl, .ref aWd])), (aWw, .inl (cyI, 4225, .inl ww)), (aWm, .inl (cyI, 64, .inl wm)), (aWl, .inl (cyI, 64, .inl wl)), (aWd, .inl (cyI, 64, .inl wd)), (aP, .inr (3, [.ref aPk, .ref aPl, .ref aPd, .ref aPs, .int pn, .int pch])), (aPk, .inl (cyI, 64, .inl pk)), (aPl, .inl (cyI, 64, .inl pl)), (aPd, .inl (cyI, 64, .inl pd)), (aPs, .inl (cyI, 64, .inl ps))] → va_S A s.heap H locs → lv_has ls 7 [(0, .ref aW), (1, .ref aP), (2, .int v2), (3, .int v3), (4, .int v4)] → W p l e ({ frames := 4, cells := 0, slots := 0, locals := 91 } : Room) s m args below meth c H locs 0 0 Q (F0 m 11 ls [])) (hK147 : ∀ (pn : Int32) (pk : Nat → Int32) (pl : Nat → Int32) (pd : Nat → Int32) (ps : Nat → Int32), K147 pn pk pl pd ps → ∀ (H : Heap) (locs : List Loc) (ls : Array Slot), va_P (dC, dI) vwCl [(aT, .inr (7, [.ref aTb, .int tn])), (aTb, .inl (cyI, 64, .inl tb)), (aS, .inr (6, [.int sw, .int sl, .int sg, .int sp])), (aW, .inr (0, [.ref aT, .ref aS, .ref aWw, .ref aWr, .ref aWm, .ref aWl, .ref aWd])), (aWw, .inl (cyI, 4225, .inl ww)), (aWm, .inl (cyI, 64, .inl wm)), (aWl, .inl (cyI, 64, .inl wl)), (aWd, .inl (cyI, 64, .inl wd)), (aP, .inr (3, [.ref aPk, .ref aPl, .ref aPd, .ref aPs, .int pn, .int pch])), (aPk, .inl (cyI, 64, .inl pk)), (aPl, .inl (cyI, 64, .inl pl)), (aPd, .inl (cyI, 64, .inl pd)), (aPs, .inl (cyI, 64, .inl ps))] H → va_D A [(aT, .inr (7, [.ref aTb, .int tn])), (aTb, .inl (cyI, 64, .inl tb)), (aS, .inr (6, [.int sw, .int sl, .int sg, .int sp])), (aW, .inr (0, [.ref aT, .ref aS, .ref aWw, .ref aWr, .ref aWm, .ref aWl, .ref aWd])), (aWw, .inl (cyI, 4225, .inl ww)), (aWm, .inl (cyI, 64, .inl wm)), (aWl, .inl (cyI, 64, .inl wl)), (aWd, .inl (cyI, 64, .inl wd)), (aP, .inr (3, [.ref aPk, .ref aPl, .ref aPd, .ref aPs, .int pn, .int pch])), (aPk, .inl (cyI, 64, .inl pk)), (aPl, .inl (cyI, 64, .inl pl)), (aPd, .inl (cyI, 64, .inl pd)), (aPs, .inl (cyI, 64, .inl ps))] → va_S A s.heap H locs → lv_has ls 7 [] → W p l e ({ frames := 4, cells := 0, slots := 0, locals := 91 } : Room) s m args below meth c H locs 0 0 Q (F0 m 147 ls [])) : W p l e ({ frames := 4, cells := 0, slots := 0, locals := 91 } : Room) s m args below meth c H locs 0 0 Q (F0 m 141 ls []) := by
  obtain ⟨hx, hb, hml, hown, hts⟩ := id C0
  unfold wpX0_choose_141 at h
  refine lv_iinc (v := v4 + 1) (lv' := [(4, .int (v4 + 1)), (0, .ref aW), (1, .ref aP), (2, .int v2), (3, .int v3)]) hx hb dX0_choose_141 hl (k := 4) rfl rfl (by decide) rfl (fun ls hl => ?_)
  refine lv_goto (tgt := 11) hx hb dX0_choose_144 (by decide) ?_
  exact hKB _ _ _ _ _ _ _ _ h _ _ _ hP hD hS (lv_sub hl [1, 2, 3, 4, 0] rfl)
def wpX0_choose_11 (tn : Int32) (tb : Nat → Int32) (sg : Int32) (sp : Int32) (ww : Nat → Int32) (wm : Nat → Int32) (wl : Nat → Int32) (wd : Nat → Int32) (K147 : Int32 → (Nat → Int32) → (Nat → Int32) → (Nat → Int32) → (Nat → Int32) → Prop) : Nat → Int32 → Int32 → Int32 → Int32 → (Nat → Int32) → (Nat → Int32) → (Nat → Int32) → (Nat → Int32) → Prop
  | 0, _, _, _, _, _, _, _, _ => False
  | n11 + 1, v2, v3, v4, pn, pk, pl, pd, ps => (64 ≤ v4 → (K147 pn pk pl pd ps)) ∧ (¬ 64 ≤ v4 → ((tn ≤ v2 → (K147 pn pk pl pd ps)) ∧ (¬ tn ≤ v2 → (vp_in ((v2 * 65) + v3) 4225 ∧ (wpX0_literalWeight sp ww v2 v3 (fun (r_6 : Int32) => ((ww ((v2 * 65) + v3).toNatClampNeg) = r_6 → (wpX4_add pn pk pl pd ps 0 1 0 v2 (fun (pn_22 : Int32) (pk_23 : Nat → Int32) (pl_24 : Nat → Int32) (pd_25 : Nat → Int32) (ps_26 : Nat → Int32) => wpX0_choose_141 (v2 + 1) v3 v4 pn_22 pk_23 pl_24 pd_25 ps_26 (wpX0_choose_11 tn tb sg sp ww wm wl wd K147 n11) K147))) ∧ (¬ (ww ((v2 * 65) + v3).toNatClampNeg) = r_6 → (vp_in v2 64 ∧ (((ww ((v2 * 65) + v3).toNatClampNeg) = (wm v2.toNatClampNeg) → (wpX4_add pn pk pl pd ps 1 (wl v2.toNatClampNeg) (wd v2.toNatClampNeg) v2 (fun (pn_17 : Int32) (pk_18 : Nat → Int32) (pl_19 : Nat → Int32) (pd_20 : Nat → Int32) (ps_21 : Nat → Int32) => wpX0_choose_141 (v2 + (wl v2.toNatClampNeg)) (wd v2.toNatClampNeg) v4 pn_17 pk_18 pl_19 pd_20 ps_21 (wpX0_choose_11 tn tb sg sp ww wm wl wd K147 n11) K147))) ∧ (¬ (ww ((v2 * 65) + v3).toNatClampNeg) = (wm v2.toNatClampNeg) → (wpX8_sameFrom tn tb v2 v3 (fun (r_10 : Int32) => wpX0_againLength sg sp ww v2 v3 r_10 (fun (r_11 : Int32) => wpX4_add pn pk pl pd ps 2 r_11 v3 v2 (fun (pn_12 : Int32) (pk_13 : Nat → Int32) (pl_14 : Nat → Int32) (pd_15 : Nat → Int32) (ps_16 : Nat → Int32) => wpX0_choose_141 (v2 + r_11) v3 v4 pn_12 pk_13 pl_14 pd_15 ps_16 (wpX0_choose_11 tn tb sg sp ww wm wl wd K147 n11) K147))))))))))))))
set_option maxHeartbeats 4000000 in
set_option maxRecDepth 100000 in
theorem wlX0_choose_11 {p : Program} {l : Launch} {e : Env} {s : State} {m : MethodId} {args : Array Value} {below : List Frame} {meth : Method} {c : Code} {A : Nat → Prop} {Q : State → Prop} {dC : Nat → ClassId} {dI : Nat → Nat → Nat} {cyI : ClassId} {aT aTb aS aW aWw aWr aWm aWl aWd aP aPk aPl aPd aPs : Nat} {tn : Int32} {tb : Nat → Int32} {sw : Int32} {sl : Int32} {sg : Int32} {sp : Int32} {ww : Nat → Int32} {wm : Nat → Int32} {wl : Nat → Int32} {wd : Nat → Int32} {pch : Int32} {K147 : Int32 → (Nat → Int32) → (Nat → Int32) → (Nat → Int32) → (Nat → Int32) → Prop} (C0 : CallFix p m c cX0_choose 7 s args wsX0_choose RX0) (hA : ∀ q : Nat, s.heap.size ≤ q → A q) (hK : va_K (dC, dI) vwCl [(cyI, .int)] s) (hK147 : ∀ (pn : Int32) (pk : Nat → Int32) (pl : Nat → Int32) (pd : Nat → Int32) (ps : Nat → Int32), K147 pn pk pl pd ps → ∀ (H : Heap) (locs : List Loc) (ls : Array Slot), va_P (dC, dI) vwCl [(aT, .inr (7, [.ref aTb, .int tn])), (aTb, .inl (cyI, 64, .inl tb)), (aS, .inr (6, [.int sw, .int sl, .int sg, .int sp])), (aW, .inr (0, [.ref aT, .ref aS, .ref aWw, .ref aWr, .ref aWm, .ref aWl, .ref aWd])), (aWw, .inl (cyI, 4225, .inl ww)), (aWm, .inl (cyI, 64, .inl wm)), (aWl, .inl (cyI, 64, .inl wl)), (aWd, .inl (cyI, 64, .inl wd)), (aP, .inr (3, [.ref aPk, .ref aPl, .ref aPd, .ref aPs, .int pn, .int pch])), (aPk, .inl (cyI, 64, .inl pk)), (aPl, .inl (cyI, 64, .inl pl)), (aPd, .inl (cyI, 64, .inl pd)), (aPs, .inl (cyI, 64, .inl ps))] H → va_D A [(aT, .inr (7, [.ref aTb, .int tn])), (aTb, .inl (cyI, 64, .inl tb)), (aS, .inr (6, [.int sw, .int sl, .int sg, .int sp])), (aW, .inr (0, [.ref aT, .ref aS, .ref aWw, .ref aWr, .ref aWm, .ref aWl, .ref aWd])), (aWw, .inl (cyI, 4225, .inl ww)), (aWm, .inl (cyI, 64, .inl wm)), (aWl, .inl (cyI, 64, .inl wl)), (aWd, .inl (cyI, 64, .inl wd)), (aP, .inr (3, [.ref aPk, .ref aPl, .ref aPd, .ref aPs, .int pn, .int pch])), (aPk, .inl (cyI, 64, .inl pk)), (aPl, .inl (cyI, 64, .inl pl)), (aPd, .inl (cyI, 64, .inl pd)), (aPs, .inl (cyI, 64, .inl ps))] → va_S A s.heap H locs → lv_has ls 7 [] → W p l e ({ frames := 4, cells := 0, slots := 0, locals := 91 } : Room) s m args below meth c H locs 0 0 Q (F0 m 147 ls [])) :
    ∀ (n11 : Nat) (v2 : Int32) (v3 : Int32) (v4 : Int32) (pn : Int32) (pk : Nat → Int32) (pl : Nat → Int32) (pd : Nat → Int32) (ps : Nat → Int32), wpX0_choose_11 tn tb sg sp ww wm wl wd K147 n11 v2 v3 v4 pn pk pl pd ps → ∀ (H : Heap) (locs : List Loc) (ls : Array Slot), va_P (dC, dI) vwCl [(aT, .inr (7, [.ref aTb, .int tn])), (aTb, .inl (cyI, 64, .inl tb)), (aS, .inr (6, [.int sw, .int sl, .int sg, .int sp])), (aW, .inr (0, [.ref aT, .ref aS, .ref aWw, .ref aWr, .ref aWm, .ref aWl, .ref aWd])), (aWw, .inl (cyI, 4225, .inl ww)), (aWm, .inl (cyI, 64, .inl wm)), (aWl, .inl (cyI, 64, .inl wl)), (aWd, .inl (cyI, 64, .inl wd)), (aP, .inr (3, [.ref aPk, .ref aPl, .ref aPd, .ref aPs, .int pn, .int pch])), (aPk, .inl (cyI, 64, .inl pk)), (aPl, .inl (cyI, 64, .inl pl)), (aPd, .inl (cyI, 64, .inl pd)), (aPs, .inl (cyI, 64, .inl ps))] H → va_D A [(aT, .inr (7, [.ref aTb, .int tn])), (aTb, .inl (cyI, 64, .inl tb)), (aS, .inr (6, [.int sw, .int sl, .int sg, .int sp])), (aW, .inr (0, [.ref aT, .ref aS, .ref aWw, .ref aWr, .ref aWm, .ref aWl, .ref aWd])), (aWw, .inl (cyI, 4225, .inl ww)), (aWm, .inl (cyI, 64, .inl wm)), (aWl, .inl (cyI, 64, .inl wl)), (aWd, .inl (cyI, 64, .inl wd)), (aP, .inr (3, [.ref aPk, .ref aPl, .ref aPd, .ref aPs, .int pn, .int pch])), (aPk, .inl (cyI, 64, .inl pk)), (aPl, .inl (cyI, 64, .inl pl)), (aPd, .inl (cyI, 64, .inl pd)), (aPs, .inl (cyI, 64, .inl ps))] → va_S A s.heap H locs → lv_has ls 7 [(0, .ref aW), (1, .ref aP), (2, .int v2), (3, .int v3), (4, .int v4)] → W p l e ({ frames := 4, cells := 0, slots := 0, locals := 91 } : Room) s m args below meth c H locs 0 0 Q (F0 m 11 ls []) := by
  obtain ⟨hx, hb, hml, hown, hts⟩ := id C0
  intro n11
  induction n11 with
  | zero => intro _ _ _ _ _ _ _ _ h; exact h.elim
  | succ n11 ih11 =>
    intro v2 v3 v4 pn pk pl pd ps h H locs ls hP hD hS hl
    rw [wpX0_choose_11] at h
    refine lv_iload hx hb dX0_choose_11 (lv_at hl 4 rfl) ?_
    refine lv_bipush (v := 64) hx hb dX0_choose_13 (by decide) ?_
    refine lv_icmp_ge (tgt := 147) hx hb dX0_choose_15 (by decide) (fun c_3 => ?_) (fun c_3 => ?_)
    · replace h := h.1 c_3
      exact hK147 _ _ _ _ _ h _ _ _ hP hD hS (lv_sub hl [] rfl)
    · replace h := h.2 c_3
      refine lv_iload_n hx hb dX0_choose_18 rfl (lv_at hl 2 rfl) ?_
      refine lv_aload_n hx hb dX0_choose_19 rfl (lv_at hl 0 rfl) ?_
      refine va_get (D := (dC, dI)) (ci := 0) (v := .ref aT) (C := RX0) (T := TX0) (N := 7) hx hb hts inX0_choose_wsX00 hown hK hP 3 rfl rfl 0 (by decide) (hts _ qX0_choose_0) (fun _ h9 => h9) rfl dX0_choose_20 ?_
      refine va_get (D := (dC, dI)) (ci := 7) (v := .int tn) (C := RX8) (T := TX8) (N := 2) hx hb hts inX0_choose_wsX80 hown hK hP 0 rfl rfl 1 (by decide) (hts _ qX0_choose_1) (fun _ h9 => h9) rfl dX0_choose_23 ?_
      refine lv_icmp_ge (tgt := 147) hx hb dX0_choose_26 (by decide) (fun c_4 => ?_) (fun c_4 => ?_)
      · replace h := h.1 c_4
        exact hK147 _ _ _ _ _ h _ _ _ hP hD hS (lv_sub hl [] rfl)
      · replace h := h.2 c_4
        refine lv_aload_n hx hb dX0_choose_29 rfl (lv_at hl 0 rfl) ?_
        refine va_get (D := (dC, dI)) (ci := 0) (v := .ref aWw) (C := RX0) (T := TX0) (N := 7) hx hb hts inX0_choose_wsX00 hown hK hP 3 rfl rfl 2 (by decide) (hts _ qX0_choose_2) (fun _ h9 => h9) rfl dX0_choose_30 ?_
        refine lv_iload_n hx hb dX0_choose_33 rfl (lv_at hl 2 rfl) ?_
        refine lv_bipush (v := 65) hx hb dX0_choose_34 (by decide) ?_
        refine lv_imul hx hb dX0_choose_36 ?_
        refine lv_iload_n hx hb dX0_choose_37 rfl (lv_at hl 3 rfl) ?_
        refine lv_iadd hx hb dX0_choose_38 ?_
        obtain ⟨hi_5, h⟩ := h
        refine va_iald hx hb hK hP 4 0 rfl rfl hi_5 dX0_choose_39 ?_
        refine lv_istore (lv' := [(5, .int (ww ((v2 * 65) + v3).toNatClampNeg)), (0, .ref aW), (1, .ref aP), (2, .int v2), (3, .int v3), (4, .int v4)]) hx hb dX0_choose_40 hl (by decide) rfl (fun ls hl => ?_)
        refine lv_iload hx hb dX0_choose_42 (lv_at hl 0 rfl) ?_
        refine lv_aload_n hx hb dX0_choose_44 rfl (lv_at hl 1 rfl) ?_
        refine lv_iload_n hx hb dX0_choose_45 rfl (lv_at hl 3 rfl) ?_
        refine lv_iload_n hx hb dX0_choose_46 rfl (lv_at hl 4 rfl) ?_
        refine wk_calli (wc := [(aS, .inr (6, [.int sw, .int sl, .int sg, .int sp])), (aW, .inr (0, [.ref aT, .ref aS, .ref aWw, .ref aWr, .ref aWm, .ref aWl, .ref aWd])), (aWw, .inl (cyI, 4225, .inl ww))]) (wr := [(aT, .inr (7, [.ref aTb, .int tn])), (aTb, .inl (cyI, 64, .inl tb)), (aWm, .inl (cyI, 64, .inl wm)), (aWl, .inl (cyI, 64, .inl wl)), (aWd, .inl (cyI, 64, .inl wd)), (aP, .inr (3, [.ref aPk, .ref aPl, .ref aPd, .ref aPs, .int pn, .int pch])), (aPk, .inl (cyI, 64, .inl pk)), (aPl, .inl (cyI, 64, .inl pl)), (aPd, .inl (cyI, 64, .inl pd)), (aPs, .inl (cyI, 64, .inl ps))]) (va_runV (As := [.int v2, .int v3]) (rest := [.int (ww ((v2 * 65) + v3).toNatClampNeg)]) C0 (mtX0_literalWeight l dC dI cyI (aT := aT) (aS := aS) (aW := aW) (aWw := aWw) (aWr := aWr) (aWm := aWm) (aWl := aWl) (aWd := aWd) (sz := _) (sw := sw) (sl := sl) (sg := sg) (sp := sp) (ww := ww) (v1 := v2) (v2 := v3) h) (cwV 2 hts gX0_choose_X0_literalWeight rfl rfl rfl (by decide +kernel) ⟨(Nat.le_of_ble_eq_true rfl), (Nat.le_of_ble_eq_true rfl)⟩) (wk_preV (wc := [(aS, .inr (6, [.int sw, .int sl, .int sg, .int sp])), (aW, .inr (0, [.ref aT, .ref aS, .ref aWw, .ref aWr, .ref aWm, .ref aWl, .ref aWd])), (aWw, .inl (cyI, 4225, .inl ww))]) hK hP hD [2, 3, 4] rfl (by decide) (va_recv hK hP (ci := 0) (q0 := 3) rfl rfl)) rfl rfl hl.1 rfl (lv_room (Nat.le_of_ble_eq_true rfl)) dX0_choose_47 ⟨(Nat.le_of_ble_eq_true rfl), (Nat.le_of_ble_eq_true rfl)⟩) hP hD hS hA [2, 3, 4] [0, 1, 5, 6, 7, 8, 9, 10, 11, 12] rfl rfl (by decide) (by decide) (fun r_6 u9 H locs h hP hD hS => ?_)
        have hP : va_P (dC, dI) vwCl [(aT, .inr (7, [.ref aTb, .int tn])), (aTb, .inl (cyI, 64, .inl tb)), (aWm, .inl (cyI, 64, .inl wm)), (aWl, .inl (cyI, 64, .inl wl)), (aWd, .inl (cyI, 64, .inl wd)), (aP, .inr (3, [.ref aPk, .ref aPl, .ref aPd, .ref aPs, .int pn, .int pch])), (aPk, .inl (cyI, 64, .inl pk)), (aPl, .inl (cyI, 64, .inl pl)), (aPd, .inl (cyI, 64, .inl pd)), (aPs, .inl (cyI, 64, .inl ps)), (aS, .inr (6, [.int sw, .int sl, .int sg, .int sp])), (aW, .inr (0, [.ref aT, .ref aS, .ref aWw, .ref aWr, .ref aWm, .ref aWl, .ref aWd])), (aWw, .inl (cyI, 4225, .inl ww))] H := hP
        have hD : va_D A [(aT, .inr (7, [.ref aTb, .int tn])), (aTb, .inl (cyI, 64, .inl tb)), (aWm, .inl (cyI, 64, .inl wm)), (aWl, .inl (cyI, 64, .inl wl)), (aWd, .inl (cyI, 64, .inl wd)), (aP, .inr (3, [.ref aPk, .ref aPl, .ref aPd, .ref aPs, .int pn, .int pch])), (aPk, .inl (cyI, 64, .inl pk)), (aPl, .inl (cyI, 64, .inl pl)), (aPd, .inl (cyI, 64, .inl pd)), (aPs, .inl (cyI, 64, .inl ps)), (aS, .inr (6, [.int sw, .int sl, .int sg, .int sp])), (aW, .inr (0, [.ref aT, .ref aS, .ref aWw, .ref aWr, .ref aWm, .ref aWl, .ref aWd])), (aWw, .inl (cyI, 4225, .inl ww))] := hD
        refine lv_icmp_ne (tgt := 67) hx hb dX0_choose_50 (by decide) (fun c_7 => ?_) (fun c_7 => ?_)
        · replace h := h.2 c_7
          refine lv_iload hx hb dX0_choose_67 (lv_at hl 0 rfl) ?_
          refine lv_aload_n hx hb dX0_choose_69 rfl (lv_at hl 1 rfl) ?_
          refine va_get (D := (dC, dI)) (ci := 0) (v := .ref aWm) (C := RX0) (T := TX0) (N := 7) hx hb hts inX0_choose_wsX00 hown hK hP 11 rfl rfl 4 (by decide) (hts _ qX0_choose_3) (fun _ h9 => h9) rfl dX0_choose_70 ?_
          refine lv_iload_n hx hb dX0_choose_73 rfl (lv_at hl 3 rfl) ?_
          obtain ⟨hi_8, h⟩ := h
          refine va_iald hx hb hK hP 2 0 rfl rfl hi_8 dX0_choose_74 ?_
          refine lv_icmp_ne (tgt := 110) hx hb dX0_choose_75 (by decide) (fun c_9 => ?_) (fun c_9 => ?_)
          · replace h := h.2 c_9
            refine lv_aload_n hx hb dX0_choose_110 rfl (lv_at hl 1 rfl) ?_
            refine lv_iload_n hx hb dX0_choose_111 rfl (lv_at hl 3 rfl) ?_
            refine lv_iload_n hx hb dX0_choose_112 rfl (lv_at hl 4 rfl) ?_
            refine lv_aload_n hx hb dX0_choose_113 rfl (lv_at hl 1 rfl) ?_
            refine va_get (D := (dC, dI)) (ci := 0) (v := .ref aT) (C := RX0) (T := TX0) (N := 7) hx hb hts inX0_choose_wsX00 hown hK hP 11 rfl rfl 0 (by decide) (hts _ qX0_choose_0) (fun _ h9 => h9) rfl dX0_choose_114 ?_
            refine lv_iload_n hx hb dX0_choose_117 rfl (lv_at hl 3 rfl) ?_
            refine lv_iload_n hx hb dX0_choose_118 rfl (lv_at hl 4 rfl) ?_
            refine wk_calli (wc := [(aT, .inr (7, [.ref aTb, .int tn])), (aTb, .inl (cyI, 64, .inl tb))]) (wr := [(aWm, .inl (cyI, 64, .inl wm)), (aWl, .inl (cyI, 64, .inl wl)), (aWd, .inl (cyI, 64, .inl wd)), (aP, .inr (3, [.ref aPk, .ref aPl, .ref aPd, .ref aPs, .int pn, .int pch])), (aPk, .inl (cyI, 64, .inl pk)), (aPl, .inl (cyI, 64, .inl pl)), (aPd, .inl (cyI, 64, .inl pd)), (aPs, .inl (cyI, 64, .inl ps)), (aS, .inr (6, [.int sw, .int sl, .int sg, .int sp])), (aW, .inr (0, [.ref aT, .ref aS, .ref aWw, .ref aWr, .ref aWm, .ref aWl, .ref aWd])), (aWw, .inl (cyI, 4225, .inl ww))]) (va_runV (As := [.int v2, .int v3]) (rest := [.int v3, .int v2, .ref aW]) C0 (mtX8_sameFrom l dC dI cyI (aT := aT) (aTb := aTb) (sz := _) (tn := tn) (tb := tb) (v1 := v2) (v2 := v3) h) (cwV 2 hts gX0_choose_X8_sameFrom rfl rfl rfl (by decide +kernel) ⟨(Nat.le_of_ble_eq_true rfl), (Nat.le_of_ble_eq_true rfl)⟩) (wk_preV (wc := [(aT, .inr (7, [.ref aTb, .int tn])), (aTb, .inl (cyI, 64, .inl tb))]) hK hP hD [0, 1] rfl (by decide) (va_recv hK hP (ci := 7) (q0 := 0) rfl rfl)) rfl rfl hl.1 rfl (lv_room (Nat.le_of_ble_eq_true rfl)) dX0_choose_119 ⟨(Nat.le_of_ble_eq_true rfl), (Nat.le_of_ble_eq_true rfl)⟩) hP hD hS hA [0, 1] [2, 3, 4, 5, 6, 7, 8, 9, 10, 11, 12] rfl rfl (by decide) (by decide) (fun r_10 u9 H locs h hP hD hS => ?_)
            have hP : va_P (dC, dI) vwCl [(aWm, .inl (cyI, 64, .inl wm)), (aWl, .inl (cyI, 64, .inl wl)), (aWd, .inl (cyI, 64, .inl wd)), (aP, .inr (3, [.ref aPk, .ref aPl, .ref aPd, .ref aPs, .int pn, .int pch])), (aPk, .inl (cyI, 64, .inl pk)), (aPl, .inl (cyI, 64, .inl pl)), (aPd, .inl (cyI, 64, .inl pd)), (aPs, .inl (cyI, 64, .inl ps)), (aS, .inr (6, [.int sw, .int sl, .int sg, .int sp])), (aW, .inr (0, [.ref aT, .ref aS, .ref aWw, .ref aWr, .ref aWm, .ref aWl, .ref aWd])), (aWw, .inl (cyI, 4225, .inl ww)), (aT, .inr (7, [.ref aTb, .int tn])), (aTb, .inl (cyI, 64, .inl tb))] H := hP
            have hD : va_D A [(aWm, .inl (cyI, 64, .inl wm)), (aWl, .inl (cyI, 64, .inl wl)), (aWd, .inl (cyI, 64, .inl wd)), (aP, .inr (3, [.ref aPk, .ref aPl, .ref aPd, .ref aPs, .int pn, .int pch])), (aPk, .inl (cyI, 64, .inl pk)), (aPl, .inl (cyI, 64, .inl pl)), (aPd, .inl (cyI, 64, .inl pd)), (aPs, .inl (cyI, 64, .inl ps)), (aS, .inr (6, [.int sw, .int sl, .int sg, .int sp])), (aW, .inr (0, [.ref aT, .ref aS, .ref aWw, .ref aWr, .ref aWm, .ref aWl, .ref aWd])), (aWw, .inl (cyI, 4225, .inl ww)), (aT, .inr (7, [.ref aTb, .int tn])), (aTb, .inl (cyI, 64, .inl tb))] := hD
            refine wk_calli (wc := [(aS, .inr (6, [.int sw, .int sl, .int sg, .int sp])), (aW, .inr (0, [.ref aT, .ref aS, .ref aWw, .ref aWr, .ref aWm, .ref aWl, .ref aWd])), (aWw, .inl (cyI, 4225, .inl ww))]) (wr := [(aWm, .inl (cyI, 64, .inl wm)), (aWl, .inl (cyI, 64, .inl wl)), (aWd, .inl (cyI, 64, .inl wd)), (aP, .inr (3, [.ref aPk, .ref aPl, .ref aPd, .ref aPs, .int pn, .int pch])), (aPk, .inl (cyI, 64, .inl pk)), (aPl, .inl (cyI, 64, .inl pl)), (aPd, .inl (cyI, 64, .inl pd)), (aPs, .inl (cyI, 64, .inl ps)), (aT, .inr (7, [.ref aTb, .int tn])), (aTb, .inl (cyI, 64, .inl tb))]) (va_runV (As := [.int v2, .int v3, .int r_10]) (rest := []) C0 (mtX0_againLength l dC dI cyI (aT := aT) (aS := aS) (aW := aW) (aWw := aWw) (aWr := aWr) (aWm := aWm) (aWl := aWl) (aWd := aWd) (sz := _) (sw := sw) (sl := sl) (sg := sg) (sp := sp) (ww := ww) (v1 := v2) (v2 := v3) (v3 := r_10) h) (cwV 3 hts gX0_choose_X0_againLength rfl rfl rfl (by decide +kernel) ⟨(Nat.le_of_ble_eq_true rfl), (Nat.le_of_ble_eq_true rfl)⟩) (wk_preV (wc := [(aS, .inr (6, [.int sw, .int sl, .int sg, .int sp])), (aW, .inr (0, [.ref aT, .ref aS, .ref aWw, .ref aWr, .ref aWm, .ref aWl, .ref aWd])), (aWw, .inl (cyI, 4225, .inl ww))]) hK hP hD [8, 9, 10] rfl (by decide) (va_recv hK hP (ci := 0) (q0 := 9) rfl rfl)) rfl rfl hl.1 rfl (lv_room (Nat.le_of_ble_eq_true rfl)) dX0_choose_122 ⟨(Nat.le_of_ble_eq_true rfl), (Nat.le_of_ble_eq_true rfl)⟩) hP hD hS hA [8, 9, 10] [0, 1, 2, 3, 4, 5, 6, 7, 11, 12] rfl rfl (by decide) (by decide) (fun r_11 u9 H locs h hP hD hS => ?_)
            have hP : va_P (dC, dI) vwCl [(aWm, .inl (cyI, 64, .inl wm)), (aWl, .inl (cyI, 64, .inl wl)), (aWd, .inl (cyI, 64, .inl wd)), (aP, .inr (3, [.ref aPk, .ref aPl, .ref aPd, .ref aPs, .int pn, .int pch])), (aPk, .inl (cyI, 64, .inl pk)), (aPl, .inl (cyI, 64, .inl pl)), (aPd, .inl (cyI, 64, .inl pd)), (aPs, .inl (cyI, 64, .inl ps)), (aT, .inr (7, [.ref aTb, .int tn])), (aTb, .inl (cyI, 64, .inl tb)), (aS, .inr (6, [.int sw, .int sl, .int sg, .int sp])), (aW, .inr (0, [.ref aT, .ref aS, .ref aWw, .ref aWr, .ref aWm, .ref aWl, .ref aWd])), (aWw, .inl (cyI, 4225, .inl ww))] H := hP
            have hD : va_D A [(aWm, .inl (cyI, 64, .inl wm)), (aWl, .inl (cyI, 64, .inl wl)), (aWd, .inl (cyI, 64, .inl wd)), (aP, .inr (3, [.ref aPk, .ref aPl, .ref aPd, .ref aPs, .int pn, .int pch])), (aPk, .inl (cyI, 64, .inl pk)), (aPl, .inl (cyI, 64, .inl pl)), (aPd, .inl (cyI, 64, .inl pd)), (aPs, .inl (cyI, 64, .inl ps)), (aT, .inr (7, [.ref aTb, .int tn])), (aTb, .inl (cyI, 64, .inl tb)), (aS, .inr (6, [.int sw, .int sl, .int sg, .int sp])), (aW, .inr (0, [.ref aT, .ref aS, .ref aWw, .ref aWr, .ref aWm, .ref aWl, .ref aWd])), (aWw, .inl (cyI, 4225, .inl ww))] := hD
            refine lv_istore (lv' := [(6, .int r_11), (5, .int (ww ((v2 * 65) + v3).toNatClampNeg)), (0, .ref aW), (1, .ref aP), (2, .int v2), (3, .int v3), (4, .int v4)]) hx hb dX0_choose_125 hl (by decide) rfl (fun ls hl => ?_)
            refine lv_aload_n hx hb dX0_choose_127 rfl (lv_at hl 3 rfl) ?_
            refine lv_iconst (v := 2) hx hb dX0_choose_128 (by decide) ?_
            refine lv_iload hx hb dX0_choose_129 (lv_at hl 0 rfl) ?_
            refine lv_iload_n hx hb dX0_choose_131 rfl (lv_at hl 5 rfl) ?_
            refine lv_iload_n hx hb dX0_choose_132 rfl (lv_at hl 4 rfl) ?_
            refine wk_callv (wc := [(aP, .inr (3, [.ref aPk, .ref aPl, .ref aPd, .ref aPs, .int pn, .int pch])), (aPk, .inl (cyI, 64, .inl pk)), (aPl, .inl (cyI, 64, .inl pl)), (aPd, .inl (cyI, 64, .inl pd)), (aPs, .inl (cyI, 64, .inl ps))]) (wr := [(aWm, .inl (cyI, 64, .inl wm)), (aWl, .inl (cyI, 64, .inl wl)), (aWd, .inl (cyI, 64, .inl wd)), (aT, .inr (7, [.ref aTb, .int tn])), (aTb, .inl (cyI, 64, .inl tb)), (aS, .inr (6, [.int sw, .int sl, .int sg, .int sp])), (aW, .inr (0, [.ref aT, .ref aS, .ref aWw, .ref aWr, .ref aWm, .ref aWl, .ref aWd])), (aWw, .inl (cyI, 4225, .inl ww))]) (va_runV (As := [.int 2, .int r_11, .int v3, .int v2]) (rest := []) C0 (mtX4_add l dC dI cyI (aP := aP) (aPk := aPk) (aPl := aPl) (aPd := aPd) (aPs := aPs) (sz := _) (pn := pn) (pch := pch) (pk := pk) (pl := pl) (pd := pd) (ps := ps) (v1 := 2) (v2 := r_11) (v3 := v3) (v4 := v2) h) (cwV 4 hts gX0_choose_X4_add rfl rfl rfl (by decide +kernel) ⟨(Nat.le_of_ble_eq_true rfl), (Nat.le_of_ble_eq_true rfl)⟩) (wk_preV (wc := [(aP, .inr (3, [.ref aPk, .ref aPl, .ref aPd, .ref aPs, .int pn, .int pch])), (aPk, .inl (cyI, 64, .inl pk)), (aPl, .inl (cyI, 64, .inl pl)), (aPd, .inl (cyI, 64, .inl pd)), (aPs, .inl (cyI, 64, .inl ps))]) hK hP hD [3, 4, 5, 6, 7] rfl (by decide) (va_recv hK hP (ci := 3) (q0 := 3) rfl rfl)) rfl rfl hl.1 rfl (lv_room (Nat.le_of_ble_eq_true rfl)) dX0_choose_133 ⟨(Nat.le_of_ble_eq_true rfl), (Nat.le_of_ble_eq_true rfl)⟩) hP hD hS hA [3, 4, 5, 6, 7] [0, 1, 2, 8, 9, 10, 11, 12] rfl rfl (by decide) (by decide) (fun u9 H locs h hP hD hS => ?_)
            obtain ⟨pn_12, pk_13, pl_14, pd_15, ps_16⟩ := u9
            have hP : va_P (dC, dI) vwCl [(aWm, .inl (cyI, 64, .inl wm)), (aWl, .inl (cyI, 64, .inl wl)), (aWd, .inl (cyI, 64, .inl wd)), (aT, .inr (7, [.ref aTb, .int tn])), (aTb, .inl (cyI, 64, .inl tb)), (aS, .inr (6, [.int sw, .int sl, .int sg, .int sp])), (aW, .inr (0, [.ref aT, .ref aS, .ref aWw, .ref aWr, .ref aWm, .ref aWl, .ref aWd])), (aWw, .inl (cyI, 4225, .inl ww)), (aP, .inr (3, [.ref aPk, .ref aPl, .ref aPd, .ref aPs, .int pn_12, .int pch])), (aPk, .inl (cyI, 64, .inl pk_13)), (aPl, .inl (cyI, 64, .inl pl_14)), (aPd, .inl (cyI, 64, .inl pd_15)), (aPs, .inl (cyI, 64, .inl ps_16))] H := hP
            have hD : va_D A [(aWm, .inl (cyI, 64, .inl wm)), (aWl, .inl (cyI, 64, .inl wl)), (aWd, .inl (cyI, 64, .inl wd)), (aT, .inr (7, [.ref aTb, .int tn])), (aTb, .inl (cyI, 64, .inl tb)), (aS, .inr (6, [.int sw, .int sl, .int sg, .int sp])), (aW, .inr (0, [.ref aT, .ref aS, .ref aWw, .ref aWr, .ref aWm, .ref aWl, .ref aWd])), (aWw, .inl (cyI, 4225, .inl ww)), (aP, .inr (3, [.ref aPk, .ref aPl, .ref aPd, .ref aPs, .int pn_12, .int pch])), (aPk, .inl (cyI, 64, .inl pk_13)), (aPl, .inl (cyI, 64, .inl pl_14)), (aPd, .inl (cyI, 64, .inl pd_15)), (aPs, .inl (cyI, 64, .inl ps_16))] := hD
            dsimp only at h
            refine lv_iload_n hx hb dX0_choose_136 rfl (lv_at hl 4 rfl) ?_
            refine lv_iload hx hb dX0_choose_137 (lv_at hl 0 rfl) ?_
            refine lv_iadd hx hb dX0_choose_139 ?_
            refine lv_istore_n (lv' := [(2, .int (v2 + r_11)), (6, .int r_11), (5, .int (ww ((v2 * 65) + v3).toNatClampNeg)), (0, .ref aW), (1, .ref aP), (3, .int v3), (4, .int v4)]) hx hb dX0_choose_140 rfl hl (by decide) rfl (fun ls hl => ?_)
            exact wjX0_choose_141 C0 hA hK h _ _ _ (hP.sub [3, 4, 5, 6, 7, 0, 1, 2, 8, 9, 10, 11, 12] rfl) (hD.sub [3, 4, 5, 6, 7, 0, 1, 2, 8, 9, 10, 11, 12] (by decide) rfl) hS (lv_sub hl [3, 4, 0, 5, 6] rfl) ih11 hK147
          · replace h := h.1 c_9
            refine lv_aload_n hx hb dX0_choose_78 rfl (lv_at hl 1 rfl) ?_
            refine va_get (D := (dC, dI)) (ci := 0) (v := .ref aWd) (C := RX0) (T := TX0) (N := 7) hx hb hts inX0_choose_wsX00 hown hK hP 11 rfl rfl 6 (by decide) (hts _ qX0_choose_4) (fun _ h9 => h9) rfl dX0_choose_79 ?_
            refine lv_iload_n hx hb dX0_choose_82 rfl (lv_at hl 3 rfl) ?_
            refine va_iald hx hb hK hP 4 0 rfl rfl hi_8 dX0_choose_83 ?_
            refine lv_istore_n (lv' := [(3, .int (wd v2.toNatClampNeg)), (5, .int (ww ((v2 * 65) + v3).toNatClampNeg)), (0, .ref aW), (1, .ref aP), (2, .int v2), (4, .int v4)]) hx hb dX0_choose_84 rfl hl (by decide) rfl (fun ls hl => ?_)
            refine lv_aload_n hx hb dX0_choose_85 rfl (lv_at hl 3 rfl) ?_
            refine lv_iconst (v := 1) hx hb dX0_choose_86 (by decide) ?_
            refine lv_aload_n hx hb dX0_choose_87 rfl (lv_at hl 2 rfl) ?_
            refine va_get (D := (dC, dI)) (ci := 0) (v := .ref aWl) (C := RX0) (T := TX0) (N := 7) hx hb hts inX0_choose_wsX00 hown hK hP 11 rfl rfl 5 (by decide) (hts _ qX0_choose_5) (fun _ h9 => h9) rfl dX0_choose_88 ?_
            refine lv_iload_n hx hb dX0_choose_91 rfl (lv_at hl 4 rfl) ?_
            refine va_iald hx hb hK hP 3 0 rfl rfl hi_8 dX0_choose_92 ?_
            refine lv_iload_n hx hb dX0_choose_93 rfl (lv_at hl 0 rfl) ?_
            refine lv_iload_n hx hb dX0_choose_94 rfl (lv_at hl 4 rfl) ?_
            refine wk_callv (wc := [(aP, .inr (3, [.ref aPk, .ref aPl, .ref aPd, .ref aPs, .int pn, .int pch])), (aPk, .inl (cyI, 64, .inl pk)), (aPl, .inl (cyI, 64, .inl pl)), (aPd, .inl (cyI, 64, .inl pd)), (aPs, .inl (cyI, 64, .inl ps))]) (wr := [(aT, .inr (7, [.ref aTb, .int tn])), (aTb, .inl (cyI, 64, .inl tb)), (aWm, .inl (cyI, 64, .inl wm)), (aWl, .inl (cyI, 64, .inl wl)), (aWd, .inl (cyI, 64, .inl wd)), (aS, .inr (6, [.int sw, .int sl, .int sg, .int sp])), (aW, .inr (0, [.ref aT, .ref aS, .ref aWw, .ref aWr, .ref aWm, .ref aWl, .ref aWd])), (aWw, .inl (cyI, 4225, .inl ww))]) (va_runV (As := [.int 1, .int (wl v2.toNatClampNeg), .int (wd v2.toNatClampNeg), .int v2]) (rest := []) C0 (mtX4_add l dC dI cyI (aP := aP) (aPk := aPk) (aPl := aPl) (aPd := aPd) (aPs := aPs) (sz := _) (pn := pn) (pch := pch) (pk := pk) (pl := pl) (pd := pd) (ps := ps) (v1 := 1) (v2 := wl v2.toNatClampNeg) (v3 := wd v2.toNatClampNeg) (v4 := v2) h) (cwV 4 hts gX0_choose_X4_add rfl rfl rfl (by decide +kernel) ⟨(Nat.le_of_ble_eq_true rfl), (Nat.le_of_ble_eq_true rfl)⟩) (wk_preV (wc := [(aP, .inr (3, [.ref aPk, .ref aPl, .ref aPd, .ref aPs, .int pn, .int pch])), (aPk, .inl (cyI, 64, .inl pk)), (aPl, .inl (cyI, 64, .inl pl)), (aPd, .inl (cyI, 64, .inl pd)), (aPs, .inl (cyI, 64, .inl ps))]) hK hP hD [5, 6, 7, 8, 9] rfl (by decide) (va_recv hK hP (ci := 3) (q0 := 5) rfl rfl)) rfl rfl hl.1 rfl (lv_room (Nat.le_of_ble_eq_true rfl)) dX0_choose_95 ⟨(Nat.le_of_ble_eq_true rfl), (Nat.le_of_ble_eq_true rfl)⟩) hP hD hS hA [5, 6, 7, 8, 9] [0, 1, 2, 3, 4, 10, 11, 12] rfl rfl (by decide) (by decide) (fun u9 H locs h hP hD hS => ?_)
            obtain ⟨pn_17, pk_18, pl_19, pd_20, ps_21⟩ := u9
            have hP : va_P (dC, dI) vwCl [(aT, .inr (7, [.ref aTb, .int tn])), (aTb, .inl (cyI, 64, .inl tb)), (aWm, .inl (cyI, 64, .inl wm)), (aWl, .inl (cyI, 64, .inl wl)), (aWd, .inl (cyI, 64, .inl wd)), (aS, .inr (6, [.int sw, .int sl, .int sg, .int sp])), (aW, .inr (0, [.ref aT, .ref aS, .ref aWw, .ref aWr, .ref aWm, .ref aWl, .ref aWd])), (aWw, .inl (cyI, 4225, .inl ww)), (aP, .inr (3, [.ref aPk, .ref aPl, .ref aPd, .ref aPs, .int pn_17, .int pch])), (aPk, .inl (cyI, 64, .inl pk_18)), (aPl, .inl (cyI, 64, .inl pl_19)), (aPd, .inl (cyI, 64, .inl pd_20)), (aPs, .inl (cyI, 64, .inl ps_21))] H := hP
            have hD : va_D A [(aT, .inr (7, [.ref aTb, .int tn])), (aTb, .inl (cyI, 64, .inl tb)), (aWm, .inl (cyI, 64, .inl wm)), (aWl, .inl (cyI, 64, .inl wl)), (aWd, .inl (cyI, 64, .inl wd)), (aS, .inr (6, [.int sw, .int sl, .int sg, .int sp])), (aW, .inr (0, [.ref aT, .ref aS, .ref aWw, .ref aWr, .ref aWm, .ref aWl, .ref aWd])), (aWw, .inl (cyI, 4225, .inl ww)), (aP, .inr (3, [.ref aPk, .ref aPl, .ref aPd, .ref aPs, .int pn_17, .int pch])), (aPk, .inl (cyI, 64, .inl pk_18)), (aPl, .inl (cyI, 64, .inl pl_19)), (aPd, .inl (cyI, 64, .inl pd_20)), (aPs, .inl (cyI, 64, .inl ps_21))] := hD
            dsimp only at h
            refine lv_iload_n hx hb dX0_choose_98 rfl (lv_at hl 4 rfl) ?_
            refine lv_aload_n hx hb dX0_choose_99 rfl (lv_at hl 2 rfl) ?_
            refine va_get (D := (dC, dI)) (ci := 0) (v := .ref aWl) (C := RX0) (T := TX0) (N := 7) hx hb hts inX0_choose_wsX00 hown hK hP 6 rfl rfl 5 (by decide) (hts _ qX0_choose_5) (fun _ h9 => h9) rfl dX0_choose_100 ?_
            refine lv_iload_n hx hb dX0_choose_103 rfl (lv_at hl 4 rfl) ?_
            refine va_iald hx hb hK hP 3 0 rfl rfl hi_8 dX0_choose_104 ?_
            refine lv_iadd hx hb dX0_choose_105 ?_
            refine lv_istore_n (lv' := [(2, .int (v2 + (wl v2.toNatClampNeg))), (3, .int (wd v2.toNatClampNeg)), (5, .int (ww ((v2 * 65) + v3).toNatClampNeg)), (0, .ref aW), (1, .ref aP), (4, .int v4)]) hx hb dX0_choose_106 rfl hl (by decide) rfl (fun ls hl => ?_)
            refine lv_goto (tgt := 141) hx hb dX0_choose_107 (by decide) ?_
            exact wjX0_choose_141 C0 hA hK h _ _ _ (hP.sub [0, 1, 5, 6, 7, 2, 3, 4, 8, 9, 10, 11, 12] rfl) (hD.sub [0, 1, 5, 6, 7, 2, 3, 4, 8, 9, 10, 11, 12] (by decide) rfl) hS (lv_sub hl [3, 4, 0, 1, 5] rfl) ih11 hK147
        · replace h := h.1 c_7
          refine lv_aload_n hx hb dX0_choose_53 rfl (lv_at hl 2 rfl) ?_
          refine lv_iconst (v := 0) hx hb dX0_choose_54 (by decide) ?_
          refine lv_iconst (v := 1) hx hb dX0_choose_55 (by decide) ?_
          refine lv_iconst (v := 0) hx hb dX0_choose_56 (by decide) ?_
          refine lv_iload_n hx hb dX0_choose_57 rfl (lv_at hl 3 rfl) ?_
          refine wk_callv (wc := [(aP, .inr (3, [.ref aPk, .ref aPl, .ref aPd, .ref aPs, .int pn, .int pch])), (aPk, .inl (cyI, 64, .inl pk)), (aPl, .inl (cyI, 64, .inl pl)), (aPd, .inl (cyI, 64, .inl pd)), (aPs, .inl (cyI, 64, .inl ps))]) (wr := [(aT, .inr (7, [.ref aTb, .int tn])), (aTb, .inl (cyI, 64, .inl tb)), (aWm, .inl (cyI, 64, .inl wm)), (aWl, .inl (cyI, 64, .inl wl)), (aWd, .inl (cyI, 64, .inl wd)), (aS, .inr (6, [.int sw, .int sl, .int sg, .int sp])), (aW, .inr (0, [.ref aT, .ref aS, .ref aWw, .ref aWr, .ref aWm, .ref aWl, .ref aWd])), (aWw, .inl (cyI, 4225, .inl ww))]) (va_runV (As := [.int 0, .int 1, .int 0, .int v2]) (rest := []) C0 (mtX4_add l dC dI cyI (aP := aP) (aPk := aPk) (aPl := aPl) (aPd := aPd) (aPs := aPs) (sz := _) (pn := pn) (pch := pch) (pk := pk) (pl := pl) (pd := pd) (ps := ps) (v1 := 0) (v2 := 1) (v3 := 0) (v4 := v2) h) (cwV 4 hts gX0_choose_X4_add rfl rfl rfl (by decide +kernel) ⟨(Nat.le_of_ble_eq_true rfl), (Nat.le_of_ble_eq_true rfl)⟩) (wk_preV (wc := [(aP, .inr (3, [.ref aPk, .ref aPl, .ref aPd, .ref aPs, .int pn, .int pch])), (aPk, .inl (cyI, 64, .inl pk)), (aPl, .inl (cyI, 64, .inl pl)), (aPd, .inl (cyI, 64, .inl pd)), (aPs, .inl (cyI, 64, .inl ps))]) hK hP hD [5, 6, 7, 8, 9] rfl (by decide) (va_recv hK hP (ci := 3) (q0 := 5) rfl rfl)) rfl rfl hl.1 rfl (lv_room (Nat.le_of_ble_eq_true rfl)) dX0_choose_58 ⟨(Nat.le_of_ble_eq_true rfl), (Nat.le_of_ble_eq_true rfl)⟩) hP hD hS hA [5, 6, 7, 8, 9] [0, 1, 2, 3, 4, 10, 11, 12] rfl rfl (by decide) (by decide) (fun u9 H locs h hP hD hS => ?_)
          obtain ⟨pn_22, pk_23, pl_24, pd_25, ps_26⟩ := u9
          have hP : va_P (dC, dI) vwCl [(aT, .inr (7, [.ref aTb, .int tn])), (aTb, .inl (cyI, 64, .inl tb)), (aWm, .inl (cyI, 64, .inl wm)), (aWl, .inl (cyI, 64, .inl wl)), (aWd, .inl (cyI, 64, .inl wd)), (aS, .inr (6, [.int sw, .int sl, .int sg, .int sp])), (aW, .inr (0, [.ref aT, .ref aS, .ref aWw, .ref aWr, .ref aWm, .ref aWl, .ref aWd])), (aWw, .inl (cyI, 4225, .inl ww)), (aP, .inr (3, [.ref aPk, .ref aPl, .ref aPd, .ref aPs, .int pn_22, .int pch])), (aPk, .inl (cyI, 64, .inl pk_23)), (aPl, .inl (cyI, 64, .inl pl_24)), (aPd, .inl (cyI, 64, .inl pd_25)), (aPs, .inl (cyI, 64, .inl ps_26))] H := hP
          have hD : va_D A [(aT, .inr (7, [.ref aTb, .int tn])), (aTb, .inl (cyI, 64, .inl tb)), (aWm, .inl (cyI, 64, .inl wm)), (aWl, .inl (cyI, 64, .inl wl)), (aWd, .inl (cyI, 64, .inl wd)), (aS, .inr (6, [.int sw, .int sl, .int sg, .int sp])), (aW, .inr (0, [.ref aT, .ref aS, .ref aWw, .ref aWr, .ref aWm, .ref aWl, .ref aWd])), (aWw, .inl (cyI, 4225, .inl ww)), (aP, .inr (3, [.ref aPk, .ref aPl, .ref aPd, .ref aPs, .int pn_22, .int pch])), (aPk, .inl (cyI, 64, .inl pk_23)), (aPl, .inl (cyI, 64, .inl pl_24)), (aPd, .inl (cyI, 64, .inl pd_25)), (aPs, .inl (cyI, 64, .inl ps_26))] := hD
          dsimp only at h
          refine lv_iinc (v := v2 + 1) (lv' := [(2, .int (v2 + 1)), (5, .int (ww ((v2 * 65) + v3).toNatClampNeg)), (0, .ref aW), (1, .ref aP), (3, .int v3), (4, .int v4)]) hx hb dX0_choose_61 hl (k := 3) rfl rfl (by decide) rfl (fun ls hl => ?_)
          refine lv_goto (tgt := 141) hx hb dX0_choose_64 (by decide) ?_
          exact wjX0_choose_141 C0 hA hK h _ _ _ (hP.sub [0, 1, 5, 6, 7, 2, 3, 4, 8, 9, 10, 11, 12] rfl) (hD.sub [0, 1, 5, 6, 7, 2, 3, 4, 8, 9, 10, 11, 12] (by decide) rfl) hS (lv_sub hl [2, 3, 0, 4, 5] rfl) ih11 hK147
def wpX0_choose (tn : Int32) (tb : Nat → Int32) (sg : Int32) (sp : Int32) (ww : Nat → Int32) (wm : Nat → Int32) (wl : Nat → Int32) (wd : Nat → Int32) (pk : Nat → Int32) (pl : Nat → Int32) (pd : Nat → Int32) (ps : Nat → Int32) (post : Int32 → Int32 → (Nat → Int32) → (Nat → Int32) → (Nat → Int32) → (Nat → Int32) → Prop) : Prop := wpX4_begin (fun (pn_1 : Int32) (pch_2 : Int32) => ∃ n11 : Nat, wpX0_choose_11 tn tb sg sp ww wm wl wd (fun (pn_27 : Int32) (pk_28 : Nat → Int32) (pl_29 : Nat → Int32) (pd_30 : Nat → Int32) (ps_31 : Nat → Int32) => post pn_27 pch_2 pk_28 pl_29 pd_30 ps_31) n11 0 0 0 pn_1 pk pl pd ps)
set_option maxHeartbeats 4000000 in
set_option maxRecDepth 100000 in
theorem mtX0_choose (l : Launch) (dC : Nat → ClassId) (dI : Nat → Nat → Nat) (cyI : ClassId) {aT aTb aS aW aWw aWr aWm aWl aWd aP aPk aPl aPd aPs : Nat} {sz : Nat} {tn : Int32} {tb : Nat → Int32} {sw : Int32} {sl : Int32} {sg : Int32} {sp : Int32} {ww : Nat → Int32} {wm : Nat → Int32} {wl : Nat → Int32} {wd : Nat → Int32} {pn : Int32} {pch : Int32} {pk : Nat → Int32} {pl : Nat → Int32} {pd : Nat → Int32} {ps : Nat → Int32} {post : Int32 → Int32 → (Nat → Int32) → (Nat → Int32) → (Nat → Int32) → (Nat → Int32) → Prop} (h : wpX0_choose tn tb sg sp ww wm wl wd pk pl pd ps post) : Met l yX0_choose wsX0_choose ({ frames := 4, cells := 0, slots := 0, locals := 91 }) (va_Pc [.ref aW, .ref aP] (wk_B (dC, dI) [(cyI, .int)] [(aT, .inr (7, [.ref aTb, .int tn])), (aTb, .inl (cyI, 64, .inl tb)), (aS, .inr (6, [.int sw, .int sl, .int sg, .int sp])), (aW, .inr (0, [.ref aT, .ref aS, .ref aWw, .ref aWr, .ref aWm, .ref aWl, .ref aWd])), (aWw, .inl (cyI, 4225, .inl ww)), (aWm, .inl (cyI, 64, .inl wm)), (aWl, .inl (cyI, 64, .inl wl)), (aWd, .inl (cyI, 64, .inl wd)), (aP, .inr (3, [.ref aPk, .ref aPl, .ref aPd, .ref aPs, .int pn, .int pch])), (aPk, .inl (cyI, 64, .inl pk)), (aPl, .inl (cyI, 64, .inl pl)), (aPd, .inl (cyI, 64, .inl pd)), (aPs, .inl (cyI, 64, .inl ps))] sz)) (va_Qv (fun (u : Int32 × Int32 × (Nat → Int32) × (Nat → Int32) × (Nat → Int32) × (Nat → Int32)) => post u.1 u.2.1 u.2.2.1 u.2.2.2.1 u.2.2.2.2.1 u.2.2.2.2.2) (wk_C (dC, dI) [(cyI, .int)] (va_A [(aT, .inr (7, [.ref aTb, .int tn])), (aTb, .inl (cyI, 64, .inl tb)), (aS, .inr (6, [.int sw, .int sl, .int sg, .int sp])), (aW, .inr (0, [.ref aT, .ref aS, .ref aWw, .ref aWr, .ref aWm, .ref aWl, .ref aWd])), (aWw, .inl (cyI, 4225, .inl ww)), (aWm, .inl (cyI, 64, .inl wm)), (aWl, .inl (cyI, 64, .inl wl)), (aWd, .inl (cyI, 64, .inl wd)), (aP, .inr (3, [.ref aPk, .ref aPl, .ref aPd, .ref aPs, .int pn, .int pch])), (aPk, .inl (cyI, 64, .inl pk)), (aPl, .inl (cyI, 64, .inl pl)), (aPd, .inl (cyI, 64, .inl pd)), (aPs, .inl (cyI, 64, .inl ps))] sz) (fun (u : Int32 × Int32 × (Nat → Int32) × (Nat → Int32) × (Nat → Int32) × (Nat → Int32)) => [(aT, .inr (7, [.ref aTb, .int tn])), (aTb, .inl (cyI, 64, .inl tb)), (aS, .inr (6, [.int sw, .int sl, .int sg, .int sp])), (aW, .inr (0, [.ref aT, .ref aS, .ref aWw, .ref aWr, .ref aWm, .ref aWl, .ref aWd])), (aWw, .inl (cyI, 4225, .inl ww)), (aWm, .inl (cyI, 64, .inl wm)), (aWl, .inl (cyI, 64, .inl wl)), (aWd, .inl (cyI, 64, .inl wd)), (aP, .inr (3, [.ref aPk, .ref aPl, .ref aPd, .ref aPs, .int (u.1), .int (u.2.1)])), (aPk, .inl (cyI, 64, .inl (u.2.2.1))), (aPl, .inl (cyI, 64, .inl (u.2.2.2.1))), (aPd, .inl (cyI, 64, .inl (u.2.2.2.2.1))), (aPs, .inl (cyI, 64, .inl (u.2.2.2.2.2)))])) (va_A [(aT, .inr (7, [.ref aTb, .int tn])), (aTb, .inl (cyI, 64, .inl tb)), (aS, .inr (6, [.int sw, .int sl, .int sg, .int sp])), (aW, .inr (0, [.ref aT, .ref aS, .ref aWw, .ref aWr, .ref aWm, .ref aWl, .ref aWd])), (aWw, .inl (cyI, 4225, .inl ww)), (aWm, .inl (cyI, 64, .inl wm)), (aWl, .inl (cyI, 64, .inl wl)), (aWd, .inl (cyI, 64, .inl wd)), (aP, .inr (3, [.ref aPk, .ref aPl, .ref aPd, .ref aPs, .int pn, .int pch])), (aPk, .inl (cyI, 64, .inl pk)), (aPl, .inl (cyI, 64, .inl pl)), (aPd, .inl (cyI, 64, .inl pd)), (aPs, .inl (cyI, 64, .inl ps))] sz)) 0 0 (va_A [(aT, .inr (7, [.ref aTb, .int tn])), (aTb, .inl (cyI, 64, .inl tb)), (aS, .inr (6, [.int sw, .int sl, .int sg, .int sp])), (aW, .inr (0, [.ref aT, .ref aS, .ref aWw, .ref aWr, .ref aWm, .ref aWl, .ref aWd])), (aWw, .inl (cyI, 4225, .inl ww)), (aWm, .inl (cyI, 64, .inl wm)), (aWl, .inl (cyI, 64, .inl wl)), (aWd, .inl (cyI, 64, .inl wd)), (aP, .inr (3, [.ref aPk, .ref aPl, .ref aPd, .ref aPs, .int pn, .int pch])), (aPk, .inl (cyI, 64, .inl pk)), (aPl, .inl (cyI, 64, .inl pl)), (aPd, .inl (cyI, 64, .inl pd)), (aPs, .inl (cyI, 64, .inl ps))] sz) := by
  refine Met.ofW (cc := cX0_choose) (maxL := 7) (ret := none) (by decide) rfl ?_
  intro p e s m args below meth c s₁ B hml hv
  obtain ⟨rfl, hsz, hP, hK, hD0⟩ := hv
  have hx := B.exec
  have hb := B.bytes
  have hr := B.returns
  have hts := atoms_spec (ws := wsX0_choose) B.pre
  have hown : s.vm.findClass RX0 = some m.cls := findClass_of_methodNamed B.named
  have hlocks := B.notSynchronized
  subst hsz
  have hD := hD0.self (sz := s.heap.size)
  generalize hAe : va_A [(aT, .inr (7, [.ref aTb, .int tn])), (aTb, .inl (cyI, 64, .inl tb)), (aS, .inr (6, [.int sw, .int sl, .int sg, .int sp])), (aW, .inr (0, [.ref aT, .ref aS, .ref aWw, .ref aWr, .ref aWm, .ref aWl, .ref aWd])), (aWw, .inl (cyI, 4225, .inl ww)), (aWm, .inl (cyI, 64, .inl wm)), (aWl, .inl (cyI, 64, .inl wl)), (aWd, .inl (cyI, 64, .inl wd)), (aP, .inr (3, [.ref aPk, .ref aPl, .ref aPd, .ref aPs, .int pn, .int pch])), (aPk, .inl (cyI, 64, .inl pk)), (aPl, .inl (cyI, 64, .inl pl)), (aPd, .inl (cyI, 64, .inl pd)), (aPs, .inl (cyI, 64, .inl ps))] s.heap.size = A at hD ⊢
  have hA : ∀ q : Nat, s.heap.size ≤ q → A q := fun q h => by rw [← hAe]; exact Or.inr h
  have hS : va_S A s.heap s.heap [] := va_S.rf
  have hP : va_P (dC, dI) vwCl [(aT, .inr (7, [.ref aTb, .int tn])), (aTb, .inl (cyI, 64, .inl tb)), (aS, .inr (6, [.int sw, .int sl, .int sg, .int sp])), (aW, .inr (0, [.ref aT, .ref aS, .ref aWw, .ref aWr, .ref aWm, .ref aWl, .ref aWd])), (aWw, .inl (cyI, 4225, .inl ww)), (aWm, .inl (cyI, 64, .inl wm)), (aWl, .inl (cyI, 64, .inl wl)), (aWd, .inl (cyI, 64, .inl wd)), (aP, .inr (3, [.ref aPk, .ref aPl, .ref aPd, .ref aPs, .int pn, .int pch])), (aPk, .inl (cyI, 64, .inl pk)), (aPl, .inl (cyI, 64, .inl pl)), (aPd, .inl (cyI, 64, .inl pd)), (aPs, .inl (cyI, 64, .inl ps))] s.heap := hP
  have hl := lv_entry ([.ref aW, .ref aP]) (n := 7) (Nat.le_of_ble_eq_true rfl)
  rw [lg_entry_eq]
  generalize (lg_sl ([.ref aW, .ref aP]) ++ List.replicate (7 - (lg_sl ([.ref aW, .ref aP])).length) Slot.unset).toArray = ls at hl ⊢
  have hl : lv_has ls 7 [(0, .ref aW), (1, .ref aP)] := hl
  have C0 : CallFix p m c cX0_choose 7 s ([.ref aW, .ref aP] : List Value).toArray wsX0_choose RX0 := ⟨hx, hb, hml, hown, hts⟩
  unfold wpX0_choose at h
  refine lv_aload_n hx hb dX0_choose_0 rfl (lv_at hl 1 rfl) ?_
  refine wk_callv (wc := [(aP, .inr (3, [.ref aPk, .ref aPl, .ref aPd, .ref aPs, .int pn, .int pch]))]) (wr := [(aT, .inr (7, [.ref aTb, .int tn])), (aTb, .inl (cyI, 64, .inl tb)), (aS, .inr (6, [.int sw, .int sl, .int sg, .int sp])), (aW, .inr (0, [.ref aT, .ref aS, .ref aWw, .ref aWr, .ref aWm, .ref aWl, .ref aWd])), (aWw, .inl (cyI, 4225, .inl ww)), (aWm, .inl (cyI, 64, .inl wm)), (aWl, .inl (cyI, 64, .inl wl)), (aWd, .inl (cyI, 64, .inl wd)), (aPk, .inl (cyI, 64, .inl pk)), (aPl, .inl (cyI, 64, .inl pl)), (aPd, .inl (cyI, 64, .inl pd)), (aPs, .inl (cyI, 64, .inl ps))]) (va_runV (As := []) (rest := []) C0 (mtX4_begin l dC dI cyI (aP := aP) (aPk := aPk) (aPl := aPl) (aPd := aPd) (aPs := aPs) (sz := _) (pn := pn) (pch := pch) h) (cwV 0 hts gX0_choose_X4_begin rfl rfl rfl (by decide +kernel) ⟨(Nat.le_of_ble_eq_true rfl), (Nat.le_of_ble_eq_true rfl)⟩) (wk_preV (wc := [(aP, .inr (3, [.ref aPk, .ref aPl, .ref aPd, .ref aPs, .int pn, .int pch]))]) hK hP hD [8] rfl (by decide) (va_recv hK hP (ci := 3) (q0 := 8) rfl rfl)) rfl rfl hl.1 rfl (lv_room (Nat.le_of_ble_eq_true rfl)) dX0_choose_1 ⟨(Nat.le_of_ble_eq_true rfl), (Nat.le_of_ble_eq_true rfl)⟩) hP hD hS hA [8] [0, 1, 2, 3, 4, 5, 6, 7, 9, 10, 11, 12] rfl rfl (by decide) (by decide) (fun u9 H locs h hP hD hS => ?_)
  obtain ⟨pn_1, pch_2⟩ := u9
  have hP : va_P (dC, dI) vwCl [(aT, .inr (7, [.ref aTb, .int tn])), (aTb, .inl (cyI, 64, .inl tb)), (aS, .inr (6, [.int sw, .int sl, .int sg, .int sp])), (aW, .inr (0, [.ref aT, .ref aS, .ref aWw, .ref aWr, .ref aWm, .ref aWl, .ref aWd])), (aWw, .inl (cyI, 4225, .inl ww)), (aWm, .inl (cyI, 64, .inl wm)), (aWl, .inl (cyI, 64, .inl wl)), (aWd, .inl (cyI, 64, .inl wd)), (aPk, .inl (cyI, 64, .inl pk)), (aPl, .inl (cyI, 64, .inl pl)), (aPd, .inl (cyI, 64, .inl pd)), (aPs, .inl (cyI, 64, .inl ps)), (aP, .inr (3, [.ref aPk, .ref aPl, .ref aPd, .ref aPs, .int pn_1, .int pch_2]))] H := hP
  have hD : va_D A [(aT, .inr (7, [.ref aTb, .int tn])), (aTb, .inl (cyI, 64, .inl tb)), (aS, .inr (6, [.int sw, .int sl, .int sg, .int sp])), (aW, .inr (0, [.ref aT, .ref aS, .ref aWw, .ref aWr, .ref aWm, .ref aWl, .ref aWd])), (aWw, .inl (cyI, 4225, .inl ww)), (aWm, .inl (cyI, 64, .inl wm)), (aWl, .inl (cyI, 64, .inl wl)), (aWd, .inl (cyI, 64, .inl wd)), (aPk, .inl (cyI, 64, .inl pk)), (aPl, .inl (cyI, 64, .inl pl)), (aPd, .inl (cyI, 64, .inl pd)), (aPs, .inl (cyI, 64, .inl ps)), (aP, .inr (3, [.ref aPk, .ref aPl, .ref aPd, .ref aPs, .int pn_1, .int pch_2]))] := hD
  dsimp only at h
  refine lv_iconst (v := 0) hx hb dX0_choose_4 (by decide) ?_
  refine lv_istore_n (lv' := [(2, .int 0), (0, .ref aW), (1, .ref aP)]) hx hb dX0_choose_5 rfl hl (by decide) rfl (fun ls hl => ?_)
  refine lv_iconst (v := 0) hx hb dX0_choose_6 (by decide) ?_
  refine lv_istore_n (lv' := [(3, .int 0), (2, .int 0), (0, .ref aW), (1, .ref aP)]) hx hb dX0_choose_7 rfl hl (by decide) rfl (fun ls hl => ?_)
  refine lv_iconst (v := 0) hx hb dX0_choose_8 (by decide) ?_
  refine lv_istore (lv' := [(4, .int 0), (3, .int 0), (2, .int 0), (0, .ref aW), (1, .ref aP)]) hx hb dX0_choose_9 hl (by decide) rfl (fun ls hl => ?_)
  obtain ⟨n11, h⟩ := h
  refine wlX0_choose_11 C0 hA hK ?_ n11 _ _ _ _ _ _ _ _ h _ _ _ (hP.sub [0, 1, 2, 3, 4, 5, 6, 7, 12, 8, 9, 10, 11] rfl) (hD.sub [0, 1, 2, 3, 4, 5, 6, 7, 12, 8, 9, 10, 11] (by decide) rfl) hS (lv_sub hl [3, 4, 2, 1, 0] rfl)
  · intro pn_27 pk_28 pl_29 pd_30 ps_31 h H locs ls hP hD hS hl
    have hP9 : va_P (dC, dI) vwCl [(aT, .inr (7, [.ref aTb, .int tn])), (aTb, .inl (cyI, 64, .inl tb)), (aS, .inr (6, [.int sw, .int sl, .int sg, .int sp])), (aW, .inr (0, [.ref aT, .ref aS, .ref aWw, .ref aWr, .ref aWm, .ref aWl, .ref aWd])), (aWw, .inl (cyI, 4225, .inl ww)), (aWm, .inl (cyI, 64, .inl wm)), (aWl, .inl (cyI, 64, .inl wl)), (aWd, .inl (cyI, 64, .inl wd)), (aP, .inr (3, [.ref aPk, .ref aPl, .ref aPd, .ref aPs, .int pn_27, .int pch_2])), (aPk, .inl (cyI, 64, .inl pk_28)), (aPl, .inl (cyI, 64, .inl pl_29)), (aPd, .inl (cyI, 64, .inl pd_30)), (aPs, .inl (cyI, 64, .inl ps_31))] _ := hP
    have hD9 : va_D A [(aT, .inr (7, [.ref aTb, .int tn])), (aTb, .inl (cyI, 64, .inl tb)), (aS, .inr (6, [.int sw, .int sl, .int sg, .int sp])), (aW, .inr (0, [.ref aT, .ref aS, .ref aWw, .ref aWr, .ref aWm, .ref aWl, .ref aWd])), (aWw, .inl (cyI, 4225, .inl ww)), (aWm, .inl (cyI, 64, .inl wm)), (aWl, .inl (cyI, 64, .inl wl)), (aWd, .inl (cyI, 64, .inl wd)), (aP, .inr (3, [.ref aPk, .ref aPl, .ref aPd, .ref aPs, .int pn_27, .int pch_2])), (aPk, .inl (cyI, 64, .inl pk_28)), (aPl, .inl (cyI, 64, .inl pl_29)), (aPd, .inl (cyI, 64, .inl pd_30)), (aPs, .inl (cyI, 64, .inl ps_31))] := hD
    exact W.vret hx hb hr (fun t ht hW => ⟨⟨(pn_27, pch_2, pk_28, pl_29, pd_30, ps_31), rfl, h, by rw [ht]; exact hP9, va_K.moved hW.alike hK, hD9⟩, hS.F ht⟩) hS.2.2 dX0_choose_147
