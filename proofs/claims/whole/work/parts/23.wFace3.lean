-- X9_tokenCount
theorem qX9_tokenCount_0 : Cond.fieldLink RX9 51 "MatchCoder" "plan" "LMatchCoder$Plan;" ∈ wsX9_tokenCount := (List.mem_cons_of_mem _ (List.mem_append_left _ (List.mem_append_left _ (List.mem_append_left _ (List.mem_of_getElem? (i := 2) rfl)))))
theorem qX9_tokenCount_1 : Cond.fieldLink RX9 170 "MatchCoder$Plan" "chosen" "Z" ∈ wsX9_tokenCount := (List.mem_cons_of_mem _ (List.mem_append_left _ (List.mem_append_left _ (List.mem_append_left _ (List.mem_of_getElem? (i := 3) rfl)))))
theorem qX9_tokenCount_2 : Cond.fieldLink RX9 176 "MatchCoder$Plan" "count" "I" ∈ wsX9_tokenCount := (List.mem_cons_of_mem _ (List.mem_append_left _ (List.mem_append_left _ (List.mem_append_left _ (List.mem_of_getElem? (i := 4) rfl)))))
theorem qX9_tokenCount_3 : Cond.classLink RX9 80 "java/lang/IllegalStateException" ∈ wsX9_tokenCount := (List.mem_cons_of_mem _ (List.mem_append_left _ (List.mem_append_left _ (List.mem_append_left _ (List.mem_of_getElem? (i := 0) rfl)))))
theorem qX9_tokenCount_4 : Cond.initialized "java/lang/IllegalStateException" ∈ wsX9_tokenCount := (List.mem_cons_of_mem _ (List.mem_append_left _ (List.mem_append_left _ (List.mem_append_left _ (List.mem_of_getElem? (i := 1) rfl)))))
theorem inX9_tokenCount_xS : ∀ w ∈ (vx_atS RX9 84 "java/lang/IllegalStateException" ["java/lang/RuntimeException", "java/lang/Exception"]).filter goodWord, w ∈ wsX9_tokenCount := fun _ h => List.mem_cons_of_mem _ (List.mem_append_right _ h)
theorem inX9_tokenCount_wsX90 : ∀ w ∈ wsX90, w ∈ wsX9_tokenCount := fun _ h => List.mem_cons_of_mem _ (List.mem_append_left _ (List.mem_append_left _ (List.mem_append_right _ h)))
theorem inX9_tokenCount_wsX40 : ∀ w ∈ wsX40, w ∈ wsX9_tokenCount := fun _ h => List.mem_cons_of_mem _ (List.mem_append_left _ (List.mem_append_right _ h))
def wpX9_tokenCount (pn : Int32) (pch : Int32) (post : Int32 → Prop) (px : String → Prop) : Prop := (pch = 0 → (px xS)) ∧ (¬ pch = 0 → (post pn))
set_option maxHeartbeats 4000000 in
set_option maxRecDepth 100000 in
theorem mtX9_tokenCount (l : Launch) (hlt : l.stackTraces = false) (dC : Nat → ClassId) (dI : Nat → Nat → Nat) (cyI : ClassId) {aX aT aS aF aQ aW aP aPk aPl aPd aPs aB aR : Nat} {sz : Nat} {pn : Int32} {pch : Int32} {post : Int32 → Prop} {px : String → Prop} (h : wpX9_tokenCount pn pch post px) : vx_Met l yX9_tokenCount wsX9_tokenCount ({ frames := 6, cells := 1, slots := 6, locals := 82 }) (va_Pc [.ref aX] (wk_BX (dC, dI) [(cyI, .int)] [(aX, .inr (8, [.ref aT, .ref aS, .ref aF, .ref aQ, .ref aW, .ref aP, .ref aB, .ref aR])), (aP, .inr (3, [.ref aPk, .ref aPl, .ref aPd, .ref aPs, .int pn, .int pch]))] sz)) (va_Qi (fun (r : Int32) (u : Unit) => post r ) (wk_C (dC, dI) [(cyI, .int)] (va_A [(aX, .inr (8, [.ref aT, .ref aS, .ref aF, .ref aQ, .ref aW, .ref aP, .ref aB, .ref aR])), (aP, .inr (3, [.ref aPk, .ref aPl, .ref aPd, .ref aPs, .int pn, .int pch]))] sz) (fun (u : Unit) => [(aX, .inr (8, [.ref aT, .ref aS, .ref aF, .ref aQ, .ref aW, .ref aP, .ref aB, .ref aR])), (aP, .inr (3, [.ref aPk, .ref aPl, .ref aPd, .ref aPs, .int pn, .int pch]))])) (va_A [(aX, .inr (8, [.ref aT, .ref aS, .ref aF, .ref aQ, .ref aW, .ref aP, .ref aB, .ref aR])), (aP, .inr (3, [.ref aPk, .ref aPl, .ref aPd, .ref aPs, .int pn, .int pch]))] sz)) (vx_X px (wk_X (dC, dI) [(cyI, .int)] (va_A [(aX, .inr (8, [.ref aT, .ref aS, .ref aF, .ref aQ, .ref aW, .ref aP, .ref aB, .ref aR])), (aP, .inr (3, [.ref aPk, .ref aPl, .ref aPd, .ref aPs, .int pn, .int pch]))] sz) [(aX, .inr (8, [.ref aT, .ref aS, .ref aF, .ref aQ, .ref aW, .ref aP, .ref aB, .ref aR])), (aP, .inr (3, [.ref aPk, .ref aPl, .ref aPd, .ref aPs, .int pn, .int pch]))]) (va_A [(aX, .inr (8, [.ref aT, .ref aS, .ref aF, .ref aQ, .ref aW, .ref aP, .ref aB, .ref aR])), (aP, .inr (3, [.ref aPk, .ref aPl, .ref aPd, .ref aPs, .int pn, .int pch]))] sz)) 1 6 (va_A [(aX, .inr (8, [.ref aT, .ref aS, .ref aF, .ref aQ, .ref aW, .ref aP, .ref aB, .ref aR])), (aP, .inr (3, [.ref aPk, .ref aPl, .ref aPd, .ref aPs, .int pn, .int pch]))] sz) := by
  refine vx_ofW (cc := cX9_tokenCount) (maxL := 1) (ret := (some .int)) (by decide) rfl ?_
  intro p e s m args below meth c s₁ B hml htab hv
  obtain ⟨rfl, ⟨hsz, hP, hK, hD0⟩, hZ⟩ := hv
  have hx := B.exec
  have hb := B.bytes
  have hr := B.returns
  have hts := atoms_spec (ws := wsX9_tokenCount) B.pre
  have hown : s.vm.findClass RX9 = some m.cls := findClass_of_methodNamed B.named
  have hlocks := B.notSynchronized
  subst hsz
  have hD := hD0.self (sz := s.heap.size)
  generalize hAe : va_A [(aX, .inr (8, [.ref aT, .ref aS, .ref aF, .ref aQ, .ref aW, .ref aP, .ref aB, .ref aR])), (aP, .inr (3, [.ref aPk, .ref aPl, .ref aPd, .ref aPs, .int pn, .int pch]))] s.heap.size = A at hD hZ ⊢
  have hA : ∀ q : Nat, s.heap.size ≤ q → A q := fun q h => by rw [← hAe]; exact Or.inr h
  have hS : va_S A s.heap s.heap [] := va_S.rf
  have hP : va_P (dC, dI) vwCl [(aX, .inr (8, [.ref aT, .ref aS, .ref aF, .ref aQ, .ref aW, .ref aP, .ref aB, .ref aR])), (aP, .inr (3, [.ref aPk, .ref aPl, .ref aPd, .ref aPs, .int pn, .int pch]))] s.heap := hP
  have hl := lv_entry ([.ref aX]) (n := 1) (Nat.le_of_ble_eq_true rfl)
  rw [lg_entry_eq]
  generalize (lg_sl ([.ref aX]) ++ List.replicate (1 - (lg_sl ([.ref aX])).length) Slot.unset).toArray = ls at hl ⊢
  have hl : lv_has ls 1 [(0, .ref aX)] := hl
  have C0 : CallFix p m c cX9_tokenCount 1 s ([.ref aX] : List Value).toArray wsX9_tokenCount RX9 := ⟨hx, hb, hml, hown, hts⟩
  unfold wpX9_tokenCount at h
  refine lv_aload_n hx hb dX9_tokenCount_0 rfl (lv_at hl 0 rfl) ?_
  refine va_get (D := (dC, dI)) (ci := 8) (v := .ref aP) (C := RX9) (T := TX9) (N := 8) hx hb hts inX9_tokenCount_wsX90 hown hK hP 0 rfl rfl 5 (by decide) (hts _ qX9_tokenCount_0) (fun _ h9 => h9) rfl dX9_tokenCount_1 ?_
  refine va_get (D := (dC, dI)) (ci := 3) (v := .int pch) (C := RX4) (T := TX4) (N := 6) hx hb hts inX9_tokenCount_wsX40 hown hK hP 1 rfl rfl 5 (by decide) (hts _ qX9_tokenCount_1) (fun _ h9 => h9) rfl dX9_tokenCount_4 ?_
  refine lv_if_ne (tgt := 20) hx hb dX9_tokenCount_7 (by decide) (fun c_1 => ?_) (fun c_1 => ?_)
  · replace h := h.2 c_1
    refine lv_aload_n hx hb dX9_tokenCount_20 rfl (lv_at hl 0 rfl) ?_
    refine va_get (D := (dC, dI)) (ci := 8) (v := .ref aP) (C := RX9) (T := TX9) (N := 8) hx hb hts inX9_tokenCount_wsX90 hown hK hP 0 rfl rfl 5 (by decide) (hts _ qX9_tokenCount_0) (fun _ h9 => h9) rfl dX9_tokenCount_21 ?_
    refine va_get (D := (dC, dI)) (ci := 3) (v := .int pn) (C := RX4) (T := TX4) (N := 6) hx hb hts inX9_tokenCount_wsX40 hown hK hP 1 rfl rfl 4 (by decide) (hts _ qX9_tokenCount_2) (fun _ h9 => h9) rfl dX9_tokenCount_24 ?_
    have hP9 : va_P (dC, dI) vwCl [(aX, .inr (8, [.ref aT, .ref aS, .ref aF, .ref aQ, .ref aW, .ref aP, .ref aB, .ref aR])), (aP, .inr (3, [.ref aPk, .ref aPl, .ref aPd, .ref aPs, .int pn, .int pch]))] _ := hP
    have hD9 : va_D A [(aX, .inr (8, [.ref aT, .ref aS, .ref aF, .ref aQ, .ref aW, .ref aP, .ref aB, .ref aR])), (aP, .inr (3, [.ref aPk, .ref aPl, .ref aPd, .ref aPs, .int pn, .int pch]))] := hD
    refine vx_ret ?_
    refine W.widen (k := 1) (n := 6) (Nat.le_of_ble_eq_true rfl) (Nat.le_of_ble_eq_true rfl) ?_
    exact W.iret (v := pn) hx hb hr (fun t ht hW => ⟨⟨pn, (), rfl, h, by rw [ht]; exact hP9, va_K.moved hW.alike hK, hD9⟩, hS.F ht⟩) hS.2.2 dX9_tokenCount_27
  · replace h := h.1 c_1
    obtain ⟨sa9, hstr⟩ := hZ.1 _ (List.mem_of_getElem? (i := 12) rfl)
    exact vx_throwS hx hb hlt hown xS_fit xN_fit (hts _ qX9_tokenCount_3) (hts _ qX9_tokenCount_4) hstr (vx_hat (fun w hw => hts w (inX9_tokenCount_xS w hw)) xS_no (hZ.use _)) xS_ot hZ.2.1 hZ.2.2.1 hS (hl.1.trans hml.symm) dX9_tokenCount_10 dX9_tokenCount_13 dX9_tokenCount_14 dX9_tokenCount_16 dX9_tokenCount_19 (fun x hx9 => (htab x hx9).elim) (Nat.le_of_ble_eq_true rfl) (Nat.le_of_ble_eq_true rfl) (Nat.le_of_ble_eq_true rfl) (Nat.le_of_ble_eq_true rfl) hlocks (wk_xc hP hD hK hS h) hS.2.2 (Nat.le_of_ble_eq_true rfl) (Nat.le_of_ble_eq_true rfl)
-- X9_requireToken
theorem qX9_requireToken_0 : Cond.fieldLink RX9 51 "MatchCoder" "plan" "LMatchCoder$Plan;" ∈ wsX9_requireToken := (List.mem_cons_of_mem _ (List.mem_append_left _ (List.mem_append_left _ (List.mem_append_left _ (List.mem_append_left _ (List.mem_of_getElem? (i := 4) rfl))))))
theorem qX9_requireToken_1 : Cond.fieldLink RX9 170 "MatchCoder$Plan" "chosen" "Z" ∈ wsX9_requireToken := (List.mem_cons_of_mem _ (List.mem_append_left _ (List.mem_append_left _ (List.mem_append_left _ (List.mem_append_left _ (List.mem_of_getElem? (i := 5) rfl))))))
theorem qX9_requireToken_2 : Cond.classLink RX9 105 "java/lang/IndexOutOfBoundsException" ∈ wsX9_requireToken := (List.mem_cons_of_mem _ (List.mem_append_left _ (List.mem_append_left _ (List.mem_append_left _ (List.mem_append_left _ (List.mem_of_getElem? (i := 2) rfl))))))
theorem qX9_requireToken_3 : Cond.initialized "java/lang/IndexOutOfBoundsException" ∈ wsX9_requireToken := (List.mem_cons_of_mem _ (List.mem_append_left _ (List.mem_append_left _ (List.mem_append_left _ (List.mem_append_left _ (List.mem_of_getElem? (i := 3) rfl))))))
theorem qX9_requireToken_4 : Cond.fieldLink RX9 176 "MatchCoder$Plan" "count" "I" ∈ wsX9_requireToken := (List.mem_cons_of_mem _ (List.mem_append_left _ (List.mem_append_left _ (List.mem_append_left _ (List.mem_append_left _ (List.mem_of_getElem? (i := 6) rfl))))))
theorem qX9_requireToken_5 : Cond.classLink RX9 80 "java/lang/IllegalStateException" ∈ wsX9_requireToken := (List.mem_cons_of_mem _ (List.mem_append_left _ (List.mem_append_left _ (List.mem_append_left _ (List.mem_append_left _ (List.mem_of_getElem? (i := 0) rfl))))))
theorem qX9_requireToken_6 : Cond.initialized "java/lang/IllegalStateException" ∈ wsX9_requireToken := (List.mem_cons_of_mem _ (List.mem_append_left _ (List.mem_append_left _ (List.mem_append_left _ (List.mem_append_left _ (List.mem_of_getElem? (i := 1) rfl))))))
theorem inX9_requireToken_xI : ∀ w ∈ (vx_atS RX9 109 "java/lang/IndexOutOfBoundsException" ["java/lang/RuntimeException", "java/lang/Exception"]).filter goodWord, w ∈ wsX9_requireToken := fun _ h => List.mem_cons_of_mem _ (List.mem_append_right _ h)
theorem inX9_requireToken_xS : ∀ w ∈ (vx_atS RX9 84 "java/lang/IllegalStateException" ["java/lang/RuntimeException", "java/lang/Exception"]).filter goodWord, w ∈ wsX9_requireToken := fun _ h => List.mem_cons_of_mem _ (List.mem_append_left _ (List.mem_append_right _ h))
theorem inX9_requireToken_wsX90 : ∀ w ∈ wsX90, w ∈ wsX9_requireToken := fun _ h => List.mem_cons_of_mem _ (List.mem_append_left _ (List.mem_append_left _ (List.mem_append_left _ (List.mem_append_right _ h))))
theorem inX9_requireToken_wsX40 : ∀ w ∈ wsX40, w ∈ wsX9_requireToken := fun _ h => List.mem_cons_of_mem _ (List.mem_append_left _ (List.mem_append_left _ (List.mem_append_right _ h)))
def wpX9_requireToken (pn : Int32) (pch : Int32) (v1 : Int32) (post : Prop) (px : String → Prop) : Prop := (pch = 0 → (px xS)) ∧ (¬ pch = 0 → ((v1 < 0 → (px xI)) ∧ (¬ v1 < 0 → ((v1 < pn → (post)) ∧ (¬ v1 < pn → (px xI))))))
set_option maxHeartbeats 4000000 in
set_option maxRecDepth 100000 in
theorem mtX9_requireToken (l : Launch) (hlt : l.stackTraces = false) (dC : Nat → ClassId) (dI : Nat → Nat → Nat) (cyI : ClassId) {aX aT aS aF aQ aW aP aPk aPl aPd aPs aB aR : Nat} {sz : Nat} {pn : Int32} {pch : Int32} {v1 : Int32} {post : Prop} {px : String → Prop} (h : wpX9_requireToken pn pch v1 post px) : vx_Met l yX9_requireToken wsX9_requireToken ({ frames := 6, cells := 1, slots := 6, locals := 82 }) (va_Pc [.ref aX, .int v1] (wk_BX (dC, dI) [(cyI, .int)] [(aX, .inr (8, [.ref aT, .ref aS, .ref aF, .ref aQ, .ref aW, .ref aP, .ref aB, .ref aR])), (aP, .inr (3, [.ref aPk, .ref aPl, .ref aPd, .ref aPs, .int pn, .int pch]))] sz)) (va_Qv (fun (u : Unit) => post ) (wk_C (dC, dI) [(cyI, .int)] (va_A [(aX, .inr (8, [.ref aT, .ref aS, .ref aF, .ref aQ, .ref aW, .ref aP, .ref aB, .ref aR])), (aP, .inr (3, [.ref aPk, .ref aPl, .ref aPd, .ref aPs, .int pn, .int pch]))] sz) (fun (u : Unit) => [(aX, .inr (8, [.ref aT, .ref aS, .ref aF, .ref aQ, .ref aW, .ref aP, .ref aB, .ref aR])), (aP, .inr (3, [.ref aPk, .ref aPl, .ref aPd, .ref aPs, .int pn, .int pch]))])) (va_A [(aX, .inr (8, [.ref aT, .ref aS, .ref aF, .ref aQ, .ref aW, .ref aP, .ref aB, .ref aR])), (aP, .inr (3, [.ref aPk, .ref aPl, .ref aPd, .ref aPs, .int pn, .int pch]))] sz)) (vx_X px (wk_X (dC, dI) [(cyI, .int)] (va_A [(aX, .inr (8, [.ref aT, .ref aS, .ref aF, .ref aQ, .ref aW, .ref aP, .ref aB, .ref aR])), (aP, .inr (3, [.ref aPk, .ref aPl, .ref aPd, .ref aPs, .int pn, .int pch]))] sz) [(aX, .inr (8, [.ref aT, .ref aS, .ref aF, .ref aQ, .ref aW, .ref aP, .ref aB, .ref aR])), (aP, .inr (3, [.ref aPk, .ref aPl, .ref aPd, .ref aPs, .int pn, .int pch]))]) (va_A [(aX, .inr (8, [.ref aT, .ref aS, .ref aF, .ref aQ, .ref aW, .ref aP, .ref aB, .ref aR])), (aP, .inr (3, [.ref aPk, .ref aPl, .ref aPd, .ref aPs, .int pn, .int pch]))] sz)) 1 6 (va_A [(aX, .inr (8, [.ref aT, .ref aS, .ref aF, .ref aQ, .ref aW, .ref aP, .ref aB, .ref aR])), (aP, .inr (3, [.ref aPk, .ref aPl, .ref aPd, .ref aPs, .int pn, .int pch]))] sz) := by
  refine vx_ofW (cc := cX9_requireToken) (maxL := 2) (ret := none) (by decide) rfl ?_
  intro p e s m args below meth c s₁ B hml htab hv
  obtain ⟨rfl, ⟨hsz, hP, hK, hD0⟩, hZ⟩ := hv
  have hx := B.exec
  have hb := B.bytes
  have hr := B.returns
  have hts := atoms_spec (ws := wsX9_requireToken) B.pre
  have hown : s.vm.findClass RX9 = some m.cls := findClass_of_methodNamed B.named
  have hlocks := B.notSynchronized
  subst hsz
  have hD := hD0.self (sz := s.heap.size)
  generalize hAe : va_A [(aX, .inr (8, [.ref aT, .ref aS, .ref aF, .ref aQ, .ref aW, .ref aP, .ref aB, .ref aR])), (aP, .inr (3, [.ref aPk, .ref aPl, .ref aPd, .ref aPs, .int pn, .int pch]))] s.heap.size = A at hD hZ ⊢
  have hA : ∀ q : Nat, s.heap.size ≤ q → A q := fun q h => by rw [← hAe]; exact Or.inr h
  have hS : va_S A s.heap s.heap [] := va_S.rf
  have hP : va_P (dC, dI) vwCl [(aX, .inr (8, [.ref aT, .ref aS, .ref aF, .ref aQ, .ref aW, .ref aP, .ref aB, .ref aR])), (aP, .inr (3, [.ref aPk, .ref aPl, .ref aPd, .ref aPs, .int pn, .int pch]))] s.heap := hP
  have hl := lv_entry ([.ref aX, .int v1]) (n := 2) (Nat.le_of_ble_eq_true rfl)
  rw [lg_entry_eq]
  generalize (lg_sl ([.ref aX, .int v1]) ++ List.replicate (2 - (lg_sl ([.ref aX, .int v1])).length) Slot.unset).toArray = ls at hl ⊢
  have hl : lv_has ls 2 [(0, .ref aX), (1, .int v1)] := hl
  have C0 : CallFix p m c cX9_requireToken 2 s ([.ref aX, .int v1] : List Value).toArray wsX9_requireToken RX9 := ⟨hx, hb, hml, hown, hts⟩
  unfold wpX9_requireToken at h
  refine lv_aload_n hx hb dX9_requireToken_0 rfl (lv_at hl 0 rfl) ?_
  refine va_get (D := (dC, dI)) (ci := 8) (v := .ref aP) (C := RX9) (T := TX9) (N := 8) hx hb hts inX9_requireToken_wsX90 hown hK hP 0 rfl rfl 5 (by decide) (hts _ qX9_requireToken_0) (fun _ h9 => h9) rfl dX9_requireToken_1 ?_
  refine va_get (D := (dC, dI)) (ci := 3) (v := .int pch) (C := RX4) (T := TX4) (N := 6) hx hb hts inX9_requireToken_wsX40 hown hK hP 1 rfl rfl 5 (by decide) (hts _ qX9_requireToken_1) (fun _ h9 => h9) rfl dX9_requireToken_4 ?_
  refine lv_if_ne (tgt := 20) hx hb dX9_requireToken_7 (by decide) (fun c_1 => ?_) (fun c_1 => ?_)
  · replace h := h.2 c_1
    refine lv_iload_n hx hb dX9_requireToken_20 rfl (lv_at hl 1 rfl) ?_
    refine lv_if_lt (tgt := 35) hx hb dX9_requireToken_21 (by decide) (fun c_2 => ?_) (fun c_2 => ?_)
    · replace h := h.1 c_2
      obtain ⟨sa9, hstr⟩ := hZ.1 _ (List.mem_of_getElem? (i := 18) rfl)
      exact vx_throwS hx hb hlt hown xI_fit xN_fit (hts _ qX9_requireToken_2) (hts _ qX9_requireToken_3) hstr (vx_hat (fun w hw => hts w (inX9_requireToken_xI w hw)) xI_no (hZ.use _)) xI_ot hZ.2.1 hZ.2.2.1 hS (hl.1.trans hml.symm) dX9_requireToken_35 dX9_requireToken_38 dX9_requireToken_39 dX9_requireToken_41 dX9_requireToken_44 (fun x hx9 => (htab x hx9).elim) (Nat.le_of_ble_eq_true rfl) (Nat.le_of_ble_eq_true rfl) (Nat.le_of_ble_eq_true rfl) (Nat.le_of_ble_eq_true rfl) hlocks (wk_xc hP hD hK hS h) hS.2.2 (Nat.le_of_ble_eq_true rfl) (Nat.le_of_ble_eq_true rfl)
    · replace h := h.2 c_2
      refine lv_iload_n hx hb dX9_requireToken_24 rfl (lv_at hl 1 rfl) ?_
      refine lv_aload_n hx hb dX9_requireToken_25 rfl (lv_at hl 0 rfl) ?_
      refine va_get (D := (dC, dI)) (ci := 8) (v := .ref aP) (C := RX9) (T := TX9) (N := 8) hx hb hts inX9_requireToken_wsX90 hown hK hP 0 rfl rfl 5 (by decide) (hts _ qX9_requireToken_0) (fun _ h9 => h9) rfl dX9_requireToken_26 ?_
      refine va_get (D := (dC, dI)) (ci := 3) (v := .int pn) (C := RX4) (T := TX4) (N := 6) hx hb hts inX9_requireToken_wsX40 hown hK hP 1 rfl rfl 4 (by decide) (hts _ qX9_requireToken_4) (fun _ h9 => h9) rfl dX9_requireToken_29 ?_
      refine lv_icmp_lt (tgt := 45) hx hb dX9_requireToken_32 (by decide) (fun c_3 => ?_) (fun c_3 => ?_)
      · replace h := h.1 c_3
        have hP9 : va_P (dC, dI) vwCl [(aX, .inr (8, [.ref aT, .ref aS, .ref aF, .ref aQ, .ref aW, .ref aP, .ref aB, .ref aR])), (aP, .inr (3, [.ref aPk, .ref aPl, .ref aPd, .ref aPs, .int pn, .int pch]))] _ := hP
        have hD9 : va_D A [(aX, .inr (8, [.ref aT, .ref aS, .ref aF, .ref aQ, .ref aW, .ref aP, .ref aB, .ref aR])), (aP, .inr (3, [.ref aPk, .ref aPl, .ref aPd, .ref aPs, .int pn, .int pch]))] := hD
        refine vx_ret ?_
        refine W.widen (k := 1) (n := 6) (Nat.le_of_ble_eq_true rfl) (Nat.le_of_ble_eq_true rfl) ?_
        exact W.vret hx hb hr (fun t ht hW => ⟨⟨(), rfl, h, by rw [ht]; exact hP9, va_K.moved hW.alike hK, hD9⟩, hS.F ht⟩) hS.2.2 dX9_requireToken_45
      · replace h := h.2 c_3
        obtain ⟨sa9, hstr⟩ := hZ.1 _ (List.mem_of_getElem? (i := 18) rfl)
        exact vx_throwS hx hb hlt hown xI_fit xN_fit (hts _ qX9_requireToken_2) (hts _ qX9_requireToken_3) hstr (vx_hat (fun w hw => hts w (inX9_requireToken_xI w hw)) xI_no (hZ.use _)) xI_ot hZ.2.1 hZ.2.2.1 hS (hl.1.trans hml.symm) dX9_requireToken_35 dX9_requireToken_38 dX9_requireToken_39 dX9_requireToken_41 dX9_requireToken_44 (fun x hx9 => (htab x hx9).elim) (Nat.le_of_ble_eq_true rfl) (Nat.le_of_ble_eq_true rfl) (Nat.le_of_ble_eq_true rfl) (Nat.le_of_ble_eq_true rfl) hlocks (wk_xc hP hD hK hS h) hS.2.2 (Nat.le_of_ble_eq_true rfl) (Nat.le_of_ble_eq_true rfl)
  · replace h := h.1 c_1
    obtain ⟨sa9, hstr⟩ := hZ.1 _ (List.mem_of_getElem? (i := 12) rfl)
    exact vx_throwS hx hb hlt hown xS_fit xN_fit (hts _ qX9_requireToken_5) (hts _ qX9_requireToken_6) hstr (vx_hat (fun w hw => hts w (inX9_requireToken_xS w hw)) xS_no (hZ.use _)) xS_ot hZ.2.1 hZ.2.2.1 hS (hl.1.trans hml.symm) dX9_requireToken_10 dX9_requireToken_13 dX9_requireToken_14 dX9_requireToken_16 dX9_requireToken_19 (fun x hx9 => (htab x hx9).elim) (Nat.le_of_ble_eq_true rfl) (Nat.le_of_ble_eq_true rfl) (Nat.le_of_ble_eq_true rfl) (Nat.le_of_ble_eq_true rfl) hlocks (wk_xc hP hD hK hS h) hS.2.2 (Nat.le_of_ble_eq_true rfl) (Nat.le_of_ble_eq_true rfl)
-- X9_kind
theorem qX9_kind_0 : Cond.fieldLink RX9 51 "MatchCoder" "plan" "LMatchCoder$Plan;" ∈ wsX9_kind := (List.mem_cons_of_mem _ (List.mem_append_left _ (List.mem_append_left _ (List.mem_append_left _ (List.mem_append_left _ (List.mem_of_getElem? (i := 0) rfl))))))
theorem qX9_kind_1 : Cond.fieldLink RX9 180 "MatchCoder$Plan" "kinds" "[I" ∈ wsX9_kind := (List.mem_cons_of_mem _ (List.mem_append_left _ (List.mem_append_left _ (List.mem_append_left _ (List.mem_append_left _ (List.mem_of_getElem? (i := 1) rfl))))))
theorem inX9_kind_wsX90 : ∀ w ∈ wsX90, w ∈ wsX9_kind := fun _ h => List.mem_cons_of_mem _ (List.mem_append_left _ (List.mem_append_left _ (List.mem_append_left _ (List.mem_append_right _ h))))
theorem inX9_kind_wsX40 : ∀ w ∈ wsX40, w ∈ wsX9_kind := fun _ h => List.mem_cons_of_mem _ (List.mem_append_left _ (List.mem_append_left _ (List.mem_append_right _ h)))
def wpX9_kind (pn : Int32) (pch : Int32) (pk : Nat → Int32) (v1 : Int32) (post : Int32 → Prop) (px : String → Prop) : Prop := wpX9_requireToken pn pch v1 (vp_in v1 64 ∧ (post (pk v1.toNatClampNeg))) px
set_option maxHeartbeats 4000000 in
set_option maxRecDepth 100000 in
theorem mtX9_kind (l : Launch) (hlt : l.stackTraces = false) (dC : Nat → ClassId) (dI : Nat → Nat → Nat) (cyI : ClassId) {aX aT aS aF aQ aW aP aPk aPl aPd aPs aB aR : Nat} {sz : Nat} {pn : Int32} {pch : Int32} {pk : Nat → Int32} {v1 : Int32} {post : Int32 → Prop} {px : String → Prop} (h : wpX9_kind pn pch pk v1 post px) : vx_Met l yX9_kind wsX9_kind ({ frames := 7, cells := 1, slots := 6, locals := 103 }) (va_Pc [.ref aX, .int v1] (wk_BX (dC, dI) [(cyI, .int)] [(aX, .inr (8, [.ref aT, .ref aS, .ref aF, .ref aQ, .ref aW, .ref aP, .ref aB, .ref aR])), (aP, .inr (3, [.ref aPk, .ref aPl, .ref aPd, .ref aPs, .int pn, .int pch])), (aPk, .inl (cyI, 64, .inl pk))] sz)) (va_Qi (fun (r : Int32) (u : Unit) => post r ) (wk_C (dC, dI) [(cyI, .int)] (va_A [(aX, .inr (8, [.ref aT, .ref aS, .ref aF, .ref aQ, .ref aW, .ref aP, .ref aB, .ref aR])), (aP, .inr (3, [.ref aPk, .ref aPl, .ref aPd, .ref aPs, .int pn, .int pch])), (aPk, .inl (cyI, 64, .inl pk))] sz) (fun (u : Unit) => [(aX, .inr (8, [.ref aT, .ref aS, .ref aF, .ref aQ, .ref aW, .ref aP, .ref aB, .ref aR])), (aP, .inr (3, [.ref aPk, .ref aPl, .ref aPd, .ref aPs, .int pn, .int pch])), (aPk, .inl (cyI, 64, .inl pk))])) (va_A [(aX, .inr (8, [.ref aT, .ref aS, .ref aF, .ref aQ, .ref aW, .ref aP, .ref aB, .ref aR])), (aP, .inr (3, [.ref aPk, .ref aPl, .ref aPd, .ref aPs, .int pn, .int pch])), (aPk, .inl (cyI, 64, .inl pk))] sz)) (vx_X px (wk_X (dC, dI) [(cyI, .int)] (va_A [(aX, .inr (8, [.ref aT, .ref aS, .ref aF, .ref aQ, .ref aW, .ref aP, .ref aB, .ref aR])), (aP, .inr (3, [.ref aPk, .ref aPl, .ref aPd, .ref aPs, .int pn, .int pch])), (aPk, .inl (cyI, 64, .inl pk))] sz) [(aX, .inr (8, [.ref aT, .ref aS, .ref aF, .ref aQ, .ref aW, .ref aP, .ref aB, .ref aR])), (aP, .inr (3, [.ref aPk, .ref aPl, .ref aPd, .ref aPs, .int pn, .int pch])), (aPk, .inl (cyI, 64, .inl pk))]) (va_A [(aX, .inr (8, [.ref aT, .ref aS, .ref aF, .ref aQ, .ref aW, .ref aP, .ref aB, .ref aR])), (aP, .inr (3, [.ref aPk, .ref aPl, .ref aPd, .ref aPs, .int pn, .int pch])), (aPk, .inl (cyI, 64, .inl pk))] sz)) 1 6 (va_A [(aX, .inr (8, [.ref aT, .ref aS, .ref aF, .ref aQ, .ref aW, .ref aP, .ref aB, .ref aR])), (aP, .inr (3, [.ref aPk, .ref aPl, .ref aPd, .ref aPs, .int pn, .int pch])), (aPk, .inl (cyI, 64, .inl pk))] sz) := by
  refine vx_ofW (cc := cX9_kind) (maxL := 2) (ret := (some .int)) (by decide) rfl ?_
  intro p e s m args below meth c s₁ B hml htab hv
  obtain ⟨rfl, ⟨hsz, hP, hK, hD0⟩, hZ⟩ := hv
  have hx := B.exec
  have hb := B.bytes
  have hr := B.returns
  have hts := atoms_spec (ws := wsX9_kind) B.pre
  have hown : s.vm.findClass RX9 = some m.cls := findClass_of_methodNamed B.named
  have hlocks := B.notSynchronized
  subst hsz
  have hD := hD0.self (sz := s.heap.size)
  generalize hAe : va_A [(aX, .inr (8, [.ref aT, .ref aS, .ref aF, .ref aQ, .ref aW, .ref aP, .ref aB, .ref aR])), (aP, .inr (3, [.ref aPk, .ref aPl, .ref aPd, .ref aPs, .int pn, .int pch])), (aPk, .inl (cyI, 64, .inl pk))] s.heap.size = A at hD hZ ⊢
  have hA : ∀ q : Nat, s.heap.size ≤ q → A q := fun q h => by rw [← hAe]; exact Or.inr h
  have hS : va_S A s.heap s.heap [] := va_S.rf
  have hP : va_P (dC, dI) vwCl [(aX, .inr (8, [.ref aT, .ref aS, .ref aF, .ref aQ, .ref aW, .ref aP, .ref aB, .ref aR])), (aP, .inr (3, [.ref aPk, .ref aPl, .ref aPd, .ref aPs, .int pn, .int pch])), (aPk, .inl (cyI, 64, .inl pk))] s.heap := hP
  have hl := lv_entry ([.ref aX, .int v1]) (n := 2) (Nat.le_of_ble_eq_true rfl)
  rw [lg_entry_eq]
  generalize (lg_sl ([.ref aX, .int v1]) ++ List.replicate (2 - (lg_sl ([.ref aX, .int v1])).length) Slot.unset).toArray = ls at hl ⊢
  have hl : lv_has ls 2 [(0, .ref aX), (1, .int v1)] := hl
  have C0 : CallFix p m c cX9_kind 2 s ([.ref aX, .int v1] : List Value).toArray wsX9_kind RX9 := ⟨hx, hb, hml, hown, hts⟩
  unfold wpX9_kind at h
  refine lv_aload_n hx hb dX9_kind_0 rfl (lv_at hl 0 rfl) ?_
  refine lv_iload_n hx hb dX9_kind_1 rfl (lv_at hl 1 rfl) ?_
  refine wk_xcallv (wc := [(aX, .inr (8, [.ref aT, .ref aS, .ref aF, .ref aQ, .ref aW, .ref aP, .ref aB, .ref aR])), (aP, .inr (3, [.ref aPk, .ref aPl, .ref aPd, .ref aPs, .int pn, .int pch]))]) (wr := [(aPk, .inl (cyI, 64, .inl pk))]) (vx_runV (As := [.int v1]) (rest := []) C0 (mtX9_requireToken l hlt dC dI cyI (aX := aX) (aT := aT) (aS := aS) (aF := aF) (aQ := aQ) (aW := aW) (aP := aP) (aPk := aPk) (aPl := aPl) (aPd := aPd) (aPs := aPs) (aB := aB) (aR := aR) (sz := _) (pn := pn) (pch := pch) (v1 := v1) h) (cwV 1 hts gX9_kind_X9_requireToken rfl rfl rfl (by decide +kernel) ⟨(Nat.le_of_ble_eq_true rfl), (Nat.le_of_ble_eq_true rfl)⟩) (wk_preVX (wc := [(aX, .inr (8, [.ref aT, .ref aS, .ref aF, .ref aQ, .ref aW, .ref aP, .ref aB, .ref aR])), (aP, .inr (3, [.ref aPk, .ref aPl, .ref aPd, .ref aPs, .int pn, .int pch]))]) hK hP hD hS hA hZ [0, 1] rfl (by decide) (va_recv hK hP (ci := 8) (q0 := 0) rfl rfl)) rfl rfl hl.1 rfl (lv_room (Nat.le_of_ble_eq_true rfl)) dX9_kind_2 ⟨(Nat.le_of_ble_eq_true rfl), (Nat.le_of_ble_eq_true rfl)⟩) hP hD hS hA [0, 1] [2] rfl rfl (by decide) (by decide) (fun E9 ce9 q9 H locs h hP hD hS hc1 hc2 hc3 => ?_) (fun u9 H locs h hP hD hS => ?_)
  · exact vx_out (fun x hx9 => (htab x hx9).elim) hlocks hc1 hc2 hc3 (wk_xo (hP.sub (ws' := [(aX, .inr (8, [.ref aT, .ref aS, .ref aF, .ref aQ, .ref aW, .ref aP, .ref aB, .ref aR])), (aP, .inr (3, [.ref aPk, .ref aPl, .ref aPd, .ref aPs, .int pn, .int pch])), (aPk, .inl (cyI, 64, .inl pk))]) [1, 2, 0] rfl) (hD.sub (ws' := [(aX, .inr (8, [.ref aT, .ref aS, .ref aF, .ref aQ, .ref aW, .ref aP, .ref aB, .ref aR])), (aP, .inr (3, [.ref aPk, .ref aPl, .ref aPd, .ref aPs, .int pn, .int pch])), (aPk, .inl (cyI, 64, .inl pk))]) [1, 2, 0] (by decide) rfl) hK hS h) hS.2.2 (Nat.le_of_ble_eq_true rfl) (Nat.le_of_ble_eq_true rfl)
  have hP : va_P (dC, dI) vwCl [(aPk, .inl (cyI, 64, .inl pk)), (aX, .inr (8, [.ref aT, .ref aS, .ref aF, .ref aQ, .ref aW, .ref aP, .ref aB, .ref aR])), (aP, .inr (3, [.ref aPk, .ref aPl, .ref aPd, .ref aPs, .int pn, .int pch]))] H := hP
  have hD : va_D A [(aPk, .inl (cyI, 64, .inl pk)), (aX, .inr (8, [.ref aT, .ref aS, .ref aF, .ref aQ, .ref aW, .ref aP, .ref aB, .ref aR])), (aP, .inr (3, [.ref aPk, .ref aPl, .ref aPd, .ref aPs, .int pn, .int pch]))] := hD
  refine lv_aload_n hx hb dX9_kind_5 rfl (lv_at hl 0 rfl) ?_
  refine va_get (D := (dC, dI)) (ci := 8) (v := .ref aP) (C := RX9) (T := TX9) (N := 8) hx hb hts inX9_kind_wsX90 hown hK hP 1 rfl rfl 5 (by decide) (hts _ qX9_kind_0) (fun _ h9 => h9) rfl dX9_kind_6 ?_
  refine va_get (D := (dC, dI)) (ci := 3) (v := .ref aPk) (C := RX4) (T := TX4) (N := 6) hx hb hts inX9_kind_wsX40 hown hK hP 2 rfl rfl 0 (by decide) (hts _ qX9_kind_1) (fun _ h9 => h9) rfl dX9_kind_9 ?_
  refine lv_iload_n hx hb dX9_kind_12 rfl (lv_at hl 1 rfl) ?_
  obtain ⟨hi_1, h⟩ := h
  refine va_iald hx hb hK hP 0 0 rfl rfl hi_1 dX9_kind_13 ?_
  have hP9 : va_P (dC, dI) vwCl [(aX, .inr (8, [.ref aT, .ref aS, .ref aF, .ref aQ, .ref aW, .ref aP, .ref aB, .ref aR])), (aP, .inr (3, [.ref aPk, .ref aPl, .ref aPd, .ref aPs, .int pn, .int pch])), (aPk, .inl (cyI, 64, .inl pk))] _ := (hP.sub [1, 2, 0] rfl)
  have hD9 : va_D A [(aX, .inr (8, [.ref aT, .ref aS, .ref aF, .ref aQ, .ref aW, .ref aP, .ref aB, .ref aR])), (aP, .inr (3, [.ref aPk, .ref aPl, .ref aPd, .ref aPs, .int pn, .int pch])), (aPk, .inl (cyI, 64, .inl pk))] := (hD.sub [1, 2, 0] (by decide) rfl)
  refine vx_ret ?_
  refine W.widen (k := 1) (n := 6) (Nat.le_of_ble_eq_true rfl) (Nat.le_of_ble_eq_true rfl) ?_
  exact W.iret (v := pk v1.toNatClampNeg) hx hb hr (fun t ht hW => ⟨⟨pk v1.toNatClampNeg, (), rfl, h, by rw [ht]; exact hP9, va_K.moved hW.alike hK, hD9⟩, hS.F ht⟩) hS.2.2 dX9_kind_14
-- X9_length
theorem qX9_length_0 : Cond.fieldLink RX9 51 "MatchCoder" "plan" "LMatchCoder$Plan;" ∈ wsX9_length := (List.mem_cons_of_mem _ (List.mem_append_left _ (List.mem_append_left _ (List.mem_append_left _ (List.mem_append_left _ (List.mem_of_getElem? (i := 0) rfl))))))
theorem qX9_length_1 : Cond.fieldLink RX9 183 "MatchCoder$Plan" "lengths" "[I" ∈ wsX9_length := (List.mem_cons_of_mem _ (List.mem_append_left _ (List.mem_append_left _ (List.mem_append_left _ (List.mem_append_left _ (List.mem_of_getElem? (i := 1) rfl))))))
theorem inX9_length_wsX90 : ∀ w ∈ wsX90, w ∈ wsX9_length := fun _ h => List.mem_cons_of_mem _ (List.mem_append_left _ (List.mem_append_left _ (List.mem_append_left _ (List.mem_append_right _ h))))
theorem inX9_length_wsX40 : ∀ w ∈ wsX40, w ∈ wsX9_length := fun _ h => List.mem_cons_of_mem _ (List.mem_append_left _ (List.mem_append_left _ (List.mem_append_right _ h)))
def wpX9_length (pn : Int32) (pch : Int32) (pl : Nat → Int32) (v1 : Int32) (post : Int32 → Prop) (px : String → Prop) : Prop := wpX9_requireToken pn pch v1 (vp_in v1 64 ∧ (post (pl v1.toNatClampNeg))) px
set_option maxHeartbeats 4000000 in
set_option maxRecDepth 100000 in
theorem mtX9_length (l : Launch) (hlt : l.stackTraces = false) (dC : Nat → ClassId) (dI : Nat → Nat → Nat) (cyI : ClassId) {aX aT aS aF aQ aW aP aPk aPl aPd aPs aB aR : Nat} {sz : Nat} {pn : Int32} {pch : Int32} {pl : Nat → Int32} {v1 : Int32} {post : Int32 → Prop} {px : String → Prop} (h : wpX9_length pn pch pl v1 post px) : vx_Met l yX9_length wsX9_length ({ frames := 7, cells := 1, slots := 6, locals := 103 }) (va_Pc [.ref aX, .int v1] (wk_BX (dC, dI) [(cyI, .int)] [(aX, .inr (8, [.ref aT, .ref aS, .ref aF, .ref aQ, .ref aW, .ref aP, .ref aB, .ref aR])), (aP, .inr (3, [.ref aPk, .ref aPl, .ref aPd, .ref aPs, .int pn, .int pch])), (aPl, .inl (cyI, 64, .inl pl))] sz)) (va_Qi (fun (r : Int32) (u : Unit) => post r ) (wk_C (dC, dI) [(cyI, .int)] (va_A [(aX, .inr (8, [.ref aT, .ref aS, .ref aF, .ref aQ, .ref aW, .ref aP, .ref aB, .ref aR])), (aP, .inr (3, [.ref aPk, .ref aPl, .ref aPd, .ref aPs, .int pn, .int pch])), (aPl, .inl (cyI, 64, .inl pl))] sz) (fun (u : Unit) => [(aX, .inr (8, [.ref aT, .ref aS, .ref aF, .ref aQ, .ref aW, .ref aP, .ref aB, .ref aR])), (aP, .inr (3, [.ref aPk, .ref aPl, .ref aPd, .ref aPs, .int pn, .int pch])), (aPl, .inl (cyI, 64, .inl pl))])) (va_A [(aX, .inr (8, [.ref aT, .ref aS, .ref aF, .ref aQ, .ref aW, .ref aP, .ref aB, .ref aR])), (aP, .inr (3, [.ref aPk, .ref aPl, .ref aPd, .ref aPs, .int pn, .int pch])), (aPl, .inl (cyI, 64, .inl pl))] sz)) (vx_X px (wk_X (dC, dI) [(cyI, .int)] (va_A [(aX, .inr (8, [.ref aT, .ref aS, .ref aF, .ref aQ, .ref aW, .ref aP, .ref aB, .ref aR])), (aP, .inr (3, [.ref aPk, .ref aPl, .ref aPd, .ref aPs, .int pn, .int pch])), (aPl, .inl (cyI, 64, .inl pl))] sz) [(aX, .inr (8, [.ref aT, .ref aS, .ref aF, .ref aQ, .ref aW, .ref aP, .ref aB, .ref aR])), (aP, .inr (3, [.ref aPk, .ref aPl, .ref aPd, .ref aPs, .int pn, .int pch])), (aPl, .inl (cyI, 64, .inl pl))]) (va_A [(aX, .inr (8, [.ref aT, .ref aS, .ref aF, .ref aQ, .ref aW, .ref aP, .ref aB, .ref aR])), (aP, .inr (3, [.ref aPk, .ref aPl, .ref aPd, .ref aPs, .int pn, .int pch])), (aPl, .inl (cyI, 64, .inl pl))] sz)) 1 6 (va_A [(aX, .inr (8, [.ref aT, .ref aS, .ref aF, .ref aQ, .ref aW, .ref aP, .ref aB, .ref aR])), (aP, .inr (3, [.ref aPk, .ref aPl, .ref aPd, .ref aPs, .int pn, .int pch])), (aPl, .inl (cyI, 64, .inl pl))] sz) := by
  refine vx_ofW (cc := cX9_length) (maxL := 2) (ret := (some .int)) (by decide) rfl ?_
  intro p e s m args below meth c s₁ B hml htab hv
  obtain ⟨rfl, ⟨hsz, hP, hK, hD0⟩, hZ⟩ := hv
  have hx := B.exec
  have hb := B.bytes
  have hr := B.returns
  have hts := atoms_spec (ws := wsX9_length) B.pre
  have hown : s.vm.findClass RX9 = some m.cls := findClass_of_methodNamed B.named
  have hlocks := B.notSynchronized
  subst hsz
  have hD := hD0.self (sz := s.heap.size)
  generalize hAe : va_A [(aX, .inr (8, [.ref aT, .ref aS, .ref aF, .ref aQ, .ref aW, .ref aP, .ref aB, .ref aR])), (aP, .inr (3, [.ref aPk, .ref aPl, .ref aPd, .ref aPs, .int pn, .int pch])), (aPl, .inl (cyI, 64, .inl pl))] s.heap.size = A at hD hZ ⊢
  have hA : ∀ q : Nat, s.heap.size ≤ q → A q := fun q h => by rw [← hAe]; exact Or.inr h
  have hS : va_S A s.heap s.heap [] := va_S.rf
  have hP : va_P (dC, dI) vwCl [(aX, .inr (8, [.ref aT, .ref aS, .ref aF, .ref aQ, .ref aW, .ref aP, .ref aB, .ref aR])), (aP, .inr (3, [.ref aPk, .ref aPl, .ref aPd, .ref aPs, .int pn, .int pch])), (aPl, .inl (cyI, 64, .inl pl))] s.heap := hP
  have hl := lv_entry ([.ref aX, .int v1]) (n := 2) (Nat.le_of_ble_eq_true rfl)
  rw [lg_entry_eq]
  generalize (lg_sl ([.ref aX, .int v1]) ++ List.replicate (2 - (lg_sl ([.ref aX, .int v1])).length) Slot.unset).toArray = ls at hl ⊢
  have hl : lv_has ls 2 [(0, .ref aX), (1, .int v1)] := hl
  have C0 : CallFix p m c cX9_length 2 s ([.ref aX, .int v1] : List Value).toArray wsX9_length RX9 := ⟨hx, hb, hml, hown, hts⟩
  unfold wpX9_length at h
  refine lv_aload_n hx hb dX9_length_0 rfl (lv_at hl 0 rfl) ?_
  refine lv_iload_n hx hb dX9_length_1 rfl (lv_at hl 1 rfl) ?_
  refine wk_xcallv (wc := [(aX, .inr (8, [.ref aT, .ref aS, .ref aF, .ref aQ, .ref aW, .ref aP, .ref aB, .ref aR])), (aP, .inr (3, [.ref aPk, .ref aPl, .ref aPd, .ref aPs, .int pn, .int pch]))]) (wr := [(aPl, .inl (cyI, 64, .inl pl))]) (vx_runV (As := [.int v1]) (rest := []) C0 (mtX9_requireToken l hlt dC dI cyI (aX := aX) (aT := aT) (aS := aS) (aF := aF) (aQ := aQ) (aW := aW) (aP := aP) (aPk := aPk) (aPl := aPl) (aPd := aPd) (aPs := aPs) (aB := aB) (aR := aR) (sz := _) (pn := pn) (pch := pch) (v1 := v1) h) (cwV 1 hts gX9_length_X9_requireToken rfl rfl rfl (by decide +kernel) ⟨(Nat.le_of_ble_eq_true rfl), (Nat.le_of_ble_eq_true rfl)⟩) (wk_preVX (wc := [(aX, .inr (8, [.ref aT, .ref aS, .ref aF, .ref aQ, .ref aW, .ref aP, .ref aB, .ref aR])), (aP, .inr (3, [.ref aPk, .ref aPl, .ref aPd, .ref aPs, .int pn, .int pch]))]) hK hP hD hS hA hZ [0, 1] rfl (by decide) (va_recv hK hP (ci := 8) (q0 := 0) rfl rfl)) rfl rfl hl.1 rfl (lv_room (Nat.le_of_ble_eq_true rfl)) dX9_length_2 ⟨(Nat.le_of_ble_eq_true rfl), (Nat.le_of_ble_eq_true rfl)⟩) hP hD hS hA [0, 1] [2] rfl rfl (by decide) (by decide) (fun E9 ce9 q9 H locs h hP hD hS hc1 hc2 hc3 => ?_) (fun u9 H locs h hP hD hS => ?_)
  · exact vx_out (fun x hx9 => (htab x hx9).elim) hlocks hc1 hc2 hc3 (wk_xo (hP.sub (ws' := [(aX, .inr (8, [.ref aT, .ref aS, .ref aF, .ref aQ, .ref aW, .ref aP, .ref aB, .ref aR])), (aP, .inr (3, [.ref aPk, .ref aPl, .ref aPd, .ref aPs, .int pn, .int pch])), (aPl, .inl (cyI, 64, .inl pl))]) [1, 2, 0] rfl) (hD.sub (ws' := [(aX, .inr (8, [.ref aT, .ref aS, .ref aF, .ref aQ, .ref aW, .ref aP, .ref aB, .ref aR])), (aP, .inr (3, [.ref aPk, .ref aPl, .ref aPd, .ref aPs, .int pn, .int pch])), (aPl, .inl (cyI, 64, .inl pl))]) [1, 2, 0] (by decide) rfl) hK hS h) hS.2.2 (Nat.le_of_ble_eq_true rfl) (Nat.le_of_ble_eq_true rfl)
  have hP : va_P (dC, dI) vwCl [(aPl, .inl (cyI, 64, .inl pl)), (aX, .inr (8, [.ref aT, .ref aS, .ref aF, .ref aQ, .ref aW, .ref aP, .ref aB, .ref aR])), (aP, .inr (3, [.ref aPk, .ref aPl, .ref aPd, .ref aPs, .int pn, .int pch]))] H := hP
  have hD : va_D A [(aPl, .inl (cyI, 64, .inl pl)), (aX, .inr (8, [.ref aT, .ref aS, .ref aF, .ref aQ, .ref aW, .ref aP, .ref aB, .ref aR])), (aP, .inr (3, [.ref aPk, .ref aPl, .ref aPd, .ref aPs, .int pn, .int pch]))] := hD
  refine lv_aload_n hx hb dX9_length_5 rfl (lv_at hl 0 rfl) ?_
  refine va_get (D := (dC, dI)) (ci := 8) (v := .ref aP) (C := RX9) (T := TX9) (N := 8) hx hb hts inX9_length_wsX90 hown hK hP 1 rfl rfl 5 (by decide) (hts _ qX9_length_0) (fun _ h9 => h9) rfl dX9_length_6 ?_
  refine va_get (D := (dC, dI)) (ci := 3) (v := .ref aPl) (C := RX4) (T := TX4) (N := 6) hx hb hts inX9_length_wsX40 hown hK hP 2 rfl rfl 1 (by decide) (hts _ qX9_length_1) (fun _ h9 => h9) rfl dX9_length_9 ?_
  refine lv_iload_n hx hb dX9_length_12 rfl (lv_at hl 1 rfl) ?_
  obtain ⟨hi_1, h⟩ := h
  refine va_iald hx hb hK hP 0 0 rfl rfl hi_1 dX9_length_13 ?_
  have hP9 : va_P (dC, dI) vwCl [(aX, .inr (8, [.ref aT, .ref aS, .ref aF, .ref aQ, .ref aW, .ref aP, .ref aB, .ref aR])), (aP, .inr (3, [.ref aPk, .ref aPl, .ref aPd, .ref aPs, .int pn, .int pch])), (aPl, .inl (cyI, 64, .inl pl))] _ := (hP.sub [1, 2, 0] rfl)
  have hD9 : va_D A [(aX, .inr (8, [.ref aT, .ref aS, .ref aF, .ref aQ, .ref aW, .ref aP, .ref aB, .ref aR])), (aP, .inr (3, [.ref aPk, .ref aPl, .ref aPd, .ref aPs, .int pn, .int pch])), (aPl, .inl (cyI, 64, .inl pl))] := (hD.sub [1, 2, 0] (by decide) rfl)
  refine vx_ret ?_
  refine W.widen (k := 1) (n := 6) (Nat.le_of_ble_eq_true rfl) (Nat.le_of_ble_eq_true rfl) ?_
  exact W.iret (v := pl v1.toNatClampNeg) hx hb hr (fun t ht hW => ⟨⟨pl v1.toNatClampNeg, (), rfl, h, by rw [ht]; exact hP9, va_K.moved hW.alike hK, hD9⟩, hS.F ht⟩) hS.2.2 dX9_length_14
-- X9_distance
theorem qX9_distance_0 : Cond.fieldLink RX9 51 "MatchCoder" "plan" "LMatchCoder$Plan;" ∈ wsX9_distance := (List.mem_cons_of_mem _ (List.mem_append_left _ (List.mem_append_left _ (List.mem_append_left _ (List.mem_append_left _ (List.mem_of_getElem? (i := 0) rfl))))))
theorem qX9_distance_1 : Cond.fieldLink RX9 186 "MatchCoder$Plan" "distances" "[I" ∈ wsX9_distance := (List.mem_cons_of_mem _ (List.mem_append_left _ (List.mem_append_left _ (List.mem_append_left _ (List.mem_append_left _ (List.mem_of_getElem? (i := 1) rfl))))))
theorem inX9_distance_wsX90 : ∀ w ∈ wsX90, w ∈ wsX9_distance := fun _ h => List.mem_cons_of_mem _ (List.mem_append_left _ (List.mem_append_left _ (List.mem_append_left _ (List.mem_append_right _ h))))
theorem inX9_distance_wsX40 : ∀ w ∈ wsX40, w ∈ wsX9_distance := fun _ h => List.mem_cons_of_mem _ (List.mem_append_left _ (List.mem_append_left _ (List.mem_append_right _ h)))
def wpX9_distance (pn : Int32) (pch : Int32) (pd : Nat → Int32) (v1 : Int32) (post : Int32 → Prop) (px : String → Prop) : Prop := wpX9_requireToken pn pch v1 (vp_in v1 64 ∧ (post (pd v1.toNatClampNeg))) px
set_option maxHeartbeats 4000000 in
set_option maxRecDepth 100000 in
theorem mtX9_distance (l : Launch) (hlt : l.stackTraces = false) (dC : Nat → ClassId) (dI : Nat → Nat → Nat) (cyI : ClassId) {aX aT aS aF aQ aW aP aPk aPl aPd aPs aB aR : Nat} {sz : Nat} {pn : Int32} {pch : Int32} {pd : Nat → Int32} {v1 : Int32} {post : Int32 → Prop} {px : String → Prop} (h : wpX9_distance pn pch pd v1 post px) : vx_Met l yX9_distance wsX9_distance ({ frames := 7, cells := 1, slots := 6, locals := 103 }) (va_Pc [.ref aX, .int v1] (wk_BX (dC, dI) [(cyI, .int)] [(aX, .inr (8, [.ref aT, .ref aS, .ref aF, .ref aQ, .ref aW, .ref aP, .ref aB, .ref aR])), (aP, .inr (3, [.ref aPk, .ref aPl, .ref aPd, .ref aPs, .int pn, .int pch])), (aPd, .inl (cyI, 64, .inl pd))] sz)) (va_Qi (fun (r : Int32) (u : Unit) => post r ) (wk_C (dC, dI) [(cyI, .int)] (va_A [(aX, .inr (8, [.ref aT, .ref aS, .ref aF, .ref aQ, .ref aW, .ref aP, .ref aB, .ref aR])), (aP, .inr (3, [.ref aPk, .ref aPl, .ref aPd, .ref aPs, .int pn, .int pch])), (aPd, .inl (cyI, 64, .inl pd))] sz) (fun (u : Unit) => [(aX, .inr (8, [.ref aT, .ref aS, .ref aF, .ref aQ, .ref aW, .ref aP, .ref aB, .ref aR])), (aP, .inr (3, [.ref aPk, .ref aPl, .ref aPd, .ref aPs, .int pn, .int pch])), (aPd, .inl (cyI, 64, .inl pd))])) (va_A [(aX, .inr (8, [.ref aT, .ref aS, .ref aF, .ref aQ, .ref aW, .ref aP, .ref aB, .ref aR])), (aP, .inr (3, [.ref aPk, .ref aPl, .ref aPd, .ref aPs, .int pn, .int pch])), (aPd, .inl (cyI, 64, .inl pd))] sz)) (vx_X px (wk_X (dC, dI) [(cyI, .int)] (va_A [(aX, .inr (8, [.ref aT, .ref aS, .ref aF, .ref aQ, .ref aW, .ref aP, .ref aB, .ref aR])), (aP, .inr (3, [.ref aPk, .ref aPl, .ref aPd, .ref aPs, .int pn, .int pch])), (aPd, .inl (cyI, 64, .inl pd))] sz) [(aX, .inr (8, [.ref aT, .ref aS, .ref aF, .ref aQ, .ref aW, .ref aP, .ref aB, .ref aR])), (aP, .inr (3, [.ref aPk, .ref aPl, .ref aPd, .ref aPs, .int pn, .int pch])), (aPd, .inl (cyI, 64, .inl pd))]) (va_A [(aX, .inr (8, [.ref aT, .ref aS, .ref aF, .ref aQ, .ref aW, .ref aP, .ref aB, .ref aR])), (aP, .inr (3, [.ref aPk, .ref aPl, .ref aPd, .ref aPs, .int pn, .int pch])), (aPd, .inl (cyI, 64, .inl pd))] sz)) 1 6 (va_A [(aX, .inr (8, [.ref aT, .ref aS, .ref aF, .ref aQ, .ref aW, .ref aP, .ref aB, .ref aR])), (aP, .inr (3, [.ref aPk, .ref aPl, .ref aPd, .ref aPs, .int pn, .int pch])), (aPd, .inl (cyI, 64, .inl pd))] sz) := by
  refine vx_ofW (cc := cX9_distance) (maxL := 2) (ret := (some .int)) (by decide) rfl ?_
  intro p e s m args below meth c s₁ B hml htab hv
  obtain ⟨rfl, ⟨hsz, hP, hK, hD0⟩, hZ⟩ := hv
  have hx := B.exec
  have hb := B.bytes
  have hr := B.returns
  have hts := atoms_spec (ws := wsX9_distance) B.pre
  have hown : s.vm.findClass RX9 = some m.cls := findClass_of_methodNamed B.named
  have hlocks := B.notSynchronized
  subst hsz
  have hD := hD0.self (sz := s.heap.size)
  generalize hAe : va_A [(aX, .inr (8, [.ref aT, .ref aS, .ref aF, .ref aQ, .ref aW, .ref aP, .ref aB, .ref aR])), (aP, .inr (3, [.ref aPk, .ref aPl, .ref aPd, .ref aPs, .int pn, .int pch])), (aPd, .inl (cyI, 64, .inl pd))] s.heap.size = A at hD hZ ⊢
  have hA : ∀ q : Nat, s.heap.size ≤ q → A q := fun q h => by rw [← hAe]; exact Or.inr h
  have hS : va_S A s.heap s.heap [] := va_S.rf
  have hP : va_P (dC, dI) vwCl [(aX, .inr (8, [.ref aT, .ref aS, .ref aF, .ref aQ, .ref aW, .ref aP, .ref aB, .ref aR])), (aP, .inr (3, [.ref aPk, .ref aPl, .ref aPd, .ref aPs, .int pn, .int pch])), (aPd, .inl (cyI, 64, .inl pd))] s.heap := hP
  have hl := lv_entry ([.ref aX, .int v1]) (n := 2) (Nat.le_of_ble_eq_true rfl)
  rw [lg_entry_eq]
  generalize (lg_sl ([.ref aX, .int v1]) ++ List.replicate (2 - (lg_sl ([.ref aX, .int v1])).length) Slot.unset).toArray = ls at hl ⊢
  have hl : lv_has ls 2 [(0, .ref aX), (1, .int v1)] := hl
  have C0 : CallFix p m c cX9_distance 2 s ([.ref aX, .int v1] : List Value).toArray wsX9_distance RX9 := ⟨hx, hb, hml, hown, hts⟩
  unfold wpX9_distance at h
  refine lv_aload_n hx hb dX9_distance_0 rfl (lv_at hl 0 rfl) ?_
  refine lv_iload_n hx hb dX9_distance_1 rfl (lv_at hl 1 rfl) ?_
  refine wk_xcallv (wc := [(aX, .inr (8, [.ref aT, .ref aS, .ref aF, .ref aQ, .ref aW, .ref aP, .ref aB, .ref aR])), (aP, .inr (3, [.ref aPk, .ref aPl, .ref aPd, .ref aPs, .int pn, .int pch]))]) (wr := [(aPd, .inl (cyI, 64, .inl pd))]) (vx_runV (As := [.int v1]) (rest := []) C0 (mtX9_requireToken l hlt dC dI cyI (aX := aX) (aT := aT) (aS := aS) (aF := aF) (aQ := aQ) (aW := aW) (aP := aP) (aPk := aPk) (aPl := aPl) (aPd := aPd) (aPs := aPs) (aB := aB) (aR := aR) (sz := _) (pn := pn) (pch := pch) (v1 := v1) h) (cwV 1 hts gX9_distance_X9_requireToken rfl rfl rfl (by decide +kernel) ⟨(Nat.le_of_ble_eq_true rfl), (Nat.le_of_ble_eq_true rfl)⟩) (wk_preVX (wc := [(aX, .inr (8, [.ref aT, .ref aS, .ref aF, .ref aQ, .ref aW, .ref aP, .ref aB, .ref aR])), (aP, .inr (3, [.ref aPk, .ref aPl, .ref aPd, .ref aPs, .int pn, .int pch]))]) hK hP hD hS hA hZ [0, 1] rfl (by decide) (va_recv hK hP (ci := 8) (q0 := 0) rfl rfl)) rfl rfl hl.1 rfl (lv_room (Nat.le_of_ble_eq_true rfl)) dX9_distance_2 ⟨(Nat.le_of_ble_eq_true rfl), (Nat.le_of_ble_eq_true rfl)⟩) hP hD hS hA [0, 1] [2] rfl rfl (by decide) (by decide) (fun E9 ce9 q9 H locs h hP hD hS hc1 hc2 hc3 => ?_) (fun u9 H locs h hP hD hS => ?_)
  · exact vx_out (fun x hx9 => (htab x hx9).elim) hlocks hc1 hc2 hc3 (wk_xo (hP.sub (ws' := [(aX, .inr (8, [.ref aT, .ref aS, .ref aF, .ref aQ, .ref aW, .ref aP, .ref aB, .ref aR])), (aP, .inr (3, [.ref aPk, .ref aPl, .ref aPd, .ref aPs, .int pn, .int pch])), (aPd, .inl (cyI, 64, .inl pd))]) [1, 2, 0] rfl) (hD.sub (ws' := [(aX, .inr (8, [.ref aT, .ref aS, .ref aF, .ref aQ, .ref aW, .ref aP, .ref aB, .ref aR])), (aP, .inr (3, [.ref aPk, .ref aPl, .ref aPd, .ref aPs, .int pn, .int pch])), (aPd, .inl (cyI, 64, .inl pd))]) [1, 2, 0] (by decide) rfl) hK hS h) hS.2.2 (Nat.le_of_ble_eq_true rfl) (Nat.le_of_ble_eq_true rfl)
  have hP : va_P (dC, dI) vwCl [(aPd, .inl (cyI, 64, .inl pd)), (aX, .inr (8, [.ref aT, .ref aS, .ref aF, .ref aQ, .ref aW, .ref aP, .ref aB, .ref aR])), (aP, .inr (3, [.ref aPk, .ref aPl, .ref aPd, .ref aPs, .int pn, .int pch]))] H := hP
  have hD : va_D A [(aPd, .inl (cyI, 64, .inl pd)), (aX, .inr (8, [.ref aT, .ref aS, .ref aF, .ref aQ, .ref aW, .ref aP, .ref aB, .ref aR])), (aP, .inr (3, [.ref aPk, .ref aPl, .ref aPd, .ref aPs, .int pn, .int pch]))] := hD
  refine lv_aload_n hx hb dX9_distance_5 rfl (lv_at hl 0 rfl) ?_
  refine va_get (D := (dC, dI)) (ci := 8) (v := .ref aP) (C := RX9) (T := TX9) (N := 8) hx hb hts inX9_distance_wsX90 hown hK hP 1 rfl rfl 5 (by decide) (hts _ qX9_distance_0) (fun _ h9 => h9) rfl dX9_distance_6 ?_
  refine va_get (D := (dC, dI)) (ci := 3) (v := .ref aPd) (C := RX4) (T := TX4) (N := 6) hx hb hts inX9_distance_wsX40 hown hK hP 2 rfl rfl 2 (by decide) (hts _ qX9_distance_1) (fun _ h9 => h9) rfl dX9_distance_9 ?_
  refine lv_iload_n hx hb dX9_distance_12 rfl (lv_at hl 1 rfl) ?_
  obtain ⟨hi_1, h⟩ := h
  refine va_iald hx hb hK hP 0 0 rfl rfl hi_1 dX9_distance_13 ?_
  have hP9 : va_P (dC, dI) vwCl [(aX, .inr (8, [.ref aT, .ref aS, .ref aF, .ref aQ, .ref aW, .ref aP, .ref aB, .ref aR])), (aP, .inr (3, [.ref aPk, .ref aPl, .ref aPd, .ref aPs, .int pn, .int pch])), (aPd, .inl (cyI, 64, .inl pd))] _ := (hP.sub [1, 2, 0] rfl)
  have hD9 : va_D A [(aX, .inr (8, [.ref aT, .ref aS, .ref aF, .ref aQ, .ref aW, .ref aP, .ref aB, .ref aR])), (aP, .inr (3, [.ref aPk, .ref aPl, .ref aPd, .ref aPs, .int pn, .int pch])), (aPd, .inl (cyI, 64, .inl pd))] := (hD.sub [1, 2, 0] (by decide) rfl)
  refine vx_ret ?_
  refine W.widen (k := 1) (n := 6) (Nat.le_of_ble_eq_true rfl) (Nat.le_of_ble_eq_true rfl) ?_
  exact W.iret (v := pd v1.toNatClampNeg) hx hb hr (fun t ht hW => ⟨⟨pd v1.toNatClampNeg, (), rfl, h, by rw [ht]; exact hP9, va_K.moved hW.alike hK, hD9⟩, hS.F ht⟩) hS.2.2 dX9_distance_14
-- X9_start
theorem qX9_start_0 : Cond.fieldLink RX9 51 "MatchCoder" "plan" "LMatchCoder$Plan;" ∈ wsX9_start := (List.mem_cons_of_mem _ (List.mem_append_left _ (List.mem_append_left _ (List.mem_append_left _ (List.mem_append_left _ (List.mem_of_getElem? (i := 0) rfl))))))
theorem qX9_start_1 : Cond.fieldLink RX9 189 "MatchCoder$Plan" "starts" "[I" ∈ wsX9_start := (List.mem_cons_of_mem _ (List.mem_append_left _ (List.mem_append_left _ (List.mem_append_left _ (List.mem_append_left _ (List.mem_of_getElem? (i := 1) rfl))))))
theorem inX9_start_wsX90 : ∀ w ∈ wsX90, w ∈ wsX9_start := fun _ h => List.mem_cons_of_mem _ (List.mem_append_left _ (List.mem_append_left _ (List.mem_append_left _ (List.mem_append_right _ h))))
theorem inX9_start_wsX40 : ∀ w ∈ wsX40, w ∈ wsX9_start := fun _ h => List.mem_cons_of_mem _ (List.mem_append_left _ (List.mem_append_left _ (List.mem_append_right _ h)))
def wpX9_start (pn : Int32) (pch : Int32) (ps : Nat → Int32) (v1 : Int32) (post : Int32 → Prop) (px : String → Prop) : Prop := wpX9_requireToken pn pch v1 (vp_in v1 64 ∧ (post (ps v1.toNatClampNeg))) px
set_option maxHeartbeats 4000000 in
set_option maxRecDepth 100000 in
theorem mtX9_start (l : Launch) (hlt : l.stackTraces = false) (dC : Nat → ClassId) (dI : Nat → Nat → Nat) (cyI : ClassId) {aX aT aS aF aQ aW aP aPk aPl aPd aPs aB aR : Nat} {sz : Nat} {pn : Int32} {pch : Int32} {ps : Nat → Int32} {v1 : Int32} {post : Int32 → Prop} {px : String → Prop} (h : wpX9_start pn pch ps v1 post px) : vx_Met l yX9_start wsX9_start ({ frames := 7, cells := 1, slots := 6, locals := 103 }) (va_Pc [.ref aX, .int v1] (wk_BX (dC, dI) [(cyI, .int)] [(aX, .inr (8, [.ref aT, .ref aS, .ref aF, .ref aQ, .ref aW, .ref aP, .ref aB, .ref aR])), (aP, .inr (3, [.ref aPk, .ref aPl, .ref aPd, .ref aPs, .int pn, .int pch])), (aPs, .inl (cyI, 64, .inl ps))] sz)) (va_Qi (fun (r : Int32) (u : Unit) => post r ) (wk_C (dC, dI) [(cyI, .int)] (va_A [(aX, .inr (8, [.ref aT, .ref aS, .ref aF, .ref aQ, .ref aW, .ref aP, .ref aB, .ref aR])), (aP, .inr (3, [.ref aPk, .ref aPl, .ref aPd, .ref aPs, .int pn, .int pch])), (aPs, .inl (cyI, 64, .inl ps))] sz) (fun (u : Unit) => [(aX, .inr (8, [.ref aT, .ref aS, .ref aF, .ref aQ, .ref aW, .ref aP, .ref aB, .ref aR])), (aP, .inr (3, [.ref aPk, .ref aPl, .ref aPd, .ref aPs, .int pn, .int pch])), (aPs, .inl (cyI, 64, .inl ps))])) (va_A [(aX, .inr (8, [.ref aT, .ref aS, .ref aF, .ref aQ, .ref aW, .ref aP, .ref aB, .ref aR])), (aP, .inr (3, [.ref aPk, .ref aPl, .ref aPd, .ref aPs, .int pn, .int pch])), (aPs, .inl (cyI, 64, .inl ps))] sz)) (vx_X px (wk_X (dC, dI) [(cyI, .int)] (va_A [(aX, .inr (8, [.ref aT, .ref aS, .ref aF, .ref aQ, .ref aW, .ref aP, .ref aB, .ref aR])), (aP, .inr (3, [.ref aPk, .ref aPl, .ref aPd, .ref aPs, .int pn, .int pch])), (aPs, .inl (cyI, 64, .inl ps))] sz) [(aX, .inr (8, [.ref aT, .ref aS, .ref aF, .ref aQ, .ref aW, .ref aP, .ref aB, .ref aR])), (aP, .inr (3, [.ref aPk, .ref aPl, .ref aPd, .ref aPs, .int pn, .int pch])), (aPs, .inl (cyI, 64, .inl ps))]) (va_A [(aX, .inr (8, [.ref aT, .ref aS, .ref aF, .ref aQ, .ref aW, .ref aP, .ref aB, .ref aR])), (aP, .inr (3, [.ref aPk, .ref aPl, .ref aPd, .ref aPs, .int pn, .int pch])), (aPs, .inl (cyI, 64, .inl ps))] sz)) 1 6 (va_A [(aX, .inr (8, [.ref aT, .ref aS, .ref aF, .ref aQ, .ref aW, .ref aP, .ref aB, .ref aR])), (aP, .inr (3, [.ref aPk, .ref aPl, .ref aPd, .ref aPs, .int pn, .int pch])), (aPs, .inl (cyI, 64, .inl ps))] sz) := by
  refine vx_ofW (cc := cX9_start) (maxL := 2) (ret := (some .int)) (by decide) rfl ?_
  intro p e s m args below meth c s₁ B hml htab hv
  obtain ⟨rfl, ⟨hsz, hP, hK, hD0⟩, hZ⟩ := hv
  have hx := B.exec
  have hb := B.bytes
  have hr := B.returns
  have hts := atoms_spec (ws := wsX9_start) B.pre
  have hown : s.vm.findClass RX9 = some m.cls := findClass_of_methodNamed B.named
  have hlocks := B.notSynchronized
  subst hsz
  have hD := hD0.self (sz := s.heap.size)
  generalize hAe : va_A [(aX, .inr (8, [.ref aT, .ref aS, .ref aF, .ref aQ, .ref aW, .ref aP, .ref aB, .ref aR])), (aP, .inr (3, [.ref aPk, .ref aPl, .ref aPd, .ref aPs, .int pn, .int pch])), (aPs, .inl (cyI, 64, .inl ps))] s.heap.size = A at hD hZ ⊢
  have hA : ∀ q : Nat, s.heap.size ≤ q → A q := fun q h => by rw [← hAe]; exact Or.inr h
  have hS : va_S A s.heap s.heap [] := va_S.rf
  have hP : va_P (dC, dI) vwCl [(aX, .inr (8, [.ref aT, .ref aS, .ref aF, .ref aQ, .ref aW, .ref aP, .ref aB, .ref aR])), (aP, .inr (3, [.ref aPk, .ref aPl, .ref aPd, .ref aPs, .int pn, .int pch])), (aPs, .inl (cyI, 64, .inl ps))] s.heap := hP
  have hl := lv_entry ([.ref aX, .int v1]) (n := 2) (Nat.le_of_ble_eq_true rfl)
  rw [lg_entry_eq]
  generalize (lg_sl ([.ref aX, .int v1]) ++ List.replicate (2 - (lg_sl ([.ref aX, .int v1])).length) Slot.unset).toArray = ls at hl ⊢
  have hl : lv_has ls 2 [(0, .ref aX), (1, .int v1)] := hl
  have C0 : CallFix p m c cX9_start 2 s ([.ref aX, .int v1] : List Value).toArray wsX9_start RX9 := ⟨hx, hb, hml, hown, hts⟩
  unfold wpX9_start at h
  refine lv_aload_n hx hb dX9_start_0 rfl (lv_at hl 0 rfl) ?_
  refine lv_iload_n hx hb dX9_start_1 rfl (lv_at hl 1 rfl) ?_
  refine wk_xcallv (wc := [(aX, .inr (8, [.ref aT, .ref aS, .ref aF, .ref aQ, .ref aW, .ref aP, .ref aB, .ref aR])), (aP, .inr (3, [.ref aPk, .ref aPl, .ref aPd, .ref aPs, .int pn, .int pch]))]) (wr := [(aPs, .inl (cyI, 64, .inl ps))]) (vx_runV (As := [.int v1]) (rest := []) C0 (mtX9_requireToken l hlt dC dI cyI (aX := aX) (aT := aT) (aS := aS) (aF := aF) (aQ := aQ) (aW := aW) (aP := aP) (aPk := aPk) (aPl := aPl) (aPd := aPd) (aPs := aPs) (aB := aB) (aR := aR) (sz := _) (pn := pn) (pch := pch) (v1 := v1) h) (cwV 1 hts gX9_start_X9_requireToken rfl rfl rfl (by decide +kernel) ⟨(Nat.le_of_ble_eq_true rfl), (Nat.le_of_ble_eq_true rfl)⟩) (wk_preVX (wc := [(aX, .inr (8, [.ref aT, .ref aS, .ref aF, .ref aQ, .ref aW, .ref aP, .ref aB, .ref aR])), (aP, .inr (3, [.ref aPk, .ref aPl, .ref aPd, .ref aPs, .int pn, .int pch]))]) hK hP hD hS hA hZ [0, 1] rfl (by decide) (va_recv hK hP (ci := 8) (q0 := 0) rfl rfl)) rfl rfl hl.1 rfl (lv_room (Nat.le_of_ble_eq_true rfl)) dX9_start_2 ⟨(Nat.le_of_ble_eq_true rfl), (Nat.le_of_ble_eq_true rfl)⟩) hP hD hS hA [0, 1] [2] rfl rfl (by decide) (by decide) (fun E9 ce9 q9 H locs h hP hD hS hc1 hc2 hc3 => ?_) (fun u9 H locs h hP hD hS => ?_)
  · exact vx_out (fun x hx9 => (htab x hx9).elim) hlocks hc1 hc2 hc3 (wk_xo (hP.sub (ws' := [(aX, .inr (8, [.ref aT, .ref aS, .ref aF, .ref aQ, .ref aW, .ref aP, .ref aB, .ref aR])), (aP, .inr (3, [.ref aPk, .ref aPl, .ref aPd, .ref aPs, .int pn, .int pch])), (aPs, .inl (cyI, 64, .inl ps))]) [1, 2, 0] rfl) (hD.sub (ws' := [(aX, .inr (8, [.ref aT, .ref aS, .ref aF, .ref aQ, .ref aW, .ref aP, .ref aB, .ref aR])), (aP, .inr (3, [.ref aPk, .ref aPl, .ref aPd, .ref aPs, .int pn, .int pch])), (aPs, .inl (cyI, 64, .inl ps))]) [1, 2, 0] (by decide) rfl) hK hS h) hS.2.2 (Nat.le_of_ble_eq_true rfl) (Nat.le_of_ble_eq_true rfl)
  have hP : va_P (dC, dI) vwCl [(aPs, .inl (cyI, 64, .inl ps)), (aX, .inr (8, [.ref aT, .ref aS, .ref aF, .ref aQ, .ref aW, .ref aP, .ref aB, .ref aR])), (aP, .inr (3, [.ref aPk, .ref aPl, .ref aPd, .ref aPs, .int pn, .int pch]))] H := hP
  have hD : va_D A [(aPs, .inl (cyI, 64, .inl ps)), (aX, .inr (8, [.ref aT, .ref aS, .ref aF, .ref aQ, .ref aW, .ref aP, .ref aB, .ref aR])), (aP, .inr (3, [.ref aPk, .ref aPl, .ref aPd, .ref aPs, .int pn, .int pch]))] := hD
  refine lv_aload_n hx hb dX9_start_5 rfl (lv_at hl 0 rfl) ?_
  refine va_get (D := (dC, dI)) (ci := 8) (v := .ref aP) (C := RX9) (T := TX9) (N := 8) hx hb hts inX9_start_wsX90 hown hK hP 1 rfl rfl 5 (by decide) (hts _ qX9_start_0) (fun _ h9 => h9) rfl dX9_start_6 ?_
  refine va_get (D := (dC, dI)) (ci := 3) (v := .ref aPs) (C := RX4) (T := TX4) (N := 6) hx hb hts inX9_start_wsX40 hown hK hP 2 rfl rfl 3 (by decide) (hts _ qX9_start_1) (fun _ h9 => h9) rfl dX9_start_9 ?_
  refine lv_iload_n hx hb dX9_start_12 rfl (lv_at hl 1 rfl) ?_
  obtain ⟨hi_1, h⟩ := h
  refine va_iald hx hb hK hP 0 0 rfl rfl hi_1 dX9_start_13 ?_
  have hP9 : va_P (dC, dI) vwCl [(aX, .inr (8, [.ref aT, .ref aS, .ref aF, .ref aQ, .ref aW, .ref aP, .ref aB, .ref aR])), (aP, .inr (3, [.ref aPk, .ref aPl, .ref aPd, .ref aPs, .int pn, .int pch])), (aPs, .inl (cyI, 64, .inl ps))] _ := (hP.sub [1, 2, 0] rfl)
  have hD9 : va_D A [(aX, .inr (8, [.ref aT, .ref aS, .ref aF, .ref aQ, .ref aW, .ref aP, .ref aB, .ref aR])), (aP, .inr (3, [.ref aPk, .ref aPl, .ref aPd, .ref aPs, .int pn, .int pch])), (aPs, .inl (cyI, 64, .inl ps))] := (hD.sub [1, 2, 0] (by decide) rfl)
  refine vx_ret ?_
  refine W.widen (k := 1) (n := 6) (Nat.le_of_ble_eq_true rfl) (Nat.le_of_ble_eq_true rfl) ?_
  exact W.iret (v := ps v1.toNatClampNeg) hx hb hr (fun t ht hW => ⟨⟨ps v1.toNatClampNeg, (), rfl, h, by rw [ht]; exact hP9, va_K.moved hW.alike hK, hD9⟩, hS.F ht⟩) hS.2.2 dX9_start_14
-- X9_made
theorem qX9_made_0 : Cond.fieldLink RX9 51 "MatchCoder" "plan" "LMatchCoder$Plan;" ∈ wsX9_made := (List.mem_cons_of_mem _ (List.mem_append_left _ (List.mem_append_left _ (List.mem_append_left _ (List.mem_append_left _ (List.mem_of_getElem? (i := 4) rfl))))))
theorem qX9_made_1 : Cond.fieldLink RX9 170 "MatchCoder$Plan" "chosen" "Z" ∈ wsX9_made := (List.mem_cons_of_mem _ (List.mem_append_left _ (List.mem_append_left _ (List.mem_append_left _ (List.mem_append_left _ (List.mem_of_getElem? (i := 5) rfl))))))
theorem qX9_made_2 : Cond.classLink RX9 105 "java/lang/IndexOutOfBoundsException" ∈ wsX9_made := (List.mem_cons_of_mem _ (List.mem_append_left _ (List.mem_append_left _ (List.mem_append_left _ (List.mem_append_left _ (List.mem_of_getElem? (i := 2) rfl))))))
theorem qX9_made_3 : Cond.initialized "java/lang/IndexOutOfBoundsException" ∈ wsX9_made := (List.mem_cons_of_mem _ (List.mem_append_left _ (List.mem_append_left _ (List.mem_append_left _ (List.mem_append_left _ (List.mem_of_getElem? (i := 3) rfl))))))
theorem qX9_made_4 : Cond.classLink RX9 80 "java/lang/IllegalStateException" ∈ wsX9_made := (List.mem_cons_of_mem _ (List.mem_append_left _ (List.mem_append_left _ (List.mem_append_left _ (List.mem_append_left _ (List.mem_of_getElem? (i := 0) rfl))))))
theorem qX9_made_5 : Cond.initialized "java/lang/IllegalStateException" ∈ wsX9_made := (List.mem_cons_of_mem _ (List.mem_append_left _ (List.mem_append_left _ (List.mem_append_left _ (List.mem_append_left _ (List.mem_of_getElem? (i := 1) rfl))))))
theorem inX9_made_xI : ∀ w ∈ (vx_atS RX9 109 "java/lang/IndexOutOfBoundsException" ["java/lang/RuntimeException", "java/lang/Exception"]).filter goodWord, w ∈ wsX9_made := fun _ h => List.mem_cons_of_mem _ (List.mem_append_right _ h)
theorem inX9_made_xS : ∀ w ∈ (vx_atS RX9 84 "java/lang/IllegalStateException" ["java/lang/RuntimeException", "java/lang/Exception"]).filter goodWord, w ∈ wsX9_made := fun _ h => List.mem_cons_of_mem _ (List.mem_append_left _ (List.mem_append_right _ h))
theorem inX9_made_wsX90 : ∀ w ∈ wsX90, w ∈ wsX9_made := fun _ h => List.mem_cons_of_mem _ (List.mem_append_left _ (List.mem_append_left _ (List.mem_append_left _ (List.mem_append_right _ h))))
theorem inX9_made_wsX40 : ∀ w ∈ wsX40, w ∈ wsX9_made := fun _ h => List.mem_cons_of_mem _ (List.mem_append_left _ (List.mem_append_left _ (List.mem_append_right _ h)))
def wpX9_made (pn : Int32) (pch : Int32) (pk : Nat → Int32) (pl : Nat → Int32) (v1 : Int32) (post : Int32 → Prop) (px : String → Prop) : Prop := (pch = 0 → (px xS)) ∧ (¬ pch = 0 → ((v1 < 0 → (px xI)) ∧ (¬ v1 < 0 → ((v1 ≤ 2 → (wpX4_bytesOfKind pn pk pl v1 (fun (r_4 : Int32) => post r_4))) ∧ (¬ v1 ≤ 2 → (px xI))))))
set_option maxHeartbeats 4000000 in
set_option maxRecDepth 100000 in
theorem mtX9_made (l : Launch) (hlt : l.stackTraces = false) (dC : Nat → ClassId) (dI : Nat → Nat → Nat) (cyI : ClassId) {aX aT aS aF aQ aW aP aPk aPl aPd aPs aB aR : Nat} {sz : Nat} {pn : Int32} {pch : Int32} {pk : Nat → Int32} {pl : Nat → Int32} {v1 : Int32} {post : Int32 → Prop} {px : String → Prop} (h : wpX9_made pn pch pk pl v1 post px) : vx_Met l yX9_made wsX9_made ({ frames := 6, cells := 1, slots := 6, locals := 82 }) (va_Pc [.ref aX, .int v1] (wk_BX (dC, dI) [(cyI, .int)] [(aX, .inr (8, [.ref aT, .ref aS, .ref aF, .ref aQ, .ref aW, .ref aP, .ref aB, .ref aR])), (aP, .inr (3, [.ref aPk, .ref aPl, .ref aPd, .ref aPs, .int pn, .int pch])), (aPk, .inl (cyI, 64, .inl pk)), (aPl, .inl (cyI, 64, .inl pl))] sz)) (va_Qi (fun (r : Int32) (u : Unit) => post r ) (wk_C (dC, dI) [(cyI, .int)] (va_A [(aX, .inr (8, [.ref aT, .ref aS, .ref aF, .ref aQ, .ref aW, .ref aP, .ref aB, .ref aR])), (aP, .inr (3, [.ref aPk, .ref aPl, .ref aPd, .ref aPs, .int pn, .int pch])), (aPk, .inl (cyI, 64, .inl pk)), (aPl, .inl (cyI, 64, .inl pl))] sz) (fun (u : Unit) => [(aX, .inr (8, [.ref aT, .ref aS, .ref aF, .ref aQ, .ref aW, .ref aP, .ref aB, .ref aR])), (aP, .inr (3, [.ref aPk, .ref aPl, .ref aPd, .ref aPs, .int pn, .int pch])), (aPk, .inl (cyI, 64, .inl pk)), (aPl, .inl (cyI, 64, .inl pl))])) (va_A [(aX, .inr (8, [.ref aT, .ref aS, .ref aF, .ref aQ, .ref aW, .ref aP, .ref aB, .ref aR])), (aP, .inr (3, [.ref aPk, .ref aPl, .ref aPd, .ref aPs, .int pn, .int pch])), (aPk, .inl (cyI, 64, .inl pk)), (aPl, .inl (cyI, 64, .inl pl))] sz)) (vx_X px (wk_X (dC, dI) [(cyI, .int)] (va_A [(aX, .inr (8, [.ref aT, .ref aS, .ref aF, .ref aQ, .ref aW, .ref aP, .ref aB, .ref aR])), (aP, .inr (3, [.ref aPk, .ref aPl, .ref aPd, .ref aPs, .int pn, .int pch])), (aPk, .inl (cyI, 64, .inl pk)), (aPl, .inl (cyI, 64, .inl pl))] sz) [(aX, .inr (8, [.ref aT, .ref aS, .ref aF, .ref aQ, .ref aW, .ref aP, .ref aB, .ref aR])), (aP, .inr (3, [.ref aPk, .ref aPl, .ref aPd, .ref aPs, .int pn, .int pch])), (aPk, .inl (cyI, 64, .inl pk)), (aPl, .inl (cyI, 64, .inl pl))]) (va_A [(aX, .inr (8, [.ref aT, .ref aS, .ref aF, .ref aQ, .ref aW, .ref aP, .ref aB, .ref aR])), (aP, .inr (3, [.ref aPk, .ref aPl, .ref aPd, .ref aPs, .int pn, .int pch])), (aPk, .inl (cyI, 64, .inl pk)), (aPl, .inl (cyI, 64, .inl pl))] sz)) 1 6 (va_A [(aX, .inr (8, [.ref aT, .ref aS, .ref aF, .ref aQ, .ref aW, .ref aP, .ref aB, .ref aR])), (aP, .inr (3, [.ref aPk, .ref aPl, .ref aPd, .ref aPs, .int pn, .int pch])), (aPk, .inl (cyI, 64, .inl pk)), (aPl, .inl (cyI, 64, .inl pl))] sz) := by
  refine vx_ofW (cc := cX9_made) (maxL := 2) (ret := (some .int)) (by decide) rfl ?_
  intro p e s m args below meth c s₁ B hml htab hv
  obtain ⟨rfl, ⟨hsz, hP, hK, hD0⟩, hZ⟩ := hv
  have hx := B.exec
  have hb := B.bytes
  have hr := B.returns
  have hts := atoms_spec (ws := wsX9_made) B.pre
  have hown : s.vm.findClass RX9 = some m.cls := findClass_of_methodNamed B.named
  have hlocks := B.notSynchronized
  subst hsz
  have hD := hD0.self (sz := s.heap.size)
  generalize hAe : va_A [(aX, .inr (8, [.ref aT, .ref aS, .ref aF, .ref aQ, .ref aW, .ref aP, .ref aB, .ref aR])), (aP, .inr (3, [.ref aPk, .ref aPl, .ref aPd, .ref aPs, .int pn, .int pch])), (aPk, .inl (cyI, 64, .inl pk)), (aPl, .inl (cyI, 64, .inl pl))] s.heap.size = A at hD hZ ⊢
  have hA : ∀ q : Nat, s.heap.size ≤ q → A q := fun q h => by rw [← hAe]; exact Or.inr h
  have hS : va_S A s.heap s.heap [] := va_S.rf
  have hP : va_P (dC, dI) vwCl [(aX, .inr (8, [.ref aT, .ref aS, .ref aF, .ref aQ, .ref aW, .ref aP, .ref aB, .ref aR])), (aP, .inr (3, [.ref aPk, .ref aPl, .ref aPd, .ref aPs, .int pn, .int pch])), (aPk, .inl (cyI, 64, .inl pk)), (aPl, .inl (cyI, 64, .inl pl))] s.heap := hP
  have hl := lv_entry ([.ref aX, .int v1]) (n := 2) (Nat.le_of_ble_eq_true rfl)
  rw [lg_entry_eq]
  generalize (lg_sl ([.ref aX, .int v1]) ++ List.replicate (2 - (lg_sl ([.ref aX, .int v1])).length) Slot.unset).toArray = ls at hl ⊢
  have hl : lv_has ls 2 [(0, .ref aX), (1, .int v1)] := hl
  have C0 : CallFix p m c cX9_made 2 s ([.ref aX, .int v1] : List Value).toArray wsX9_made RX9 := ⟨hx, hb, hml, hown, hts⟩
  unfold wpX9_made at h
  refine lv_aload_n hx hb dX9_made_0 rfl (lv_at hl 0 rfl) ?_
  refine va_get (D := (dC, dI)) (ci := 8) (v := .ref aP) (C := RX9) (T := TX9) (N := 8) hx hb hts inX9_made_wsX90 hown hK hP 0 rfl rfl 5 (by decide) (hts _ qX9_made_0) (fun _ h9 => h9) rfl dX9_made_1 ?_
  refine va_get (D := (dC, dI)) (ci := 3) (v := .int pch) (C := RX4) (T := TX4) (N := 6) hx hb hts inX9_made_wsX40 hown hK hP 1 rfl rfl 5 (by decide) (hts _ qX9_made_1) (fun _ h9 => h9) rfl dX9_made_4 ?_
  refine lv_if_ne (tgt := 20) hx hb dX9_made_7 (by decide) (fun c_1 => ?_) (fun c_1 => ?_)
  · replace h := h.2 c_1
    refine lv_iload_n hx hb dX9_made_20 rfl (lv_at hl 1 rfl) ?_
    refine lv_if_lt (tgt := 29) hx hb dX9_made_21 (by decide) (fun c_2 => ?_) (fun c_2 => ?_)
    · replace h := h.1 c_2
      obtain ⟨sa9, hstr⟩ := hZ.1 _ (List.mem_of_getElem? (i := 13) rfl)
      exact vx_throwS hx hb hlt hown xI_fit xN_fit (hts _ qX9_made_2) (hts _ qX9_made_3) hstr (vx_hat (fun w hw => hts w (inX9_made_xI w hw)) xI_no (hZ.use _)) xI_ot hZ.2.1 hZ.2.2.1 hS (hl.1.trans hml.symm) dX9_made_29 dX9_made_32 dX9_made_33 dX9_made_35 dX9_made_38 (fun x hx9 => (htab x hx9).elim) (Nat.le_of_ble_eq_true rfl) (Nat.le_of_ble_eq_true rfl) (Nat.le_of_ble_eq_true rfl) (Nat.le_of_ble_eq_true rfl) hlocks (wk_xc hP hD hK hS h) hS.2.2 (Nat.le_of_ble_eq_true rfl) (Nat.le_of_ble_eq_true rfl)
    · replace h := h.2 c_2
      refine lv_iload_n hx hb dX9_made_24 rfl (lv_at hl 1 rfl) ?_
      refine lv_iconst (v := 2) hx hb dX9_made_25 (by decide) ?_
      refine lv_icmp_le (tgt := 39) hx hb dX9_made_26 (by decide) (fun c_3 => ?_) (fun c_3 => ?_)
      · replace h := h.1 c_3
        refine lv_aload_n hx hb dX9_made_39 rfl (lv_at hl 0 rfl) ?_
        refine va_get (D := (dC, dI)) (ci := 8) (v := .ref aP) (C := RX9) (T := TX9) (N := 8) hx hb hts inX9_made_wsX90 hown hK hP 0 rfl rfl 5 (by decide) (hts _ qX9_made_0) (fun _ h9 => h9) rfl dX9_made_40 ?_
        refine lv_iload_n hx hb dX9_made_43 rfl (lv_at hl 1 rfl) ?_
        refine wk_calli (wc := [(aP, .inr (3, [.ref aPk, .ref aPl, .ref aPd, .ref aPs, .int pn, .int pch])), (aPk, .inl (cyI, 64, .inl pk)), (aPl, .inl (cyI, 64, .inl pl))]) (wr := [(aX, .inr (8, [.ref aT, .ref aS, .ref aF, .ref aQ, .ref aW, .ref aP, .ref aB, .ref aR]))]) (va_runV (As := [.int v1]) (rest := []) C0 (mtX4_bytesOfKind l dC dI cyI (aP := aP) (aPk := aPk) (aPl := aPl) (aPd := aPd) (aPs := aPs) (sz := _) (pn := pn) (pch := pch) (pk := pk) (pl := pl) (v1 := v1) h) (cwV 1 hts gX9_made_X4_bytesOfKind rfl rfl rfl (by decide +kernel) ⟨(Nat.le_of_ble_eq_true rfl), (Nat.le_of_ble_eq_true rfl)⟩) (wk_preV (wc := [(aP, .inr (3, [.ref aPk, .ref aPl, .ref aPd, .ref aPs, .int pn, .int pch])), (aPk, .inl (cyI, 64, .inl pk)), (aPl, .inl (cyI, 64, .inl pl))]) hK hP hD [1, 2, 3] rfl (by decide) (va_recv hK hP (ci := 3) (q0 := 1) rfl rfl)) rfl rfl hl.1 rfl (lv_room (Nat.le_of_ble_eq_true rfl)) dX9_made_44 ⟨(Nat.le_of_ble_eq_true rfl), (Nat.le_of_ble_eq_true rfl)⟩) hP hD hS hA [1, 2, 3] [0] rfl rfl (by decide) (by decide) (fun r_4 u9 H locs h hP hD hS => ?_)
        have hP : va_P (dC, dI) vwCl [(aX, .inr (8, [.ref aT, .ref aS, .ref aF, .ref aQ, .ref aW, .ref aP, .ref aB, .ref aR])), (aP, .inr (3, [.ref aPk, .ref aPl, .ref aPd, .ref aPs, .int pn, .int pch])), (aPk, .inl (cyI, 64, .inl pk)), (aPl, .inl (cyI, 64, .inl pl))] H := hP
        have hD : va_D A [(aX, .inr (8, [.ref aT, .ref aS, .ref aF, .ref aQ, .ref aW, .ref aP, .ref aB, .ref aR])), (aP, .inr (3, [.ref aPk, .ref aPl, .ref aPd, .ref aPs, .int pn, .int pch])), (aPk, .inl (cyI, 64, .inl pk)), (aPl, .inl (cyI, 64, .inl pl))] := hD
        have hP9 : va_P (dC, dI) vwCl [(aX, .inr (8, [.ref aT, .ref aS, .ref aF, .ref aQ, .ref aW, .ref aP, .ref aB, .ref aR])), (aP, .inr (3, [.ref aPk, .ref aPl, .ref aPd, .ref aPs, .int pn, .int pch])), (aPk, .inl (cyI, 64, .inl pk)), (aPl, .inl (cyI, 64, .inl pl))] _ := hP
        have hD9 : va_D A [(aX, .inr (8, [.ref aT, .ref aS, .ref aF, .ref aQ, .ref aW, .ref aP, .ref aB, .ref aR])), (aP, .inr (3, [.ref aPk, .ref aPl, .ref aPd, .ref aPs, .int pn, .int pch])), (aPk, .inl (cyI, 64, .inl pk)), (aPl, .inl (cyI, 64, .inl pl))] := hD
        refine vx_ret ?_
        refine W.widen (k := 1) (n := 6) (Nat.le_of_ble_eq_true rfl) (Nat.le_of_ble_eq_true rfl) ?_
        exact W.iret (v := r_4) hx hb hr (fun t ht hW => ⟨⟨r_4, (), rfl, h, by rw [ht]; exact hP9, va_K.moved hW.alike hK, hD9⟩, hS.F ht⟩) hS.2.2 dX9_made_47
      · replace h := h.2 c_3
        obtain ⟨sa9, hstr⟩ := hZ.1 _ (List.mem_of_getElem? (i := 13) rfl)
        exact vx_throwS hx hb hlt hown xI_fit xN_fit (hts _ qX9_made_2) (hts _ qX9_made_3) hstr (vx_hat (fun w hw => hts w (inX9_made_xI w hw)) xI_no (hZ.use _)) xI_ot hZ.2.1 hZ.2.2.1 hS (hl.1.trans hml.symm) dX9_made_29 dX9_made_32 dX9_made_33 dX9_made_35 dX9_made_38 (fun x hx9 => (htab x hx9).elim) (Nat.le_of_ble_eq_true rfl) (Nat.le_of_ble_eq_true rfl) (Nat.le_of_ble_eq_true rfl) (Nat.le_of_ble_eq_true rfl) hlocks (wk_xc hP hD hK hS h) hS.2.2 (Nat.le_of_ble_eq_true rfl) (Nat.le_of_ble_eq_true rfl)
  · replace h := h.1 c_1
    obtain ⟨sa9, hstr⟩ := hZ.1 _ (List.mem_of_getElem? (i := 12) rfl)
    exact vx_throwS hx hb hlt hown xS_fit xN_fit (hts _ qX9_made_4) (hts _ qX9_made_5) hstr (vx_hat (fun w hw => hts w (inX9_made_xS w hw)) xS_no (hZ.use _)) xS_ot hZ.2.1 hZ.2.2.1 hS (hl.1.trans hml.symm) dX9_made_10 dX9_made_13 dX9_made_14 dX9_made_16 dX9_made_19 (fun x hx9 => (htab x hx9).elim) (Nat.le_of_ble_eq_true rfl) (Nat.le_of_ble_eq_true rfl) (Nat.le_of_ble_eq_true rfl) (Nat.le_of_ble_eq_true rfl) hlocks (wk_xc hP hD hK hS h) hS.2.2 (Nat.le_of_ble_eq_true rfl) (Nat.le_of_ble_eq_true rfl)
-- X9_ratio
theorem qX9_ratio_0 : Cond.fieldLink RX9 51 "MatchCoder" "plan" "LMatchCoder$Plan;" ∈ wsX9_ratio := (List.mem_cons_of_mem _ (List.mem_append_left _ (List.mem_append_left _ (List.mem_append_left _ (List.mem_append_left _ (List.mem_append_left _ (List.mem_of_getElem? (i := 2) rfl)))))))
theorem qX9_ratio_1 : Cond.fieldLink RX9 170 "MatchCoder$Plan" "chosen" "Z" ∈ wsX9_ratio := (List.mem_cons_of_mem _ (List.mem_append_left _ (List.mem_append_left _ (List.mem_append_left _ (List.mem_append_left _ (List.mem_append_left _ (List.mem_of_getElem? (i := 3) rfl)))))))
theorem qX9_ratio_2 : Cond.fieldLink RX9 10 "MatchCoder" "text" "LMatchCoder$Text;" ∈ wsX9_ratio := (List.mem_cons_of_mem _ (List.mem_append_left _ (List.mem_append_left _ (List.mem_append_left _ (List.mem_append_left _ (List.mem_append_left _ (List.mem_of_getElem? (i := 4) rfl)))))))
theorem qX9_ratio_3 : Cond.fieldLink RX9 76 "MatchCoder$Text" "count" "I" ∈ wsX9_ratio := (List.mem_cons_of_mem _ (List.mem_append_left _ (List.mem_append_left _ (List.mem_append_left _ (List.mem_append_left _ (List.mem_append_left _ (List.mem_of_getElem? (i := 5) rfl)))))))
theorem qX9_ratio_4 : Cond.classLink RX9 80 "java/lang/IllegalStateException" ∈ wsX9_ratio := (List.mem_cons_of_mem _ (List.mem_append_left _ (List.mem_append_left _ (List.mem_append_left _ (List.mem_append_left _ (List.mem_append_left _ (List.mem_of_getElem? (i := 0) rfl)))))))
theorem qX9_ratio_5 : Cond.initialized "java/lang/IllegalStateException" ∈ wsX9_ratio := (List.mem_cons_of_mem _ (List.mem_append_left _ (List.mem_append_left _ (List.mem_append_left _ (List.mem_append_left _ (List.mem_append_left _ (List.mem_of_getElem? (i := 1) rfl)))))))
theorem inX9_ratio_xS : ∀ w ∈ (vx_atS RX9 84 "java/lang/IllegalStateException" ["java/lang/RuntimeException", "java/lang/Exception"]).filter goodWord, w ∈ wsX9_ratio := fun _ h => List.mem_cons_of_mem _ (List.mem_append_right _ h)
theorem inX9_ratio_wsX90 : ∀ w ∈ wsX90, w ∈ wsX9_ratio := fun _ h => List.mem_cons_of_mem _ (List.mem_append_left _ (List.mem_append_left _ (List.mem_append_left _ (List.mem_append_right _ h))))
theorem inX9_ratio_wsX40 : ∀ w ∈ wsX40, w ∈ wsX9_ratio := fun _ h => List.mem_cons_of_mem _ (List.mem_append_left _ (List.mem_append_left _ (List.mem_append_right _ h)))
theorem inX9_ratio_wsX80 : ∀ w ∈ wsX80, w ∈ wsX9_ratio := fun _ h => List.mem_cons_of_mem _ (List.mem_append_left _ (List.mem_append_right _ h))
def wpX9_ratio (tn : Int32) (pn : Int32) (pch : Int32) (pk : Nat → Int32) (pl : Nat → Int32) (pd : Nat → Int32) (post : UInt64 → Prop) (px : String → Prop) : Prop := (pch = 0 → (px xS)) ∧ (¬ pch = 0 → ((tn = 0 → (post (FP.dconst0))) ∧ (¬ tn = 0 → (wpX4_bitsOfAll pn pk pl pd (fun (r_3 : Int32) => vf_n64 (FP.ddiv (FP.i2d r_3) (FP.i2d (8 * tn))) ∧ (post (FP.ddiv (FP.i2d r_3) (FP.i2d (8 * tn)))))))))
set_option maxHeartbeats 4000000 in
set_option maxRecDepth 100000 in
theorem mtX9_ratio (l : Launch) (hlt : l.stackTraces = false) (dC : Nat → ClassId) (dI : Nat → Nat → Nat) (cyI : ClassId) {aX aT aTb aS aF aQ aW aP aPk aPl aPd aPs aB aR : Nat} {sz : Nat} {tn : Int32} {pn : Int32} {pch : Int32} {pk : Nat → Int32} {pl : Nat → Int32} {pd : Nat → Int32} {post : UInt64 → Prop} {px : String → Prop} (h : wpX9_ratio tn pn pch pk pl pd post px) : vx_Met l yX9_ratio wsX9_ratio ({ frames := 6, cells := 1, slots := 6, locals := 84 }) (va_Pc [.ref aX] (wk_BX (dC, dI) [(cyI, .int)] [(aX, .inr (8, [.ref aT, .ref aS, .ref aF, .ref aQ, .ref aW, .ref aP, .ref aB, .ref aR])), (aT, .inr (7, [.ref aTb, .int tn])), (aP, .inr (3, [.ref aPk, .ref aPl, .ref aPd, .ref aPs, .int pn, .int pch])), (aPk, .inl (cyI, 64, .inl pk)), (aPl, .inl (cyI, 64, .inl pl)), (aPd, .inl (cyI, 64, .inl pd))] sz)) (va_Qd (fun (r : UInt64) (u : Unit) => post r ) (wk_C (dC, dI) [(cyI, .int)] (va_A [(aX, .inr (8, [.ref aT, .ref aS, .ref aF, .ref aQ, .ref aW, .ref aP, .ref aB, .ref aR])), (aT, .inr (7, [.ref aTb, .int tn])), (aP, .inr (3, [.ref aPk, .ref aPl, .ref aPd, .ref aPs, .int pn, .int pch])), (aPk, .inl (cyI, 64, .inl pk)), (aPl, .inl (cyI, 64, .inl pl)), (aPd, .inl (cyI, 64, .inl pd))] sz) (fun (u : Unit) => [(aX, .inr (8, [.ref aT, .ref aS, .ref aF, .ref aQ, .ref aW, .ref aP, .ref aB, .ref aR])), (aT, .inr (7, [.ref aTb, .int tn])), (aP, .inr (3, [.ref aPk, .ref aPl, .ref aPd, .ref aPs, .int pn, .int pch])), (aPk, .inl (cyI, 64, .inl pk)), (aPl, .inl (cyI, 64, .inl pl)), (aPd, .inl (cyI, 64, .inl pd))])) (va_A [(aX, .inr (8, [.ref aT, .ref aS, .ref aF, .ref aQ, .ref aW, .ref aP, .ref aB, .ref aR])), (aT, .inr (7, [.ref aTb, .int tn])), (aP, .inr (3, [.ref aPk, .ref aPl, .ref aPd, .ref aPs, .int pn, .int pch])), (aPk, .inl (cyI, 64, .inl pk)), (aPl, .inl (cyI, 64, .inl pl)), (aPd, .inl (cyI, 64, .inl pd))] sz)) (vx_X px (wk_X (dC, dI) [(cyI, .int)] (va_A [(aX, .inr (8, [.ref aT, .ref aS, .ref aF, .ref aQ, .ref aW, .ref aP, .ref aB, .ref aR])), (aT, .inr (7, [.ref aTb, .int tn])), (aP, .inr (3, [.ref aPk, .ref aPl, .ref aPd, .ref aPs, .int pn, .int pch])), (aPk, .inl (cyI, 64, .inl pk)), (aPl, .inl (cyI, 64, .inl pl)), (aPd, .inl (cyI, 64, .inl pd))] sz) [(aX, .inr (8, [.ref aT, .ref aS, .ref aF, .ref aQ, .ref aW, .ref aP, .ref aB, .ref aR])), (aT, .inr (7, [.ref aTb, .int tn])), (aP, .inr (3, [.ref aPk, .ref aPl, .ref aPd, .ref aPs, .int pn, .int pch])), (aPk, .inl (cyI, 64, .inl pk)), (aPl, .inl (cyI, 64, .inl pl)), (aPd, .inl (cyI, 64, .inl pd))]) (va_A [(aX, .inr (8, [.ref aT, .ref aS, .ref aF, .ref aQ, .ref aW, .ref aP, .ref aB, .ref aR])), (aT, .inr (7, [.ref aTb, .int tn])), (aP, .inr (3, [.ref aPk, .ref aPl, .ref aPd, .ref aPs, .int pn, .int pch])), (aPk, .inl (cyI, 64, .inl pk)), (aPl, .inl (cyI, 64, .inl pl)), (aPd, .inl (cyI, 64, .inl pd))] sz)) 1 6 (va_A [(aX, .inr (8, [.ref aT, .ref aS, .ref aF, .ref aQ, .ref aW, .ref aP, .ref aB, .ref aR])), (aT, .inr (7, [.ref aTb, .int tn])), (aP, .inr (3, [.ref aPk, .ref aPl, .ref aPd, .ref aPs, .int pn, .int pch])), (aPk, .inl (cyI, 64, .inl pk)), (aPl, .inl (cyI, 64, .inl pl)), (aPd, .inl (cyI, 64, .inl pd))] sz) := by
  refine vx_ofW (cc := cX9_ratio) (maxL := 1) (ret := (some .double)) (by decide) rfl ?_
  intro p e s m args below meth c s₁ B hml htab hv
  obtain ⟨rfl, ⟨hsz, hP, hK, hD0⟩, hZ⟩ := hv
  have hx := B.exec
  have hb := B.bytes
  have hr := B.returns
  have hts := atoms_spec (ws := wsX9_ratio) B.pre
  have hown : s.vm.findClass RX9 = some m.cls := findClass_of_methodNamed B.named
  have hlocks := B.notSynchronized
  subst hsz
  have hD := hD0.self (sz := s.heap.size)
  generalize hAe : va_A [(aX, .inr (8, [.ref aT, .ref aS, .ref aF, .ref aQ, .ref aW, .ref aP, .ref aB, .ref aR])), (aT, .inr (7, [.ref aTb, .int tn])), (aP, .inr (3, [.ref aPk, .ref aPl, .ref aPd, .ref aPs, .int pn, .int pch])), (aPk, .inl (cyI, 64, .inl pk)), (aPl, .inl (cyI, 64, .inl pl)), (aPd, .inl (cyI, 64, .inl pd))] s.heap.size = A at hD hZ ⊢
  have hA : ∀ q : Nat, s.heap.size ≤ q → A q := fun q h => by rw [← hAe]; exact Or.inr h
  have hS : va_S A s.heap s.heap [] := va_S.rf
  have hP : va_P (dC, dI) vwCl [(aX, .inr (8, [.ref aT, .ref aS, .ref aF, .ref aQ, .ref aW, .ref aP, .ref aB, .ref aR])), (aT, .inr (7, [.ref aTb, .int tn])), (aP, .inr (3, [.ref aPk, .ref aPl, .ref aPd, .ref aPs, .int pn, .int pch])), (aPk, .inl (cyI, 64, .inl pk)), (aPl, .inl (cyI, 64, .inl pl)), (aPd, .inl (cyI, 64, .inl pd))] s.heap := hP
  have hl := lv_entry ([.ref aX]) (n := 1) (Nat.le_of_ble_eq_true rfl)
  rw [lg_entry_eq]
  generalize (lg_sl ([.ref aX]) ++ List.replicate (1 - (lg_sl ([.ref aX])).length) Slot.unset).toArray = ls at hl ⊢
  have hl : lv_has ls 1 [(0, .ref aX)] := hl
  have C0 : CallFix p m c cX9_ratio 1 s ([.ref aX] : List Value).toArray wsX9_ratio RX9 := ⟨hx, hb, hml, hown, hts⟩
  unfold wpX9_ratio at h
  refine lv_aload_n hx hb dX9_ratio_0 rfl (lv_at hl 0 rfl) ?_
  refine va_get (D := (dC, dI)) (ci := 8) (v := .ref aP) (C := RX9) (T := TX9) (N := 8) hx hb hts inX9_ratio_wsX90 hown hK hP 0 rfl rfl 5 (by decide) (hts _ qX9_ratio_0) (fun _ h9 => h9) rfl dX9_ratio_1 ?_
  refine va_get (D := (dC, dI)) (ci := 3) (v := .int pch) (C := RX4) (T := TX4) (N := 6) hx hb hts inX9_ratio_wsX40 hown hK hP 2 rfl rfl 5 (by decide) (hts _ qX9_ratio_1) (fun _ h9 => h9) rfl dX9_ratio_4 ?_
  refine lv_if_ne (tgt := 20) hx hb dX9_ratio_7 (by decide) (fun c_1 => ?_) (fun c_1 => ?_)
  · replace h := h.2 c_1
    refine lv_aload_n hx hb dX9_ratio_20 rfl (lv_at hl 0 rfl) ?_
    refine va_get (D := (dC, dI)) (ci := 8) (v := .ref aT) (C := RX9) (T := TX9) (N := 8) hx hb hts inX9_ratio_wsX90 hown hK hP 0 rfl rfl 0 (by decide) (hts _ qX9_ratio_2) (fun _ h9 => h9) rfl dX9_ratio_21 ?_
    refine va_get (D := (dC, dI)) (ci := 7) (v := .int tn) (C := RX8) (T := TX8) (N := 2) hx hb hts inX9_ratio_wsX80 hown hK hP 1 rfl rfl 1 (by decide) (hts _ qX9_ratio_3) (fun _ h9 => h9) rfl dX9_ratio_24 ?_
    refine lv_if_ne (tgt := 32) hx hb dX9_ratio_27 (by decide) (fun c_2 => ?_) (fun c_2 => ?_)
    · replace h := h.2 c_2
      refine lv_aload_n hx hb dX9_ratio_32 rfl (lv_at hl 0 rfl) ?_
      refine va_get (D := (dC, dI)) (ci := 8) (v := .ref aP) (C := RX9) (T := TX9) (N := 8) hx hb hts inX9_ratio_wsX90 hown hK hP 0 rfl rfl 5 (by decide) (hts _ qX9_ratio_0) (fun _ h9 => h9) rfl dX9_ratio_33 ?_
      refine wk_calli (wc := [(aP, .inr (3, [.ref aPk, .ref aPl, .ref aPd, .ref aPs, .int pn, .int pch])), (aPk, .inl (cyI, 64, .inl pk)), (aPl, .inl (cyI, 64, .inl pl)), (aPd, .inl (cyI, 64, .inl pd))]) (wr := [(aX, .inr (8, [.ref aT, .ref aS, .ref aF, .ref aQ, .ref aW, .ref aP, .ref aB, .ref aR])), (aT, .inr (7, [.ref aTb, .int tn]))]) (va_runV (As := []) (rest := []) C0 (mtX4_bitsOfAll l dC dI cyI (aP := aP) (aPk := aPk) (aPl := aPl) (aPd := aPd) (aPs := aPs) (sz := _) (pn := pn) (pch := pch) (pk := pk) (pl := pl) (pd := pd) h) (cwV 0 hts gX9_ratio_X4_bitsOfAll rfl rfl rfl (by decide +kernel) ⟨(Nat.le_of_ble_eq_true rfl), (Nat.le_of_ble_eq_true rfl)⟩) (wk_preV (wc := [(aP, .inr (3, [.ref aPk, .ref aPl, .ref aPd, .ref aPs, .int pn, .int pch])), (aPk, .inl (cyI, 64, .inl pk)), (aPl, .inl (cyI, 64, .inl pl)), (aPd, .inl (cyI, 64, .inl pd))]) hK hP hD [2, 3, 4, 5] rfl (by decide) (va_recv hK hP (ci := 3) (q0 := 2) rfl rfl)) rfl rfl hl.1 rfl (lv_room (Nat.le_of_ble_eq_true rfl)) dX9_ratio_36 ⟨(Nat.le_of_ble_eq_true rfl), (Nat.le_of_ble_eq_true rfl)⟩) hP hD hS hA [2, 3, 4, 5] [0, 1] rfl rfl (by decide) (by decide) (fun r_3 u9 H locs h hP hD hS => ?_)
      have hP : va_P (dC, dI) vwCl [(aX, .inr (8, [.ref aT, .ref aS, .ref aF, .ref aQ, .ref aW, .ref aP, .ref aB, .ref aR])), (aT, .inr (7, [.ref aTb, .int tn])), (aP, .inr (3, [.ref aPk, .ref aPl, .ref aPd, .ref aPs, .int pn, .int pch])), (aPk, .inl (cyI, 64, .inl pk)), (aPl, .inl (cyI, 64, .inl pl)), (aPd, .inl (cyI, 64, .inl pd))] H := hP
      have hD : va_D A [(aX, .inr (8, [.ref aT, .ref aS, .ref aF, .ref aQ, .ref aW, .ref aP, .ref aB, .ref aR])), (aT, .inr (7, [.ref aTb, .int tn])), (aP, .inr (3, [.ref aPk, .ref aPl, .ref aPd, .ref aPs, .int pn, .int pch])), (aPk, .inl (cyI, 64, .inl pk)), (aPl, .inl (cyI, 64, .inl pl)), (aPd, .inl (cyI, 64, .inl pd))] := hD
      refine lv_i2d hx hb dX9_ratio_39 ?_
      refine lv_bipush (v := 8) hx hb dX9_ratio_40 (by decide) ?_
      refine lv_aload_n hx hb dX9_ratio_42 rfl (lv_at hl 0 rfl) ?_
      refine va_get (D := (dC, dI)) (ci := 8) (v := .ref aT) (C := RX9) (T := TX9) (N := 8) hx hb hts inX9_ratio_wsX90 hown hK hP 0 rfl rfl 0 (by decide) (hts _ qX9_ratio_2) (fun _ h9 => h9) rfl dX9_ratio_43 ?_
      refine va_get (D := (dC, dI)) (ci := 7) (v := .int tn) (C := RX8) (T := TX8) (N := 2) hx hb hts inX9_ratio_wsX80 hown hK hP 1 rfl rfl 1 (by decide) (hts _ qX9_ratio_3) (fun _ h9 => h9) rfl dX9_ratio_46 ?_
      refine lv_imul hx hb dX9_ratio_49 ?_
      refine lv_i2d hx hb dX9_ratio_50 ?_
      obtain ⟨hi_4, h⟩ := h
      refine lv_ddiv hx hb dX9_ratio_51 hi_4 ?_
      have hP9 : va_P (dC, dI) vwCl [(aX, .inr (8, [.ref aT, .ref aS, .ref aF, .ref aQ, .ref aW, .ref aP, .ref aB, .ref aR])), (aT, .inr (7, [.ref aTb, .int tn])), (aP, .inr (3, [.ref aPk, .ref aPl, .ref aPd, .ref aPs, .int pn, .int pch])), (aPk, .inl (cyI, 64, .inl pk)), (aPl, .inl (cyI, 64, .inl pl)), (aPd, .inl (cyI, 64, .inl pd))] _ := hP
      have hD9 : va_D A [(aX, .inr (8, [.ref aT, .ref aS, .ref aF, .ref aQ, .ref aW, .ref aP, .ref aB, .ref aR])), (aT, .inr (7, [.ref aTb, .int tn])), (aP, .inr (3, [.ref aPk, .ref aPl, .ref aPd, .ref aPs, .int pn, .int pch])), (aPk, .inl (cyI, 64, .inl pk)), (aPl, .inl (cyI, 64, .inl pl)), (aPd, .inl (cyI, 64, .inl pd))] := hD
      refine vx_ret ?_
      refine W.widen (k := 1) (n := 6) (Nat.le_of_ble_eq_true rfl) (Nat.le_of_ble_eq_true rfl) ?_
      exact W.dret (v := FP.ddiv (FP.i2d r_3) (FP.i2d (8 * tn))) hx hb hr (fun t ht hW => ⟨⟨FP.ddiv (FP.i2d r_3) (FP.i2d (8 * tn)), (), rfl, h, by rw [ht]; exact hP9, va_K.moved hW.alike hK, hD9⟩, hS.F ht⟩) hS.2.2 dX9_ratio_52
    · replace h := h.1 c_2
      refine lv_dconst0 hx hb dX9_ratio_30 ?_
      have hP9 : va_P (dC, dI) vwCl [(aX, .inr (8, [.ref aT, .ref aS, .ref aF, .ref aQ, .ref aW, .ref aP, .ref aB, .ref aR])), (aT, .inr (7, [.ref aTb, .int tn])), (aP, .inr (3, [.ref aPk, .ref aPl, .ref aPd, .ref aPs, .int pn, .int pch])), (aPk, .inl (cyI, 64, .inl pk)), (aPl, .inl (cyI, 64, .inl pl)), (aPd, .inl (cyI, 64, .inl pd))] _ := hP
      have hD9 : va_D A [(aX, .inr (8, [.ref aT, .ref aS, .ref aF, .ref aQ, .ref aW, .ref aP, .ref aB, .ref aR])), (aT, .inr (7, [.ref aTb, .int tn])), (aP, .inr (3, [.ref aPk, .ref aPl, .ref aPd, .ref aPs, .int pn, .int pch])), (aPk, .inl (cyI, 64, .inl pk)), (aPl, .inl (cyI, 64, .inl pl)), (aPd, .inl (cyI, 64, .inl pd))] := hD
      refine vx_ret ?_
      refine W.widen (k := 1) (n := 6) (Nat.le_of_ble_eq_true rfl) (Nat.le_of_ble_eq_true rfl) ?_
      exact W.dret (v := FP.dconst0) hx hb hr (fun t ht hW => ⟨⟨FP.dconst0, (), rfl, h, by rw [ht]; exact hP9, va_K.moved hW.alike hK, hD9⟩, hS.F ht⟩) hS.2.2 dX9_ratio_31
  · replace h := h.1 c_1
    obtain ⟨sa9, hstr⟩ := hZ.1 _ (List.mem_of_getElem? (i := 12) rfl)
    exact vx_throwS hx hb hlt hown xS_fit xN_fit (hts _ qX9_ratio_4) (hts _ qX9_ratio_5) hstr (vx_hat (fun w hw => hts w (inX9_ratio_xS w hw)) xS_no (hZ.use _)) xS_ot hZ.2.1 hZ.2.2.1 hS (hl.1.trans hml.symm) dX9_ratio_10 dX9_ratio_13 dX9_ratio_14 dX9_ratio_16 dX9_ratio_19 (fun x hx9 => (htab x hx9).elim) (Nat.le_of_ble_eq_true rfl) (Nat.le_of_ble_eq_true rfl) (Nat.le_of_ble_eq_true rfl) (Nat.le_of_ble_eq_true rfl) hlocks (wk_xc hP hD hK hS h) hS.2.2 (Nat.le_of_ble_eq_true rfl) (Nat.le_of_ble_eq_true rfl)
-- X9_write
theorem qX9_write_0 : Cond.fieldLink RX9 51 "MatchCoder" "plan" "LMatchCoder$Plan;" ∈ wsX9_write := (List.mem_cons_of_mem _ (List.mem_append_left _ (List.mem_append_left _ (List.mem_append_left _ (List.mem_append_left _ (List.mem_append_left _ (List.mem_append_left _ (List.mem_of_getElem? (i := 2) rfl))))))))
theorem qX9_write_1 : Cond.fieldLink RX9 170 "MatchCoder$Plan" "chosen" "Z" ∈ wsX9_write := (List.mem_cons_of_mem _ (List.mem_append_left _ (List.mem_append_left _ (List.mem_append_left _ (List.mem_append_left _ (List.mem_append_left _ (List.mem_append_left _ (List.mem_of_getElem? (i := 3) rfl))))))))
theorem qX9_write_2 : Cond.fieldLink RX9 58 "MatchCoder" "bits" "LMatchCoder$Bits;" ∈ wsX9_write := (List.mem_cons_of_mem _ (List.mem_append_left _ (List.mem_append_left _ (List.mem_append_left _ (List.mem_append_left _ (List.mem_append_left _ (List.mem_append_left _ (List.mem_of_getElem? (i := 4) rfl))))))))
theorem qX9_write_3 : Cond.fieldLink RX9 200 "MatchCoder$Bits" "count" "I" ∈ wsX9_write := (List.mem_cons_of_mem _ (List.mem_append_left _ (List.mem_append_left _ (List.mem_append_left _ (List.mem_append_left _ (List.mem_append_left _ (List.mem_append_left _ (List.mem_of_getElem? (i := 5) rfl))))))))
theorem qX9_write_4 : Cond.fieldLink RX9 176 "MatchCoder$Plan" "count" "I" ∈ wsX9_write := (List.mem_cons_of_mem _ (List.mem_append_left _ (List.mem_append_left _ (List.mem_append_left _ (List.mem_append_left _ (List.mem_append_left _ (List.mem_append_left _ (List.mem_of_getElem? (i := 6) rfl))))))))
theorem qX9_write_5 : Cond.classLink RX9 80 "java/lang/IllegalStateException" ∈ wsX9_write := (List.mem_cons_of_mem _ (List.mem_append_left _ (List.mem_append_left _ (List.mem_append_left _ (List.mem_append_left _ (List.mem_append_left _ (List.mem_append_left _ (List.mem_of_getElem? (i := 0) rfl))))))))
theorem qX9_write_6 : Cond.initialized "java/lang/IllegalStateException" ∈ wsX9_write := (List.mem_cons_of_mem _ (List.mem_append_left _ (List.mem_append_left _ (List.mem_append_left _ (List.mem_append_left _ (List.mem_append_left _ (List.mem_append_left _ (List.mem_of_getElem? (i := 1) rfl))))))))
theorem inX9_write_xS : ∀ w ∈ (vx_atS RX9 84 "java/lang/IllegalStateException" ["java/lang/RuntimeException", "java/lang/Exception"]).filter goodWord, w ∈ wsX9_write := fun _ h => List.mem_cons_of_mem _ (List.mem_append_right _ h)
theorem inX9_write_wsX90 : ∀ w ∈ wsX90, w ∈ wsX9_write := fun _ h => List.mem_cons_of_mem _ (List.mem_append_left _ (List.mem_append_left _ (List.mem_append_left _ (List.mem_append_left _ (List.mem_append_right _ h)))))
theorem inX9_write_wsX40 : ∀ w ∈ wsX40, w ∈ wsX9_write := fun _ h => List.mem_cons_of_mem _ (List.mem_append_left _ (List.mem_append_left _ (List.mem_append_left _ (List.mem_append_right _ h))))
theorem inX9_write_wsX10 : ∀ w ∈ wsX10, w ∈ wsX9_write := fun _ h => List.mem_cons_of_mem _ (List.mem_append_left _ (List.mem_append_left _ (List.mem_append_right _ h)))
def wpX9_write_30 (tb : Nat → Int32) (pn : Int32) (pk : Nat → Int32) (pl : Nat → Int32) (pd : Nat → Int32) (ps : Nat → Int32) (K52 : Int32 → (Nat → Int32) → Prop) : Nat → Int32 → Int32 → (Nat → Int32) → Prop
  | 0, _, _, _ => False
  | n30 + 1, v1, bn, br => (pn ≤ v1 → (K52 bn br)) ∧ (¬ pn ≤ v1 → (wpX9_writeToken tb pk pl pd ps bn br v1 (fun (bn_3 : Int32) (br_4 : Nat → Int32) => wpX9_write_30 tb pn pk pl pd ps K52 n30 (v1 + 1) bn_3 br_4)))
set_option maxHeartbeats 4000000 in
set_option maxRecDepth 100000 in
theorem wlX9_write_30 {p : Program} {l : Launch} {e : Env} {s : State} {m : MethodId} {args : Array Value} {below : List Frame} {meth : Method} {c : Code} {A : Nat → Prop} {Q : State → Prop} {dC : Nat → ClassId} {dI : Nat → Nat → Nat} {cyI : ClassId} {aX aT aTb aS aF aQ aW aP aPk aPl aPd aPs aB aBr aR : Nat} {tn : Int32} {tb : Nat → Int32} {pn : Int32} {pch : Int32} {pk : Nat → Int32} {pl : Nat → Int32} {pd : Nat → Int32} {ps : Nat → Int32} {K52 : Int32 → (Nat → Int32) → Prop} (C0 : CallFix p m c cX9_write 2 s args wsX9_write RX9) (hA : ∀ q : Nat, s.heap.size ≤ q → A q) (hK : va_K (dC, dI) vwCl [(cyI, .int)] s) (hK52 : ∀ (bn : Int32) (br : Nat → Int32), K52 bn br → ∀ (H : Heap) (locs : List Loc) (ls : Array Slot), va_P (dC, dI) vwCl [(aX, .inr (8, [.ref aT, .ref aS, .ref aF, .ref aQ, .ref aW, .ref aP, .ref aB, .ref aR])), (aT, .inr (7, [.ref aTb, .int tn])), (aTb, .inl (cyI, 64, .inl tb)), (aP, .inr (3, [.ref aPk, .ref aPl, .ref aPd, .ref aPs, .int pn, .int pch])), (aPk, .inl (cyI, 64, .inl pk)), (aPl, .inl (cyI, 64, .inl pl)), (aPd, .inl (cyI, 64, .inl pd)), (aPs, .inl (cyI, 64, .inl ps)), (aB, .inr (1, [.ref aBr, .int bn])), (aBr, .inl (cyI, 800, .inl br))] H → va_D A [(aX, .inr (8, [.ref aT, .ref aS, .ref aF, .ref aQ, .ref aW, .ref aP, .ref aB, .ref aR])), (aT, .inr (7, [.ref aTb, .int tn])), (aTb, .inl (cyI, 64, .inl tb)), (aP, .inr (3, [.ref aPk, .ref aPl, .ref aPd, .ref aPs, .int pn, .int pch])), (aPk, .inl (cyI, 64, .inl pk)), (aPl, .inl (cyI, 64, .inl pl)), (aPd, .inl (cyI, 64, .inl pd)), (aPs, .inl (cyI, 64, .inl ps)), (aB, .inr (1, [.ref aBr, .int bn])), (aBr, .inl (cyI, 800, .inl br))] → va_S A s.heap H locs → lv_has ls 2 [(0, .ref aX)] → W p l e ({ frames := 6, cells := 1, slots := 6, locals := 82 } : Room) s m args below meth c H locs 0 0 Q (F0 m 52 ls [])) :
    ∀ (n30 : Nat) (v1 : Int32) (bn : Int32) (br : Nat → Int32), wpX9_write_30 tb pn pk pl pd ps K52 n30 v1 bn br → ∀ (H : Heap) (locs : List Loc) (ls : Array Slot), va_P (dC, dI) vwCl [(aX, .inr (8, [.ref aT, .ref aS, .ref aF, .ref aQ, .ref aW, .ref aP, .ref aB, .ref aR])), (aT, .inr (7, [.ref aTb, .int tn])), (aTb, .inl (cyI, 64, .inl tb)), (aP, .inr (3, [.ref aPk, .ref aPl, .ref aPd, .ref aPs, .int pn, .int pch])), (aPk, .inl (cyI, 64, .inl pk)), (aPl, .inl (cyI, 64, .inl pl)), (aPd, .inl (cyI, 64, .inl pd)), (aPs, .inl (cyI, 64, .inl ps)), (aB, .inr (1, [.ref aBr, .int bn])), (aBr, .inl (cyI, 800, .inl br))] H → va_D A [(aX, .inr (8, [.ref aT, .ref aS, .ref aF, .ref aQ, .ref aW, .ref aP, .ref aB, .ref aR])), (aT, .inr (7, [.ref aTb, .int tn])), (aTb, .inl (cyI, 64, .inl tb)), (aP, .inr (3, [.ref aPk, .ref aPl, .ref aPd, .ref aPs, .int pn, .int pch])), (aPk, .inl (cyI, 64, .inl pk)), (aPl, .inl (cyI, 64, .inl pl)), (aPd, .inl (cyI, 64, .inl pd)), (aPs, .inl (cyI, 64, .inl ps)), (aB, .inr (1, [.ref aBr, .int bn])), (aBr, .inl (cyI, 800, .inl br))] → va_S A s.heap H locs → lv_has ls 2 [(0, .ref aX), (1, .int v1)] → W p l e ({ frames := 6, cells := 1, slots := 6, locals := 82 } : Room) s m args below meth c H locs 0 0 Q (F0 m 30 ls []) := by
  obtain ⟨hx, hb, hml, hown, hts⟩ := id C0
  intro n30
  induction n30 with
  | zero => intro _ _ _ h; exact h.elim
  | succ n30 ih30 =>
    intro v1 bn br h H locs ls hP hD hS hl
    rw [wpX9_write_30] at h
    refine lv_iload_n hx hb dX9_write_30 rfl (lv_at hl 1 rfl) ?_
    refine lv_aload_n hx hb dX9_write_31 rfl (lv_at hl 0 rfl) ?_
    refine va_get (D := (dC, dI)) (ci := 8) (v := .ref aP) (C := RX9) (T := TX9) (N := 8) hx hb hts inX9_write_wsX90 hown hK hP 0 rfl rfl 5 (by decide) (hts _ qX9_write_0) (fun _ h9 => h9) rfl dX9_write_32 ?_
    refine va_get (D := (dC, dI)) (ci := 3) (v := .int pn) (C := RX4) (T := TX4) (N := 6) hx hb hts inX9_write_wsX40 hown hK hP 3 rfl rfl 4 (by decide) (hts _ qX9_write_4) (fun _ h9 => h9) rfl dX9_write_35 ?_
    refine lv_icmp_ge (tgt := 52) hx hb dX9_write_38 (by decide) (fun c_2 => ?_) (fun c_2 => ?_)
    · replace h := h.1 c_2
      exact hK52 _ _ h _ _ _ hP hD hS (lv_sub hl [0] rfl)
    · replace h := h.2 c_2
      refine lv_aload_n hx hb dX9_write_41 rfl (lv_at hl 0 rfl) ?_
      refine lv_iload_n hx hb dX9_write_42 rfl (lv_at hl 1 rfl) ?_
      refine wk_callv (wc := [(aX, .inr (8, [.ref aT, .ref aS, .ref aF, .ref aQ, .ref aW, .ref aP, .ref aB, .ref aR])), (aT, .inr (7, [.ref aTb, .int tn])), (aTb, .inl (cyI, 64, .inl tb)), (aP, .inr (3, [.ref aPk, .ref aPl, .ref aPd, .ref aPs, .int pn, .int pch])), (aPk, .inl (cyI, 64, .inl pk)), (aPl, .inl (cyI, 64, .inl pl)), (aPd, .inl (cyI, 64, .inl pd)), (aPs, .inl (cyI, 64, .inl ps)), (aB, .inr (1, [.ref aBr, .int bn])), (aBr, .inl (cyI, 800, .inl br))]) (wr := []) (va_runV (As := [.int v1]) (rest := []) C0 (mtX9_writeToken l dC dI cyI (aX := aX) (aT := aT) (aTb := aTb) (aS := aS) (aF := aF) (aQ := aQ) (aW := aW) (aP := aP) (aPk := aPk) (aPl := aPl) (aPd := aPd) (aPs := aPs) (aB := aB) (aBr := aBr) (aR := aR) (sz := _) (tn := tn) (tb := tb) (pn := pn) (pch := pch) (pk := pk) (pl := pl) (pd := pd) (ps := ps) (bn := bn) (br := br) (v1 := v1) h) (cwV 1 hts gX9_write_X9_writeToken rfl rfl rfl (by decide +kernel) ⟨(Nat.le_of_ble_eq_true rfl), (Nat.le_of_ble_eq_true rfl)⟩) (wk_preV (wc := [(aX, .inr (8, [.ref aT, .ref aS, .ref aF, .ref aQ, .ref aW, .ref aP, .ref aB, .ref aR])), (aT, .inr (7, [.ref aTb, .int tn])), (aTb, .inl (cyI, 64, .inl tb)), (aP, .inr (3, [.ref aPk, .ref aPl, .ref aPd, .ref aPs, .int pn, .int pch])), (aPk, .inl (cyI, 64, .inl pk)), (aPl, .inl (cyI, 64, .inl pl)), (aPd, .inl (cyI, 64, .inl pd)), (aPs, .inl (cyI, 64, .inl ps)), (aB, .inr (1, [.ref aBr, .int bn])), (aBr, .inl (cyI, 800, .inl br))]) hK hP hD [0, 1, 2, 3, 4, 5, 6, 7, 8, 9] rfl (by decide) (va_recv hK hP (ci := 8) (q0 := 0) rfl rfl)) rfl rfl hl.1 rfl (lv_room (Nat.le_of_ble_eq_true rfl)) dX9_write_43 ⟨(Nat.le_of_ble_eq_true rfl), (Nat.le_of_ble_eq_true rfl)⟩) hP hD hS hA [0, 1, 2, 3, 4, 5, 6, 7, 8, 9] [] rfl rfl (by decide) (by decide) (fun u9 H locs h hP hD hS => ?_)
      obtain ⟨bn_3, br_4⟩ := u9
      have hP : va_P (dC, dI) vwCl [(aX, .inr (8, [.ref aT, .ref aS, .ref aF, .ref aQ, .ref aW, .ref aP, .ref aB, .ref aR])), (aT, .inr (7, [.ref aTb, .int tn])), (aTb, .inl (cyI, 64, .inl tb)), (aP, .inr (3, [.ref aPk, .ref aPl, .ref aPd, .ref aPs, .int pn, .int pch])), (aPk, .inl (cyI, 64, .inl pk)), (aPl, .inl (cyI, 64, .inl pl)), (aPd, .inl (cyI, 64, .inl pd)), (aPs, .inl (cyI, 64, .inl ps)), (aB, .inr (1, [.ref aBr, .int bn_3])), (aBr, .inl (cyI, 800, .inl br_4))] H := hP
      have hD : va_D A [(aX, .inr (8, [.ref aT, .ref aS, .ref aF, .ref aQ, .ref aW, .ref aP, .ref aB, .ref aR])), (aT, .inr (7, [.ref aTb, .int tn])), (aTb, .inl (cyI, 64, .inl tb)), (aP, .inr (3, [.ref aPk, .ref aPl, .ref aPd, .ref aPs, .int pn, .int pch])), (aPk, .inl (cyI, 64, .inl pk)), (aPl, .inl (cyI, 64, .inl pl)), (aPd, .inl (cyI, 64, .inl pd)), (aPs, .inl (cyI, 64, .inl ps)), (aB, .inr (1, [.ref aBr, .int bn_3])), (aBr, .inl (cyI, 800, .inl br_4))] := hD
      dsimp only at h
      refine lv_iinc (v := v1 + 1) (lv' := [(1, .int (v1 + 1)), (0, .ref aX)]) hx hb dX9_write_46 hl (k := 1) rfl rfl (by decide) rfl (fun ls hl => ?_)
      refine lv_goto (tgt := 30) hx hb dX9_write_49 (by decide) ?_
      exact ih30 _ _ _ h _ _ _ hP hD hS (lv_sub hl [1, 0] rfl)
def wpX9_write (tb : Nat → Int32) (pn : Int32) (pch : Int32) (pk : Nat → Int32) (pl : Nat → Int32) (pd : Nat → Int32) (ps : Nat → Int32) (br : Nat → Int32) (post : Int32 → Int32 → (Nat → Int32) → Prop) (px : String → Prop) : Prop := (pch = 0 → (px xS)) ∧ (¬ pch = 0 → (∃ n30 : Nat, wpX9_write_30 tb pn pk pl pd ps (fun (bn_5 : Int32) (br_6 : Nat → Int32) => post bn_5 bn_5 br_6) n30 0 0 br))
set_option maxHeartbeats 4000000 in
set_option maxRecDepth 100000 in
theorem mtX9_write (l : Launch) (hlt : l.stackTraces = false) (dC : Nat → ClassId) (dI : Nat → Nat → Nat) (cyI : ClassId) {aX aT aTb aS aF aQ aW aP aPk aPl aPd aPs aB aBr aR : Nat} {sz : Nat} {tn : Int32} {tb : Nat → Int32} {pn : Int32} {pch : Int32} {pk : Nat → Int32} {pl : Nat → Int32} {pd : Nat → Int32} {ps : Nat → Int32} {bn : Int32} {br : Nat → Int32} {post : Int32 → Int32 → (Nat → Int32) → Prop} {px : String → Prop} (h : wpX9_write tb pn pch pk pl pd ps br post px) : vx_Met l yX9_write wsX9_write ({ frames := 6, cells := 1, slots := 6, locals := 82 }) (va_Pc [.ref aX] (wk_BX (dC, dI) [(cyI, .int)] [(aX, .inr (8, [.ref aT, .ref aS, .ref aF, .ref aQ, .ref aW, .ref aP, .ref aB, .ref aR])), (aT, .inr (7, [.ref aTb, .int tn])), (aTb, .inl (cyI, 64, .inl tb)), (aP, .inr (3, [.ref aPk, .ref aPl, .ref aPd, .ref aPs, .int pn, .int pch])), (aPk, .inl (cyI, 64, .inl pk)), (aPl, .inl (cyI, 64, .inl pl)), (aPd, .inl (cyI, 64, .inl pd)), (aPs, .inl (cyI, 64, .inl ps)), (aB, .inr (1, [.ref aBr, .int bn])), (aBr, .inl (cyI, 800, .inl br))] sz)) (va_Qi (fun (r : Int32) (u : Int32 × (Nat → Int32)) => post r u.1 u.2) (wk_C (dC, dI) [(cyI, .int)] (va_A [(aX, .inr (8, [.ref aT, .ref aS, .ref aF, .ref aQ, .ref aW, .ref aP, .ref aB, .ref aR])), (aT, .inr (7, [.ref aTb, .int tn])), (aTb, .inl (cyI, 64, .inl tb)), (aP, .inr (3, [.ref aPk, .ref aPl, .ref aPd, .ref aPs, .int pn, .int pch])), (aPk, .inl (cyI, 64, .inl pk)), (aPl, .inl (cyI, 64, .inl pl)), (aPd, .inl (cyI, 64, .inl pd)), (aPs, .inl (cyI, 64, .inl ps)), (aB, .inr (1, [.ref aBr, .int bn])), (aBr, .inl (cyI, 800, .inl br))] sz) (fun (u : Int32 × (Nat → Int32)) => [(aX, .inr (8, [.ref aT, .ref aS, .ref aF, .ref aQ, .ref aW, .ref aP, .ref aB, .ref aR])), (aT, .inr (7, [.ref aTb, .int tn])), (aTb, .inl (cyI, 64, .inl tb)), (aP, .inr (3, [.ref aPk, .ref aPl, .ref aPd, .ref aPs, .int pn, .int pch])), (aPk, .inl (cyI, 64, .inl pk)), (aPl, .inl (cyI, 64, .inl pl)), (aPd, .inl (cyI, 64, .inl pd)), (aPs, .inl (cyI, 64, .inl ps)), (aB, .inr (1, [.ref aBr, .int (u.1)])), (aBr, .inl (cyI, 800, .inl (u.2)))])) (va_A [(aX, .inr (8, [.ref aT, .ref aS, .ref aF, .ref aQ, .ref aW, .ref aP, .ref aB, .ref aR])), (aT, .inr (7, [.ref aTb, .int tn])), (aTb, .inl (cyI, 64, .inl tb)), (aP, .inr (3, [.ref aPk, .ref aPl, .ref aPd, .ref aPs, .int pn, .int pch])), (aPk, .inl (cyI, 64, .inl pk)), (aPl, .inl (cyI, 64, .inl pl)), (aPd, .inl (cyI, 64, .inl pd)), (aPs, .inl (cyI, 64, .inl ps)), (aB, .inr (1, [.ref aBr, .int bn])), (aBr, .inl (cyI, 800, .inl br))] sz)) (vx_X px (wk_X (dC, dI) [(cyI, .int)] (va_A [(aX, .inr (8, [.ref aT, .ref aS, .ref aF, .ref aQ, .ref aW, .ref aP, .ref aB, .ref aR])), (aT, .inr (7, [.ref aTb, .int tn])), (aTb, .inl (cyI, 64, .inl tb)), (aP, .inr (3, [.ref aPk, .ref aPl, .ref aPd, .ref aPs, .int pn, .int pch])), (aPk, .inl (cyI, 64, .inl pk)), (aPl, .inl (cyI, 64, .inl pl)), (aPd, .inl (cyI, 64, .inl pd)), (aPs, .inl (cyI, 64, .inl ps)), (aB, .inr (1, [.ref aBr, .int bn])), (aBr, .inl (cyI, 800, .inl br))] sz) [(aX, .inr (8, [.ref aT, .ref aS, .ref aF, .ref aQ, .ref aW, .ref aP, .ref aB, .ref aR])), (aT, .inr (7, [.ref aTb, .int tn])), (aTb, .inl (cyI, 64, .inl tb)), (aP, .inr (3, [.ref aPk, .ref aPl, .ref aPd, .ref aPs, .int pn, .int pch])), (aPk, .inl (cyI, 64, .inl pk)), (aPl, .inl (cyI, 64, .inl pl)), (aPd, .inl (cyI, 64, .inl pd)), (aPs, .inl (cyI, 64, .inl ps)), (aB, .inr (1, [.ref aBr, .int bn])), (aBr, .inl (cyI, 800, .inl br))]) (va_A [(aX, .inr (8, [.ref aT, .ref aS, .ref aF, .ref aQ, .ref aW, .ref aP, .ref aB, .ref aR])), (aT, .inr (7, [.ref aTb, .int tn])), (aTb, .inl (cyI, 64, .inl tb)), (aP, .inr (3, [.ref aPk, .ref aPl, .ref aPd, .ref aPs, .int pn, .int pch])), (aPk, .inl (cyI, 64, .inl pk)), (aPl, .inl (cyI, 64, .inl pl)), (aPd, .inl (cyI, 64, .inl pd)), (aPs, .inl (cyI, 64, .inl ps)), (aB, .inr (1, [.ref aBr, .int bn])), (aBr, .inl (cyI, 800, .inl br))] sz)) 1 6 (va_A [(aX, .inr (8, [.ref aT, .ref aS, .ref aF, .ref aQ, .ref aW, .ref aP, .ref aB, .ref aR])), (aT, .inr (7, [.ref aTb, .int tn])), (aTb, .inl (cyI, 64, .inl tb)), (aP, .inr (3, [.ref aPk, .ref aPl, .ref aPd, .ref aPs, .int pn, .int pch])), (aPk, .inl (cyI, 64, .inl pk)), (aPl, .inl (cyI, 64, .inl pl)), (aPd, .inl (cyI, 64, .inl pd)), (aPs, .inl (cyI, 64, .inl ps)), (aB, .inr (1, [.ref aBr, .int bn])), (aBr, .inl (cyI, 800, .inl br))] sz) := by
  refine vx_ofW (cc := cX9_write) (maxL := 2) (ret := (some .int)) (by decide) rfl ?_
  intro p e s m args below meth c s₁ B hml htab hv
  obtain ⟨rfl, ⟨hsz, hP, hK, hD0⟩, hZ⟩ := hv
  have hx := B.exec
  have hb := B.bytes
  have hr := B.returns
  have hts := atoms_spec (ws := wsX9_write) B.pre
  have hown : s.vm.findClass RX9 = some m.cls := findClass_of_methodNamed B.named
  have hlocks := B.notSynchronized
  subst hsz
  have hD := hD0.self (sz := s.heap.size)
  generalize hAe : va_A [(aX, .inr (8, [.ref aT, .ref aS, .ref aF, .ref aQ, .ref aW, .ref aP, .ref aB, .ref aR])), (aT, .inr (7, [.ref aTb, .int tn])), (aTb, .inl (cyI, 64, .inl tb)), (aP, .inr (3, [.ref aPk, .ref aPl, .ref aPd, .ref aPs, .int pn, .int pch])), (aPk, .inl (cyI, 64, .inl pk)), (aPl, .inl (cyI, 64, .inl pl)), (aPd, .inl (cyI, 64, .inl pd)), (aPs, .inl (cyI, 64, .inl ps)), (aB, .inr (1, [.ref aBr, .int bn])), (aBr, .inl (cyI, 800, .inl br))] s.heap.size = A at hD hZ ⊢
  have hA : ∀ q : Nat, s.heap.size ≤ q → A q := fun q h => by rw [← hAe]; exact Or.inr h
  have hS : va_S A s.heap s.heap [] := va_S.rf
  have hP : va_P (dC, dI) vwCl [(aX, .inr (8, [.ref aT, .ref aS, .ref aF, .ref aQ, .ref aW, .ref aP, .ref aB, .ref aR])), (aT, .inr (7, [.ref aTb, .int tn])), (aTb, .inl (cyI, 64, .inl tb)), (aP, .inr (3, [.ref aPk, .ref aPl, .ref aPd, .ref aPs, .int pn, .int pch])), (aPk, .inl (cyI, 64, .inl pk)), (aPl, .inl (cyI, 64, .inl pl)), (aPd, .inl (cyI, 64, .inl pd)), (aPs, .inl (cyI, 64, .inl ps)), (aB, .inr (1, [.ref aBr, .int bn])), (aBr, .inl (cyI, 800, .inl br))] s.heap := hP
  have hl := lv_entry ([.ref aX]) (n := 2) (Nat.le_of_ble_eq_true rfl)
  rw [lg_entry_eq]
  generalize (lg_sl ([.ref aX]) ++ List.replicate (2 - (lg_sl ([.ref aX])).length) Slot.unset).toArray = ls at hl ⊢
  have hl : lv_has ls 2 [(0, .ref aX)] := hl
  have C0 : CallFix p m c cX9_write 2 s ([.ref aX] : List Value).toArray wsX9_write RX9 := ⟨hx, hb, hml, hown, hts⟩
  unfold wpX9_write at h
  refine lv_aload_n hx hb dX9_write_0 rfl (lv_at hl 0 rfl) ?_
  refine va_get (D := (dC, dI)) (ci := 8) (v := .ref aP) (C := RX9) (T := TX9) (N := 8) hx hb hts inX9_write_wsX90 hown hK hP 0 rfl rfl 5 (by decide) (hts _ qX9_write_0) (fun _ h9 => h9) rfl dX9_write_1 ?_
  refine va_get (D := (dC, dI)) (ci := 3) (v := .int pch) (C := RX4) (T := TX4) (N := 6) hx hb hts inX9_write_wsX40 hown hK hP 3 rfl rfl 5 (by decide) (hts _ qX9_write_1) (fun _ h9 => h9) rfl dX9_write_4 ?_
  refine lv_if_ne (tgt := 20) hx hb dX9_write_7 (by decide) (fun c_1 => ?_) (fun c_1 => ?_)
  · replace h := h.2 c_1
    refine lv_aload_n hx hb dX9_write_20 rfl (lv_at hl 0 rfl) ?_
    refine va_get (D := (dC, dI)) (ci := 8) (v := .ref aB) (C := RX9) (T := TX9) (N := 8) hx hb hts inX9_write_wsX90 hown hK hP 0 rfl rfl 6 (by decide) (hts _ qX9_write_2) (fun _ h9 => h9) rfl dX9_write_21 ?_
    refine lv_iconst (v := 0) hx hb dX9_write_24 (by decide) ?_
    refine va_put (D := (dC, dI)) (ci := 1) (v := .int 0) (ty := .int) (C := RX1) (T := TX1) (N := 2) hx hb hts inX9_write_wsX10 tyX1 tyX1_ok nmX1 hown hK hP hD hS 8 rfl rfl 1 (by decide) (hts _ qX9_write_3) (fun _ h9 => h9) rfl (by decide +kernel) rfl rfl (Nat.le_of_ble_eq_true rfl) dX9_write_25 (fun H locs hP hD hS => ?_)
    have hP : va_P (dC, dI) vwCl [(aX, .inr (8, [.ref aT, .ref aS, .ref aF, .ref aQ, .ref aW, .ref aP, .ref aB, .ref aR])), (aT, .inr (7, [.ref aTb, .int tn])), (aTb, .inl (cyI, 64, .inl tb)), (aP, .inr (3, [.ref aPk, .ref aPl, .ref aPd, .ref aPs, .int pn, .int pch])), (aPk, .inl (cyI, 64, .inl pk)), (aPl, .inl (cyI, 64, .inl pl)), (aPd, .inl (cyI, 64, .inl pd)), (aPs, .inl (cyI, 64, .inl ps)), (aB, .inr (1, [.ref aBr, .int 0])), (aBr, .inl (cyI, 800, .inl br))] H := hP
    have hD : va_D A [(aX, .inr (8, [.ref aT, .ref aS, .ref aF, .ref aQ, .ref aW, .ref aP, .ref aB, .ref aR])), (aT, .inr (7, [.ref aTb, .int tn])), (aTb, .inl (cyI, 64, .inl tb)), (aP, .inr (3, [.ref aPk, .ref aPl, .ref aPd, .ref aPs, .int pn, .int pch])), (aPk, .inl (cyI, 64, .inl pk)), (aPl, .inl (cyI, 64, .inl pl)), (aPd, .inl (cyI, 64, .inl pd)), (aPs, .inl (cyI, 64, .inl ps)), (aB, .inr (1, [.ref aBr, .int 0])), (aBr, .inl (cyI, 800, .inl br))] := hD
    refine lv_iconst (v := 0) hx hb dX9_write_28 (by decide) ?_
    refine lv_istore_n (lv' := [(1, .int 0), (0, .ref aX)]) hx hb dX9_write_29 rfl hl (by decide) rfl (fun ls hl => ?_)
    obtain ⟨n30, h⟩ := h
    refine wlX9_write_30 C0 hA hK ?_ n30 _ _ _ h _ _ _ hP hD hS (lv_sub hl [1, 0] rfl)
    · intro bn_5 br_6 h H locs ls hP hD hS hl
      refine lv_aload_n hx hb dX9_write_52 rfl (lv_at hl 0 rfl) ?_
      refine va_get (D := (dC, dI)) (ci := 8) (v := .ref aB) (C := RX9) (T := TX9) (N := 8) hx hb hts inX9_write_wsX90 hown hK hP 0 rfl rfl 6 (by decide) (hts _ qX9_write_2) (fun _ h9 => h9) rfl dX9_write_53 ?_
      refine va_get (D := (dC, dI)) (ci := 1) (v := .int bn_5) (C := RX1) (T := TX1) (N := 2) hx hb hts inX9_write_wsX10 hown hK hP 8 rfl rfl 1 (by decide) (hts _ qX9_write_3) (fun _ h9 => h9) rfl dX9_write_56 ?_
      have hP9 : va_P (dC, dI) vwCl [(aX, .inr (8, [.ref aT, .ref aS, .ref aF, .ref aQ, .ref aW, .ref aP, .ref aB, .ref aR])), (aT, .inr (7, [.ref aTb, .int tn])), (aTb, .inl (cyI, 64, .inl tb)), (aP, .inr (3, [.ref aPk, .ref aPl, .ref aPd, .ref aPs, .int pn, .int pch])), (aPk, .inl (cyI, 64, .inl pk)), (aPl, .inl (cyI, 64, .inl pl)), (aPd, .inl (cyI, 64, .inl pd)), (aPs, .inl (cyI, 64, .inl ps)), (aB, .inr (1, [.ref aBr, .int bn_5])), (aBr, .inl (cyI, 800, .inl br_6))] _ := hP
      have hD9 : va_D A [(aX, .inr (8, [.ref aT, .ref aS, .ref aF, .ref aQ, .ref aW, .ref aP, .ref aB, .ref aR])), (aT, .inr (7, [.ref aTb, .int tn])), (aTb, .inl (cyI, 64, .inl tb)), (aP, .inr (3, [.ref aPk, .ref aPl, .ref aPd, .ref aPs, .int pn, .int pch])), (aPk, .inl (cyI, 64, .inl pk)), (aPl, .inl (cyI, 64, .inl pl)), (aPd, .inl (cyI, 64, .inl pd)), (aPs, .inl (cyI, 64, .inl ps)), (aB, .inr (1, [.ref aBr, .int bn_5])), (aBr, .inl (cyI, 800, .inl br_6))] := hD
      refine vx_ret ?_
      refine W.widen (k := 1) (n := 6) (Nat.le_of_ble_eq_true rfl) (Nat.le_of_ble_eq_true rfl) ?_
      exact W.iret (v := bn_5) hx hb hr (fun t ht hW => ⟨⟨bn_5, (bn_5, br_6), rfl, h, by rw [ht]; exact hP9, va_K.moved hW.alike hK, hD9⟩, hS.F ht⟩) hS.2.2 dX9_write_59
  · replace h := h.1 c_1
    obtain ⟨sa9, hstr⟩ := hZ.1 _ (List.mem_of_getElem? (i := 12) rfl)
    exact vx_throwS hx hb hlt hown xS_fit xN_fit (hts _ qX9_write_5) (hts _ qX9_write_6) hstr (vx_hat (fun w hw => hts w (inX9_write_xS w hw)) xS_no (hZ.use _)) xS_ot hZ.2.1 hZ.2.2.1 hS (hl.1.trans hml.symm) dX9_write_10 dX9_write_13 dX9_write_14 dX9_write_16 dX9_write_19 (fun x hx9 => (htab x hx9).elim) (Nat.le_of_ble_eq_true rfl) (Nat.le_of_ble_eq_true rfl) (Nat.le_of_ble_eq_true rfl) (Nat.le_of_ble_eq_true rfl) hlocks (wk_xc hP hD hK hS h) hS.2.2 (Nat.le_of_ble_eq_true rfl) (Nat.le_of_ble_eq_true rfl)
-- X9_bit
theorem qX9_bit_0 : Cond.fieldLink RX9 58 "MatchCoder" "bits" "LMatchCoder$Bits;" ∈ wsX9_bit := (List.mem_cons_of_mem _ (List.mem_append_left _ (List.mem_append_left _ (List.mem_append_left _ (List.mem_of_getElem? (i := 2) rfl)))))
theorem qX9_bit_1 : Cond.fieldLink RX9 207 "MatchCoder$Bits" "row" "[I" ∈ wsX9_bit := (List.mem_cons_of_mem _ (List.mem_append_left _ (List.mem_append_left _ (List.mem_append_left _ (List.mem_of_getElem? (i := 3) rfl)))))
theorem qX9_bit_2 : Cond.classLink RX9 105 "java/lang/IndexOutOfBoundsException" ∈ wsX9_bit := (List.mem_cons_of_mem _ (List.mem_append_left _ (List.mem_append_left _ (List.mem_append_left _ (List.mem_of_getElem? (i := 0) rfl)))))
theorem qX9_bit_3 : Cond.initialized "java/lang/IndexOutOfBoundsException" ∈ wsX9_bit := (List.mem_cons_of_mem _ (List.mem_append_left _ (List.mem_append_left _ (List.mem_append_left _ (List.mem_of_getElem? (i := 1) rfl)))))
theorem inX9_bit_xI : ∀ w ∈ (vx_atS RX9 109 "java/lang/IndexOutOfBoundsException" ["java/lang/RuntimeException", "java/lang/Exception"]).filter goodWord, w ∈ wsX9_bit := fun _ h => List.mem_cons_of_mem _ (List.mem_append_right _ h)
theorem inX9_bit_wsX90 : ∀ w ∈ wsX90, w ∈ wsX9_bit := fun _ h => List.mem_cons_of_mem _ (List.mem_append_left _ (List.mem_append_left _ (List.mem_append_right _ h)))
theorem inX9_bit_wsX10 : ∀ w ∈ wsX10, w ∈ wsX9_bit := fun _ h => List.mem_cons_of_mem _ (List.mem_append_left _ (List.mem_append_right _ h))
def wpX9_bit (bn : Int32) (br : Nat → Int32) (v1 : Int32) (post : Int32 → Prop) (px : String → Prop) : Prop := wpX1_has bn v1 (fun (r_1 : Int32) => (r_1 = 0 → (px xI)) ∧ (¬ r_1 = 0 → (vp_in v1 800 ∧ (post (br v1.toNatClampNeg)))))
set_option maxHeartbeats 4000000 in
set_option maxRecDepth 100000 in
theorem mtX9_bit (l : Launch) (hlt : l.stackTraces = false) (dC : Nat → ClassId) (dI : Nat → Nat → Nat) (cyI : ClassId) {aX aT aS aF aQ aW aP aB aBr aR : Nat} {sz : Nat} {bn : Int32} {br : Nat → Int32} {v1 : Int32} {post : Int32 → Prop} {px : String → Prop} (h : wpX9_bit bn br v1 post px) : vx_Met l yX9_bit wsX9_bit ({ frames := 6, cells := 1, slots := 6, locals := 82 }) (va_Pc [.ref aX, .int v1] (wk_BX (dC, dI) [(cyI, .int)] [(aX, .inr (8, [.ref aT, .ref aS, .ref aF, .ref aQ, .ref aW, .ref aP, .ref aB, .ref aR])), (aB, .inr (1, [.ref aBr, .int bn])), (aBr, .inl (cyI, 800, .inl br))] sz)) (va_Qi (fun (r : Int32) (u : Unit) => post r ) (wk_C (dC, dI) [(cyI, .int)] (va_A [(aX, .inr (8, [.ref aT, .ref aS, .ref aF, .ref aQ, .ref aW, .ref aP, .ref aB, .ref aR])), (aB, .inr (1, [.ref aBr, .int bn])), (aBr, .inl (cyI, 800, .inl br))] sz) (fun (u : Unit) => [(aX, .inr (8, [.ref aT, .ref aS, .ref aF, .ref aQ, .ref aW, .ref aP, .ref aB, .ref aR])), (aB, .inr (1, [.ref aBr, .int bn])), (aBr, .inl (cyI, 800, .inl br))])) (va_A [(aX, .inr (8, [.ref aT, .ref aS, .ref aF, .ref aQ, .ref aW, .ref aP, .ref aB, .ref aR])), (aB, .inr (1, [.ref aBr, .int bn])), (aBr, .inl (cyI, 800, .inl br))] sz)) (vx_X px (wk_X (dC, dI) [(cyI, .int)] (va_A [(aX, .inr (8, [.ref aT, .ref aS, .ref aF, .ref aQ, .ref aW, .ref aP, .ref aB, .ref aR])), (aB, .inr (1, [.ref aBr, .int bn])), (aBr, .inl (cyI, 800, .inl br))] sz) [(aX, .inr (8, [.ref aT, .ref aS, .ref aF, .ref aQ, .ref aW, .ref aP, .ref aB, .ref aR])), (aB, .inr (1, [.ref aBr, .int bn])), (aBr, .inl (cyI, 800, .inl br))]) (va_A [(aX, .inr (8, [.ref aT, .ref aS, .ref aF, .ref aQ, .ref aW, .ref aP, .ref aB, .ref aR])), (aB, .inr (1, [.ref aBr, .int bn])), (aBr, .inl (cyI, 800, .inl br))] sz)) 1 6 (va_A [(aX, .inr (8, [.ref aT, .ref aS, .ref aF, .ref aQ, .ref aW, .ref aP, .ref aB, .ref aR])), (aB, .inr (1, [.ref aBr, .int bn])), (aBr, .inl (cyI, 800, .inl br))] sz) := by
  refine vx_ofW (cc := cX9_bit) (maxL := 2) (ret := (some .int)) (by decide) rfl ?_
  intro p e s m args below meth c s₁ B hml htab hv
  obtain ⟨rfl, ⟨hsz, hP, hK, hD0⟩, hZ⟩ := hv
  have hx := B.exec
  have hb := B.bytes
  have hr := B.returns
  have hts := atoms_spec (ws := wsX9_bit) B.pre
  have hown : s.vm.findClass RX9 = some m.cls := findClass_of_methodNamed B.named
  have hlocks := B.notSynchronized
  subst hsz
  have hD := hD0.self (sz := s.heap.size)
  generalize hAe : va_A [(aX, .inr (8, [.ref aT, .ref aS, .ref aF, .ref aQ, .ref aW, .ref aP, .ref aB, .ref aR])), (aB, .inr (1, [.ref aBr, .int bn])), (aBr, .inl (cyI, 800, .inl br))] s.heap.size = A at hD hZ ⊢
  have hA : ∀ q : Nat, s.heap.size ≤ q → A q := fun q h => by rw [← hAe]; exact Or.inr h
  have hS : va_S A s.heap s.heap [] := va_S.rf
  have hP : va_P (dC, dI) vwCl [(aX, .inr (8, [.ref aT, .ref aS, .ref aF, .ref aQ, .ref aW, .ref aP, .ref aB, .ref aR])), (aB, .inr (1, [.ref aBr, .int bn])), (aBr, .inl (cyI, 800, .inl br))] s.heap := hP
  have hl := lv_entry ([.ref aX, .int v1]) (n := 2) (Nat.le_of_ble_eq_true rfl)
  rw [lg_entry_eq]
  generalize (lg_sl ([.ref aX, .int v1]) ++ List.replicate (2 - (lg_sl ([.ref aX, .int v1])).length) Slot.unset).toArray = ls at hl ⊢
  have hl : lv_has ls 2 [(0, .ref aX), (1, .int v1)] := hl
  have C0 : CallFix p m c cX9_bit 2 s ([.ref aX, .int v1] : List Value).toArray wsX9_bit RX9 := ⟨hx, hb, hml, hown, hts⟩
  unfold wpX9_bit at h
  refine lv_aload_n hx hb dX9_bit_0 rfl (lv_at hl 0 rfl) ?_
  refine va_get (D := (dC, dI)) (ci := 8) (v := .ref aB) (C := RX9) (T := TX9) (N := 8) hx hb hts inX9_bit_wsX90 hown hK hP 0 rfl rfl 6 (by decide) (hts _ qX9_bit_0) (fun _ h9 => h9) rfl dX9_bit_1 ?_
  refine lv_iload_n hx hb dX9_bit_4 rfl (lv_at hl 1 rfl) ?_
  refine wk_calli (wc := [(aB, .inr (1, [.ref aBr, .int bn]))]) (wr := [(aX, .inr (8, [.ref aT, .ref aS, .ref aF, .ref aQ, .ref aW, .ref aP, .ref aB, .ref aR])), (aBr, .inl (cyI, 800, .inl br))]) (va_runV (As := [.int v1]) (rest := []) C0 (mtX1_has l dC dI cyI (aB := aB) (aBr := aBr) (sz := _) (bn := bn) (v1 := v1) h) (cwV 1 hts gX9_bit_X1_has rfl rfl rfl (by decide +kernel) ⟨(Nat.le_of_ble_eq_true rfl), (Nat.le_of_ble_eq_true rfl)⟩) (wk_preV (wc := [(aB, .inr (1, [.ref aBr, .int bn]))]) hK hP hD [1] rfl (by decide) (va_recv hK hP (ci := 1) (q0 := 1) rfl rfl)) rfl rfl hl.1 rfl (lv_room (Nat.le_of_ble_eq_true rfl)) dX9_bit_5 ⟨(Nat.le_of_ble_eq_true rfl), (Nat.le_of_ble_eq_true rfl)⟩) hP hD hS hA [1] [0, 2] rfl rfl (by decide) (by decide) (fun r_1 u9 H locs h hP hD hS => ?_)
  have hP : va_P (dC, dI) vwCl [(aX, .inr (8, [.ref aT, .ref aS, .ref aF, .ref aQ, .ref aW, .ref aP, .ref aB, .ref aR])), (aBr, .inl (cyI, 800, .inl br)), (aB, .inr (1, [.ref aBr, .int bn]))] H := hP
  have hD : va_D A [(aX, .inr (8, [.ref aT, .ref aS, .ref aF, .ref aQ, .ref aW, .ref aP, .ref aB, .ref aR])), (aBr, .inl (cyI, 800, .inl br)), (aB, .inr (1, [.ref aBr, .int bn]))] := hD
  refine lv_if_ne (tgt := 21) hx hb dX9_bit_8 (by decide) (fun c_2 => ?_) (fun c_2 => ?_)
  · replace h := h.2 c_2
    refine lv_aload_n hx hb dX9_bit_21 rfl (lv_at hl 0 rfl) ?_
    refine va_get (D := (dC, dI)) (ci := 8) (v := .ref aB) (C := RX9) (T := TX9) (N := 8) hx hb hts inX9_bit_wsX90 hown hK hP 0 rfl rfl 6 (by decide) (hts _ qX9_bit_0) (fun _ h9 => h9) rfl dX9_bit_22 ?_
    refine va_get (D := (dC, dI)) (ci := 1) (v := .ref aBr) (C := RX1) (T := TX1) (N := 2) hx hb hts inX9_bit_wsX10 hown hK hP 2 rfl rfl 0 (by decide) (hts _ qX9_bit_1) (fun _ h9 => h9) rfl dX9_bit_25 ?_
    refine lv_iload_n hx hb dX9_bit_28 rfl (lv_at hl 1 rfl) ?_
    obtain ⟨hi_3, h⟩ := h
    refine va_iald hx hb hK hP 1 0 rfl rfl hi_3 dX9_bit_29 ?_
    have hP9 : va_P (dC, dI) vwCl [(aX, .inr (8, [.ref aT, .ref aS, .ref aF, .ref aQ, .ref aW, .ref aP, .ref aB, .ref aR])), (aB, .inr (1, [.ref aBr, .int bn])), (aBr, .inl (cyI, 800, .inl br))] _ := (hP.sub [0, 2, 1] rfl)
    have hD9 : va_D A [(aX, .inr (8, [.ref aT, .ref aS, .ref aF, .ref aQ, .ref aW, .ref aP, .ref aB, .ref aR])), (aB, .inr (1, [.ref aBr, .int bn])), (aBr, .inl (cyI, 800, .inl br))] := (hD.sub [0, 2, 1] (by decide) rfl)
    refine vx_ret ?_
    refine W.widen (k := 1) (n := 6) (Nat.le_of_ble_eq_true rfl) (Nat.le_of_ble_eq_true rfl) ?_
    exact W.iret (v := br v1.toNatClampNeg) hx hb hr (fun t ht hW => ⟨⟨br v1.toNatClampNeg, (), rfl, h, by rw [ht]; exact hP9, va_K.moved hW.alike hK, hD9⟩, hS.F ht⟩) hS.2.2 dX9_bit_30
  · replace h := h.1 c_2
    obtain ⟨sa9, hstr⟩ := hZ.1 _ (List.mem_of_getElem? (i := 14) rfl)
    exact vx_throwS hx hb hlt hown xI_fit xN_fit (hts _ qX9_bit_2) (hts _ qX9_bit_3) hstr (vx_hat (fun w hw => hts w (inX9_bit_xI w hw)) xI_no (hZ.use _)) xI_ot hZ.2.1 hZ.2.2.1 hS (hl.1.trans hml.symm) dX9_bit_11 dX9_bit_14 dX9_bit_15 dX9_bit_17 dX9_bit_20 (fun x hx9 => (htab x hx9).elim) (Nat.le_of_ble_eq_true rfl) (Nat.le_of_ble_eq_true rfl) (Nat.le_of_ble_eq_true rfl) (Nat.le_of_ble_eq_true rfl) hlocks (wk_xc (hP.sub [0, 2, 1] rfl) (hD.sub [0, 2, 1] (by decide) rfl) hK hS h) hS.2.2 (Nat.le_of_ble_eq_true rfl) (Nat.le_of_ble_eq_true rfl)
-- X9_flip
theorem qX9_flip_0 : Cond.fieldLink RX9 58 "MatchCoder" "bits" "LMatchCoder$Bits;" ∈ wsX9_flip := (List.mem_cons_of_mem _ (List.mem_append_left _ (List.mem_append_left _ (List.mem_append_left _ (List.mem_of_getElem? (i := 2) rfl)))))
theorem qX9_flip_1 : Cond.fieldLink RX9 207 "MatchCoder$Bits" "row" "[I" ∈ wsX9_flip := (List.mem_cons_of_mem _ (List.mem_append_left _ (List.mem_append_left _ (List.mem_append_left _ (List.mem_of_getElem? (i := 3) rfl)))))
theorem qX9_flip_2 : Cond.classLink RX9 105 "java/lang/IndexOutOfBoundsException" ∈ wsX9_flip := (List.mem_cons_of_mem _ (List.mem_append_left _ (List.mem_append_left _ (List.mem_append_left _ (List.mem_of_getElem? (i := 0) rfl)))))
theorem qX9_flip_3 : Cond.initialized "java/lang/IndexOutOfBoundsException" ∈ wsX9_flip := (List.mem_cons_of_mem _ (List.mem_append_left _ (List.mem_append_left _ (List.mem_append_left _ (List.mem_of_getElem? (i := 1) rfl)))))
theorem inX9_flip_xI : ∀ w ∈ (vx_atS RX9 109 "java/lang/IndexOutOfBoundsException" ["java/lang/RuntimeException", "java/lang/Exception"]).filter goodWord, w ∈ wsX9_flip := fun _ h => List.mem_cons_of_mem _ (List.mem_append_right _ h)
theorem inX9_flip_wsX90 : ∀ w ∈ wsX90, w ∈ wsX9_flip := fun _ h => List.mem_cons_of_mem _ (List.mem_append_left _ (List.mem_append_left _ (List.mem_append_right _ h)))
theorem inX9_flip_wsX10 : ∀ w ∈ wsX10, w ∈ wsX9_flip := fun _ h => List.mem_cons_of_mem _ (List.mem_append_left _ (List.mem_append_right _ h))
def wpX9_flip (bn : Int32) (br : Nat → Int32) (v1 : Int32) (post : Int32 → (Nat → Int32) → Prop) (px : String → Prop) : Prop := wpX1_has bn v1 (fun (r_1 : Int32) => (r_1 = 0 → (px xI)) ∧ (¬ r_1 = 0 → (vp_in v1 800 ∧ (post (br v1.toNatClampNeg) (upd br v1.toNatClampNeg (1 - (br v1.toNatClampNeg)))))))
set_option maxHeartbeats 4000000 in
set_option maxRecDepth 100000 in
theorem mtX9_flip (l : Launch) (hlt : l.stackTraces = false) (dC : Nat → ClassId) (dI : Nat → Nat → Nat) (cyI : ClassId) {aX aT aS aF aQ aW aP aB aBr aR : Nat} {sz : Nat} {bn : Int32} {br : Nat → Int32} {v1 : Int32} {post : Int32 → (Nat → Int32) → Prop} {px : String → Prop} (h : wpX9_flip bn br v1 post px) : vx_Met l yX9_flip wsX9_flip ({ frames := 6, cells := 1, slots := 6, locals := 82 }) (va_Pc [.ref aX, .int v1] (wk_BX (dC, dI) [(cyI, .int)] [(aX, .inr (8, [.ref aT, .ref aS, .ref aF, .ref aQ, .ref aW, .ref aP, .ref aB, .ref aR])), (aB, .inr (1, [.ref aBr, .int bn])), (aBr, .inl (cyI, 800, .inl br))] sz)) (va_Qi (fun (r : Int32) (u : (Nat → Int32)) => post r u) (wk_C (dC, dI) [(cyI, .int)] (va_A [(aX, .inr (8, [.ref aT, .ref aS, .ref aF, .ref aQ, .ref aW, .ref aP, .ref aB, .ref aR])), (aB, .inr (1, [.ref aBr, .int bn])), (aBr, .inl (cyI, 800, .inl br))] sz) (fun (u : (Nat → Int32)) => [(aX, .inr (8, [.ref aT, .ref aS, .ref aF, .ref aQ, .ref aW, .ref aP, .ref aB, .ref aR])), (aB, .inr (1, [.ref aBr, .int bn])), (aBr, .inl (cyI, 800, .inl (u)))])) (va_A [(aX, .inr (8, [.ref aT, .ref aS, .ref aF, .ref aQ, .ref aW, .ref aP, .ref aB, .ref aR])), (aB, .inr (1, [.ref aBr, .int bn])), (aBr, .inl (cyI, 800, .inl br))] sz)) (vx_X px (wk_X (dC, dI) [(cyI, .int)] (va_A [(aX, .inr (8, [.ref aT, .ref aS, .ref aF, .ref aQ, .ref aW, .ref aP, .ref aB, .ref aR])), (aB, .inr (1, [.ref aBr, .int bn])), (aBr, .inl (cyI, 800, .inl br))] sz) [(aX, .inr (8, [.ref aT, .ref aS, .ref aF, .ref aQ, .ref aW, .ref aP, .ref aB, .ref aR])), (aB, .inr (1, [.ref aBr, .int bn])), (aBr, .inl (cyI, 800, .inl br))]) (va_A [(aX, .inr (8, [.ref aT, .ref aS, .ref aF, .ref aQ, .ref aW, .ref aP, .ref aB, .ref aR])), (aB, .inr (1, [.ref aBr, .int bn])), (aBr, .inl (cyI, 800, .inl br))] sz)) 1 6 (va_A [(aX, .inr (8, [.ref aT, .ref aS, .ref aF, .ref aQ, .ref aW, .ref aP, .ref aB, .ref aR])), (aB, .inr (1, [.ref aBr, .int bn])), (aBr, .inl (cyI, 800, .inl br))] sz) := by
  refine vx_ofW (cc := cX9_flip) (maxL := 3) (ret := (some .int)) (by decide) rfl ?_
  intro p e s m args below meth c s₁ B hml htab hv
  obtain ⟨rfl, ⟨hsz, hP, hK, hD0⟩, hZ⟩ := hv
  have hx := B.exec
  have hb := B.bytes
  have hr := B.returns
  have hts := atoms_spec (ws := wsX9_flip) B.pre
  have hown : s.vm.findClass RX9 = some m.cls := findClass_of_methodNamed B.named
  have hlocks := B.notSynchronized
  subst hsz
  have hD := hD0.self (sz := s.heap.size)
  generalize hAe : va_A [(aX, .inr (8, [.ref aT, .ref aS, .ref aF, .ref aQ, .ref aW, .ref aP, .ref aB, .ref aR])), (aB, .inr (1, [.ref aBr, .int bn])), (aBr, .inl (cyI, 800, .inl br))] s.heap.size = A at hD hZ ⊢
  have hA : ∀ q : Nat, s.heap.size ≤ q → A q := fun q h => by rw [← hAe]; exact Or.inr h
  have hS : va_S A s.heap s.heap [] := va_S.rf
  have hP : va_P (dC, dI) vwCl [(aX, .inr (8, [.ref aT, .ref aS, .ref aF, .ref aQ, .ref aW, .ref aP, .ref aB, .ref aR])), (aB, .inr (1, [.ref aBr, .int bn])), (aBr, .inl (cyI, 800, .inl br))] s.heap := hP
  have hl := lv_entry ([.ref aX, .int v1]) (n := 3) (Nat.le_of_ble_eq_true rfl)
  rw [lg_entry_eq]
  generalize (lg_sl ([.ref aX, .int v1]) ++ List.replicate (3 - (lg_sl ([.ref aX, .int v1])).length) Slot.unset).toArray = ls at hl ⊢
  have hl : lv_has ls 3 [(0, .ref aX), (1, .int v1)] := hl
  have C0 : CallFix p m c cX9_flip 3 s ([.ref aX, .int v1] : List Value).toArray wsX9_flip RX9 := ⟨hx, hb, hml, hown, hts⟩
  unfold wpX9_flip at h
  refine lv_aload_n hx hb dX9_flip_0 rfl (lv_at hl 0 rfl) ?_
  refine va_get (D := (dC, dI)) (ci := 8) (v := .ref aB) (C := RX9) (T := TX9) (N := 8) hx hb hts inX9_flip_wsX90 hown hK hP 0 rfl rfl 6 (by decide) (hts _ qX9_flip_0) (fun _ h9 => h9) rfl dX9_flip_1 ?_
  refine lv_iload_n hx hb dX9_flip_4 rfl (lv_at hl 1 rfl) ?_
  refine wk_calli (wc := [(aB, .inr (1, [.ref aBr, .int bn]))]) (wr := [(aX, .inr (8, [.ref aT, .ref aS, .ref aF, .ref aQ, .ref aW, .ref aP, .ref aB, .ref aR])), (aBr, .inl (cyI, 800, .inl br))]) (va_runV (As := [.int v1]) (rest := []) C0 (mtX1_has l dC dI cyI (aB := aB) (aBr := aBr) (sz := _) (bn := bn) (v1 := v1) h) (cwV 1 hts gX9_flip_X1_has rfl rfl rfl (by decide +kernel) ⟨(Nat.le_of_ble_eq_true rfl), (Nat.le_of_ble_eq_true rfl)⟩) (wk_preV (wc := [(aB, .inr (1, [.ref aBr, .int bn]))]) hK hP hD [1] rfl (by decide) (va_recv hK hP (ci := 1) (q0 := 1) rfl rfl)) rfl rfl hl.1 rfl (lv_room (Nat.le_of_ble_eq_true rfl)) dX9_flip_5 ⟨(Nat.le_of_ble_eq_true rfl), (Nat.le_of_ble_eq_true rfl)⟩) hP hD hS hA [1] [0, 2] rfl rfl (by decide) (by decide) (fun r_1 u9 H locs h hP hD hS => ?_)
  have hP : va_P (dC, dI) vwCl [(aX, .inr (8, [.ref aT, .ref aS, .ref aF, .ref aQ, .ref aW, .ref aP, .ref aB, .ref aR])), (aBr, .inl (cyI, 800, .inl br)), (aB, .inr (1, [.ref aBr, .int bn]))] H := hP
  have hD : va_D A [(aX, .inr (8, [.ref aT, .ref aS, .ref aF, .ref aQ, .ref aW, .ref aP, .ref aB, .ref aR])), (aBr, .inl (cyI, 800, .inl br)), (aB, .inr (1, [.ref aBr, .int bn]))] := hD
  refine lv_if_ne (tgt := 21) hx hb dX9_flip_8 (by decide) (fun c_2 => ?_) (fun c_2 => ?_)
  · replace h := h.2 c_2
    refine lv_aload_n hx hb dX9_flip_21 rfl (lv_at hl 0 rfl) ?_
    refine va_get (D := (dC, dI)) (ci := 8) (v := .ref aB) (C := RX9) (T := TX9) (N := 8) hx hb hts inX9_flip_wsX90 hown hK hP 0 rfl rfl 6 (by decide) (hts _ qX9_flip_0) (fun _ h9 => h9) rfl dX9_flip_22 ?_
    refine va_get (D := (dC, dI)) (ci := 1) (v := .ref aBr) (C := RX1) (T := TX1) (N := 2) hx hb hts inX9_flip_wsX10 hown hK hP 2 rfl rfl 0 (by decide) (hts _ qX9_flip_1) (fun _ h9 => h9) rfl dX9_flip_25 ?_
    refine lv_iload_n hx hb dX9_flip_28 rfl (lv_at hl 1 rfl) ?_
    obtain ⟨hi_3, h⟩ := h
    refine va_iald hx hb hK hP 1 0 rfl rfl hi_3 dX9_flip_29 ?_
    refine lv_istore_n (lv' := [(2, .int (br v1.toNatClampNeg)), (0, .ref aX), (1, .int v1)]) hx hb dX9_flip_30 rfl hl (by decide) rfl (fun ls hl => ?_)
    refine lv_aload_n hx hb dX9_flip_31 rfl (lv_at hl 1 rfl) ?_
    refine va_get (D := (dC, dI)) (ci := 8) (v := .ref aB) (C := RX9) (T := TX9) (N := 8) hx hb hts inX9_flip_wsX90 hown hK hP 0 rfl rfl 6 (by decide) (hts _ qX9_flip_0) (fun _ h9 => h9) rfl dX9_flip_32 ?_
    refine va_get (D := (dC, dI)) (ci := 1) (v := .ref aBr) (C := RX1) (T := TX1) (N := 2) hx hb hts inX9_flip_wsX10 hown hK hP 2 rfl rfl 0 (by decide) (hts _ qX9_flip_1) (fun _ h9 => h9) rfl dX9_flip_35 ?_
    refine lv_iload_n hx hb dX9_flip_38 rfl (lv_at hl 2 rfl) ?_
    refine lv_iconst (v := 1) hx hb dX9_flip_39 (by decide) ?_
    refine lv_iload_n hx hb dX9_flip_40 rfl (lv_at hl 0 rfl) ?_
    refine lv_isub hx hb dX9_flip_41 ?_
    refine va_iast hx hb hK hP hD hS 1 0 rfl rfl hi_3 dX9_flip_42 (fun H locs hP hD hS => ?_)
    have hP : va_P (dC, dI) vwCl [(aX, .inr (8, [.ref aT, .ref aS, .ref aF, .ref aQ, .ref aW, .ref aP, .ref aB, .ref aR])), (aBr, .inl (cyI, 800, .inl (upd br v1.toNatClampNeg (1 - (br v1.toNatClampNeg))))), (aB, .inr (1, [.ref aBr, .int bn]))] H := hP
    have hD : va_D A [(aX, .inr (8, [.ref aT, .ref aS, .ref aF, .ref aQ, .ref aW, .ref aP, .ref aB, .ref aR])), (aBr, .inl (cyI, 800, .inl (upd br v1.toNatClampNeg (1 - (br v1.toNatClampNeg))))), (aB, .inr (1, [.ref aBr, .int bn]))] := hD
    refine lv_iload_n hx hb dX9_flip_43 rfl (lv_at hl 0 rfl) ?_
    have hP9 : va_P (dC, dI) vwCl [(aX, .inr (8, [.ref aT, .ref aS, .ref aF, .ref aQ, .ref aW, .ref aP, .ref aB, .ref aR])), (aB, .inr (1, [.ref aBr, .int bn])), (aBr, .inl (cyI, 800, .inl (upd br v1.toNatClampNeg (1 - (br v1.toNatClampNeg)))))] _ := (hP.sub [0, 2, 1] rfl)
    have hD9 : va_D A [(aX, .inr (8, [.ref aT, .ref aS, .ref aF, .ref aQ, .ref aW, .ref aP, .ref aB, .ref aR])), (aB, .inr (1, [.ref aBr, .int bn])), (aBr, .inl (cyI, 800, .inl (upd br v1.toNatClampNeg (1 - (br v1.toNatClampNeg)))))] := (hD.sub [0, 2, 1] (by decide) rfl)
    refine vx_ret ?_
    refine W.widen (k := 1) (n := 6) (Nat.le_of_ble_eq_true rfl) (Nat.le_of_ble_eq_true rfl) ?_
    exact W.iret (v := br v1.toNatClampNeg) hx hb hr (fun t ht hW => ⟨⟨br v1.toNatClampNeg, upd br v1.toNatClampNeg (1 - (br v1.toNatClampNeg)), rfl, h, by rw [ht]; exact hP9, va_K.moved hW.alike hK, hD9⟩, hS.F ht⟩) hS.2.2 dX9_flip_44
  · replace h := h.1 c_2
    obtain ⟨sa9, hstr⟩ := hZ.1 _ (List.mem_of_getElem? (i := 14) rfl)
    exact vx_throwS hx hb hlt hown xI_fit xN_fit (hts _ qX9_flip_2) (hts _ qX9_flip_3) hstr (vx_hat (fun w hw => hts w (inX9_flip_xI w hw)) xI_no (hZ.use _)) xI_ot hZ.2.1 hZ.2.2.1 hS (hl.1.trans hml.symm) dX9_flip_11 dX9_flip_14 dX9_flip_15 dX9_flip_17 dX9_flip_20 (fun x hx9 => (htab x hx9).elim) (Nat.le_of_ble_eq_true rfl) (Nat.le_of_ble_eq_true rfl) (Nat.le_of_ble_eq_true rfl) (Nat.le_of_ble_eq_true rfl) hlocks (wk_xc (hP.sub [0, 2, 1] rfl) (hD.sub [0, 2, 1] (by decide) rfl) hK hS h) hS.2.2 (Nat.le_of_ble_eq_true rfl) (Nat.le_of_ble_eq_true rfl)
-- X9_appendBits
theorem qX9_appendBits_0 : Cond.classLink RX9 69 "java/lang/IllegalArgumentException" ∈ wsX9_appendBits := (List.mem_cons_of_mem _ (List.mem_append_left _ (List.mem_append_left _ (List.mem_append_left _ (List.mem_append_left _ (List.mem_of_getElem? (i := 0) rfl))))))
theorem qX9_appendBits_1 : Cond.initialized "java/lang/IllegalArgumentException" ∈ wsX9_appendBits := (List.mem_cons_of_mem _ (List.mem_append_left _ (List.mem_append_left _ (List.mem_append_left _ (List.mem_append_left _ (List.mem_of_getElem? (i := 1) rfl))))))
theorem qX9_appendBits_2 : Cond.fieldLink RX9 58 "MatchCoder" "bits" "LMatchCoder$Bits;" ∈ wsX9_appendBits := (List.mem_cons_of_mem _ (List.mem_append_left _ (List.mem_append_left _ (List.mem_append_left _ (List.mem_append_left _ (List.mem_of_getElem? (i := 4) rfl))))))
theorem qX9_appendBits_3 : Cond.fieldLink RX9 200 "MatchCoder$Bits" "count" "I" ∈ wsX9_appendBits := (List.mem_cons_of_mem _ (List.mem_append_left _ (List.mem_append_left _ (List.mem_append_left _ (List.mem_append_left _ (List.mem_of_getElem? (i := 5) rfl))))))
theorem qX9_appendBits_4 : Cond.classLink RX9 80 "java/lang/IllegalStateException" ∈ wsX9_appendBits := (List.mem_cons_of_mem _ (List.mem_append_left _ (List.mem_append_left _ (List.mem_append_left _ (List.mem_append_left _ (List.mem_of_getElem? (i := 2) rfl))))))
theorem qX9_appendBits_5 : Cond.initialized "java/lang/IllegalStateException" ∈ wsX9_appendBits := (List.mem_cons_of_mem _ (List.mem_append_left _ (List.mem_append_left _ (List.mem_append_left _ (List.mem_append_left _ (List.mem_of_getElem? (i := 3) rfl))))))
theorem inX9_appendBits_xA : ∀ w ∈ (vx_atS RX9 73 "java/lang/IllegalArgumentException" ["java/lang/RuntimeException", "java/lang/Exception"]).filter goodWord, w ∈ wsX9_appendBits := fun _ h => List.mem_cons_of_mem _ (List.mem_append_left _ (List.mem_append_right _ h))
theorem inX9_appendBits_xS : ∀ w ∈ (vx_atS RX9 84 "java/lang/IllegalStateException" ["java/lang/RuntimeException", "java/lang/Exception"]).filter goodWord, w ∈ wsX9_appendBits := fun _ h => List.mem_cons_of_mem _ (List.mem_append_right _ h)
theorem inX9_appendBits_wsX90 : ∀ w ∈ wsX90, w ∈ wsX9_appendBits := fun _ h => List.mem_cons_of_mem _ (List.mem_append_left _ (List.mem_append_left _ (List.mem_append_left _ (List.mem_append_right _ h))))
theorem inX9_appendBits_wsX10 : ∀ w ∈ wsX10, w ∈ wsX9_appendBits := fun _ h => List.mem_cons_of_mem _ (List.mem_append_left _ (List.mem_append_left _ (List.mem_append_right _ h)))
def wpX9_appendBits (bn : Int32) (br : Nat → Int32) (v1 : Int32) (v2 : Int32) (post : Int32 → Int32 → (Nat → Int32) → Prop) (px : String → Prop) : Prop := (v2 < 1 → (px xA)) ∧ (¬ v2 < 1 → ((v2 ≤ 16 → (((bn + v2) ≤ 800 → (wpX1_pushLow bn br v1 v2 (fun (bn_4 : Int32) (br_5 : Nat → Int32) => post bn_4 bn_4 br_5))) ∧ (¬ (bn + v2) ≤ 800 → (px xS)))) ∧ (¬ v2 ≤ 16 → (px xA))))
set_option maxHeartbeats 4000000 in
set_option maxRecDepth 100000 in
theorem mtX9_appendBits (l : Launch) (hlt : l.stackTraces = false) (dC : Nat → ClassId) (dI : Nat → Nat → Nat) (cyI : ClassId) {aX aT aS aF aQ aW aP aB aBr aR : Nat} {sz : Nat} {bn : Int32} {br : Nat → Int32} {v1 : Int32} {v2 : Int32} {post : Int32 → Int32 → (Nat → Int32) → Prop} {px : String → Prop} (h : wpX9_appendBits bn br v1 v2 post px) : vx_Met l yX9_appendBits wsX9_appendBits ({ frames := 6, cells := 1, slots := 6, locals := 82 }) (va_Pc [.ref aX, .int v1, .int v2] (wk_BX (dC, dI) [(cyI, .int)] [(aX, .inr (8, [.ref aT, .ref aS, .ref aF, .ref aQ, .ref aW, .ref aP, .ref aB, .ref aR])), (aB, .inr (1, [.ref aBr, .int bn])), (aBr, .inl (cyI, 800, .inl br))] sz)) (va_Qi (fun (r : Int32) (u : Int32 × (Nat → Int32)) => post r u.1 u.2) (wk_C (dC, dI) [(cyI, .int)] (va_A [(aX, .inr (8, [.ref aT, .ref aS, .ref aF, .ref aQ, .ref aW, .ref aP, .ref aB, .ref aR])), (aB, .inr (1, [.ref aBr, .int bn])), (aBr, .inl (cyI, 800, .inl br))] sz) (fun (u : Int32 × (Nat → Int32)) => [(aX, .inr (8, [.ref aT, .ref aS, .ref aF, .ref aQ, .ref aW, .ref aP, .ref aB, .ref aR])), (aB, .inr (1, [.ref aBr, .int (u.1)])), (aBr, .inl (cyI, 800, .inl (u.2)))])) (va_A [(aX, .inr (8, [.ref aT, .ref aS, .ref aF, .ref aQ, .ref aW, .ref aP, .ref aB, .ref aR])), (aB, .inr (1, [.ref aBr, .int bn])), (aBr, .inl (cyI, 800, .inl br))] sz)) (vx_X px (wk_X (dC, dI) [(cyI, .int)] (va_A [(aX, .inr (8, [.ref aT, .ref aS, .ref aF, .ref aQ, .ref aW, .ref aP, .ref aB, .ref aR])), (aB, .inr (1, [.ref aBr, .int bn])), (aBr, .inl (cyI, 800, .inl br))] sz) [(aX, .inr (8, [.ref aT, .ref aS, .ref aF, .ref aQ, .ref aW, .ref aP, .ref aB, .ref aR])), (aB, .inr (1, [.ref aBr, .int bn])), (aBr, .inl (cyI, 800, .inl br))]) (va_A [(aX, .inr (8, [.ref aT, .ref aS, .ref aF, .ref aQ, .ref aW, .ref aP, .ref aB, .ref aR])), (aB, .inr (1, [.ref aBr, .int bn])), (aBr, .inl (cyI, 800, .inl br))] sz)) 1 6 (va_A [(aX, .inr (8, [.ref aT, .ref aS, .ref aF, .ref aQ, .ref aW, .ref aP, .ref aB, .ref aR])), (aB, .inr (1, [.ref aBr, .int bn])), (aBr, .inl (cyI, 800, .inl br))] sz) := by
  refine vx_ofW (cc := cX9_appendBits) (maxL := 3) (ret := (some .int)) (by decide) rfl ?_
  intro p e s m args below meth c s₁ B hml htab hv
  obtain ⟨rfl, ⟨hsz, hP, hK, hD0⟩, hZ⟩ := hv
  have hx := B.exec
  have hb := B.bytes
  have hr := B.returns
  have hts := atoms_spec (ws := wsX9_appendBits) B.pre
  have hown : s.vm.findClass RX9 = some m.cls := findClass_of_methodNamed B.named
  have hlocks := B.notSynchronized
  subst hsz
  have hD := hD0.self (sz := s.heap.size)
  generalize hAe : va_A [(aX, .inr (8, [.ref aT, .ref aS, .ref aF, .ref aQ, .ref aW, .ref aP, .ref aB, .ref aR])), (aB, .inr (1, [.ref aBr, .int bn])), (aBr, .inl (cyI, 800, .inl br))] s.heap.size = A at hD hZ ⊢
  have hA : ∀ q : Nat, s.heap.size ≤ q → A q := fun q h => by rw [← hAe]; exact Or.inr h
  have hS : va_S A s.heap s.heap [] := va_S.rf
  have hP : va_P (dC, dI) vwCl [(aX, .inr (8, [.ref aT, .ref aS, .ref aF, .ref aQ, .ref aW, .ref aP, .ref aB, .ref aR])), (aB, .inr (1, [.ref aBr, .int bn])), (aBr, .inl (cyI, 800, .inl br))] s.heap := hP
  have hl := lv_entry ([.ref aX, .int v1, .int v2]) (n := 3) (Nat.le_of_ble_eq_true rfl)
  rw [lg_entry_eq]
  generalize (lg_sl ([.ref aX, .int v1, .int v2]) ++ List.replicate (3 - (lg_sl ([.ref aX, .int v1, .int v2])).length) Slot.unset).toArray = ls at hl ⊢
  have hl : lv_has ls 3 [(0, .ref aX), (1, .int v1), (2, .int v2)] := hl
  have C0 : CallFix p m c cX9_appendBits 3 s ([.ref aX, .int v1, .int v2] : List Value).toArray wsX9_appendBits RX9 := ⟨hx, hb, hml, hown, hts⟩
  unfold wpX9_appendBits at h
  refine lv_iload_n hx hb dX9_appendBits_0 rfl (lv_at hl 2 rfl) ?_
  refine lv_iconst (v := 1) hx hb dX9_appendBits_1 (by decide) ?_
  refine lv_icmp_lt (tgt := 11) hx hb dX9_appendBits_2 (by decide) (fun c_1 => ?_) (fun c_1 => ?_)
  · replace h := h.1 c_1
    obtain ⟨sa9, hstr⟩ := hZ.1 _ (List.mem_of_getElem? (i := 15) rfl)
    exact vx_throwS hx hb hlt hown xA_fit xN_fit (hts _ qX9_appendBits_0) (hts _ qX9_appendBits_1) hstr (vx_hat (fun w hw => hts w (inX9_appendBits_xA w hw)) xA_no (hZ.use _)) xA_ot hZ.2.1 hZ.2.2.1 hS (hl.1.trans hml.symm) dX9_appendBits_11 dX9_appendBits_14 dX9_appendBits_15 dX9_appendBits_17 dX9_appendBits_20 (fun x hx9 => (htab x hx9).elim) (Nat.le_of_ble_eq_true rfl) (Nat.le_of_ble_eq_true rfl) (Nat.le_of_ble_eq_true rfl) (Nat.le_of_ble_eq_true rfl) hlocks (wk_xc hP hD hK hS h) hS.2.2 (Nat.le_of_ble_eq_true rfl) (Nat.le_of_ble_eq_true rfl)
  · replace h := h.2 c_1
    refine lv_iload_n hx hb dX9_appendBits_5 rfl (lv_at hl 2 rfl) ?_
    refine lv_bipush (v := 16) hx hb dX9_appendBits_6 (by decide) ?_
    refine lv_icmp_le (tgt := 21) hx hb dX9_appendBits_8 (by decide) (fun c_2 => ?_) (fun c_2 => ?_)
    · replace h := h.1 c_2
      refine lv_aload_n hx hb dX9_appendBits_21 rfl (lv_at hl 0 rfl) ?_
      refine va_get (D := (dC, dI)) (ci := 8) (v := .ref aB) (C := RX9) (T := TX9) (N := 8) hx hb hts inX9_appendBits_wsX90 hown hK hP 0 rfl rfl 6 (by decide) (hts _ qX9_appendBits_2) (fun _ h9 => h9) rfl dX9_appendBits_22 ?_
      refine va_get (D := (dC, dI)) (ci := 1) (v := .int bn) (C := RX1) (T := TX1) (N := 2) hx hb hts inX9_appendBits_wsX10 hown hK hP 1 rfl rfl 1 (by decide) (hts _ qX9_appendBits_3) (fun _ h9 => h9) rfl dX9_appendBits_25 ?_
      refine lv_iload_n hx hb dX9_appendBits_28 rfl (lv_at hl 2 rfl) ?_
      refine lv_iadd hx hb dX9_appendBits_29 ?_
      refine lv_sipush (v := 800) hx hb dX9_appendBits_30 (by decide) ?_
      refine lv_icmp_le (tgt := 46) hx hb dX9_appendBits_33 (by decide) (fun c_3 => ?_) (fun c_3 => ?_)
      · replace h := h.1 c_3
        refine lv_aload_n hx hb dX9_appendBits_46 rfl (lv_at hl 0 rfl) ?_
        refine va_get (D := (dC, dI)) (ci := 8) (v := .ref aB) (C := RX9) (T := TX9) (N := 8) hx hb hts inX9_appendBits_wsX90 hown hK hP 0 rfl rfl 6 (by decide) (hts _ qX9_appendBits_2) (fun _ h9 => h9) rfl dX9_appendBits_47 ?_
        refine lv_iload_n hx hb dX9_appendBits_50 rfl (lv_at hl 1 rfl) ?_
        refine lv_iload_n hx hb dX9_appendBits_51 rfl (lv_at hl 2 rfl) ?_
        refine wk_callv (wc := [(aB, .inr (1, [.ref aBr, .int bn])), (aBr, .inl (cyI, 800, .inl br))]) (wr := [(aX, .inr (8, [.ref aT, .ref aS, .ref aF, .ref aQ, .ref aW, .ref aP, .ref aB, .ref aR]))]) (va_runV (As := [.int v1, .int v2]) (rest := []) C0 (mtX1_pushLow l dC dI cyI (aB := aB) (aBr := aBr) (sz := _) (bn := bn) (br := br) (v1 := v1) (v2 := v2) h) (cwV 2 hts gX9_appendBits_X1_pushLow rfl rfl rfl (by decide +kernel) ⟨(Nat.le_of_ble_eq_true rfl), (Nat.le_of_ble_eq_true rfl)⟩) (wk_preV (wc := [(aB, .inr (1, [.ref aBr, .int bn])), (aBr, .inl (cyI, 800, .inl br))]) hK hP hD [1, 2] rfl (by decide) (va_recv hK hP (ci := 1) (q0 := 1) rfl rfl)) rfl rfl hl.1 rfl (lv_room (Nat.le_of_ble_eq_true rfl)) dX9_appendBits_52 ⟨(Nat.le_of_ble_eq_true rfl), (Nat.le_of_ble_eq_true rfl)⟩) hP hD hS hA [1, 2] [0] rfl rfl (by decide) (by decide) (fun u9 H locs h hP hD hS => ?_)
        obtain ⟨bn_4, br_5⟩ := u9
        have hP : va_P (dC, dI) vwCl [(aX, .inr (8, [.ref aT, .ref aS, .ref aF, .ref aQ, .ref aW, .ref aP, .ref aB, .ref aR])), (aB, .inr (1, [.ref aBr, .int bn_4])), (aBr, .inl (cyI, 800, .inl br_5))] H := hP
        have hD : va_D A [(aX, .inr (8, [.ref aT, .ref aS, .ref aF, .ref aQ, .ref aW, .ref aP, .ref aB, .ref aR])), (aB, .inr (1, [.ref aBr, .int bn_4])), (aBr, .inl (cyI, 800, .inl br_5))] := hD
        dsimp only at h
        refine lv_aload_n hx hb dX9_appendBits_55 rfl (lv_at hl 0 rfl) ?_
        refine va_get (D := (dC, dI)) (ci := 8) (v := .ref aB) (C := RX9) (T := TX9) (N := 8) hx hb hts inX9_appendBits_wsX90 hown hK hP 0 rfl rfl 6 (by decide) (hts _ qX9_appendBits_2) (fun _ h9 => h9) rfl dX9_appendBits_56 ?_
        refine va_get (D := (dC, dI)) (ci := 1) (v := .int bn_4) (C := RX1) (T := TX1) (N := 2) hx hb hts inX9_appendBits_wsX10 hown hK hP 1 rfl rfl 1 (by decide) (hts _ qX9_appendBits_3) (fun _ h9 => h9) rfl dX9_appendBits_59 ?_
        have hP9 : va_P (dC, dI) vwCl [(aX, .inr (8, [.ref aT, .ref aS, .ref aF, .ref aQ, .ref aW, .ref aP, .ref aB, .ref aR])), (aB, .inr (1, [.ref aBr, .int bn_4])), (aBr, .inl (cyI, 800, .inl br_5))] _ := hP
        have hD9 : va_D A [(aX, .inr (8, [.ref aT, .ref aS, .ref aF, .ref aQ, .ref aW, .ref aP, .ref aB, .ref aR])), (aB, .inr (1, [.ref aBr, .int bn_4])), (aBr, .inl (cyI, 800, .inl br_5))] := hD
        refine vx_ret ?_
        refine W.widen (k := 1) (n := 6) (Nat.le_of_ble_eq_true rfl) (Nat.le_of_ble_eq_true rfl) ?_
        exact W.iret (v := bn_4) hx hb hr (fun t ht hW => ⟨⟨bn_4, (bn_4, br_5), rfl, h, by rw [ht]; exact hP9, va_K.moved hW.alike hK, hD9⟩, hS.F ht⟩) hS.2.2 dX9_appendBits_62
      · replace h := h.2 c_3
        obtain ⟨sa9, hstr⟩ := hZ.1 _ (List.mem_of_getElem? (i := 16) rfl)
        exact vx_throwS hx hb hlt hown xS_fit xN_fit (hts _ qX9_appendBits_4) (hts _ qX9_appendBits_5) hstr (vx_hat (fun w hw => hts w (inX9_appendBits_xS w hw)) xS_no (hZ.use _)) xS_ot hZ.2.1 hZ.2.2.1 hS (hl.1.trans hml.symm) dX9_appendBits_36 dX9_appendBits_39 dX9_appendBits_40 dX9_appendBits_42 dX9_appendBits_45 (fun x hx9 => (htab x hx9).elim) (Nat.le_of_ble_eq_true rfl) (Nat.le_of_ble_eq_true rfl) (Nat.le_of_ble_eq_true rfl) (Nat.le_of_ble_eq_true rfl) hlocks (wk_xc hP hD hK hS h) hS.2.2 (Nat.le_of_ble_eq_true rfl) (Nat.le_of_ble_eq_true rfl)
    · replace h := h.2 c_2
      obtain ⟨sa9, hstr⟩ := hZ.1 _ (List.mem_of_getElem? (i := 15) rfl)
      exact vx_throwS hx hb hlt hown xA_fit xN_fit (hts _ qX9_appendBits_0) (hts _ qX9_appendBits_1) hstr (vx_hat (fun w hw => hts w (inX9_appendBits_xA w hw)) xA_no (hZ.use _)) xA_ot hZ.2.1 hZ.2.2.1 hS (hl.1.trans hml.symm) dX9_appendBits_11 dX9_appendBits_14 dX9_appendBits_15 dX9_appendBits_17 dX9_appendBits_20 (fun x hx9 => (htab x hx9).elim) (Nat.le_of_ble_eq_true rfl) (Nat.le_of_ble_eq_true rfl) (Nat.le_of_ble_eq_true rfl) (Nat.le_of_ble_eq_true rfl) hlocks (wk_xc hP hD hK hS h) hS.2.2 (Nat.le_of_ble_eq_true rfl) (Nat.le_of_ble_eq_true rfl)
-- X9_cutBits
theorem qX9_cutBits_0 : Cond.classLink RX9 69 "java/lang/IllegalArgumentException" ∈ wsX9_cutBits := (List.mem_cons_of_mem _ (List.mem_append_left _ (List.mem_append_left _ (List.mem_append_left _ (List.mem_of_getElem? (i := 0) rfl)))))
theorem qX9_cutBits_1 : Cond.initialized "java/lang/IllegalArgumentException" ∈ wsX9_cutBits := (List.mem_cons_of_mem _ (List.mem_append_left _ (List.mem_append_left _ (List.mem_append_left _ (List.mem_of_getElem? (i := 1) rfl)))))
theorem qX9_cutBits_2 : Cond.fieldLink RX9 58 "MatchCoder" "bits" "LMatchCoder$Bits;" ∈ wsX9_cutBits := (List.mem_cons_of_mem _ (List.mem_append_left _ (List.mem_append_left _ (List.mem_append_left _ (List.mem_of_getElem? (i := 2) rfl)))))
theorem qX9_cutBits_3 : Cond.fieldLink RX9 200 "MatchCoder$Bits" "count" "I" ∈ wsX9_cutBits := (List.mem_cons_of_mem _ (List.mem_append_left _ (List.mem_append_left _ (List.mem_append_left _ (List.mem_of_getElem? (i := 3) rfl)))))
theorem inX9_cutBits_xA : ∀ w ∈ (vx_atS RX9 73 "java/lang/IllegalArgumentException" ["java/lang/RuntimeException", "java/lang/Exception"]).filter goodWord, w ∈ wsX9_cutBits := fun _ h => List.mem_cons_of_mem _ (List.mem_append_right _ h)
theorem inX9_cutBits_wsX90 : ∀ w ∈ wsX90, w ∈ wsX9_cutBits := fun _ h => List.mem_cons_of_mem _ (List.mem_append_left _ (List.mem_append_left _ (List.mem_append_right _ h)))
theorem inX9_cutBits_wsX10 : ∀ w ∈ wsX10, w ∈ wsX9_cutBits := fun _ h => List.mem_cons_of_mem _ (List.mem_append_left _ (List.mem_append_right _ h))
def wpX9_cutBits (bn : Int32) (v1 : Int32) (post : Int32 → Int32 → Prop) (px : String → Prop) : Prop := (v1 < 0 → (px xA)) ∧ (¬ v1 < 0 → ((v1 ≤ bn → (post (bn - v1) (bn - v1))) ∧ (¬ v1 ≤ bn → (px xA))))
set_option maxHeartbeats 4000000 in
set_option maxRecDepth 100000 in
theorem mtX9_cutBits (l : Launch) (hlt : l.stackTraces = false) (dC : Nat → ClassId) (dI : Nat → Nat → Nat) (cyI : ClassId) {aX aT aS aF aQ aW aP aB aBr aR : Nat} {sz : Nat} {bn : Int32} {v1 : Int32} {post : Int32 → Int32 → Prop} {px : String → Prop} (h : wpX9_cutBits bn v1 post px) : vx_Met l yX9_cutBits wsX9_cutBits ({ frames := 6, cells := 1, slots := 6, locals := 82 }) (va_Pc [.ref aX, .int v1] (wk_BX (dC, dI) [(cyI, .int)] [(aX, .inr (8, [.ref aT, .ref aS, .ref aF, .ref aQ, .ref aW, .ref aP, .ref aB, .ref aR])), (aB, .inr (1, [.ref aBr, .int bn]))] sz)) (va_Qi (fun (r : Int32) (u : Int32) => post r u) (wk_C (dC, dI) [(cyI, .int)] (va_A [(aX, .inr (8, [.ref aT, .ref aS, .ref aF, .ref aQ, .ref aW, .ref aP, .ref aB, .ref aR])), (aB, .inr (1, [.ref aBr, .int bn]))] sz) (fun (u : Int32) => [(aX, .inr (8, [.ref aT, .ref aS, .ref aF, .ref aQ, .ref aW, .ref aP, .ref aB, .ref aR])), (aB, .inr (1, [.ref aBr, .int (u)]))])) (va_A [(aX, .inr (8, [.ref aT, .ref aS, .ref aF, .ref aQ, .ref aW, .ref aP, .ref aB, .ref aR])), (aB, .inr (1, [.ref aBr, .int bn]))] sz)) (vx_X px (wk_X (dC, dI) [(cyI, .int)] (va_A [(aX, .inr (8, [.ref aT, .ref aS, .ref aF, .ref aQ, .ref aW, .ref aP, .ref aB, .ref aR])), (aB, .inr (1, [.ref aBr, .int bn]))] sz) [(aX, .inr (8, [.ref aT, .ref aS, .ref aF, .ref aQ, .ref aW, .ref aP, .ref aB, .ref aR])), (aB, .inr (1, [.ref aBr, .int bn]))]) (va_A [(aX, .inr (8, [.ref aT, .ref aS, .ref aF, .ref aQ, .ref aW, .ref aP, .ref aB, .ref aR])), (aB, .inr (1, [.ref aBr, .int bn]))] sz)) 1 6 (va_A [(aX, .inr (8, [.ref aT, .ref aS, .ref aF, .ref aQ, .ref aW, .ref aP, .ref aB, .ref aR])), (aB, .inr (1, [.ref aBr, .int bn]))] sz) := by
  refine vx_ofW (cc := cX9_cutBits) (maxL := 2) (ret := (some .int)) (by decide) rfl ?_
  intro p e s m args below meth c s₁ B hml htab hv
  obtain ⟨rfl, ⟨hsz, hP, hK, hD0⟩, hZ⟩ := hv
  have hx := B.exec
  have hb := B.bytes
  have hr := B.returns
  have hts := atoms_spec (ws := wsX9_cutBits) B.pre
  have hown : s.vm.findClass RX9 = some m.cls := findClass_of_methodNamed B.named
  have hlocks := B.notSynchronized
  subst hsz
  have hD := hD0.self (sz := s.heap.size)
  generalize hAe : va_A [(aX, .inr (8, [.ref aT, .ref aS, .ref aF, .ref aQ, .ref aW, .ref aP, .ref aB, .ref aR])), (aB, .inr (1, [.ref aBr, .int bn]))] s.heap.size = A at hD hZ ⊢
  have hA : ∀ q : Nat, s.heap.size ≤ q → A q := fun q h => by rw [← hAe]; exact Or.inr h
  have hS : va_S A s.heap s.heap [] := va_S.rf
  have hP : va_P (dC, dI) vwCl [(aX, .inr (8, [.ref aT, .ref aS, .ref aF, .ref aQ, .ref aW, .ref aP, .ref aB, .ref aR])), (aB, .inr (1, [.ref aBr, .int bn]))] s.heap := hP
  have hl := lv_entry ([.ref aX, .int v1]) (n := 2) (Nat.le_of_ble_eq_true rfl)
  rw [lg_entry_eq]
  generalize (lg_sl ([.ref aX, .int v1]) ++ List.replicate (2 - (lg_sl ([.ref aX, .int v1])).length) Slot.unset).toArray = ls at hl ⊢
  have hl : lv_has ls 2 [(0, .ref aX), (1, .int v1)] := hl
  have C0 : CallFix p m c cX9_cutBits 2 s ([.ref aX, .int v1] : List Value).toArray wsX9_cutBits RX9 := ⟨hx, hb, hml, hown, hts⟩
  unfold wpX9_cutBits at h
  refine lv_iload_n hx hb dX9_cutBits_0 rfl (lv_at hl 1 rfl) ?_
  refine lv_if_lt (tgt := 15) hx hb dX9_cutBits_1 (by decide) (fun c_1 => ?_) (fun c_1 => ?_)
  · replace h := h.1 c_1
    obtain ⟨sa9, hstr⟩ := hZ.1 _ (List.mem_of_getElem? (i := 17) rfl)
    exact vx_throwS hx hb hlt hown xA_fit xN_fit (hts _ qX9_cutBits_0) (hts _ qX9_cutBits_1) hstr (vx_hat (fun w hw => hts w (inX9_cutBits_xA w hw)) xA_no (hZ.use _)) xA_ot hZ.2.1 hZ.2.2.1 hS (hl.1.trans hml.symm) dX9_cutBits_15 dX9_cutBits_18 dX9_cutBits_19 dX9_cutBits_21 dX9_cutBits_24 (fun x hx9 => (htab x hx9).elim) (Nat.le_of_ble_eq_true rfl) (Nat.le_of_ble_eq_true rfl) (Nat.le_of_ble_eq_true rfl) (Nat.le_of_ble_eq_true rfl) hlocks (wk_xc hP hD hK hS h) hS.2.2 (Nat.le_of_ble_eq_true rfl) (Nat.le_of_ble_eq_true rfl)
  · replace h := h.2 c_1
    refine lv_iload_n hx hb dX9_cutBits_4 rfl (lv_at hl 1 rfl) ?_
    refine lv_aload_n hx hb dX9_cutBits_5 rfl (lv_at hl 0 rfl) ?_
    refine va_get (D := (dC, dI)) (ci := 8) (v := .ref aB) (C := RX9) (T := TX9) (N := 8) hx hb hts inX9_cutBits_wsX90 hown hK hP 0 rfl rfl 6 (by decide) (hts _ qX9_cutBits_2) (fun _ h9 => h9) rfl dX9_cutBits_6 ?_
    refine va_get (D := (dC, dI)) (ci := 1) (v := .int bn) (C := RX1) (T := TX1) (N := 2) hx hb hts inX9_cutBits_wsX10 hown hK hP 1 rfl rfl 1 (by decide) (hts _ qX9_cutBits_3) (fun _ h9 => h9) rfl dX9_cutBits_9 ?_
    refine lv_icmp_le (tgt := 25) hx hb dX9_cutBits_12 (by decide) (fun c_2 => ?_) (fun c_2 => ?_)
    · replace h := h.1 c_2
      refine lv_aload_n hx hb dX9_cutBits_25 rfl (lv_at hl 0 rfl) ?_
      refine va_get (D := (dC, dI)) (ci := 8) (v := .ref aB) (C := RX9) (T := TX9) (N := 8) hx hb hts inX9_cutBits_wsX90 hown hK hP 0 rfl rfl 6 (by decide) (hts _ qX9_cutBits_2) (fun _ h9 => h9) rfl dX9_cutBits_26 ?_
      refine lv_dup hx hb dX9_cutBits_29 rfl ?_
      refine va_get (D := (dC, dI)) (ci := 1) (v := .int bn) (C := RX1) (T := TX1) (N := 2) hx hb hts inX9_cutBits_wsX10 hown hK hP 1 rfl rfl 1 (by decide) (hts _ qX9_cutBits_3) (fun _ h9 => h9) rfl dX9_cutBits_30 ?_
      refine lv_iload_n hx hb dX9_cutBits_33 rfl (lv_at hl 1 rfl) ?_
      refine lv_isub hx hb dX9_cutBits_34 ?_
      refine va_put (D := (dC, dI)) (ci := 1) (v := .int (bn - v1)) (ty := .int) (C := RX1) (T := TX1) (N := 2) hx hb hts inX9_cutBits_wsX10 tyX1 tyX1_ok nmX1 hown hK hP hD hS 1 rfl rfl 1 (by decide) (hts _ qX9_cutBits_3) (fun _ h9 => h9) rfl (by decide +kernel) rfl rfl (Nat.le_of_ble_eq_true rfl) dX9_cutBits_35 (fun H locs hP hD hS => ?_)
      have hP : va_P (dC, dI) vwCl [(aX, .inr (8, [.ref aT, .ref aS, .ref aF, .ref aQ, .ref aW, .ref aP, .ref aB, .ref aR])), (aB, .inr (1, [.ref aBr, .int (bn - v1)]))] H := hP
      have hD : va_D A [(aX, .inr (8, [.ref aT, .ref aS, .ref aF, .ref aQ, .ref aW, .ref aP, .ref aB, .ref aR])), (aB, .inr (1, [.ref aBr, .int (bn - v1)]))] := hD
      refine lv_aload_n hx hb dX9_cutBits_38 rfl (lv_at hl 0 rfl) ?_
      refine va_get (D := (dC, dI)) (ci := 8) (v := .ref aB) (C := RX9) (T := TX9) (N := 8) hx hb hts inX9_cutBits_wsX90 hown hK hP 0 rfl rfl 6 (by decide) (hts _ qX9_cutBits_2) (fun _ h9 => h9) rfl dX9_cutBits_39 ?_
      refine va_get (D := (dC, dI)) (ci := 1) (v := .int (bn - v1)) (C := RX1) (T := TX1) (N := 2) hx hb hts inX9_cutBits_wsX10 hown hK hP 1 rfl rfl 1 (by decide) (hts _ qX9_cutBits_3) (fun _ h9 => h9) rfl dX9_cutBits_42 ?_
      have hP9 : va_P (dC, dI) vwCl [(aX, .inr (8, [.ref aT, .ref aS, .ref aF, .ref aQ, .ref aW, .ref aP, .ref aB, .ref aR])), (aB, .inr (1, [.ref aBr, .int (bn - v1)]))] _ := hP
      have hD9 : va_D A [(aX, .inr (8, [.ref aT, .ref aS, .ref aF, .ref aQ, .ref aW, .ref aP, .ref aB, .ref aR])), (aB, .inr (1, [.ref aBr, .int (bn - v1)]))] := hD
      refine vx_ret ?_
      refine W.widen (k := 1) (n := 6) (Nat.le_of_ble_eq_true rfl) (Nat.le_of_ble_eq_true rfl) ?_
      exact W.iret (v := bn - v1) hx hb hr (fun t ht hW => ⟨⟨bn - v1, bn - v1, rfl, h, by rw [ht]; exact hP9, va_K.moved hW.alike hK, hD9⟩, hS.F ht⟩) hS.2.2 dX9_cutBits_45
    · replace h := h.2 c_2
      obtain ⟨sa9, hstr⟩ := hZ.1 _ (List.mem_of_getElem? (i := 17) rfl)
      exact vx_throwS hx hb hlt hown xA_fit xN_fit (hts _ qX9_cutBits_0) (hts _ qX9_cutBits_1) hstr (vx_hat (fun w hw => hts w (inX9_cutBits_xA w hw)) xA_no (hZ.use _)) xA_ot hZ.2.1 hZ.2.2.1 hS (hl.1.trans hml.symm) dX9_cutBits_15 dX9_cutBits_18 dX9_cutBits_19 dX9_cutBits_21 dX9_cutBits_24 (fun x hx9 => (htab x hx9).elim) (Nat.le_of_ble_eq_true rfl) (Nat.le_of_ble_eq_true rfl) (Nat.le_of_ble_eq_true rfl) (Nat.le_of_ble_eq_true rfl) hlocks (wk_xc hP hD hK hS h) hS.2.2 (Nat.le_of_ble_eq_true rfl) (Nat.le_of_ble_eq_true rfl)
-- X9_output
theorem qX9_output_0 : Cond.classLink RX9 105 "java/lang/IndexOutOfBoundsException" ∈ wsX9_output := (List.mem_cons_of_mem _ (List.mem_append_left _ (List.mem_append_left _ (List.mem_append_left _ (List.mem_of_getElem? (i := 0) rfl)))))
theorem qX9_output_1 : Cond.initialized "java/lang/IndexOutOfBoundsException" ∈ wsX9_output := (List.mem_cons_of_mem _ (List.mem_append_left _ (List.mem_append_left _ (List.mem_append_left _ (List.mem_of_getElem? (i := 1) rfl)))))
theorem qX9_output_2 : Cond.fieldLink RX9 65 "MatchCoder" "reading" "LMatchCoder$Reading;" ∈ wsX9_output := (List.mem_cons_of_mem _ (List.mem_append_left _ (List.mem_append_left _ (List.mem_append_left _ (List.mem_of_getElem? (i := 2) rfl)))))
theorem qX9_output_3 : Cond.fieldLink RX9 227 "MatchCoder$Reading" "count" "I" ∈ wsX9_output := (List.mem_cons_of_mem _ (List.mem_append_left _ (List.mem_append_left _ (List.mem_append_left _ (List.mem_of_getElem? (i := 3) rfl)))))
theorem qX9_output_4 : Cond.fieldLink RX9 228 "MatchCoder$Reading" "bytes" "[I" ∈ wsX9_output := (List.mem_cons_of_mem _ (List.mem_append_left _ (List.mem_append_left _ (List.mem_append_left _ (List.mem_of_getElem? (i := 4) rfl)))))
theorem inX9_output_xI : ∀ w ∈ (vx_atS RX9 109 "java/lang/IndexOutOfBoundsException" ["java/lang/RuntimeException", "java/lang/Exception"]).filter goodWord, w ∈ wsX9_output := fun _ h => List.mem_cons_of_mem _ (List.mem_append_right _ h)
theorem inX9_output_wsX90 : ∀ w ∈ wsX90, w ∈ wsX9_output := fun _ h => List.mem_cons_of_mem _ (List.mem_append_left _ (List.mem_append_left _ (List.mem_append_right _ h)))
theorem inX9_output_wsX60 : ∀ w ∈ wsX60, w ∈ wsX9_output := fun _ h => List.mem_cons_of_mem _ (List.mem_append_left _ (List.mem_append_right _ h))
def wpX9_output (rn : Int32) (rb : Nat → Int32) (v1 : Int32) (post : Int32 → Prop) (px : String → Prop) : Prop := (v1 < 0 → (px xI)) ∧ (¬ v1 < 0 → ((v1 < rn → (vp_in v1 200 ∧ (post (rb v1.toNatClampNeg)))) ∧ (¬ v1 < rn → (px xI))))
set_option maxHeartbeats 4000000 in
set_option maxRecDepth 100000 in
theorem mtX9_output (l : Launch) (hlt : l.stackTraces = false) (dC : Nat → ClassId) (dI : Nat → Nat → Nat) (cyI : ClassId) {aX aT aS aF aQ aW aP aB aR aRb : Nat} {sz : Nat} {rn : Int32} {rf : Int32} {rx : Int32} {rp : Int32} {rb : Nat → Int32} {v1 : Int32} {post : Int32 → Prop} {px : String → Prop} (h : wpX9_output rn rb v1 post px) : vx_Met l yX9_output wsX9_output ({ frames := 6, cells := 1, slots := 6, locals := 82 }) (va_Pc [.ref aX, .int v1] (wk_BX (dC, dI) [(cyI, .int)] [(aX, .inr (8, [.ref aT, .ref aS, .ref aF, .ref aQ, .ref aW, .ref aP, .ref aB, .ref aR])), (aR, .inr (5, [.ref aRb, .int rn, .int rf, .int rx, .int rp])), (aRb, .inl (cyI, 200, .inl rb))] sz)) (va_Qi (fun (r : Int32) (u : Unit) => post r ) (wk_C (dC, dI) [(cyI, .int)] (va_A [(aX, .inr (8, [.ref aT, .ref aS, .ref aF, .ref aQ, .ref aW, .ref aP, .ref aB, .ref aR])), (aR, .inr (5, [.ref aRb, .int rn, .int rf, .int rx, .int rp])), (aRb, .inl (cyI, 200, .inl rb))] sz) (fun (u : Unit) => [(aX, .inr (8, [.ref aT, .ref aS, .ref aF, .ref aQ, .ref aW, .ref aP, .ref aB, .ref aR])), (aR, .inr (5, [.ref aRb, .int rn, .int rf, .int rx, .int rp])), (aRb, .inl (cyI, 200, .inl rb))])) (va_A [(aX, .inr (8, [.ref aT, .ref aS, .ref aF, .ref aQ, .ref aW, .ref aP, .ref aB, .ref aR])), (aR, .inr (5, [.ref aRb, .int rn, .int rf, .int rx, .int rp])), (aRb, .inl (cyI, 200, .inl rb))] sz)) (vx_X px (wk_X (dC, dI) [(cyI, .int)] (va_A [(aX, .inr (8, [.ref aT, .ref aS, .ref aF, .ref aQ, .ref aW, .ref aP, .ref aB, .ref aR])), (aR, .inr (5, [.ref aRb, .int rn, .int rf, .int rx, .int rp])), (aRb, .inl (cyI, 200, .inl rb))] sz) [(aX, .inr (8, [.ref aT, .ref aS, .ref aF, .ref aQ, .ref aW, .ref aP, .ref aB, .ref aR])), (aR, .inr (5, [.ref aRb, .int rn, .int rf, .int rx, .int rp])), (aRb, .inl (cyI, 200, .inl rb))]) (va_A [(aX, .inr (8, [.ref aT, .ref aS, .ref aF, .ref aQ, .ref aW, .ref aP, .ref aB, .ref aR])), (aR, .inr (5, [.ref aRb, .int rn, .int rf, .int rx, .int rp])), (aRb, .inl (cyI, 200, .inl rb))] sz)) 1 6 (va_A [(aX, .inr (8, [.ref aT, .ref aS, .ref aF, .ref aQ, .ref aW, .ref aP, .ref aB, .ref aR])), (aR, .inr (5, [.ref aRb, .int rn, .int rf, .int rx, .int rp])), (aRb, .inl (cyI, 200, .inl rb))] sz) := by
  refine vx_ofW (cc := cX9_output) (maxL := 2) (ret := (some .int)) (by decide) rfl ?_
  intro p e s m args below meth c s₁ B hml htab hv
  obtain ⟨rfl, ⟨hsz, hP, hK, hD0⟩, hZ⟩ := hv
  have hx := B.exec
  have hb := B.bytes
  have hr := B.returns
  have hts := atoms_spec (ws := wsX9_output) B.pre
  have hown : s.vm.findClass RX9 = some m.cls := findClass_of_methodNamed B.named
  have hlocks := B.notSynchronized
  subst hsz
  have hD := hD0.self (sz := s.heap.size)
  generalize hAe : va_A [(aX, .inr (8, [.ref aT, .ref aS, .ref aF, .ref aQ, .ref aW, .ref aP, .ref aB, .ref aR])), (aR, .inr (5, [.ref aRb, .int rn, .int rf, .int rx, .int rp])), (aRb, .inl (cyI, 200, .inl rb))] s.heap.size = A at hD hZ ⊢
  have hA : ∀ q : Nat, s.heap.size ≤ q → A q := fun q h => by rw [← hAe]; exact Or.inr h
  have hS : va_S A s.heap s.heap [] := va_S.rf
  have hP : va_P (dC, dI) vwCl [(aX, .inr (8, [.ref aT, .ref aS, .ref aF, .ref aQ, .ref aW, .ref aP, .ref aB, .ref aR])), (aR, .inr (5, [.ref aRb, .int rn, .int rf, .int rx, .int rp])), (aRb, .inl (cyI, 200, .inl rb))] s.heap := hP
  have hl := lv_entry ([.ref aX, .int v1]) (n := 2) (Nat.le_of_ble_eq_true rfl)
  rw [lg_entry_eq]
  generalize (lg_sl ([.ref aX, .int v1]) ++ List.replicate (2 - (lg_sl ([.ref aX, .int v1])).length) Slot.unset).toArray = ls at hl ⊢
  have hl : lv_has ls 2 [(0, .ref aX), (1, .int v1)] := hl
  have C0 : CallFix p m c cX9_output 2 s ([.ref aX, .int v1] : List Value).toArray wsX9_output RX9 := ⟨hx, hb, hml, hown, hts⟩
  unfold wpX9_output at h
  refine lv_iload_n hx hb dX9_output_0 rfl (lv_at hl 1 rfl) ?_
  refine lv_if_lt (tgt := 15) hx hb dX9_output_1 (by decide) (fun c_1 => ?_) (fun c_1 => ?_)
  · replace h := h.1 c_1
    obtain ⟨sa9, hstr⟩ := hZ.1 _ (List.mem_of_getElem? (i := 4) rfl)
    exact vx_throwS hx hb hlt hown xI_fit xN_fit (hts _ qX9_output_0) (hts _ qX9_output_1) hstr (vx_hat (fun w hw => hts w (inX9_output_xI w hw)) xI_no (hZ.use _)) xI_ot hZ.2.1 hZ.2.2.1 hS (hl.1.trans hml.symm) dX9_output_15 dX9_output_18 dX9_output_19 dX9_output_21 dX9_output_24 (fun x hx9 => (htab x hx9).elim) (Nat.le_of_ble_eq_true rfl) (Nat.le_of_ble_eq_true rfl) (Nat.le_of_ble_eq_true rfl) (Nat.le_of_ble_eq_true rfl) hlocks (wk_xc hP hD hK hS h) hS.2.2 (Nat.le_of_ble_eq_true rfl) (Nat.le_of_ble_eq_true rfl)
  · replace h := h.2 c_1
    refine lv_iload_n hx hb dX9_output_4 rfl (lv_at hl 1 rfl) ?_
    refine lv_aload_n hx hb dX9_output_5 rfl (lv_at hl 0 rfl) ?_
    refine va_get (D := (dC, dI)) (ci := 8) (v := .ref aR) (C := RX9) (T := TX9) (N := 8) hx hb hts inX9_output_wsX90 hown hK hP 0 rfl rfl 7 (by decide) (hts _ qX9_output_2) (fun _ h9 => h9) rfl dX9_output_6 ?_
    refine va_get (D := (dC, dI)) (ci := 5) (v := .int rn) (C := RX6) (T := TX6) (N := 5) hx hb hts inX9_output_wsX60 hown hK hP 1 rfl rfl 1 (by decide) (hts _ qX9_output_3) (fun _ h9 => h9) rfl dX9_output_9 ?_
    refine lv_icmp_lt (tgt := 25) hx hb dX9_output_12 (by decide) (fun c_2 => ?_) (fun c_2 => ?_)
    · replace h := h.1 c_2
      refine lv_aload_n hx hb dX9_output_25 rfl (lv_at hl 0 rfl) ?_
      refine va_get (D := (dC, dI)) (ci := 8) (v := .ref aR) (C := RX9) (T := TX9) (N := 8) hx hb hts inX9_output_wsX90 hown hK hP 0 rfl rfl 7 (by decide) (hts _ qX9_output_2) (fun _ h9 => h9) rfl dX9_output_26 ?_
      refine va_get (D := (dC, dI)) (ci := 5) (v := .ref aRb) (C := RX6) (T := TX6) (N := 5) hx hb hts inX9_output_wsX60 hown hK hP 1 rfl rfl 0 (by decide) (hts _ qX9_output_4) (fun _ h9 => h9) rfl dX9_output_29 ?_
      refine lv_iload_n hx hb dX9_output_32 rfl (lv_at hl 1 rfl) ?_
      obtain ⟨hi_3, h⟩ := h
      refine va_iald hx hb hK hP 2 0 rfl rfl hi_3 dX9_output_33 ?_
      have hP9 : va_P (dC, dI) vwCl [(aX, .inr (8, [.ref aT, .ref aS, .ref aF, .ref aQ, .ref aW, .ref aP, .ref aB, .ref aR])), (aR, .inr (5, [.ref aRb, .int rn, .int rf, .int rx, .int rp])), (aRb, .inl (cyI, 200, .inl rb))] _ := hP
      have hD9 : va_D A [(aX, .inr (8, [.ref aT, .ref aS, .ref aF, .ref aQ, .ref aW, .ref aP, .ref aB, .ref aR])), (aR, .inr (5, [.ref aRb, .int rn, .int rf, .int rx, .int rp])), (aRb, .inl (cyI, 200, .inl rb))] := hD
      refine vx_ret ?_
      refine W.widen (k := 1) (n := 6) (Nat.le_of_ble_eq_true rfl) (Nat.le_of_ble_eq_true rfl) ?_
      exact W.iret (v := rb v1.toNatClampNeg) hx hb hr (fun t ht hW => ⟨⟨rb v1.toNatClampNeg, (), rfl, h, by rw [ht]; exact hP9, va_K.moved hW.alike hK, hD9⟩, hS.F ht⟩) hS.2.2 dX9_output_34
    · replace h := h.2 c_2
      obtain ⟨sa9, hstr⟩ := hZ.1 _ (List.mem_of_getElem? (i := 4) rfl)
      exact vx_throwS hx hb hlt hown xI_fit xN_fit (hts _ qX9_output_0) (hts _ qX9_output_1) hstr (vx_hat (fun w hw => hts w (inX9_output_xI w hw)) xI_no (hZ.use _)) xI_ot hZ.2.1 hZ.2.2.1 hS (hl.1.trans hml.symm) dX9_output_15 dX9_output_18 dX9_output_19 dX9_output_21 dX9_output_24 (fun x hx9 => (htab x hx9).elim) (Nat.le_of_ble_eq_true rfl) (Nat.le_of_ble_eq_true rfl) (Nat.le_of_ble_eq_true rfl) (Nat.le_of_ble_eq_true rfl) hlocks (wk_xc hP hD hK hS h) hS.2.2 (Nat.le_of_ble_eq_true rfl) (Nat.le_of_ble_eq_true rfl)
