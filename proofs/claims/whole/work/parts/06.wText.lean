-- X2_numberBits
def wpX2_numberBits (v0 : Int32) (post : Int32 → Prop) : Prop := (16 ≤ v0 → ((64 ≤ v0 → ((128 ≤ v0 → (post 15)) ∧ (¬ 128 ≤ v0 → (post 13)))) ∧ (¬ 64 ≤ v0 → ((32 ≤ v0 → (post 11)) ∧ (¬ 32 ≤ v0 → (post 9)))))) ∧ (¬ 16 ≤ v0 → ((4 ≤ v0 → ((8 ≤ v0 → (post 7)) ∧ (¬ 8 ≤ v0 → (post 5)))) ∧ (¬ 4 ≤ v0 → ((2 ≤ v0 → (post 3)) ∧ (¬ 2 ≤ v0 → (post 1))))))
set_option maxHeartbeats 4000000 in
set_option maxRecDepth 100000 in
theorem mtX2_numberBits (l : Launch) (dC : Nat → ClassId) (dI : Nat → Nat → Nat) (cyI : ClassId) {sz : Nat} {v0 : Int32} {post : Int32 → Prop} (h : wpX2_numberBits v0 post) : Met l yX2_numberBits wsX2_numberBits ({ frames := 0, cells := 0, slots := 0, locals := 0 }) (va_Pc [.int v0] (wk_B (dC, dI) [(cyI, .int)] [] sz)) (va_Qi (fun (r : Int32) (u : Unit) => post r ) (wk_C (dC, dI) [(cyI, .int)] (va_A [] sz) (fun (u : Unit) => [])) (va_A [] sz)) 0 0 (va_A [] sz) := by
  refine Met.ofW (cc := cX2_numberBits) (maxL := 1) (ret := (some .int)) (by decide) rfl ?_
  intro p e s m args below meth c s₁ B hml hv
  obtain ⟨rfl, hsz, hP, hK, hD0⟩ := hv
  have hx := B.exec
  have hb := B.bytes
  have hr := B.returns
  have hts := atoms_spec (ws := wsX2_numberBits) B.pre
  have hown : s.vm.findClass RX2 = some m.cls := findClass_of_methodNamed B.named
  have hlocks := B.notSynchronized
  subst hsz
  have hD := hD0.self (sz := s.heap.size)
  generalize hAe : va_A [] s.heap.size = A at hD ⊢
  have hA : ∀ q : Nat, s.heap.size ≤ q → A q := fun q h => by rw [← hAe]; exact Or.inr h
  have hS : va_S A s.heap s.heap [] := va_S.rf
  have hP : va_P (dC, dI) vwCl [] s.heap := hP
  have hl := lv_entry ([.int v0]) (n := 1) (Nat.le_of_ble_eq_true rfl)
  rw [lg_entry_eq]
  generalize (lg_sl ([.int v0]) ++ List.replicate (1 - (lg_sl ([.int v0])).length) Slot.unset).toArray = ls at hl ⊢
  have hl : lv_has ls 1 [(0, .int v0)] := hl
  have C0 : CallFix p m c cX2_numberBits 1 s ([.int v0] : List Value).toArray wsX2_numberBits RX2 := ⟨hx, hb, hml, hown, hts⟩
  unfold wpX2_numberBits at h
  refine lv_iload_n hx hb dX2_numberBits_0 rfl (lv_at hl 0 rfl) ?_
  refine lv_bipush (v := 16) hx hb dX2_numberBits_1 (by decide) ?_
  refine lv_icmp_ge (tgt := 37) hx hb dX2_numberBits_3 (by decide) (fun c_1 => ?_) (fun c_1 => ?_)
  · replace h := h.1 c_1
    refine lv_iload_n hx hb dX2_numberBits_37 rfl (lv_at hl 0 rfl) ?_
    refine lv_bipush (v := 64) hx hb dX2_numberBits_38 (by decide) ?_
    refine lv_icmp_ge (tgt := 59) hx hb dX2_numberBits_40 (by decide) (fun c_2 => ?_) (fun c_2 => ?_)
    · replace h := h.1 c_2
      refine lv_iload_n hx hb dX2_numberBits_59 rfl (lv_at hl 0 rfl) ?_
      refine lv_sipush (v := 128) hx hb dX2_numberBits_60 (by decide) ?_
      refine lv_icmp_ge (tgt := 71) hx hb dX2_numberBits_63 (by decide) (fun c_3 => ?_) (fun c_3 => ?_)
      · replace h := h.1 c_3
        refine lv_bipush (v := 15) hx hb dX2_numberBits_71 (by decide) ?_
        have hP9 : va_P (dC, dI) vwCl [] _ := hP
        have hD9 : va_D A [] := hD
        exact W.iret (v := 15) hx hb hr (fun t ht hW => ⟨⟨15, (), rfl, h, by rw [ht]; exact hP9, va_K.moved hW.alike hK, hD9⟩, hS.F ht⟩) hS.2.2 dX2_numberBits_73
      · replace h := h.2 c_3
        refine lv_bipush (v := 13) hx hb dX2_numberBits_66 (by decide) ?_
        refine lv_goto (tgt := 73) hx hb dX2_numberBits_68 (by decide) ?_
        have hP9 : va_P (dC, dI) vwCl [] _ := hP
        have hD9 : va_D A [] := hD
        exact W.iret (v := 13) hx hb hr (fun t ht hW => ⟨⟨13, (), rfl, h, by rw [ht]; exact hP9, va_K.moved hW.alike hK, hD9⟩, hS.F ht⟩) hS.2.2 dX2_numberBits_73
    · replace h := h.2 c_2
      refine lv_iload_n hx hb dX2_numberBits_43 rfl (lv_at hl 0 rfl) ?_
      refine lv_bipush (v := 32) hx hb dX2_numberBits_44 (by decide) ?_
      refine lv_icmp_ge (tgt := 54) hx hb dX2_numberBits_46 (by decide) (fun c_4 => ?_) (fun c_4 => ?_)
      · replace h := h.1 c_4
        refine lv_bipush (v := 11) hx hb dX2_numberBits_54 (by decide) ?_
        refine lv_goto (tgt := 73) hx hb dX2_numberBits_56 (by decide) ?_
        have hP9 : va_P (dC, dI) vwCl [] _ := hP
        have hD9 : va_D A [] := hD
        exact W.iret (v := 11) hx hb hr (fun t ht hW => ⟨⟨11, (), rfl, h, by rw [ht]; exact hP9, va_K.moved hW.alike hK, hD9⟩, hS.F ht⟩) hS.2.2 dX2_numberBits_73
      · replace h := h.2 c_4
        refine lv_bipush (v := 9) hx hb dX2_numberBits_49 (by decide) ?_
        refine lv_goto (tgt := 73) hx hb dX2_numberBits_51 (by decide) ?_
        have hP9 : va_P (dC, dI) vwCl [] _ := hP
        have hD9 : va_D A [] := hD
        exact W.iret (v := 9) hx hb hr (fun t ht hW => ⟨⟨9, (), rfl, h, by rw [ht]; exact hP9, va_K.moved hW.alike hK, hD9⟩, hS.F ht⟩) hS.2.2 dX2_numberBits_73
  · replace h := h.2 c_1
    refine lv_iload_n hx hb dX2_numberBits_6 rfl (lv_at hl 0 rfl) ?_
    refine lv_iconst (v := 4) hx hb dX2_numberBits_7 (by decide) ?_
    refine lv_icmp_ge (tgt := 24) hx hb dX2_numberBits_8 (by decide) (fun c_5 => ?_) (fun c_5 => ?_)
    · replace h := h.1 c_5
      refine lv_iload_n hx hb dX2_numberBits_24 rfl (lv_at hl 0 rfl) ?_
      refine lv_bipush (v := 8) hx hb dX2_numberBits_25 (by decide) ?_
      refine lv_icmp_ge (tgt := 34) hx hb dX2_numberBits_27 (by decide) (fun c_6 => ?_) (fun c_6 => ?_)
      · replace h := h.1 c_6
        refine lv_bipush (v := 7) hx hb dX2_numberBits_34 (by decide) ?_
        have hP9 : va_P (dC, dI) vwCl [] _ := hP
        have hD9 : va_D A [] := hD
        exact W.iret (v := 7) hx hb hr (fun t ht hW => ⟨⟨7, (), rfl, h, by rw [ht]; exact hP9, va_K.moved hW.alike hK, hD9⟩, hS.F ht⟩) hS.2.2 dX2_numberBits_36
      · replace h := h.2 c_6
        refine lv_iconst (v := 5) hx hb dX2_numberBits_30 (by decide) ?_
        refine lv_goto (tgt := 36) hx hb dX2_numberBits_31 (by decide) ?_
        have hP9 : va_P (dC, dI) vwCl [] _ := hP
        have hD9 : va_D A [] := hD
        exact W.iret (v := 5) hx hb hr (fun t ht hW => ⟨⟨5, (), rfl, h, by rw [ht]; exact hP9, va_K.moved hW.alike hK, hD9⟩, hS.F ht⟩) hS.2.2 dX2_numberBits_36
    · replace h := h.2 c_5
      refine lv_iload_n hx hb dX2_numberBits_11 rfl (lv_at hl 0 rfl) ?_
      refine lv_iconst (v := 2) hx hb dX2_numberBits_12 (by decide) ?_
      refine lv_icmp_ge (tgt := 20) hx hb dX2_numberBits_13 (by decide) (fun c_7 => ?_) (fun c_7 => ?_)
      · replace h := h.1 c_7
        refine lv_iconst (v := 3) hx hb dX2_numberBits_20 (by decide) ?_
        refine lv_goto (tgt := 36) hx hb dX2_numberBits_21 (by decide) ?_
        have hP9 : va_P (dC, dI) vwCl [] _ := hP
        have hD9 : va_D A [] := hD
        exact W.iret (v := 3) hx hb hr (fun t ht hW => ⟨⟨3, (), rfl, h, by rw [ht]; exact hP9, va_K.moved hW.alike hK, hD9⟩, hS.F ht⟩) hS.2.2 dX2_numberBits_36
      · replace h := h.2 c_7
        refine lv_iconst (v := 1) hx hb dX2_numberBits_16 (by decide) ?_
        refine lv_goto (tgt := 36) hx hb dX2_numberBits_17 (by decide) ?_
        have hP9 : va_P (dC, dI) vwCl [] _ := hP
        have hD9 : va_D A [] := hD
        exact W.iret (v := 1) hx hb hr (fun t ht hW => ⟨⟨1, (), rfl, h, by rw [ht]; exact hP9, va_K.moved hW.alike hK, hD9⟩, hS.F ht⟩) hS.2.2 dX2_numberBits_36
-- X2_matchBits
def wpX2_matchBits (v0 : Int32) (v1 : Int32) (post : Int32 → Prop) : Prop := wpX2_numberBits v0 (fun (r_1 : Int32) => wpX2_numberBits (v1 - 1) (fun (r_2 : Int32) => post ((2 + r_1) + r_2)))
set_option maxHeartbeats 4000000 in
set_option maxRecDepth 100000 in
theorem mtX2_matchBits (l : Launch) (dC : Nat → ClassId) (dI : Nat → Nat → Nat) (cyI : ClassId) {sz : Nat} {v0 : Int32} {v1 : Int32} {post : Int32 → Prop} (h : wpX2_matchBits v0 v1 post) : Met l yX2_matchBits wsX2_matchBits ({ frames := 1, cells := 0, slots := 0, locals := 20 }) (va_Pc [.int v0, .int v1] (wk_B (dC, dI) [(cyI, .int)] [] sz)) (va_Qi (fun (r : Int32) (u : Unit) => post r ) (wk_C (dC, dI) [(cyI, .int)] (va_A [] sz) (fun (u : Unit) => [])) (va_A [] sz)) 0 0 (va_A [] sz) := by
  refine Met.ofW (cc := cX2_matchBits) (maxL := 2) (ret := (some .int)) (by decide) rfl ?_
  intro p e s m args below meth c s₁ B hml hv
  obtain ⟨rfl, hsz, hP, hK, hD0⟩ := hv
  have hx := B.exec
  have hb := B.bytes
  have hr := B.returns
  have hts := atoms_spec (ws := wsX2_matchBits) B.pre
  have hown : s.vm.findClass RX2 = some m.cls := findClass_of_methodNamed B.named
  have hlocks := B.notSynchronized
  subst hsz
  have hD := hD0.self (sz := s.heap.size)
  generalize hAe : va_A [] s.heap.size = A at hD ⊢
  have hA : ∀ q : Nat, s.heap.size ≤ q → A q := fun q h => by rw [← hAe]; exact Or.inr h
  have hS : va_S A s.heap s.heap [] := va_S.rf
  have hP : va_P (dC, dI) vwCl [] s.heap := hP
  have hl := lv_entry ([.int v0, .int v1]) (n := 2) (Nat.le_of_ble_eq_true rfl)
  rw [lg_entry_eq]
  generalize (lg_sl ([.int v0, .int v1]) ++ List.replicate (2 - (lg_sl ([.int v0, .int v1])).length) Slot.unset).toArray = ls at hl ⊢
  have hl : lv_has ls 2 [(0, .int v0), (1, .int v1)] := hl
  have C0 : CallFix p m c cX2_matchBits 2 s ([.int v0, .int v1] : List Value).toArray wsX2_matchBits RX2 := ⟨hx, hb, hml, hown, hts⟩
  unfold wpX2_matchBits at h
  refine lv_iconst (v := 2) hx hb dX2_matchBits_0 (by decide) ?_
  refine lv_iload_n hx hb dX2_matchBits_1 rfl (lv_at hl 0 rfl) ?_
  refine wk_calli (wc := []) (wr := []) (va_runS (As := [.int v0]) (rest := [.int 2]) C0 (mtX2_numberBits l dC dI cyI (sz := _) (v0 := v0) h) (va_cwS 1 hts gX2_matchBits_X2_numberBits rfl rfl rfl (by decide +kernel) ⟨(Nat.le_of_ble_eq_true rfl), (Nat.le_of_ble_eq_true rfl)⟩) (wk_preS (wc := []) hK hP hD [] rfl (by decide)) rfl rfl hl.1 rfl (lv_room (Nat.le_of_ble_eq_true rfl)) dX2_matchBits_2 ⟨(Nat.le_of_ble_eq_true rfl), (Nat.le_of_ble_eq_true rfl)⟩) hP hD hS hA [] [] rfl rfl (by decide) (by decide) (fun r_1 u9 H locs h hP hD hS => ?_)
  have hP : va_P (dC, dI) vwCl [] H := hP
  have hD : va_D A [] := hD
  refine lv_iadd hx hb dX2_matchBits_5 ?_
  refine lv_iload_n hx hb dX2_matchBits_6 rfl (lv_at hl 1 rfl) ?_
  refine lv_iconst (v := 1) hx hb dX2_matchBits_7 (by decide) ?_
  refine lv_isub hx hb dX2_matchBits_8 ?_
  refine wk_calli (wc := []) (wr := []) (va_runS (As := [.int (v1 - 1)]) (rest := [.int (2 + r_1)]) C0 (mtX2_numberBits l dC dI cyI (sz := _) (v0 := v1 - 1) h) (va_cwS 1 hts gX2_matchBits_X2_numberBits rfl rfl rfl (by decide +kernel) ⟨(Nat.le_of_ble_eq_true rfl), (Nat.le_of_ble_eq_true rfl)⟩) (wk_preS (wc := []) hK hP hD [] rfl (by decide)) rfl rfl hl.1 rfl (lv_room (Nat.le_of_ble_eq_true rfl)) dX2_matchBits_9 ⟨(Nat.le_of_ble_eq_true rfl), (Nat.le_of_ble_eq_true rfl)⟩) hP hD hS hA [] [] rfl rfl (by decide) (by decide) (fun r_2 u9 H locs h hP hD hS => ?_)
  have hP : va_P (dC, dI) vwCl [] H := hP
  have hD : va_D A [] := hD
  refine lv_iadd hx hb dX2_matchBits_12 ?_
  have hP9 : va_P (dC, dI) vwCl [] _ := hP
  have hD9 : va_D A [] := hD
  exact W.iret (v := (2 + r_1) + r_2) hx hb hr (fun t ht hW => ⟨⟨(2 + r_1) + r_2, (), rfl, h, by rw [ht]; exact hP9, va_K.moved hW.alike hK, hD9⟩, hS.F ht⟩) hS.2.2 dX2_matchBits_13
-- X2_againBits
def wpX2_againBits (v0 : Int32) (post : Int32 → Prop) : Prop := wpX2_numberBits v0 (fun (r_1 : Int32) => post (2 + r_1))
set_option maxHeartbeats 4000000 in
set_option maxRecDepth 100000 in
theorem mtX2_againBits (l : Launch) (dC : Nat → ClassId) (dI : Nat → Nat → Nat) (cyI : ClassId) {sz : Nat} {v0 : Int32} {post : Int32 → Prop} (h : wpX2_againBits v0 post) : Met l yX2_againBits wsX2_againBits ({ frames := 1, cells := 0, slots := 0, locals := 20 }) (va_Pc [.int v0] (wk_B (dC, dI) [(cyI, .int)] [] sz)) (va_Qi (fun (r : Int32) (u : Unit) => post r ) (wk_C (dC, dI) [(cyI, .int)] (va_A [] sz) (fun (u : Unit) => [])) (va_A [] sz)) 0 0 (va_A [] sz) := by
  refine Met.ofW (cc := cX2_againBits) (maxL := 1) (ret := (some .int)) (by decide) rfl ?_
  intro p e s m args below meth c s₁ B hml hv
  obtain ⟨rfl, hsz, hP, hK, hD0⟩ := hv
  have hx := B.exec
  have hb := B.bytes
  have hr := B.returns
  have hts := atoms_spec (ws := wsX2_againBits) B.pre
  have hown : s.vm.findClass RX2 = some m.cls := findClass_of_methodNamed B.named
  have hlocks := B.notSynchronized
  subst hsz
  have hD := hD0.self (sz := s.heap.size)
  generalize hAe : va_A [] s.heap.size = A at hD ⊢
  have hA : ∀ q : Nat, s.heap.size ≤ q → A q := fun q h => by rw [← hAe]; exact Or.inr h
  have hS : va_S A s.heap s.heap [] := va_S.rf
  have hP : va_P (dC, dI) vwCl [] s.heap := hP
  have hl := lv_entry ([.int v0]) (n := 1) (Nat.le_of_ble_eq_true rfl)
  rw [lg_entry_eq]
  generalize (lg_sl ([.int v0]) ++ List.replicate (1 - (lg_sl ([.int v0])).length) Slot.unset).toArray = ls at hl ⊢
  have hl : lv_has ls 1 [(0, .int v0)] := hl
  have C0 : CallFix p m c cX2_againBits 1 s ([.int v0] : List Value).toArray wsX2_againBits RX2 := ⟨hx, hb, hml, hown, hts⟩
  unfold wpX2_againBits at h
  refine lv_iconst (v := 2) hx hb dX2_againBits_0 (by decide) ?_
  refine lv_iload_n hx hb dX2_againBits_1 rfl (lv_at hl 0 rfl) ?_
  refine wk_calli (wc := []) (wr := []) (va_runS (As := [.int v0]) (rest := [.int 2]) C0 (mtX2_numberBits l dC dI cyI (sz := _) (v0 := v0) h) (va_cwS 1 hts gX2_againBits_X2_numberBits rfl rfl rfl (by decide +kernel) ⟨(Nat.le_of_ble_eq_true rfl), (Nat.le_of_ble_eq_true rfl)⟩) (wk_preS (wc := []) hK hP hD [] rfl (by decide)) rfl rfl hl.1 rfl (lv_room (Nat.le_of_ble_eq_true rfl)) dX2_againBits_2 ⟨(Nat.le_of_ble_eq_true rfl), (Nat.le_of_ble_eq_true rfl)⟩) hP hD hS hA [] [] rfl rfl (by decide) (by decide) (fun r_1 u9 H locs h hP hD hS => ?_)
  have hP : va_P (dC, dI) vwCl [] H := hP
  have hD : va_D A [] := hD
  refine lv_iadd hx hb dX2_againBits_5 ?_
  have hP9 : va_P (dC, dI) vwCl [] _ := hP
  have hD9 : va_D A [] := hD
  exact W.iret (v := 2 + r_1) hx hb hr (fun t ht hW => ⟨⟨2 + r_1, (), rfl, h, by rw [ht]; exact hP9, va_K.moved hW.alike hK, hD9⟩, hS.F ht⟩) hS.2.2 dX2_againBits_6
-- X8_has
theorem qX8_has_0 : Cond.fieldLink RX8 15 "MatchCoder$Text" "count" "I" ∈ wsX8_has := (List.mem_cons_of_mem _ (List.mem_append_left _ (List.mem_of_getElem? (i := 0) rfl)))
theorem inX8_has_wsX80 : ∀ w ∈ wsX80, w ∈ wsX8_has := fun _ h => List.mem_cons_of_mem _ (List.mem_append_right _ h)
def wpX8_has (tn : Int32) (v1 : Int32) (post : Int32 → Prop) : Prop := (v1 < 0 → (post 0)) ∧ (¬ v1 < 0 → ((tn ≤ v1 → (post 0)) ∧ (¬ tn ≤ v1 → (post 1))))
set_option maxHeartbeats 4000000 in
set_option maxRecDepth 100000 in
theorem mtX8_has (l : Launch) (dC : Nat → ClassId) (dI : Nat → Nat → Nat) (cyI : ClassId) {aT aTb : Nat} {sz : Nat} {tn : Int32} {v1 : Int32} {post : Int32 → Prop} (h : wpX8_has tn v1 post) : Met l yX8_has wsX8_has ({ frames := 0, cells := 0, slots := 0, locals := 0 }) (va_Pc [.ref aT, .int v1] (wk_B (dC, dI) [(cyI, .int)] [(aT, .inr (7, [.ref aTb, .int tn]))] sz)) (va_Qi (fun (r : Int32) (u : Unit) => post r ) (wk_C (dC, dI) [(cyI, .int)] (va_A [(aT, .inr (7, [.ref aTb, .int tn]))] sz) (fun (u : Unit) => [(aT, .inr (7, [.ref aTb, .int tn]))])) (va_A [(aT, .inr (7, [.ref aTb, .int tn]))] sz)) 0 0 (va_A [(aT, .inr (7, [.ref aTb, .int tn]))] sz) := by
  refine Met.ofW (cc := cX8_has) (maxL := 2) (ret := (some .boolean)) (by decide) rfl ?_
  intro p e s m args below meth c s₁ B hml hv
  obtain ⟨rfl, hsz, hP, hK, hD0⟩ := hv
  have hx := B.exec
  have hb := B.bytes
  have hr := B.returns
  have hts := atoms_spec (ws := wsX8_has) B.pre
  have hown : s.vm.findClass RX8 = some m.cls := findClass_of_methodNamed B.named
  have hlocks := B.notSynchronized
  subst hsz
  have hD := hD0.self (sz := s.heap.size)
  generalize hAe : va_A [(aT, .inr (7, [.ref aTb, .int tn]))] s.heap.size = A at hD ⊢
  have hA : ∀ q : Nat, s.heap.size ≤ q → A q := fun q h => by rw [← hAe]; exact Or.inr h
  have hS : va_S A s.heap s.heap [] := va_S.rf
  have hP : va_P (dC, dI) vwCl [(aT, .inr (7, [.ref aTb, .int tn]))] s.heap := hP
  have hl := lv_entry ([.ref aT, .int v1]) (n := 2) (Nat.le_of_ble_eq_true rfl)
  rw [lg_entry_eq]
  generalize (lg_sl ([.ref aT, .int v1]) ++ List.replicate (2 - (lg_sl ([.ref aT, .int v1])).length) Slot.unset).toArray = ls at hl ⊢
  have hl : lv_has ls 2 [(0, .ref aT), (1, .int v1)] := hl
  have C0 : CallFix p m c cX8_has 2 s ([.ref aT, .int v1] : List Value).toArray wsX8_has RX8 := ⟨hx, hb, hml, hown, hts⟩
  unfold wpX8_has at h
  refine lv_iload_n hx hb dX8_has_0 rfl (lv_at hl 1 rfl) ?_
  refine lv_if_lt (tgt := 16) hx hb dX8_has_1 (by decide) (fun c_1 => ?_) (fun c_1 => ?_)
  · replace h := h.1 c_1
    refine lv_iconst (v := 0) hx hb dX8_has_16 (by decide) ?_
    have hP9 : va_P (dC, dI) vwCl [(aT, .inr (7, [.ref aTb, .int tn]))] _ := hP
    have hD9 : va_D A [(aT, .inr (7, [.ref aTb, .int tn]))] := hD
    exact W.zret (v := 0) hx hb hr rfl (fun t ht hW => ⟨⟨0, (), rfl, h, by rw [ht]; exact hP9, va_K.moved hW.alike hK, hD9⟩, hS.F ht⟩) hS.2.2 dX8_has_17
  · replace h := h.2 c_1
    refine lv_iload_n hx hb dX8_has_4 rfl (lv_at hl 1 rfl) ?_
    refine lv_aload_n hx hb dX8_has_5 rfl (lv_at hl 0 rfl) ?_
    refine va_get (D := (dC, dI)) (ci := 7) (v := .int tn) (C := RX8) (T := TX8) (N := 2) hx hb hts inX8_has_wsX80 hown hK hP 0 rfl rfl 1 (by decide) (hts _ qX8_has_0) (fun _ h9 => h9) rfl dX8_has_6 ?_
    refine lv_icmp_ge (tgt := 16) hx hb dX8_has_9 (by decide) (fun c_2 => ?_) (fun c_2 => ?_)
    · replace h := h.1 c_2
      refine lv_iconst (v := 0) hx hb dX8_has_16 (by decide) ?_
      have hP9 : va_P (dC, dI) vwCl [(aT, .inr (7, [.ref aTb, .int tn]))] _ := hP
      have hD9 : va_D A [(aT, .inr (7, [.ref aTb, .int tn]))] := hD
      exact W.zret (v := 0) hx hb hr rfl (fun t ht hW => ⟨⟨0, (), rfl, h, by rw [ht]; exact hP9, va_K.moved hW.alike hK, hD9⟩, hS.F ht⟩) hS.2.2 dX8_has_17
    · replace h := h.2 c_2
      refine lv_iconst (v := 1) hx hb dX8_has_12 (by decide) ?_
      refine lv_goto (tgt := 17) hx hb dX8_has_13 (by decide) ?_
      have hP9 : va_P (dC, dI) vwCl [(aT, .inr (7, [.ref aTb, .int tn]))] _ := hP
      have hD9 : va_D A [(aT, .inr (7, [.ref aTb, .int tn]))] := hD
      exact W.zret (v := 1) hx hb hr rfl (fun t ht hW => ⟨⟨1, (), rfl, h, by rw [ht]; exact hP9, va_K.moved hW.alike hK, hD9⟩, hS.F ht⟩) hS.2.2 dX8_has_17
-- X8_push
theorem qX8_push_0 : Cond.fieldLink RX8 15 "MatchCoder$Text" "count" "I" ∈ wsX8_push := (List.mem_cons_of_mem _ (List.mem_append_left _ (List.mem_of_getElem? (i := 0) rfl)))
theorem qX8_push_1 : Cond.fieldLink RX8 9 "MatchCoder$Text" "bytes" "[I" ∈ wsX8_push := (List.mem_cons_of_mem _ (List.mem_append_left _ (List.mem_of_getElem? (i := 1) rfl)))
theorem inX8_push_wsX80 : ∀ w ∈ wsX80, w ∈ wsX8_push := fun _ h => List.mem_cons_of_mem _ (List.mem_append_right _ h)
def wpX8_push (tn : Int32) (tb : Nat → Int32) (v1 : Int32) (post : Int32 → (Nat → Int32) → Prop) : Prop := (64 ≤ tn → (post tn tb)) ∧ (¬ 64 ≤ tn → (vp_in tn 64 ∧ (post (tn + 1) (upd tb tn.toNatClampNeg v1))))
set_option maxHeartbeats 4000000 in
set_option maxRecDepth 100000 in
theorem mtX8_push (l : Launch) (dC : Nat → ClassId) (dI : Nat → Nat → Nat) (cyI : ClassId) {aT aTb : Nat} {sz : Nat} {tn : Int32} {tb : Nat → Int32} {v1 : Int32} {post : Int32 → (Nat → Int32) → Prop} (h : wpX8_push tn tb v1 post) : Met l yX8_push wsX8_push ({ frames := 0, cells := 0, slots := 0, locals := 0 }) (va_Pc [.ref aT, .int v1] (wk_B (dC, dI) [(cyI, .int)] [(aT, .inr (7, [.ref aTb, .int tn])), (aTb, .inl (cyI, 64, .inl tb))] sz)) (va_Qv (fun (u : Int32 × (Nat → Int32)) => post u.1 u.2) (wk_C (dC, dI) [(cyI, .int)] (va_A [(aT, .inr (7, [.ref aTb, .int tn])), (aTb, .inl (cyI, 64, .inl tb))] sz) (fun (u : Int32 × (Nat → Int32)) => [(aT, .inr (7, [.ref aTb, .int (u.1)])), (aTb, .inl (cyI, 64, .inl (u.2)))])) (va_A [(aT, .inr (7, [.ref aTb, .int tn])), (aTb, .inl (cyI, 64, .inl tb))] sz)) 0 0 (va_A [(aT, .inr (7, [.ref aTb, .int tn])), (aTb, .inl (cyI, 64, .inl tb))] sz) := by
  refine Met.ofW (cc := cX8_push) (maxL := 2) (ret := none) (by decide) rfl ?_
  intro p e s m args below meth c s₁ B hml hv
  obtain ⟨rfl, hsz, hP, hK, hD0⟩ := hv
  have hx := B.exec
  have hb := B.bytes
  have hr := B.returns
  have hts := atoms_spec (ws := wsX8_push) B.pre
  have hown : s.vm.findClass RX8 = some m.cls := findClass_of_methodNamed B.named
  have hlocks := B.notSynchronized
  subst hsz
  have hD := hD0.self (sz := s.heap.size)
  generalize hAe : va_A [(aT, .inr (7, [.ref aTb, .int tn])), (aTb, .inl (cyI, 64, .inl tb))] s.heap.size = A at hD ⊢
  have hA : ∀ q : Nat, s.heap.size ≤ q → A q := fun q h => by rw [← hAe]; exact Or.inr h
  have hS : va_S A s.heap s.heap [] := va_S.rf
  have hP : va_P (dC, dI) vwCl [(aT, .inr (7, [.ref aTb, .int tn])), (aTb, .inl (cyI, 64, .inl tb))] s.heap := hP
  have hl := lv_entry ([.ref aT, .int v1]) (n := 2) (Nat.le_of_ble_eq_true rfl)
  rw [lg_entry_eq]
  generalize (lg_sl ([.ref aT, .int v1]) ++ List.replicate (2 - (lg_sl ([.ref aT, .int v1])).length) Slot.unset).toArray = ls at hl ⊢
  have hl : lv_has ls 2 [(0, .ref aT), (1, .int v1)] := hl
  have C0 : CallFix p m c cX8_push 2 s ([.ref aT, .int v1] : List Value).toArray wsX8_push RX8 := ⟨hx, hb, hml, hown, hts⟩
  unfold wpX8_push at h
  refine lv_aload_n hx hb dX8_push_0 rfl (lv_at hl 0 rfl) ?_
  refine va_get (D := (dC, dI)) (ci := 7) (v := .int tn) (C := RX8) (T := TX8) (N := 2) hx hb hts inX8_push_wsX80 hown hK hP 0 rfl rfl 1 (by decide) (hts _ qX8_push_0) (fun _ h9 => h9) rfl dX8_push_1 ?_
  refine lv_bipush (v := 64) hx hb dX8_push_4 (by decide) ?_
  refine lv_icmp_ge (tgt := 29) hx hb dX8_push_6 (by decide) (fun c_1 => ?_) (fun c_1 => ?_)
  · replace h := h.1 c_1
    have hP9 : va_P (dC, dI) vwCl [(aT, .inr (7, [.ref aTb, .int tn])), (aTb, .inl (cyI, 64, .inl tb))] _ := hP
    have hD9 : va_D A [(aT, .inr (7, [.ref aTb, .int tn])), (aTb, .inl (cyI, 64, .inl tb))] := hD
    exact W.vret hx hb hr (fun t ht hW => ⟨⟨(tn, tb), rfl, h, by rw [ht]; exact hP9, va_K.moved hW.alike hK, hD9⟩, hS.F ht⟩) hS.2.2 dX8_push_29
  · replace h := h.2 c_1
    refine lv_aload_n hx hb dX8_push_9 rfl (lv_at hl 0 rfl) ?_
    refine va_get (D := (dC, dI)) (ci := 7) (v := .ref aTb) (C := RX8) (T := TX8) (N := 2) hx hb hts inX8_push_wsX80 hown hK hP 0 rfl rfl 0 (by decide) (hts _ qX8_push_1) (fun _ h9 => h9) rfl dX8_push_10 ?_
    refine lv_aload_n hx hb dX8_push_13 rfl (lv_at hl 0 rfl) ?_
    refine va_get (D := (dC, dI)) (ci := 7) (v := .int tn) (C := RX8) (T := TX8) (N := 2) hx hb hts inX8_push_wsX80 hown hK hP 0 rfl rfl 1 (by decide) (hts _ qX8_push_0) (fun _ h9 => h9) rfl dX8_push_14 ?_
    refine lv_iload_n hx hb dX8_push_17 rfl (lv_at hl 1 rfl) ?_
    obtain ⟨hi_2, h⟩ := h
    refine va_iast hx hb hK hP hD hS 1 0 rfl rfl hi_2 dX8_push_18 (fun H locs hP hD hS => ?_)
    have hP : va_P (dC, dI) vwCl [(aT, .inr (7, [.ref aTb, .int tn])), (aTb, .inl (cyI, 64, .inl (upd tb tn.toNatClampNeg v1)))] H := hP
    have hD : va_D A [(aT, .inr (7, [.ref aTb, .int tn])), (aTb, .inl (cyI, 64, .inl (upd tb tn.toNatClampNeg v1)))] := hD
    refine lv_aload_n hx hb dX8_push_19 rfl (lv_at hl 0 rfl) ?_
    refine lv_dup hx hb dX8_push_20 rfl ?_
    refine va_get (D := (dC, dI)) (ci := 7) (v := .int tn) (C := RX8) (T := TX8) (N := 2) hx hb hts inX8_push_wsX80 hown hK hP 0 rfl rfl 1 (by decide) (hts _ qX8_push_0) (fun _ h9 => h9) rfl dX8_push_21 ?_
    refine lv_iconst (v := 1) hx hb dX8_push_24 (by decide) ?_
    refine lv_iadd hx hb dX8_push_25 ?_
    refine va_put (D := (dC, dI)) (ci := 7) (v := .int (tn + 1)) (ty := .int) (C := RX8) (T := TX8) (N := 2) hx hb hts inX8_push_wsX80 tyX8 tyX8_ok nmX8 hown hK hP hD hS 0 rfl rfl 1 (by decide) (hts _ qX8_push_0) (fun _ h9 => h9) rfl (by decide +kernel) rfl rfl (Nat.le_of_ble_eq_true rfl) dX8_push_26 (fun H locs hP hD hS => ?_)
    have hP : va_P (dC, dI) vwCl [(aT, .inr (7, [.ref aTb, .int (tn + 1)])), (aTb, .inl (cyI, 64, .inl (upd tb tn.toNatClampNeg v1)))] H := hP
    have hD : va_D A [(aT, .inr (7, [.ref aTb, .int (tn + 1)])), (aTb, .inl (cyI, 64, .inl (upd tb tn.toNatClampNeg v1)))] := hD
    have hP9 : va_P (dC, dI) vwCl [(aT, .inr (7, [.ref aTb, .int (tn + 1)])), (aTb, .inl (cyI, 64, .inl (upd tb tn.toNatClampNeg v1)))] _ := hP
    have hD9 : va_D A [(aT, .inr (7, [.ref aTb, .int (tn + 1)])), (aTb, .inl (cyI, 64, .inl (upd tb tn.toNatClampNeg v1)))] := hD
    exact W.vret hx hb hr (fun t ht hW => ⟨⟨(tn + 1, upd tb tn.toNatClampNeg v1), rfl, h, by rw [ht]; exact hP9, va_K.moved hW.alike hK, hD9⟩, hS.F ht⟩) hS.2.2 dX8_push_29
-- X8_sameFrom
theorem qX8_sameFrom_0 : Cond.fieldLink RX8 15 "MatchCoder$Text" "count" "I" ∈ wsX8_sameFrom := (List.mem_cons_of_mem _ (List.mem_append_left _ (List.mem_of_getElem? (i := 0) rfl)))
theorem qX8_sameFrom_1 : Cond.fieldLink RX8 9 "MatchCoder$Text" "bytes" "[I" ∈ wsX8_sameFrom := (List.mem_cons_of_mem _ (List.mem_append_left _ (List.mem_of_getElem? (i := 1) rfl)))
theorem inX8_sameFrom_wsX80 : ∀ w ∈ wsX80, w ∈ wsX8_sameFrom := fun _ h => List.mem_cons_of_mem _ (List.mem_append_right _ h)
def wpX8_sameFrom_14 (v2 : Int32) (tn : Int32) (tb : Nat → Int32) (K45 : Int32 → Prop) : Nat → Int32 → Prop
  | 0, _ => False
  | n14 + 1, v3 => (tn ≤ v3 → (K45 v3)) ∧ (¬ tn ≤ v3 → (vp_in v3 64 ∧ (vp_in (v3 - v2) 64 ∧ (((tb v3.toNatClampNeg) = (tb (v3 - v2).toNatClampNeg) → (wpX8_sameFrom_14 v2 tn tb K45 n14 (v3 + 1))) ∧ (¬ (tb v3.toNatClampNeg) = (tb (v3 - v2).toNatClampNeg) → (K45 v3))))))
set_option maxHeartbeats 4000000 in
set_option maxRecDepth 100000 in
theorem wlX8_sameFrom_14 {p : Program} {l : Launch} {e : Env} {s : State} {m : MethodId} {args : Array Value} {below : List Frame} {meth : Method} {c : Code} {A : Nat → Prop} {Q : State → Prop} {dC : Nat → ClassId} {dI : Nat → Nat → Nat} {cyI : ClassId} {aT aTb : Nat} {v1 : Int32} {v2 : Int32} {tn : Int32} {tb : Nat → Int32} {K45 : Int32 → Prop} (C0 : CallFix p m c cX8_sameFrom 4 s args wsX8_sameFrom RX8) (hA : ∀ q : Nat, s.heap.size ≤ q → A q) (hK : va_K (dC, dI) vwCl [(cyI, .int)] s) (hK45 : ∀ (v3 : Int32), K45 v3 → ∀ (H : Heap) (locs : List Loc) (ls : Array Slot), va_P (dC, dI) vwCl [(aT, .inr (7, [.ref aTb, .int tn])), (aTb, .inl (cyI, 64, .inl tb))] H → va_D A [(aT, .inr (7, [.ref aTb, .int tn])), (aTb, .inl (cyI, 64, .inl tb))] → va_S A s.heap H locs → lv_has ls 4 [(1, .int v1), (3, .int v3)] → W p l e ({ frames := 0, cells := 0, slots := 0, locals := 0 } : Room) s m args below meth c H locs 0 0 Q (F0 m 45 ls [])) :
    ∀ (n14 : Nat) (v3 : Int32), wpX8_sameFrom_14 v2 tn tb K45 n14 v3 → ∀ (H : Heap) (locs : List Loc) (ls : Array Slot), va_P (dC, dI) vwCl [(aT, .inr (7, [.ref aTb, .int tn])), (aTb, .inl (cyI, 64, .inl tb))] H → va_D A [(aT, .inr (7, [.ref aTb, .int tn])), (aTb, .inl (cyI, 64, .inl tb))] → va_S A s.heap H locs → lv_has ls 4 [(0, .ref aT), (1, .int v1), (2, .int v2), (3, .int v3)] → W p l e ({ frames := 0, cells := 0, slots := 0, locals := 0 } : Room) s m args below meth c H locs 0 0 Q (F0 m 14 ls []) := by
  obtain ⟨hx, hb, hml, hown, hts⟩ := id C0
  intro n14
  induction n14 with
  | zero => intro _ h; exact h.elim
  | succ n14 ih14 =>
    intro v3 h H locs ls hP hD hS hl
    rw [wpX8_sameFrom_14] at h
    refine lv_iload_n hx hb dX8_sameFrom_14 rfl (lv_at hl 3 rfl) ?_
    refine lv_aload_n hx hb dX8_sameFrom_15 rfl (lv_at hl 0 rfl) ?_
    refine va_get (D := (dC, dI)) (ci := 7) (v := .int tn) (C := RX8) (T := TX8) (N := 2) hx hb hts inX8_sameFrom_wsX80 hown hK hP 0 rfl rfl 1 (by decide) (hts _ qX8_sameFrom_0) (fun _ h9 => h9) rfl dX8_sameFrom_16 ?_
    refine lv_icmp_ge (tgt := 45) hx hb dX8_sameFrom_19 (by decide) (fun c_3 => ?_) (fun c_3 => ?_)
    · replace h := h.1 c_3
      exact hK45 _ h _ _ _ hP hD hS (lv_sub hl [1, 3] rfl)
    · replace h := h.2 c_3
      refine lv_aload_n hx hb dX8_sameFrom_22 rfl (lv_at hl 0 rfl) ?_
      refine va_get (D := (dC, dI)) (ci := 7) (v := .ref aTb) (C := RX8) (T := TX8) (N := 2) hx hb hts inX8_sameFrom_wsX80 hown hK hP 0 rfl rfl 0 (by decide) (hts _ qX8_sameFrom_1) (fun _ h9 => h9) rfl dX8_sameFrom_23 ?_
      refine lv_iload_n hx hb dX8_sameFrom_26 rfl (lv_at hl 3 rfl) ?_
      obtain ⟨hi_4, h⟩ := h
      refine va_iald hx hb hK hP 1 0 rfl rfl hi_4 dX8_sameFrom_27 ?_
      refine lv_aload_n hx hb dX8_sameFrom_28 rfl (lv_at hl 0 rfl) ?_
      refine va_get (D := (dC, dI)) (ci := 7) (v := .ref aTb) (C := RX8) (T := TX8) (N := 2) hx hb hts inX8_sameFrom_wsX80 hown hK hP 0 rfl rfl 0 (by decide) (hts _ qX8_sameFrom_1) (fun _ h9 => h9) rfl dX8_sameFrom_29 ?_
      refine lv_iload_n hx hb dX8_sameFrom_32 rfl (lv_at hl 3 rfl) ?_
      refine lv_iload_n hx hb dX8_sameFrom_33 rfl (lv_at hl 2 rfl) ?_
      refine lv_isub hx hb dX8_sameFrom_34 ?_
      obtain ⟨hi_5, h⟩ := h
      refine va_iald hx hb hK hP 1 0 rfl rfl hi_5 dX8_sameFrom_35 ?_
      refine lv_icmp_ne (tgt := 45) hx hb dX8_sameFrom_36 (by decide) (fun c_6 => ?_) (fun c_6 => ?_)
      · replace h := h.2 c_6
        exact hK45 _ h _ _ _ hP hD hS (lv_sub hl [1, 3] rfl)
      · replace h := h.1 c_6
        refine lv_iinc (v := v3 + 1) (lv' := [(3, .int (v3 + 1)), (0, .ref aT), (1, .int v1), (2, .int v2)]) hx hb dX8_sameFrom_39 hl (k := 3) rfl rfl (by decide) rfl (fun ls hl => ?_)
        refine lv_goto (tgt := 14) hx hb dX8_sameFrom_42 (by decide) ?_
        exact ih14 _ h _ _ _ hP hD hS (lv_sub hl [1, 2, 3, 0] rfl)
def wpX8_sameFrom (tn : Int32) (tb : Nat → Int32) (v1 : Int32) (v2 : Int32) (post : Int32 → Prop) : Prop := (v2 < 1 → (post 0)) ∧ (¬ v2 < 1 → ((v2 ≤ v1 → (∃ n14 : Nat, wpX8_sameFrom_14 v2 tn tb (fun (v3_7 : Int32) => post (v3_7 - v1)) n14 v1)) ∧ (¬ v2 ≤ v1 → (post 0))))
set_option maxHeartbeats 4000000 in
set_option maxRecDepth 100000 in
theorem mtX8_sameFrom (l : Launch) (dC : Nat → ClassId) (dI : Nat → Nat → Nat) (cyI : ClassId) {aT aTb : Nat} {sz : Nat} {tn : Int32} {tb : Nat → Int32} {v1 : Int32} {v2 : Int32} {post : Int32 → Prop} (h : wpX8_sameFrom tn tb v1 v2 post) : Met l yX8_sameFrom wsX8_sameFrom ({ frames := 0, cells := 0, slots := 0, locals := 0 }) (va_Pc [.ref aT, .int v1, .int v2] (wk_B (dC, dI) [(cyI, .int)] [(aT, .inr (7, [.ref aTb, .int tn])), (aTb, .inl (cyI, 64, .inl tb))] sz)) (va_Qi (fun (r : Int32) (u : Unit) => post r ) (wk_C (dC, dI) [(cyI, .int)] (va_A [(aT, .inr (7, [.ref aTb, .int tn])), (aTb, .inl (cyI, 64, .inl tb))] sz) (fun (u : Unit) => [(aT, .inr (7, [.ref aTb, .int tn])), (aTb, .inl (cyI, 64, .inl tb))])) (va_A [(aT, .inr (7, [.ref aTb, .int tn])), (aTb, .inl (cyI, 64, .inl tb))] sz)) 0 0 (va_A [(aT, .inr (7, [.ref aTb, .int tn])), (aTb, .inl (cyI, 64, .inl tb))] sz) := by
  refine Met.ofW (cc := cX8_sameFrom) (maxL := 4) (ret := (some .int)) (by decide) rfl ?_
  intro p e s m args below meth c s₁ B hml hv
  obtain ⟨rfl, hsz, hP, hK, hD0⟩ := hv
  have hx := B.exec
  have hb := B.bytes
  have hr := B.returns
  have hts := atoms_spec (ws := wsX8_sameFrom) B.pre
  have hown : s.vm.findClass RX8 = some m.cls := findClass_of_methodNamed B.named
  have hlocks := B.notSynchronized
  subst hsz
  have hD := hD0.self (sz := s.heap.size)
  generalize hAe : va_A [(aT, .inr (7, [.ref aTb, .int tn])), (aTb, .inl (cyI, 64, .inl tb))] s.heap.size = A at hD ⊢
  have hA : ∀ q : Nat, s.heap.size ≤ q → A q := fun q h => by rw [← hAe]; exact Or.inr h
  have hS : va_S A s.heap s.heap [] := va_S.rf
  have hP : va_P (dC, dI) vwCl [(aT, .inr (7, [.ref aTb, .int tn])), (aTb, .inl (cyI, 64, .inl tb))] s.heap := hP
  have hl := lv_entry ([.ref aT, .int v1, .int v2]) (n := 4) (Nat.le_of_ble_eq_true rfl)
  rw [lg_entry_eq]
  generalize (lg_sl ([.ref aT, .int v1, .int v2]) ++ List.replicate (4 - (lg_sl ([.ref aT, .int v1, .int v2])).length) Slot.unset).toArray = ls at hl ⊢
  have hl : lv_has ls 4 [(0, .ref aT), (1, .int v1), (2, .int v2)] := hl
  have C0 : CallFix p m c cX8_sameFrom 4 s ([.ref aT, .int v1, .int v2] : List Value).toArray wsX8_sameFrom RX8 := ⟨hx, hb, hml, hown, hts⟩
  unfold wpX8_sameFrom at h
  refine lv_iload_n hx hb dX8_sameFrom_0 rfl (lv_at hl 2 rfl) ?_
  refine lv_iconst (v := 1) hx hb dX8_sameFrom_1 (by decide) ?_
  refine lv_icmp_lt (tgt := 10) hx hb dX8_sameFrom_2 (by decide) (fun c_1 => ?_) (fun c_1 => ?_)
  · replace h := h.1 c_1
    refine lv_iconst (v := 0) hx hb dX8_sameFrom_10 (by decide) ?_
    have hP9 : va_P (dC, dI) vwCl [(aT, .inr (7, [.ref aTb, .int tn])), (aTb, .inl (cyI, 64, .inl tb))] _ := hP
    have hD9 : va_D A [(aT, .inr (7, [.ref aTb, .int tn])), (aTb, .inl (cyI, 64, .inl tb))] := hD
    exact W.iret (v := 0) hx hb hr (fun t ht hW => ⟨⟨0, (), rfl, h, by rw [ht]; exact hP9, va_K.moved hW.alike hK, hD9⟩, hS.F ht⟩) hS.2.2 dX8_sameFrom_11
  · replace h := h.2 c_1
    refine lv_iload_n hx hb dX8_sameFrom_5 rfl (lv_at hl 2 rfl) ?_
    refine lv_iload_n hx hb dX8_sameFrom_6 rfl (lv_at hl 1 rfl) ?_
    refine lv_icmp_le (tgt := 12) hx hb dX8_sameFrom_7 (by decide) (fun c_2 => ?_) (fun c_2 => ?_)
    · replace h := h.1 c_2
      refine lv_iload_n hx hb dX8_sameFrom_12 rfl (lv_at hl 1 rfl) ?_
      refine lv_istore_n (lv' := [(3, .int v1), (0, .ref aT), (1, .int v1), (2, .int v2)]) hx hb dX8_sameFrom_13 rfl hl (by decide) rfl (fun ls hl => ?_)
      obtain ⟨n14, h⟩ := h
      refine wlX8_sameFrom_14 C0 hA hK ?_ n14 _ h _ _ _ hP hD hS (lv_sub hl [1, 2, 3, 0] rfl)
      · intro v3_7 h H locs ls hP hD hS hl
        refine lv_iload_n hx hb dX8_sameFrom_45 rfl (lv_at hl 1 rfl) ?_
        refine lv_iload_n hx hb dX8_sameFrom_46 rfl (lv_at hl 0 rfl) ?_
        refine lv_isub hx hb dX8_sameFrom_47 ?_
        have hP9 : va_P (dC, dI) vwCl [(aT, .inr (7, [.ref aTb, .int tn])), (aTb, .inl (cyI, 64, .inl tb))] _ := hP
        have hD9 : va_D A [(aT, .inr (7, [.ref aTb, .int tn])), (aTb, .inl (cyI, 64, .inl tb))] := hD
        exact W.iret (v := v3_7 - v1) hx hb hr (fun t ht hW => ⟨⟨v3_7 - v1, (), rfl, h, by rw [ht]; exact hP9, va_K.moved hW.alike hK, hD9⟩, hS.F ht⟩) hS.2.2 dX8_sameFrom_48
    · replace h := h.2 c_2
      refine lv_iconst (v := 0) hx hb dX8_sameFrom_10 (by decide) ?_
      have hP9 : va_P (dC, dI) vwCl [(aT, .inr (7, [.ref aTb, .int tn])), (aTb, .inl (cyI, 64, .inl tb))] _ := hP
      have hD9 : va_D A [(aT, .inr (7, [.ref aTb, .int tn])), (aTb, .inl (cyI, 64, .inl tb))] := hD
      exact W.iret (v := 0) hx hb hr (fun t ht hW => ⟨⟨0, (), rfl, h, by rw [ht]; exact hP9, va_K.moved hW.alike hK, hD9⟩, hS.F ht⟩) hS.2.2 dX8_sameFrom_11
-- X3_againLength
theorem qX3_againLength_0 : Cond.fieldLink RX3 7 "MatchCoder$Finder" "text" "LMatchCoder$Text;" ∈ wsX3_againLength := (List.mem_cons_of_mem _ (List.mem_append_left _ (List.mem_append_left _ (List.mem_append_left _ (List.mem_of_getElem? (i := 0) rfl)))))
theorem qX3_againLength_1 : Cond.fieldLink RX3 13 "MatchCoder$Finder" "settings" "LMatchCoder$Settings;" ∈ wsX3_againLength := (List.mem_cons_of_mem _ (List.mem_append_left _ (List.mem_append_left _ (List.mem_append_left _ (List.mem_of_getElem? (i := 1) rfl)))))
theorem qX3_againLength_2 : Cond.fieldLink RX3 23 "MatchCoder$Settings" "greatest" "I" ∈ wsX3_againLength := (List.mem_cons_of_mem _ (List.mem_append_left _ (List.mem_append_left _ (List.mem_append_left _ (List.mem_of_getElem? (i := 2) rfl)))))
theorem qX3_againLength_3 : Cond.methodLink RX3 29 Lib.Math.min.name ∈ wsX3_againLength := (List.mem_cons_of_mem _ (List.mem_append_left _ (List.mem_append_left _ (List.mem_append_left _ (List.mem_of_getElem? (i := 3) rfl)))))
theorem qX3_againLength_4 : Cond.static Lib.Math.min.name ∈ wsX3_againLength := (List.mem_cons_of_mem _ (List.mem_append_left _ (List.mem_append_left _ (List.mem_append_left _ (List.mem_of_getElem? (i := 4) rfl)))))
theorem qX3_againLength_5 : Cond.initialized "java/lang/Math" ∈ wsX3_againLength := (List.mem_cons_of_mem _ (List.mem_append_left _ (List.mem_append_left _ (List.mem_append_left _ (List.mem_of_getElem? (i := 5) rfl)))))
theorem qX3_againLength_6 : Cond.code Lib.Math.min.name Lib.Math.min.code 2 (some .int) ∈ wsX3_againLength := (List.mem_cons_of_mem _ (List.mem_append_left _ (List.mem_append_left _ (List.mem_append_left _ (List.mem_of_getElem? (i := 6) rfl)))))
theorem inX3_againLength_wsX30 : ∀ w ∈ wsX30, w ∈ wsX3_againLength := fun _ h => List.mem_cons_of_mem _ (List.mem_append_left _ (List.mem_append_left _ (List.mem_append_right _ h)))
theorem inX3_againLength_wsX70 : ∀ w ∈ wsX70, w ∈ wsX3_againLength := fun _ h => List.mem_cons_of_mem _ (List.mem_append_left _ (List.mem_append_right _ h))
def wpX3_againLength (tn : Int32) (tb : Nat → Int32) (sg : Int32) (v1 : Int32) (v2 : Int32) (post : Int32 → Prop) : Prop := wpX8_sameFrom tn tb v1 v2 (fun (r_1 : Int32) => post (if sg < r_1 then sg else r_1))
set_option maxHeartbeats 4000000 in
set_option maxRecDepth 100000 in
theorem mtX3_againLength (l : Launch) (dC : Nat → ClassId) (dI : Nat → Nat → Nat) (cyI : ClassId) {aT aTb aS aF : Nat} {sz : Nat} {tn : Int32} {tb : Nat → Int32} {sw : Int32} {sl : Int32} {sg : Int32} {sp : Int32} {v1 : Int32} {v2 : Int32} {post : Int32 → Prop} (h : wpX3_againLength tn tb sg v1 v2 post) : Met l yX3_againLength wsX3_againLength ({ frames := 1, cells := 0, slots := 0, locals := 23 }) (va_Pc [.ref aF, .int v1, .int v2] (wk_B (dC, dI) [(cyI, .int)] [(aT, .inr (7, [.ref aTb, .int tn])), (aTb, .inl (cyI, 64, .inl tb)), (aS, .inr (6, [.int sw, .int sl, .int sg, .int sp])), (aF, .inr (2, [.ref aT, .ref aS]))] sz)) (va_Qi (fun (r : Int32) (u : Unit) => post r ) (wk_C (dC, dI) [(cyI, .int)] (va_A [(aT, .inr (7, [.ref aTb, .int tn])), (aTb, .inl (cyI, 64, .inl tb)), (aS, .inr (6, [.int sw, .int sl, .int sg, .int sp])), (aF, .inr (2, [.ref aT, .ref aS]))] sz) (fun (u : Unit) => [(aT, .inr (7, [.ref aTb, .int tn])), (aTb, .inl (cyI, 64, .inl tb)), (aS, .inr (6, [.int sw, .int sl, .int sg, .int sp])), (aF, .inr (2, [.ref aT, .ref aS]))])) (va_A [(aT, .inr (7, [.ref aTb, .int tn])), (aTb, .inl (cyI, 64, .inl tb)), (aS, .inr (6, [.int sw, .int sl, .int sg, .int sp])), (aF, .inr (2, [.ref aT, .ref aS]))] sz)) 0 0 (va_A [(aT, .inr (7, [.ref aTb, .int tn])), (aTb, .inl (cyI, 64, .inl tb)), (aS, .inr (6, [.int sw, .int sl, .int sg, .int sp])), (aF, .inr (2, [.ref aT, .ref aS]))] sz) := by
  refine Met.ofW (cc := cX3_againLength) (maxL := 3) (ret := (some .int)) (by decide) rfl ?_
  intro p e s m args below meth c s₁ B hml hv
  obtain ⟨rfl, hsz, hP, hK, hD0⟩ := hv
  have hx := B.exec
  have hb := B.bytes
  have hr := B.returns
  have hts := atoms_spec (ws := wsX3_againLength) B.pre
  have hown : s.vm.findClass RX3 = some m.cls := findClass_of_methodNamed B.named
  have hlocks := B.notSynchronized
  subst hsz
  have hD := hD0.self (sz := s.heap.size)
  generalize hAe : va_A [(aT, .inr (7, [.ref aTb, .int tn])), (aTb, .inl (cyI, 64, .inl tb)), (aS, .inr (6, [.int sw, .int sl, .int sg, .int sp])), (aF, .inr (2, [.ref aT, .ref aS]))] s.heap.size = A at hD ⊢
  have hA : ∀ q : Nat, s.heap.size ≤ q → A q := fun q h => by rw [← hAe]; exact Or.inr h
  have hS : va_S A s.heap s.heap [] := va_S.rf
  have hP : va_P (dC, dI) vwCl [(aT, .inr (7, [.ref aTb, .int tn])), (aTb, .inl (cyI, 64, .inl tb)), (aS, .inr (6, [.int sw, .int sl, .int sg, .int sp])), (aF, .inr (2, [.ref aT, .ref aS]))] s.heap := hP
  have hl := lv_entry ([.ref aF, .int v1, .int v2]) (n := 3) (Nat.le_of_ble_eq_true rfl)
  rw [lg_entry_eq]
  generalize (lg_sl ([.ref aF, .int v1, .int v2]) ++ List.replicate (3 - (lg_sl ([.ref aF, .int v1, .int v2])).length) Slot.unset).toArray = ls at hl ⊢
  have hl : lv_has ls 3 [(0, .ref aF), (1, .int v1), (2, .int v2)] := hl
  have C0 : CallFix p m c cX3_againLength 3 s ([.ref aF, .int v1, .int v2] : List Value).toArray wsX3_againLength RX3 := ⟨hx, hb, hml, hown, hts⟩
  unfold wpX3_againLength at h
  refine lv_aload_n hx hb dX3_againLength_0 rfl (lv_at hl 0 rfl) ?_
  refine va_get (D := (dC, dI)) (ci := 2) (v := .ref aT) (C := RX3) (T := TX3) (N := 2) hx hb hts inX3_againLength_wsX30 hown hK hP 3 rfl rfl 0 (by decide) (hts _ qX3_againLength_0) (fun _ h9 => h9) rfl dX3_againLength_1 ?_
  refine lv_iload_n hx hb dX3_againLength_4 rfl (lv_at hl 1 rfl) ?_
  refine lv_iload_n hx hb dX3_againLength_5 rfl (lv_at hl 2 rfl) ?_
  refine wk_calli (wc := [(aT, .inr (7, [.ref aTb, .int tn])), (aTb, .inl (cyI, 64, .inl tb))]) (wr := [(aS, .inr (6, [.int sw, .int sl, .int sg, .int sp])), (aF, .inr (2, [.ref aT, .ref aS]))]) (va_runV (As := [.int v1, .int v2]) (rest := []) C0 (mtX8_sameFrom l dC dI cyI (aT := aT) (aTb := aTb) (sz := _) (tn := tn) (tb := tb) (v1 := v1) (v2 := v2) h) (cwV 2 hts gX3_againLength_X8_sameFrom rfl rfl rfl (by decide +kernel) ⟨(Nat.le_of_ble_eq_true rfl), (Nat.le_of_ble_eq_true rfl)⟩) (wk_preV (wc := [(aT, .inr (7, [.ref aTb, .int tn])), (aTb, .inl (cyI, 64, .inl tb))]) hK hP hD [0, 1] rfl (by decide) (va_recv hK hP (ci := 7) (q0 := 0) rfl rfl)) rfl rfl hl.1 rfl (lv_room (Nat.le_of_ble_eq_true rfl)) dX3_againLength_6 ⟨(Nat.le_of_ble_eq_true rfl), (Nat.le_of_ble_eq_true rfl)⟩) hP hD hS hA [0, 1] [2, 3] rfl rfl (by decide) (by decide) (fun r_1 u9 H locs h hP hD hS => ?_)
  have hP : va_P (dC, dI) vwCl [(aS, .inr (6, [.int sw, .int sl, .int sg, .int sp])), (aF, .inr (2, [.ref aT, .ref aS])), (aT, .inr (7, [.ref aTb, .int tn])), (aTb, .inl (cyI, 64, .inl tb))] H := hP
  have hD : va_D A [(aS, .inr (6, [.int sw, .int sl, .int sg, .int sp])), (aF, .inr (2, [.ref aT, .ref aS])), (aT, .inr (7, [.ref aTb, .int tn])), (aTb, .inl (cyI, 64, .inl tb))] := hD
  refine lv_aload_n hx hb dX3_againLength_9 rfl (lv_at hl 0 rfl) ?_
  refine va_get (D := (dC, dI)) (ci := 2) (v := .ref aS) (C := RX3) (T := TX3) (N := 2) hx hb hts inX3_againLength_wsX30 hown hK hP 1 rfl rfl 1 (by decide) (hts _ qX3_againLength_1) (fun _ h9 => h9) rfl dX3_againLength_10 ?_
  refine va_get (D := (dC, dI)) (ci := 6) (v := .int sg) (C := RX7) (T := TX7) (N := 4) hx hb hts inX3_againLength_wsX70 hown hK hP 0 rfl rfl 2 (by decide) (hts _ qX3_againLength_2) (fun _ h9 => h9) rfl dX3_againLength_13 ?_
  refine va_mmin hx hb (hml.trans hl.1.symm) hown (hts _ qX3_againLength_3) (hts _ qX3_againLength_4) (hts _ qX3_againLength_5) (hts _ qX3_againLength_6) (Nat.le_of_ble_eq_true rfl) (Nat.le_of_ble_eq_true rfl) (Nat.zero_le _) (Nat.zero_le _) dX3_againLength_16 ?_
  have hP9 : va_P (dC, dI) vwCl [(aT, .inr (7, [.ref aTb, .int tn])), (aTb, .inl (cyI, 64, .inl tb)), (aS, .inr (6, [.int sw, .int sl, .int sg, .int sp])), (aF, .inr (2, [.ref aT, .ref aS]))] _ := (hP.sub [2, 3, 0, 1] rfl)
  have hD9 : va_D A [(aT, .inr (7, [.ref aTb, .int tn])), (aTb, .inl (cyI, 64, .inl tb)), (aS, .inr (6, [.int sw, .int sl, .int sg, .int sp])), (aF, .inr (2, [.ref aT, .ref aS]))] := (hD.sub [2, 3, 0, 1] (by decide) rfl)
  exact W.iret (v := (if sg < r_1 then sg else r_1)) hx hb hr (fun t ht hW => ⟨⟨(if sg < r_1 then sg else r_1), (), rfl, h, by rw [ht]; exact hP9, va_K.moved hW.alike hK, hD9⟩, hS.F ht⟩) hS.2.2 dX3_againLength_19
-- X3_matchLength
theorem qX3_matchLength_0 : Cond.fieldLink RX3 13 "MatchCoder$Finder" "settings" "LMatchCoder$Settings;" ∈ wsX3_matchLength := (List.mem_cons_of_mem _ (List.mem_append_left _ (List.mem_append_left _ (List.mem_append_left _ (List.mem_of_getElem? (i := 0) rfl)))))
theorem qX3_matchLength_1 : Cond.fieldLink RX3 34 "MatchCoder$Settings" "window" "I" ∈ wsX3_matchLength := (List.mem_cons_of_mem _ (List.mem_append_left _ (List.mem_append_left _ (List.mem_append_left _ (List.mem_of_getElem? (i := 1) rfl)))))
theorem qX3_matchLength_2 : Cond.methodLink RX3 29 Lib.Math.min.name ∈ wsX3_matchLength := (List.mem_cons_of_mem _ (List.mem_append_left _ (List.mem_append_left _ (List.mem_append_left _ (List.mem_of_getElem? (i := 2) rfl)))))
theorem qX3_matchLength_3 : Cond.static Lib.Math.min.name ∈ wsX3_matchLength := (List.mem_cons_of_mem _ (List.mem_append_left _ (List.mem_append_left _ (List.mem_append_left _ (List.mem_of_getElem? (i := 3) rfl)))))
theorem qX3_matchLength_4 : Cond.initialized "java/lang/Math" ∈ wsX3_matchLength := (List.mem_cons_of_mem _ (List.mem_append_left _ (List.mem_append_left _ (List.mem_append_left _ (List.mem_of_getElem? (i := 4) rfl)))))
theorem qX3_matchLength_5 : Cond.code Lib.Math.min.name Lib.Math.min.code 2 (some .int) ∈ wsX3_matchLength := (List.mem_cons_of_mem _ (List.mem_append_left _ (List.mem_append_left _ (List.mem_append_left _ (List.mem_of_getElem? (i := 5) rfl)))))
theorem qX3_matchLength_6 : Cond.methodLink RX3 40 Lib.Math.max.name ∈ wsX3_matchLength := (List.mem_cons_of_mem _ (List.mem_append_left _ (List.mem_append_left _ (List.mem_append_left _ (List.mem_of_getElem? (i := 6) rfl)))))
theorem qX3_matchLength_7 : Cond.static Lib.Math.max.name ∈ wsX3_matchLength := (List.mem_cons_of_mem _ (List.mem_append_left _ (List.mem_append_left _ (List.mem_append_left _ (List.mem_of_getElem? (i := 7) rfl)))))
theorem qX3_matchLength_8 : Cond.code Lib.Math.max.name Lib.Math.max.code 2 (some .int) ∈ wsX3_matchLength := (List.mem_cons_of_mem _ (List.mem_append_left _ (List.mem_append_left _ (List.mem_append_left _ (List.mem_of_getElem? (i := 8) rfl)))))
theorem qX3_matchLength_9 : Cond.fieldLink RX3 43 "MatchCoder$Settings" "least" "I" ∈ wsX3_matchLength := (List.mem_cons_of_mem _ (List.mem_append_left _ (List.mem_append_left _ (List.mem_append_left _ (List.mem_of_getElem? (i := 9) rfl)))))
theorem inX3_matchLength_wsX30 : ∀ w ∈ wsX30, w ∈ wsX3_matchLength := fun _ h => List.mem_cons_of_mem _ (List.mem_append_left _ (List.mem_append_left _ (List.mem_append_right _ h)))
theorem inX3_matchLength_wsX70 : ∀ w ∈ wsX70, w ∈ wsX3_matchLength := fun _ h => List.mem_cons_of_mem _ (List.mem_append_left _ (List.mem_append_right _ h))
def wpX3_matchLength_17 (v1 : Int32) (v2 : Int32) (tn : Int32) (tb : Nat → Int32) (sg : Int32) (K41 : Int32 → Prop) : Nat → Int32 → Int32 → Prop
  | 0, _, _ => False
  | n17 + 1, v3, v4 => (v2 < v4 → (K41 v3)) ∧ (¬ v2 < v4 → (wpX3_againLength tn tb sg v1 v4 (fun (r_2 : Int32) => wpX3_matchLength_17 v1 v2 tn tb sg K41 n17 (if v3 < r_2 then r_2 else v3) (v4 + 1))))
set_option maxHeartbeats 4000000 in
set_option maxRecDepth 100000 in
theorem wlX3_matchLength_17 {p : Program} {l : Launch} {e : Env} {s : State} {m : MethodId} {args : Array Value} {below : List Frame} {meth : Method} {c : Code} {A : Nat → Prop} {Q : State → Prop} {dC : Nat → ClassId} {dI : Nat → Nat → Nat} {cyI : ClassId} {aT aTb aS aF : Nat} {v1 : Int32} {v2 : Int32} {tn : Int32} {tb : Nat → Int32} {sw : Int32} {sl : Int32} {sg : Int32} {sp : Int32} {K41 : Int32 → Prop} (C0 : CallFix p m c cX3_matchLength 5 s args wsX3_matchLength RX3) (hA : ∀ q : Nat, s.heap.size ≤ q → A q) (hK : va_K (dC, dI) vwCl [(cyI, .int)] s) (hK41 : ∀ (v3 : Int32), K41 v3 → ∀ (H : Heap) (locs : List Loc) (ls : Array Slot), va_P (dC, dI) vwCl [(aT, .inr (7, [.ref aTb, .int tn])), (aTb, .inl (cyI, 64, .inl tb)), (aS, .inr (6, [.int sw, .int sl, .int sg, .int sp])), (aF, .inr (2, [.ref aT, .ref aS]))] H → va_D A [(aT, .inr (7, [.ref aTb, .int tn])), (aTb, .inl (cyI, 64, .inl tb)), (aS, .inr (6, [.int sw, .int sl, .int sg, .int sp])), (aF, .inr (2, [.ref aT, .ref aS]))] → va_S A s.heap H locs → lv_has ls 5 [(0, .ref aF), (3, .int v3)] → W p l e ({ frames := 2, cells := 0, slots := 0, locals := 45 } : Room) s m args below meth c H locs 0 0 Q (F0 m 41 ls [])) :
    ∀ (n17 : Nat) (v3 : Int32) (v4 : Int32), wpX3_matchLength_17 v1 v2 tn tb sg K41 n17 v3 v4 → ∀ (H : Heap) (locs : List Loc) (ls : Array Slot), va_P (dC, dI) vwCl [(aT, .inr (7, [.ref aTb, .int tn])), (aTb, .inl (cyI, 64, .inl tb)), (aS, .inr (6, [.int sw, .int sl, .int sg, .int sp])), (aF, .inr (2, [.ref aT, .ref aS]))] H → va_D A [(aT, .inr (7, [.ref aTb, .int tn])), (aTb, .inl (cyI, 64, .inl tb)), (aS, .inr (6, [.int sw, .int sl, .int sg, .int sp])), (aF, .inr (2, [.ref aT, .ref aS]))] → va_S A s.heap H locs → lv_has ls 5 [(0, .ref aF), (1, .int v1), (2, .int v2), (3, .int v3), (4, .int v4)] → W p l e ({ frames := 2, cells := 0, slots := 0, locals := 45 } : Room) s m args below meth c H locs 0 0 Q (F0 m 17 ls []) := by
  obtain ⟨hx, hb, hml, hown, hts⟩ := id C0
  intro n17
  induction n17 with
  | zero => intro _ _ h; exact h.elim
  | succ n17 ih17 =>
    intro v3 v4 h H locs ls hP hD hS hl
    rw [wpX3_matchLength_17] at h
    refine lv_iload hx hb dX3_matchLength_17 (lv_at hl 4 rfl) ?_
    refine lv_iload_n hx hb dX3_matchLength_19 rfl (lv_at hl 2 rfl) ?_
    refine lv_icmp_gt (tgt := 41) hx hb dX3_matchLength_20 (by decide) (fun c_1 => ?_) (fun c_1 => ?_)
    · replace h := h.1 c_1
      exact hK41 _ h _ _ _ hP hD hS (lv_sub hl [0, 3] rfl)
    · replace h := h.2 c_1
      refine lv_iload_n hx hb dX3_matchLength_23 rfl (lv_at hl 3 rfl) ?_
      refine lv_aload_n hx hb dX3_matchLength_24 rfl (lv_at hl 0 rfl) ?_
      refine lv_iload_n hx hb dX3_matchLength_25 rfl (lv_at hl 1 rfl) ?_
      refine lv_iload hx hb dX3_matchLength_26 (lv_at hl 4 rfl) ?_
      refine wk_calli (wc := [(aT, .inr (7, [.ref aTb, .int tn])), (aTb, .inl (cyI, 64, .inl tb)), (aS, .inr (6, [.int sw, .int sl, .int sg, .int sp])), (aF, .inr (2, [.ref aT, .ref aS]))]) (wr := []) (va_runV (As := [.int v1, .int v4]) (rest := [.int v3]) C0 (mtX3_againLength l dC dI cyI (aT := aT) (aTb := aTb) (aS := aS) (aF := aF) (sz := _) (tn := tn) (tb := tb) (sw := sw) (sl := sl) (sg := sg) (sp := sp) (v1 := v1) (v2 := v4) h) (cwV 2 hts gX3_matchLength_X3_againLength rfl rfl rfl (by decide +kernel) ⟨(Nat.le_of_ble_eq_true rfl), (Nat.le_of_ble_eq_true rfl)⟩) (wk_preV (wc := [(aT, .inr (7, [.ref aTb, .int tn])), (aTb, .inl (cyI, 64, .inl tb)), (aS, .inr (6, [.int sw, .int sl, .int sg, .int sp])), (aF, .inr (2, [.ref aT, .ref aS]))]) hK hP hD [0, 1, 2, 3] rfl (by decide) (va_recv hK hP (ci := 2) (q0 := 3) rfl rfl)) rfl rfl hl.1 rfl (lv_room (Nat.le_of_ble_eq_true rfl)) dX3_matchLength_28 ⟨(Nat.le_of_ble_eq_true rfl), (Nat.le_of_ble_eq_true rfl)⟩) hP hD hS hA [0, 1, 2, 3] [] rfl rfl (by decide) (by decide) (fun r_2 u9 H locs h hP hD hS => ?_)
      have hP : va_P (dC, dI) vwCl [(aT, .inr (7, [.ref aTb, .int tn])), (aTb, .inl (cyI, 64, .inl tb)), (aS, .inr (6, [.int sw, .int sl, .int sg, .int sp])), (aF, .inr (2, [.ref aT, .ref aS]))] H := hP
      have hD : va_D A [(aT, .inr (7, [.ref aTb, .int tn])), (aTb, .inl (cyI, 64, .inl tb)), (aS, .inr (6, [.int sw, .int sl, .int sg, .int sp])), (aF, .inr (2, [.ref aT, .ref aS]))] := hD
      refine va_mmax hx hb (hml.trans hl.1.symm) hown (hts _ qX3_matchLength_6) (hts _ qX3_matchLength_7) (hts _ qX3_matchLength_4) (hts _ qX3_matchLength_8) (Nat.le_of_ble_eq_true rfl) (Nat.le_of_ble_eq_true rfl) (Nat.zero_le _) (Nat.zero_le _) dX3_matchLength_31 ?_
      refine lv_istore_n (lv' := [(3, .int (if v3 < r_2 then r_2 else v3)), (0, .ref aF), (1, .int v1), (2, .int v2), (4, .int v4)]) hx hb dX3_matchLength_34 rfl hl (by decide) rfl (fun ls hl => ?_)
      refine lv_iinc (v := v4 + 1) (lv' := [(4, .int (v4 + 1)), (3, .int (if v3 < r_2 then r_2 else v3)), (0, .ref aF), (1, .int v1), (2, .int v2)]) hx hb dX3_matchLength_35 hl (k := 4) rfl rfl (by decide) rfl (fun ls hl => ?_)
      refine lv_goto (tgt := 17) hx hb dX3_matchLength_38 (by decide) ?_
      exact ih17 _ _ h _ _ _ hP hD hS (lv_sub hl [2, 3, 4, 1, 0] rfl)
def wpX3_matchLength (tn : Int32) (tb : Nat → Int32) (sw : Int32) (sl : Int32) (sg : Int32) (v1 : Int32) (post : Int32 → Prop) : Prop := ∃ n17 : Nat, wpX3_matchLength_17 v1 (if sw < v1 then sw else v1) tn tb sg (fun (v3_3 : Int32) => (sl ≤ v3_3 → (post v3_3)) ∧ (¬ sl ≤ v3_3 → (post 0))) n17 0 1
set_option maxHeartbeats 4000000 in
set_option maxRecDepth 100000 in
theorem mtX3_matchLength (l : Launch) (dC : Nat → ClassId) (dI : Nat → Nat → Nat) (cyI : ClassId) {aT aTb aS aF : Nat} {sz : Nat} {tn : Int32} {tb : Nat → Int32} {sw : Int32} {sl : Int32} {sg : Int32} {sp : Int32} {v1 : Int32} {post : Int32 → Prop} (h : wpX3_matchLength tn tb sw sl sg v1 post) : Met l yX3_matchLength wsX3_matchLength ({ frames := 2, cells := 0, slots := 0, locals := 45 }) (va_Pc [.ref aF, .int v1] (wk_B (dC, dI) [(cyI, .int)] [(aT, .inr (7, [.ref aTb, .int tn])), (aTb, .inl (cyI, 64, .inl tb)), (aS, .inr (6, [.int sw, .int sl, .int sg, .int sp])), (aF, .inr (2, [.ref aT, .ref aS]))] sz)) (va_Qi (fun (r : Int32) (u : Unit) => post r ) (wk_C (dC, dI) [(cyI, .int)] (va_A [(aT, .inr (7, [.ref aTb, .int tn])), (aTb, .inl (cyI, 64, .inl tb)), (aS, .inr (6, [.int sw, .int sl, .int sg, .int sp])), (aF, .inr (2, [.ref aT, .ref aS]))] sz) (fun (u : Unit) => [(aT, .inr (7, [.ref aTb, .int tn])), (aTb, .inl (cyI, 64, .inl tb)), (aS, .inr (6, [.int sw, .int sl, .int sg, .int sp])), (aF, .inr (2, [.ref aT, .ref aS]))])) (va_A [(aT, .inr (7, [.ref aTb, .int tn])), (aTb, .inl (cyI, 64, .inl tb)), (aS, .inr (6, [.int sw, .int sl, .int sg, .int sp])), (aF, .inr (2, [.ref aT, .ref aS]))] sz)) 0 0 (va_A [(aT, .inr (7, [.ref aTb, .int tn])), (aTb, .inl (cyI, 64, .inl tb)), (aS, .inr (6, [.int sw, .int sl, .int sg, .int sp])), (aF, .inr (2, [.ref aT, .ref aS]))] sz) := by
  refine Met.ofW (cc := cX3_matchLength) (maxL := 5) (ret := (some .int)) (by decide) rfl ?_
  intro p e s m args below meth c s₁ B hml hv
  obtain ⟨rfl, hsz, hP, hK, hD0⟩ := hv
  have hx := B.exec
  have hb := B.bytes
  have hr := B.returns
  have hts := atoms_spec (ws := wsX3_matchLength) B.pre
  have hown : s.vm.findClass RX3 = some m.cls := findClass_of_methodNamed B.named
  have hlocks := B.notSynchronized
  subst hsz
  have hD := hD0.self (sz := s.heap.size)
  generalize hAe : va_A [(aT, .inr (7, [.ref aTb, .int tn])), (aTb, .inl (cyI, 64, .inl tb)), (aS, .inr (6, [.int sw, .int sl, .int sg, .int sp])), (aF, .inr (2, [.ref aT, .ref aS]))] s.heap.size = A at hD ⊢
  have hA : ∀ q : Nat, s.heap.size ≤ q → A q := fun q h => by rw [← hAe]; exact Or.inr h
  have hS : va_S A s.heap s.heap [] := va_S.rf
  have hP : va_P (dC, dI) vwCl [(aT, .inr (7, [.ref aTb, .int tn])), (aTb, .inl (cyI, 64, .inl tb)), (aS, .inr (6, [.int sw, .int sl, .int sg, .int sp])), (aF, .inr (2, [.ref aT, .ref aS]))] s.heap := hP
  have hl := lv_entry ([.ref aF, .int v1]) (n := 5) (Nat.le_of_ble_eq_true rfl)
  rw [lg_entry_eq]
  generalize (lg_sl ([.ref aF, .int v1]) ++ List.replicate (5 - (lg_sl ([.ref aF, .int v1])).length) Slot.unset).toArray = ls at hl ⊢
  have hl : lv_has ls 5 [(0, .ref aF), (1, .int v1)] := hl
  have C0 : CallFix p m c cX3_matchLength 5 s ([.ref aF, .int v1] : List Value).toArray wsX3_matchLength RX3 := ⟨hx, hb, hml, hown, hts⟩
  unfold wpX3_matchLength at h
  refine lv_iload_n hx hb dX3_matchLength_0 rfl (lv_at hl 1 rfl) ?_
  refine lv_aload_n hx hb dX3_matchLength_1 rfl (lv_at hl 0 rfl) ?_
  refine va_get (D := (dC, dI)) (ci := 2) (v := .ref aS) (C := RX3) (T := TX3) (N := 2) hx hb hts inX3_matchLength_wsX30 hown hK hP 3 rfl rfl 1 (by decide) (hts _ qX3_matchLength_0) (fun _ h9 => h9) rfl dX3_matchLength_2 ?_
  refine va_get (D := (dC, dI)) (ci := 6) (v := .int sw) (C := RX7) (T := TX7) (N := 4) hx hb hts inX3_matchLength_wsX70 hown hK hP 2 rfl rfl 0 (by decide) (hts _ qX3_matchLength_1) (fun _ h9 => h9) rfl dX3_matchLength_5 ?_
  refine va_mmin hx hb (hml.trans hl.1.symm) hown (hts _ qX3_matchLength_2) (hts _ qX3_matchLength_3) (hts _ qX3_matchLength_4) (hts _ qX3_matchLength_5) (Nat.le_of_ble_eq_true rfl) (Nat.le_of_ble_eq_true rfl) (Nat.zero_le _) (Nat.zero_le _) dX3_matchLength_8 ?_
  refine lv_istore_n (lv' := [(2, .int (if sw < v1 then sw else v1)), (0, .ref aF), (1, .int v1)]) hx hb dX3_matchLength_11 rfl hl (by decide) rfl (fun ls hl => ?_)
  refine lv_iconst (v := 0) hx hb dX3_matchLength_12 (by decide) ?_
  refine lv_istore_n (lv' := [(3, .int 0), (2, .int (if sw < v1 then sw else v1)), (0, .ref aF), (1, .int v1)]) hx hb dX3_matchLength_13 rfl hl (by decide) rfl (fun ls hl => ?_)
  refine lv_iconst (v := 1) hx hb dX3_matchLength_14 (by decide) ?_
  refine lv_istore (lv' := [(4, .int 1), (3, .int 0), (2, .int (if sw < v1 then sw else v1)), (0, .ref aF), (1, .int v1)]) hx hb dX3_matchLength_15 hl (by decide) rfl (fun ls hl => ?_)
  obtain ⟨n17, h⟩ := h
  refine wlX3_matchLength_17 C0 hA hK ?_ n17 _ _ h _ _ _ hP hD hS (lv_sub hl [3, 4, 2, 1, 0] rfl)
  · intro v3_3 h H locs ls hP hD hS hl
    refine lv_iload_n hx hb dX3_matchLength_41 rfl (lv_at hl 1 rfl) ?_
    refine lv_aload_n hx hb dX3_matchLength_42 rfl (lv_at hl 0 rfl) ?_
    refine va_get (D := (dC, dI)) (ci := 2) (v := .ref aS) (C := RX3) (T := TX3) (N := 2) hx hb hts inX3_matchLength_wsX30 hown hK hP 3 rfl rfl 1 (by decide) (hts _ qX3_matchLength_0) (fun _ h9 => h9) rfl dX3_matchLength_43 ?_
    refine va_get (D := (dC, dI)) (ci := 6) (v := .int sl) (C := RX7) (T := TX7) (N := 4) hx hb hts inX3_matchLength_wsX70 hown hK hP 2 rfl rfl 1 (by decide) (hts _ qX3_matchLength_9) (fun _ h9 => h9) rfl dX3_matchLength_46 ?_
    refine lv_icmp_ge (tgt := 56) hx hb dX3_matchLength_49 (by decide) (fun c_4 => ?_) (fun c_4 => ?_)
    · replace h := h.1 c_4
      refine lv_iload_n hx hb dX3_matchLength_56 rfl (lv_at hl 1 rfl) ?_
      have hP9 : va_P (dC, dI) vwCl [(aT, .inr (7, [.ref aTb, .int tn])), (aTb, .inl (cyI, 64, .inl tb)), (aS, .inr (6, [.int sw, .int sl, .int sg, .int sp])), (aF, .inr (2, [.ref aT, .ref aS]))] _ := hP
      have hD9 : va_D A [(aT, .inr (7, [.ref aTb, .int tn])), (aTb, .inl (cyI, 64, .inl tb)), (aS, .inr (6, [.int sw, .int sl, .int sg, .int sp])), (aF, .inr (2, [.ref aT, .ref aS]))] := hD
      exact W.iret (v := v3_3) hx hb hr (fun t ht hW => ⟨⟨v3_3, (), rfl, h, by rw [ht]; exact hP9, va_K.moved hW.alike hK, hD9⟩, hS.F ht⟩) hS.2.2 dX3_matchLength_57
    · replace h := h.2 c_4
      refine lv_iconst (v := 0) hx hb dX3_matchLength_52 (by decide) ?_
      refine lv_goto (tgt := 57) hx hb dX3_matchLength_53 (by decide) ?_
      have hP9 : va_P (dC, dI) vwCl [(aT, .inr (7, [.ref aTb, .int tn])), (aTb, .inl (cyI, 64, .inl tb)), (aS, .inr (6, [.int sw, .int sl, .int sg, .int sp])), (aF, .inr (2, [.ref aT, .ref aS]))] _ := hP
      have hD9 : va_D A [(aT, .inr (7, [.ref aTb, .int tn])), (aTb, .inl (cyI, 64, .inl tb)), (aS, .inr (6, [.int sw, .int sl, .int sg, .int sp])), (aF, .inr (2, [.ref aT, .ref aS]))] := hD
      exact W.iret (v := 0) hx hb hr (fun t ht hW => ⟨⟨0, (), rfl, h, by rw [ht]; exact hP9, va_K.moved hW.alike hK, hD9⟩, hS.F ht⟩) hS.2.2 dX3_matchLength_57
-- X3_matchDistance
theorem qX3_matchDistance_0 : Cond.fieldLink RX3 13 "MatchCoder$Finder" "settings" "LMatchCoder$Settings;" ∈ wsX3_matchDistance := (List.mem_cons_of_mem _ (List.mem_append_left _ (List.mem_append_left _ (List.mem_append_left _ (List.mem_of_getElem? (i := 0) rfl)))))
theorem qX3_matchDistance_1 : Cond.fieldLink RX3 34 "MatchCoder$Settings" "window" "I" ∈ wsX3_matchDistance := (List.mem_cons_of_mem _ (List.mem_append_left _ (List.mem_append_left _ (List.mem_append_left _ (List.mem_of_getElem? (i := 1) rfl)))))
theorem qX3_matchDistance_2 : Cond.methodLink RX3 29 Lib.Math.min.name ∈ wsX3_matchDistance := (List.mem_cons_of_mem _ (List.mem_append_left _ (List.mem_append_left _ (List.mem_append_left _ (List.mem_of_getElem? (i := 2) rfl)))))
theorem qX3_matchDistance_3 : Cond.static Lib.Math.min.name ∈ wsX3_matchDistance := (List.mem_cons_of_mem _ (List.mem_append_left _ (List.mem_append_left _ (List.mem_append_left _ (List.mem_of_getElem? (i := 3) rfl)))))
theorem qX3_matchDistance_4 : Cond.initialized "java/lang/Math" ∈ wsX3_matchDistance := (List.mem_cons_of_mem _ (List.mem_append_left _ (List.mem_append_left _ (List.mem_append_left _ (List.mem_of_getElem? (i := 4) rfl)))))
theorem qX3_matchDistance_5 : Cond.code Lib.Math.min.name Lib.Math.min.code 2 (some .int) ∈ wsX3_matchDistance := (List.mem_cons_of_mem _ (List.mem_append_left _ (List.mem_append_left _ (List.mem_append_left _ (List.mem_of_getElem? (i := 5) rfl)))))
theorem inX3_matchDistance_wsX30 : ∀ w ∈ wsX30, w ∈ wsX3_matchDistance := fun _ h => List.mem_cons_of_mem _ (List.mem_append_left _ (List.mem_append_left _ (List.mem_append_right _ h)))
theorem inX3_matchDistance_wsX70 : ∀ w ∈ wsX70, w ∈ wsX3_matchDistance := fun _ h => List.mem_cons_of_mem _ (List.mem_append_left _ (List.mem_append_right _ h))
def wpX3_matchDistance_23 (v1 : Int32) (v2 : Int32) (v3 : Int32) (tn : Int32) (tb : Nat → Int32) (sg : Int32) (K40 : Int32 → Prop) (K49 : Prop) : Nat → Int32 → Prop
  | 0, _ => False
  | n23 + 1, v4 => (v3 < v4 → (K49)) ∧ (¬ v3 < v4 → (wpX3_againLength tn tb sg v1 v4 (fun (r_3 : Int32) => (r_3 = v2 → (K40 v4)) ∧ (¬ r_3 = v2 → (wpX3_matchDistance_23 v1 v2 v3 tn tb sg K40 K49 n23 (v4 + 1))))))
set_option maxHeartbeats 4000000 in
set_option maxRecDepth 100000 in
theorem wlX3_matchDistance_23 {p : Program} {l : Launch} {e : Env} {s : State} {m : MethodId} {args : Array Value} {below : List Frame} {meth : Method} {c : Code} {A : Nat → Prop} {Q : State → Prop} {dC : Nat → ClassId} {dI : Nat → Nat → Nat} {cyI : ClassId} {aT aTb aS aF : Nat} {v1 : Int32} {v2 : Int32} {v3 : Int32} {tn : Int32} {tb : Nat → Int32} {sw : Int32} {sl : Int32} {sg : Int32} {sp : Int32} {K40 : Int32 → Prop} {K49 : Prop} (C0 : CallFix p m c cX3_matchDistance 5 s args wsX3_matchDistance RX3) (hA : ∀ q : Nat, s.heap.size ≤ q → A q) (hK : va_K (dC, dI) vwCl [(cyI, .int)] s) (hK40 : ∀ (v4 : Int32), K40 v4 → ∀ (H : Heap) (locs : List Loc) (ls : Array Slot), va_P (dC, dI) vwCl [(aT, .inr (7, [.ref aTb, .int tn])), (aTb, .inl (cyI, 64, .inl tb)), (aS, .inr (6, [.int sw, .int sl, .int sg, .int sp])), (aF, .inr (2, [.ref aT, .ref aS]))] H → va_D A [(aT, .inr (7, [.ref aTb, .int tn])), (aTb, .inl (cyI, 64, .inl tb)), (aS, .inr (6, [.int sw, .int sl, .int sg, .int sp])), (aF, .inr (2, [.ref aT, .ref aS]))] → va_S A s.heap H locs → lv_has ls 5 [(4, .int v4)] → W p l e ({ frames := 2, cells := 0, slots := 0, locals := 45 } : Room) s m args below meth c H locs 0 0 Q (F0 m 40 ls [])) (hK49 : K49 → ∀ (H : Heap) (locs : List Loc) (ls : Array Slot), va_P (dC, dI) vwCl [(aT, .inr (7, [.ref aTb, .int tn])), (aTb, .inl (cyI, 64, .inl tb)), (aS, .inr (6, [.int sw, .int sl, .int sg, .int sp])), (aF, .inr (2, [.ref aT, .ref aS]))] H → va_D A [(aT, .inr (7, [.ref aTb, .int tn])), (aTb, .inl (cyI, 64, .inl tb)), (aS, .inr (6, [.int sw, .int sl, .int sg, .int sp])), (aF, .inr (2, [.ref aT, .ref aS]))] → va_S A s.heap H locs → lv_has ls 5 [] → W p l e ({ frames := 2, cells := 0, slots := 0, locals := 45 } : Room) s m args below meth c H locs 0 0 Q (F0 m 49 ls [])) :
    ∀ (n23 : Nat) (v4 : Int32), wpX3_matchDistance_23 v1 v2 v3 tn tb sg K40 K49 n23 v4 → ∀ (H : Heap) (locs : List Loc) (ls : Array Slot), va_P (dC, dI) vwCl [(aT, .inr (7, [.ref aTb, .int tn])), (aTb, .inl (cyI, 64, .inl tb)), (aS, .inr (6, [.int sw, .int sl, .int sg, .int sp])), (aF, .inr (2, [.ref aT, .ref aS]))] H → va_D A [(aT, .inr (7, [.ref aTb, .int tn])), (aTb, .inl (cyI, 64, .inl tb)), (aS, .inr (6, [.int sw, .int sl, .int sg, .int sp])), (aF, .inr (2, [.ref aT, .ref aS]))] → va_S A s.heap H locs → lv_has ls 5 [(0, .ref aF), (1, .int v1), (2, .int v2), (3, .int v3), (4, .int v4)] → W p l e ({ frames := 2, cells := 0, slots := 0, locals := 45 } : Room) s m args below meth c H locs 0 0 Q (F0 m 23 ls []) := by
  obtain ⟨hx, hb, hml, hown, hts⟩ := id C0
  intro n23
  induction n23 with
  | zero => intro _ h; exact h.elim
  | succ n23 ih23 =>
    intro v4 h H locs ls hP hD hS hl
    rw [wpX3_matchDistance_23] at h
    refine lv_iload hx hb dX3_matchDistance_23 (lv_at hl 4 rfl) ?_
    refine lv_iload_n hx hb dX3_matchDistance_25 rfl (lv_at hl 3 rfl) ?_
    refine lv_icmp_gt (tgt := 49) hx hb dX3_matchDistance_26 (by decide) (fun c_2 => ?_) (fun c_2 => ?_)
    · replace h := h.1 c_2
      exact hK49 h _ _ _ hP hD hS (lv_sub hl [] rfl)
    · replace h := h.2 c_2
      refine lv_aload_n hx hb dX3_matchDistance_29 rfl (lv_at hl 0 rfl) ?_
      refine lv_iload_n hx hb dX3_matchDistance_30 rfl (lv_at hl 1 rfl) ?_
      refine lv_iload hx hb dX3_matchDistance_31 (lv_at hl 4 rfl) ?_
      refine wk_calli (wc := [(aT, .inr (7, [.ref aTb, .int tn])), (aTb, .inl (cyI, 64, .inl tb)), (aS, .inr (6, [.int sw, .int sl, .int sg, .int sp])), (aF, .inr (2, [.ref aT, .ref aS]))]) (wr := []) (va_runV (As := [.int v1, .int v4]) (rest := []) C0 (mtX3_againLength l dC dI cyI (aT := aT) (aTb := aTb) (aS := aS) (aF := aF) (sz := _) (tn := tn) (tb := tb) (sw := sw) (sl := sl) (sg := sg) (sp := sp) (v1 := v1) (v2 := v4) h) (cwV 2 hts gX3_matchDistance_X3_againLength rfl rfl rfl (by decide +kernel) ⟨(Nat.le_of_ble_eq_true rfl), (Nat.le_of_ble_eq_true rfl)⟩) (wk_preV (wc := [(aT, .inr (7, [.ref aTb, .int tn])), (aTb, .inl (cyI, 64, .inl tb)), (aS, .inr (6, [.int sw, .int sl, .int sg, .int sp])), (aF, .inr (2, [.ref aT, .ref aS]))]) hK hP hD [0, 1, 2, 3] rfl (by decide) (va_recv hK hP (ci := 2) (q0 := 3) rfl rfl)) rfl rfl hl.1 rfl (lv_room (Nat.le_of_ble_eq_true rfl)) dX3_matchDistance_33 ⟨(Nat.le_of_ble_eq_true rfl), (Nat.le_of_ble_eq_true rfl)⟩) hP hD hS hA [0, 1, 2, 3] [] rfl rfl (by decide) (by decide) (fun r_3 u9 H locs h hP hD hS => ?_)
      have hP : va_P (dC, dI) vwCl [(aT, .inr (7, [.ref aTb, .int tn])), (aTb, .inl (cyI, 64, .inl tb)), (aS, .inr (6, [.int sw, .int sl, .int sg, .int sp])), (aF, .inr (2, [.ref aT, .ref aS]))] H := hP
      have hD : va_D A [(aT, .inr (7, [.ref aTb, .int tn])), (aTb, .inl (cyI, 64, .inl tb)), (aS, .inr (6, [.int sw, .int sl, .int sg, .int sp])), (aF, .inr (2, [.ref aT, .ref aS]))] := hD
      refine lv_iload_n hx hb dX3_matchDistance_36 rfl (lv_at hl 2 rfl) ?_
      refine lv_icmp_ne (tgt := 43) hx hb dX3_matchDistance_37 (by decide) (fun c_4 => ?_) (fun c_4 => ?_)
      · replace h := h.2 c_4
        refine lv_iinc (v := v4 + 1) (lv' := [(4, .int (v4 + 1)), (0, .ref aF), (1, .int v1), (2, .int v2), (3, .int v3)]) hx hb dX3_matchDistance_43 hl (k := 4) rfl rfl (by decide) rfl (fun ls hl => ?_)
        refine lv_goto (tgt := 23) hx hb dX3_matchDistance_46 (by decide) ?_
        exact ih23 _ h _ _ _ hP hD hS (lv_sub hl [1, 2, 3, 4, 0] rfl)
      · replace h := h.1 c_4
        exact hK40 _ h _ _ _ hP hD hS (lv_sub hl [4] rfl)
def wpX3_matchDistance_19 (v1 : Int32) (v2 : Int32) (k0 : Int32) (tn : Int32) (tb : Nat → Int32) (sg : Int32) (post : Int32 → Prop) : Prop := ∃ n23 : Nat, wpX3_matchDistance_23 v1 v2 k0 tn tb sg (fun (v4_5 : Int32) => post v4_5) (post 0) n23 1
set_option maxHeartbeats 4000000 in
set_option maxRecDepth 100000 in
theorem wjX3_matchDistance_19 {p : Program} {l : Launch} {e : Env} {s : State} {m : MethodId} {args : Array Value} {below : List Frame} {meth : Method} {c : Code} {A : Nat → Prop} {Q : State → Prop} {dC : Nat → ClassId} {dI : Nat → Nat → Nat} {cyI : ClassId} {aT aTb aS aF : Nat} {v1 : Int32} {v2 : Int32} {k0 : Int32} {tn : Int32} {tb : Nat → Int32} {sw : Int32} {sl : Int32} {sg : Int32} {sp : Int32} {post : Int32 → Prop} (C0 : CallFix p m c cX3_matchDistance 5 s args wsX3_matchDistance RX3) (hA : ∀ q : Nat, s.heap.size ≤ q → A q) (hK : va_K (dC, dI) vwCl [(cyI, .int)] s) (h : wpX3_matchDistance_19 v1 v2 k0 tn tb sg post) (H : Heap) (locs : List Loc) (ls : Array Slot) (hP : va_P (dC, dI) vwCl [(aT, .inr (7, [.ref aTb, .int tn])), (aTb, .inl (cyI, 64, .inl tb)), (aS, .inr (6, [.int sw, .int sl, .int sg, .int sp])), (aF, .inr (2, [.ref aT, .ref aS]))] H) (hD : va_D A [(aT, .inr (7, [.ref aTb, .int tn])), (aTb, .inl (cyI, 64, .inl tb)), (aS, .inr (6, [.int sw, .int sl, .int sg, .int sp])), (aF, .inr (2, [.ref aT, .ref aS]))]) (hS : va_S A s.heap H locs) (hl : lv_has ls 5 [(0, .ref aF), (1, .int v1), (2, .int v2)]) (hR42 : ∀ (r9 : Int32), post r9 → ∀ (H : Heap) (locs : List Loc) (ls : Array Slot), va_P (dC, dI) vwCl [(aT, .inr (7, [.ref aTb, .int tn])), (aTb, .inl (cyI, 64, .inl tb)), (aS, .inr (6, [.int sw, .int sl, .int sg, .int sp])), (aF, .inr (2, [.ref aT, .ref aS]))] H → va_D A [(aT, .inr (7, [.ref aTb, .int tn])), (aTb, .inl (cyI, 64, .inl tb)), (aS, .inr (6, [.int sw, .int sl, .int sg, .int sp])), (aF, .inr (2, [.ref aT, .ref aS]))] → va_S A s.heap H locs → W p l e ({ frames := 2, cells := 0, slots := 0, locals := 45 } : Room) s m args below meth c H locs 0 0 Q (F0 m 42 ls [.int r9])) (hR50 : ∀ (r9 : Int32), post r9 → ∀ (H : Heap) (locs : List Loc) (ls : Array Slot), va_P (dC, dI) vwCl [(aT, .inr (7, [.ref aTb, .int tn])), (aTb, .inl (cyI, 64, .inl tb)), (aS, .inr (6, [.int sw, .int sl, .int sg, .int sp])), (aF, .inr (2, [.ref aT, .ref aS]))] H → va_D A [(aT, .inr (7, [.ref aTb, .int tn])), (aTb, .inl (cyI, 64, .inl tb)), (aS, .inr (6, [.int sw, .int sl, .int sg, .int sp])), (aF, .inr (2, [.ref aT, .ref aS]))] → va_S A s.heap H locs → W p l e ({ frames := 2, cells := 0, slots := 0, locals := 45 } : Room) s m args below meth c H locs 0 0 Q (F0 m 50 ls [.int r9])) : W p l e ({ frames := 2, cells := 0, slots := 0, locals := 45 } : Room) s m args below meth c H locs 0 0 Q (F0 m 19 ls [.int k0]) := by
  obtain ⟨hx, hb, hml, hown, hts⟩ := id C0
  unfold wpX3_matchDistance_19 at h
  refine lv_istore_n (lv' := [(3, .int k0), (0, .ref aF), (1, .int v1), (2, .int v2)]) hx hb dX3_matchDistance_19 rfl hl (by decide) rfl (fun ls hl => ?_)
  refine lv_iconst (v := 1) hx hb dX3_matchDistance_20 (by decide) ?_
  refine lv_istore (lv' := [(4, .int 1), (3, .int k0), (0, .ref aF), (1, .int v1), (2, .int v2)]) hx hb dX3_matchDistance_21 hl (by decide) rfl (fun ls hl => ?_)
  obtain ⟨n23, h⟩ := h
  refine wlX3_matchDistance_23 C0 hA hK ?_ ?_ n23 _ h _ _ _ hP hD hS (lv_sub hl [2, 3, 4, 1, 0] rfl)
  · intro v4_5 h H locs ls hP hD hS hl
    refine lv_iload hx hb dX3_matchDistance_40 (lv_at hl 0 rfl) ?_
    exact hR42 _ h _ _ _ hP hD hS
  · intro  h H locs ls hP hD hS hl
    refine lv_iconst (v := 0) hx hb dX3_matchDistance_49 (by decide) ?_
    exact hR50 _ h _ _ _ hP hD hS
def wpX3_matchDistance (tn : Int32) (tb : Nat → Int32) (sw : Int32) (sg : Int32) (v1 : Int32) (v2 : Int32) (post : Int32 → Prop) : Prop := (v2 = 0 → (wpX3_matchDistance_19 v1 v2 0 tn tb sg post)) ∧ (¬ v2 = 0 → (wpX3_matchDistance_19 v1 v2 (if sw < v1 then sw else v1) tn tb sg post))
set_option maxHeartbeats 4000000 in
set_option maxRecDepth 100000 in
theorem mtX3_matchDistance (l : Launch) (dC : Nat → ClassId) (dI : Nat → Nat → Nat) (cyI : ClassId) {aT aTb aS aF : Nat} {sz : Nat} {tn : Int32} {tb : Nat → Int32} {sw : Int32} {sl : Int32} {sg : Int32} {sp : Int32} {v1 : Int32} {v2 : Int32} {post : Int32 → Prop} (h : wpX3_matchDistance tn tb sw sg v1 v2 post) : Met l yX3_matchDistance wsX3_matchDistance ({ frames := 2, cells := 0, slots := 0, locals := 45 }) (va_Pc [.ref aF, .int v1, .int v2] (wk_B (dC, dI) [(cyI, .int)] [(aT, .inr (7, [.ref aTb, .int tn])), (aTb, .inl (cyI, 64, .inl tb)), (aS, .inr (6, [.int sw, .int sl, .int sg, .int sp])), (aF, .inr (2, [.ref aT, .ref aS]))] sz)) (va_Qi (fun (r : Int32) (u : Unit) => post r ) (wk_C (dC, dI) [(cyI, .int)] (va_A [(aT, .inr (7, [.ref aTb, .int tn])), (aTb, .inl (cyI, 64, .inl tb)), (aS, .inr (6, [.int sw, .int sl, .int sg, .int sp])), (aF, .inr (2, [.ref aT, .ref aS]))] sz) (fun (u : Unit) => [(aT, .inr (7, [.ref aTb, .int tn])), (aTb, .inl (cyI, 64, .inl tb)), (aS, .inr (6, [.int sw, .int sl, .int sg, .int sp])), (aF, .inr (2, [.ref aT, .ref aS]))])) (va_A [(aT, .inr (7, [.ref aTb, .int tn])), (aTb, .inl (cyI, 64, .inl tb)), (aS, .inr (6, [.int sw, .int sl, .int sg, .int sp])), (aF, .inr (2, [.ref aT, .ref aS]))] sz)) 0 0 (va_A [(aT, .inr (7, [.ref aTb, .int tn])), (aTb, .inl (cyI, 64, .inl tb)), (aS, .inr (6, [.int sw, .int sl, .int sg, .int sp])), (aF, .inr (2, [.ref aT, .ref aS]))] sz) := by
  refine Met.ofW (cc := cX3_matchDistance) (maxL := 5) (ret := (some .int)) (by decide) rfl ?_
  intro p e s m args below meth c s₁ B hml hv
  obtain ⟨rfl, hsz, hP, hK, hD0⟩ := hv
  have hx := B.exec
  have hb := B.bytes
  have hr := B.returns
  have hts := atoms_spec (ws := wsX3_matchDistance) B.pre
  have hown : s.vm.findClass RX3 = some m.cls := findClass_of_methodNamed B.named
  have hlocks := B.notSynchronized
  subst hsz
  have hD := hD0.self (sz := s.heap.size)
  generalize hAe : va_A [(aT, .inr (7, [.ref aTb, .int tn])), (aTb, .inl (cyI, 64, .inl tb)), (aS, .inr (6, [.int sw, .int sl, .int sg, .int sp])), (aF, .inr (2, [.ref aT, .ref aS]))] s.heap.size = A at hD ⊢
  have hA : ∀ q : Nat, s.heap.size ≤ q → A q := fun q h => by rw [← hAe]; exact Or.inr h
  have hS : va_S A s.heap s.heap [] := va_S.rf
  have hP : va_P (dC, dI) vwCl [(aT, .inr (7, [.ref aTb, .int tn])), (aTb, .inl (cyI, 64, .inl tb)), (aS, .inr (6, [.int sw, .int sl, .int sg, .int sp])), (aF, .inr (2, [.ref aT, .ref aS]))] s.heap := hP
  have hl := lv_entry ([.ref aF, .int v1, .int v2]) (n := 5) (Nat.le_of_ble_eq_true rfl)
  rw [lg_entry_eq]
  generalize (lg_sl ([.ref aF, .int v1, .int v2]) ++ List.replicate (5 - (lg_sl ([.ref aF, .int v1, .int v2])).length) Slot.unset).toArray = ls at hl ⊢
  have hl : lv_has ls 5 [(0, .ref aF), (1, .int v1), (2, .int v2)] := hl
  have C0 : CallFix p m c cX3_matchDistance 5 s ([.ref aF, .int v1, .int v2] : List Value).toArray wsX3_matchDistance RX3 := ⟨hx, hb, hml, hown, hts⟩
  unfold wpX3_matchDistance at h
  refine lv_iload_n hx hb dX3_matchDistance_0 rfl (lv_at hl 2 rfl) ?_
  refine lv_if_ne (tgt := 8) hx hb dX3_matchDistance_1 (by decide) (fun c_1 => ?_) (fun c_1 => ?_)
  · replace h := h.2 c_1
    refine lv_iload_n hx hb dX3_matchDistance_8 rfl (lv_at hl 1 rfl) ?_
    refine lv_aload_n hx hb dX3_matchDistance_9 rfl (lv_at hl 0 rfl) ?_
    refine va_get (D := (dC, dI)) (ci := 2) (v := .ref aS) (C := RX3) (T := TX3) (N := 2) hx hb hts inX3_matchDistance_wsX30 hown hK hP 3 rfl rfl 1 (by decide) (hts _ qX3_matchDistance_0) (fun _ h9 => h9) rfl dX3_matchDistance_10 ?_
    refine va_get (D := (dC, dI)) (ci := 6) (v := .int sw) (C := RX7) (T := TX7) (N := 4) hx hb hts inX3_matchDistance_wsX70 hown hK hP 2 rfl rfl 0 (by decide) (hts _ qX3_matchDistance_1) (fun _ h9 => h9) rfl dX3_matchDistance_13 ?_
    refine va_mmin hx hb (hml.trans hl.1.symm) hown (hts _ qX3_matchDistance_2) (hts _ qX3_matchDistance_3) (hts _ qX3_matchDistance_4) (hts _ qX3_matchDistance_5) (Nat.le_of_ble_eq_true rfl) (Nat.le_of_ble_eq_true rfl) (Nat.zero_le _) (Nat.zero_le _) dX3_matchDistance_16 ?_
    refine wjX3_matchDistance_19 C0 hA hK h _ _ _ hP hD hS (lv_sub hl [0, 1, 2] rfl) ?_ ?_
    · intro r_6 h H locs ls hP hD hS
      have hP9 : va_P (dC, dI) vwCl [(aT, .inr (7, [.ref aTb, .int tn])), (aTb, .inl (cyI, 64, .inl tb)), (aS, .inr (6, [.int sw, .int sl, .int sg, .int sp])), (aF, .inr (2, [.ref aT, .ref aS]))] _ := hP
      have hD9 : va_D A [(aT, .inr (7, [.ref aTb, .int tn])), (aTb, .inl (cyI, 64, .inl tb)), (aS, .inr (6, [.int sw, .int sl, .int sg, .int sp])), (aF, .inr (2, [.ref aT, .ref aS]))] := hD
      exact W.iret (v := r_6) hx hb hr (fun t ht hW => ⟨⟨r_6, (), rfl, h, by rw [ht]; exact hP9, va_K.moved hW.alike hK, hD9⟩, hS.F ht⟩) hS.2.2 dX3_matchDistance_42
    · intro r_7 h H locs ls hP hD hS
      have hP9 : va_P (dC, dI) vwCl [(aT, .inr (7, [.ref aTb, .int tn])), (aTb, .inl (cyI, 64, .inl tb)), (aS, .inr (6, [.int sw, .int sl, .int sg, .int sp])), (aF, .inr (2, [.ref aT, .ref aS]))] _ := hP
      have hD9 : va_D A [(aT, .inr (7, [.ref aTb, .int tn])), (aTb, .inl (cyI, 64, .inl tb)), (aS, .inr (6, [.int sw, .int sl, .int sg, .int sp])), (aF, .inr (2, [.ref aT, .ref aS]))] := hD
      exact W.iret (v := r_7) hx hb hr (fun t ht hW => ⟨⟨r_7, (), rfl, h, by rw [ht]; exact hP9, va_K.moved hW.alike hK, hD9⟩, hS.F ht⟩) hS.2.2 dX3_matchDistance_50
  · replace h := h.1 c_1
    refine lv_iconst (v := 0) hx hb dX3_matchDistance_4 (by decide) ?_
    refine lv_goto (tgt := 19) hx hb dX3_matchDistance_5 (by decide) ?_
    refine wjX3_matchDistance_19 C0 hA hK h _ _ _ hP hD hS (lv_sub hl [0, 1, 2] rfl) ?_ ?_
    · intro r_8 h H locs ls hP hD hS
      have hP9 : va_P (dC, dI) vwCl [(aT, .inr (7, [.ref aTb, .int tn])), (aTb, .inl (cyI, 64, .inl tb)), (aS, .inr (6, [.int sw, .int sl, .int sg, .int sp])), (aF, .inr (2, [.ref aT, .ref aS]))] _ := hP
      have hD9 : va_D A [(aT, .inr (7, [.ref aTb, .int tn])), (aTb, .inl (cyI, 64, .inl tb)), (aS, .inr (6, [.int sw, .int sl, .int sg, .int sp])), (aF, .inr (2, [.ref aT, .ref aS]))] := hD
      exact W.iret (v := r_8) hx hb hr (fun t ht hW => ⟨⟨r_8, (), rfl, h, by rw [ht]; exact hP9, va_K.moved hW.alike hK, hD9⟩, hS.F ht⟩) hS.2.2 dX3_matchDistance_42
    · intro r_9 h H locs ls hP hD hS
      have hP9 : va_P (dC, dI) vwCl [(aT, .inr (7, [.ref aTb, .int tn])), (aTb, .inl (cyI, 64, .inl tb)), (aS, .inr (6, [.int sw, .int sl, .int sg, .int sp])), (aF, .inr (2, [.ref aT, .ref aS]))] _ := hP
      have hD9 : va_D A [(aT, .inr (7, [.ref aTb, .int tn])), (aTb, .inl (cyI, 64, .inl tb)), (aS, .inr (6, [.int sw, .int sl, .int sg, .int sp])), (aF, .inr (2, [.ref aT, .ref aS]))] := hD
      exact W.iret (v := r_9) hx hb hr (fun t ht hW => ⟨⟨r_9, (), rfl, h, by rw [ht]; exact hP9, va_K.moved hW.alike hK, hD9⟩, hS.F ht⟩) hS.2.2 dX3_matchDistance_50
