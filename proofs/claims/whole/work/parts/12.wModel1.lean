-- X10_thrown
theorem qX10_thrown_0 : Cond.fieldLink RX10 65 "MatchCoderModel" "thrown" "I" ∈ wsX10_thrown := (List.mem_cons_of_mem _ (List.mem_append_left _ (List.mem_of_getElem? (i := 0) rfl)))
theorem inX10_thrown_wsX100 : ∀ w ∈ wsX100, w ∈ wsX10_thrown := fun _ h => List.mem_cons_of_mem _ (List.mem_append_right _ h)
def wpX10_thrown (mth : Int32) (post : Int32 → Prop) : Prop := post mth
set_option maxHeartbeats 4000000 in
set_option maxRecDepth 100000 in
theorem mtX10_thrown (l : Launch) (dC : Nat → ClassId) (dI : Nat → Nat → Nat) (cyI : ClassId) {aM aMt aMk aMl aMd aMs aMb aMo aMc aMn aMfk aMfl aMfd aMg aMm : Nat} {sz : Nat} {mth : Int32} {msz : Int32} {mwi : Int32} {mle : Int32} {mgr : Int32} {mpr : Int32} {mhp : Int32} {mtk : Int32} {mbn : Int32} {mmd : Int32} {mep : Int32} {mat : Int32} {mer : Int32} {post : Int32 → Prop} (h : wpX10_thrown mth post) : Met l yX10_thrown wsX10_thrown ({ frames := 0, cells := 0, slots := 0, locals := 0 }) (va_Pc [.ref aM] (wk_B (dC, dI) [(cyI, .int)] [(aM, .inr (9, [.int mth, .int msz, .ref aMt, .int mwi, .int mle, .int mgr, .int mpr, .int mhp, .int mtk, .ref aMk, .ref aMl, .ref aMd, .ref aMs, .int mbn, .ref aMb, .int mmd, .ref aMo, .int mep, .ref aMc, .ref aMn, .ref aMfk, .ref aMfl, .ref aMfd, .ref aMg, .ref aMm, .int mat, .int mer]))] sz)) (va_Qi (fun (r : Int32) (u : Unit) => post r ) (wk_C (dC, dI) [(cyI, .int)] (va_A [(aM, .inr (9, [.int mth, .int msz, .ref aMt, .int mwi, .int mle, .int mgr, .int mpr, .int mhp, .int mtk, .ref aMk, .ref aMl, .ref aMd, .ref aMs, .int mbn, .ref aMb, .int mmd, .ref aMo, .int mep, .ref aMc, .ref aMn, .ref aMfk, .ref aMfl, .ref aMfd, .ref aMg, .ref aMm, .int mat, .int mer]))] sz) (fun (u : Unit) => [(aM, .inr (9, [.int mth, .int msz, .ref aMt, .int mwi, .int mle, .int mgr, .int mpr, .int mhp, .int mtk, .ref aMk, .ref aMl, .ref aMd, .ref aMs, .int mbn, .ref aMb, .int mmd, .ref aMo, .int mep, .ref aMc, .ref aMn, .ref aMfk, .ref aMfl, .ref aMfd, .ref aMg, .ref aMm, .int mat, .int mer]))])) (va_A [(aM, .inr (9, [.int mth, .int msz, .ref aMt, .int mwi, .int mle, .int mgr, .int mpr, .int mhp, .int mtk, .ref aMk, .ref aMl, .ref aMd, .ref aMs, .int mbn, .ref aMb, .int mmd, .ref aMo, .int mep, .ref aMc, .ref aMn, .ref aMfk, .ref aMfl, .ref aMfd, .ref aMg, .ref aMm, .int mat, .int mer]))] sz)) 0 0 (va_A [(aM, .inr (9, [.int mth, .int msz, .ref aMt, .int mwi, .int mle, .int mgr, .int mpr, .int mhp, .int mtk, .ref aMk, .ref aMl, .ref aMd, .ref aMs, .int mbn, .ref aMb, .int mmd, .ref aMo, .int mep, .ref aMc, .ref aMn, .ref aMfk, .ref aMfl, .ref aMfd, .ref aMg, .ref aMm, .int mat, .int mer]))] sz) := by
  refine Met.ofW (cc := cX10_thrown) (maxL := 1) (ret := (some .int)) (by decide) rfl ?_
  intro p e s m args below meth c s₁ B hml hv
  obtain ⟨rfl, hsz, hP, hK, hD0⟩ := hv
  have hx := B.exec
  have hb := B.bytes
  have hr := B.returns
  have hts := atoms_spec (ws := wsX10_thrown) B.pre
  have hown : s.vm.findClass RX10 = some m.cls := findClass_of_methodNamed B.named
  have hlocks := B.notSynchronized
  subst hsz
  have hD := hD0.self (sz := s.heap.size)
  generalize hAe : va_A [(aM, .inr (9, [.int mth, .int msz, .ref aMt, .int mwi, .int mle, .int mgr, .int mpr, .int mhp, .int mtk, .ref aMk, .ref aMl, .ref aMd, .ref aMs, .int mbn, .ref aMb, .int mmd, .ref aMo, .int mep, .ref aMc, .ref aMn, .ref aMfk, .ref aMfl, .ref aMfd, .ref aMg, .ref aMm, .int mat, .int mer]))] s.heap.size = A at hD ⊢
  have hA : ∀ q : Nat, s.heap.size ≤ q → A q := fun q h => by rw [← hAe]; exact Or.inr h
  have hS : va_S A s.heap s.heap [] := va_S.rf
  have hP : va_P (dC, dI) vwCl [(aM, .inr (9, [.int mth, .int msz, .ref aMt, .int mwi, .int mle, .int mgr, .int mpr, .int mhp, .int mtk, .ref aMk, .ref aMl, .ref aMd, .ref aMs, .int mbn, .ref aMb, .int mmd, .ref aMo, .int mep, .ref aMc, .ref aMn, .ref aMfk, .ref aMfl, .ref aMfd, .ref aMg, .ref aMm, .int mat, .int mer]))] s.heap := hP
  have hl := lv_entry ([.ref aM]) (n := 1) (Nat.le_of_ble_eq_true rfl)
  rw [lg_entry_eq]
  generalize (lg_sl ([.ref aM]) ++ List.replicate (1 - (lg_sl ([.ref aM])).length) Slot.unset).toArray = ls at hl ⊢
  have hl : lv_has ls 1 [(0, .ref aM)] := hl
  have C0 : CallFix p m c cX10_thrown 1 s ([.ref aM] : List Value).toArray wsX10_thrown RX10 := ⟨hx, hb, hml, hown, hts⟩
  unfold wpX10_thrown at h
  refine lv_aload_n hx hb dX10_thrown_0 rfl (lv_at hl 0 rfl) ?_
  refine va_get (D := (dC, dI)) (ci := 9) (v := .int mth) (C := RX10) (T := TX10) (N := 27) hx hb hts inX10_thrown_wsX100 hown hK hP 0 rfl rfl 0 (by decide) (hts _ qX10_thrown_0) (fun _ h9 => h9) rfl dX10_thrown_1 ?_
  have hP9 : va_P (dC, dI) vwCl [(aM, .inr (9, [.int mth, .int msz, .ref aMt, .int mwi, .int mle, .int mgr, .int mpr, .int mhp, .int mtk, .ref aMk, .ref aMl, .ref aMd, .ref aMs, .int mbn, .ref aMb, .int mmd, .ref aMo, .int mep, .ref aMc, .ref aMn, .ref aMfk, .ref aMfl, .ref aMfd, .ref aMg, .ref aMm, .int mat, .int mer]))] _ := hP
  have hD9 : va_D A [(aM, .inr (9, [.int mth, .int msz, .ref aMt, .int mwi, .int mle, .int mgr, .int mpr, .int mhp, .int mtk, .ref aMk, .ref aMl, .ref aMd, .ref aMs, .int mbn, .ref aMb, .int mmd, .ref aMo, .int mep, .ref aMc, .ref aMn, .ref aMfk, .ref aMfl, .ref aMfd, .ref aMg, .ref aMm, .int mat, .int mer]))] := hD
  exact W.iret (v := mth) hx hb hr (fun t ht hW => ⟨⟨mth, (), rfl, h, by rw [ht]; exact hP9, va_K.moved hW.alike hK, hD9⟩, hS.F ht⟩) hS.2.2 dX10_thrown_4
-- X10_no
theorem qX10_no_0 : Cond.fieldLink RX10 65 "MatchCoderModel" "thrown" "I" ∈ wsX10_no := (List.mem_cons_of_mem _ (List.mem_append_left _ (List.mem_of_getElem? (i := 0) rfl)))
theorem inX10_no_wsX100 : ∀ w ∈ wsX100, w ∈ wsX10_no := fun _ h => List.mem_cons_of_mem _ (List.mem_append_right _ h)
def wpX10_no (v1 : Int32) (post : Int32 → Int32 → Prop) : Prop := post 0 v1
set_option maxHeartbeats 4000000 in
set_option maxRecDepth 100000 in
theorem mtX10_no (l : Launch) (dC : Nat → ClassId) (dI : Nat → Nat → Nat) (cyI : ClassId) {aM aMt aMk aMl aMd aMs aMb aMo aMc aMn aMfk aMfl aMfd aMg aMm : Nat} {sz : Nat} {mth : Int32} {msz : Int32} {mwi : Int32} {mle : Int32} {mgr : Int32} {mpr : Int32} {mhp : Int32} {mtk : Int32} {mbn : Int32} {mmd : Int32} {mep : Int32} {mat : Int32} {mer : Int32} {v1 : Int32} {post : Int32 → Int32 → Prop} (h : wpX10_no v1 post) : Met l yX10_no wsX10_no ({ frames := 0, cells := 0, slots := 0, locals := 0 }) (va_Pc [.ref aM, .int v1] (wk_B (dC, dI) [(cyI, .int)] [(aM, .inr (9, [.int mth, .int msz, .ref aMt, .int mwi, .int mle, .int mgr, .int mpr, .int mhp, .int mtk, .ref aMk, .ref aMl, .ref aMd, .ref aMs, .int mbn, .ref aMb, .int mmd, .ref aMo, .int mep, .ref aMc, .ref aMn, .ref aMfk, .ref aMfl, .ref aMfd, .ref aMg, .ref aMm, .int mat, .int mer]))] sz)) (va_Qi (fun (r : Int32) (u : Int32) => post r u) (wk_C (dC, dI) [(cyI, .int)] (va_A [(aM, .inr (9, [.int mth, .int msz, .ref aMt, .int mwi, .int mle, .int mgr, .int mpr, .int mhp, .int mtk, .ref aMk, .ref aMl, .ref aMd, .ref aMs, .int mbn, .ref aMb, .int mmd, .ref aMo, .int mep, .ref aMc, .ref aMn, .ref aMfk, .ref aMfl, .ref aMfd, .ref aMg, .ref aMm, .int mat, .int mer]))] sz) (fun (u : Int32) => [(aM, .inr (9, [.int (u), .int msz, .ref aMt, .int mwi, .int mle, .int mgr, .int mpr, .int mhp, .int mtk, .ref aMk, .ref aMl, .ref aMd, .ref aMs, .int mbn, .ref aMb, .int mmd, .ref aMo, .int mep, .ref aMc, .ref aMn, .ref aMfk, .ref aMfl, .ref aMfd, .ref aMg, .ref aMm, .int mat, .int mer]))])) (va_A [(aM, .inr (9, [.int mth, .int msz, .ref aMt, .int mwi, .int mle, .int mgr, .int mpr, .int mhp, .int mtk, .ref aMk, .ref aMl, .ref aMd, .ref aMs, .int mbn, .ref aMb, .int mmd, .ref aMo, .int mep, .ref aMc, .ref aMn, .ref aMfk, .ref aMfl, .ref aMfd, .ref aMg, .ref aMm, .int mat, .int mer]))] sz)) 0 0 (va_A [(aM, .inr (9, [.int mth, .int msz, .ref aMt, .int mwi, .int mle, .int mgr, .int mpr, .int mhp, .int mtk, .ref aMk, .ref aMl, .ref aMd, .ref aMs, .int mbn, .ref aMb, .int mmd, .ref aMo, .int mep, .ref aMc, .ref aMn, .ref aMfk, .ref aMfl, .ref aMfd, .ref aMg, .ref aMm, .int mat, .int mer]))] sz) := by
  refine Met.ofW (cc := cX10_no) (maxL := 2) (ret := (some .int)) (by decide) rfl ?_
  intro p e s m args below meth c s₁ B hml hv
  obtain ⟨rfl, hsz, hP, hK, hD0⟩ := hv
  have hx := B.exec
  have hb := B.bytes
  have hr := B.returns
  have hts := atoms_spec (ws := wsX10_no) B.pre
  have hown : s.vm.findClass RX10 = some m.cls := findClass_of_methodNamed B.named
  have hlocks := B.notSynchronized
  subst hsz
  have hD := hD0.self (sz := s.heap.size)
  generalize hAe : va_A [(aM, .inr (9, [.int mth, .int msz, .ref aMt, .int mwi, .int mle, .int mgr, .int mpr, .int mhp, .int mtk, .ref aMk, .ref aMl, .ref aMd, .ref aMs, .int mbn, .ref aMb, .int mmd, .ref aMo, .int mep, .ref aMc, .ref aMn, .ref aMfk, .ref aMfl, .ref aMfd, .ref aMg, .ref aMm, .int mat, .int mer]))] s.heap.size = A at hD ⊢
  have hA : ∀ q : Nat, s.heap.size ≤ q → A q := fun q h => by rw [← hAe]; exact Or.inr h
  have hS : va_S A s.heap s.heap [] := va_S.rf
  have hP : va_P (dC, dI) vwCl [(aM, .inr (9, [.int mth, .int msz, .ref aMt, .int mwi, .int mle, .int mgr, .int mpr, .int mhp, .int mtk, .ref aMk, .ref aMl, .ref aMd, .ref aMs, .int mbn, .ref aMb, .int mmd, .ref aMo, .int mep, .ref aMc, .ref aMn, .ref aMfk, .ref aMfl, .ref aMfd, .ref aMg, .ref aMm, .int mat, .int mer]))] s.heap := hP
  have hl := lv_entry ([.ref aM, .int v1]) (n := 2) (Nat.le_of_ble_eq_true rfl)
  rw [lg_entry_eq]
  generalize (lg_sl ([.ref aM, .int v1]) ++ List.replicate (2 - (lg_sl ([.ref aM, .int v1])).length) Slot.unset).toArray = ls at hl ⊢
  have hl : lv_has ls 2 [(0, .ref aM), (1, .int v1)] := hl
  have C0 : CallFix p m c cX10_no 2 s ([.ref aM, .int v1] : List Value).toArray wsX10_no RX10 := ⟨hx, hb, hml, hown, hts⟩
  unfold wpX10_no at h
  refine lv_aload_n hx hb dX10_no_0 rfl (lv_at hl 0 rfl) ?_
  refine lv_iload_n hx hb dX10_no_1 rfl (lv_at hl 1 rfl) ?_
  refine va_put (D := (dC, dI)) (ci := 9) (v := .int v1) (ty := .int) (C := RX10) (T := TX10) (N := 27) hx hb hts inX10_no_wsX100 tyX10 tyX10_ok nmX10 hown hK hP hD hS 0 rfl rfl 0 (by decide) (hts _ qX10_no_0) (fun _ h9 => h9) rfl (by decide +kernel) rfl rfl (Nat.le_of_ble_eq_true rfl) dX10_no_2 (fun H locs hP hD hS => ?_)
  have hP : va_P (dC, dI) vwCl [(aM, .inr (9, [.int v1, .int msz, .ref aMt, .int mwi, .int mle, .int mgr, .int mpr, .int mhp, .int mtk, .ref aMk, .ref aMl, .ref aMd, .ref aMs, .int mbn, .ref aMb, .int mmd, .ref aMo, .int mep, .ref aMc, .ref aMn, .ref aMfk, .ref aMfl, .ref aMfd, .ref aMg, .ref aMm, .int mat, .int mer]))] H := hP
  have hD : va_D A [(aM, .inr (9, [.int v1, .int msz, .ref aMt, .int mwi, .int mle, .int mgr, .int mpr, .int mhp, .int mtk, .ref aMk, .ref aMl, .ref aMd, .ref aMs, .int mbn, .ref aMb, .int mmd, .ref aMo, .int mep, .ref aMc, .ref aMn, .ref aMfk, .ref aMfl, .ref aMfd, .ref aMg, .ref aMm, .int mat, .int mer]))] := hD
  refine lv_iconst (v := 0) hx hb dX10_no_5 (by decide) ?_
  have hP9 : va_P (dC, dI) vwCl [(aM, .inr (9, [.int v1, .int msz, .ref aMt, .int mwi, .int mle, .int mgr, .int mpr, .int mhp, .int mtk, .ref aMk, .ref aMl, .ref aMd, .ref aMs, .int mbn, .ref aMb, .int mmd, .ref aMo, .int mep, .ref aMc, .ref aMn, .ref aMfk, .ref aMfl, .ref aMfd, .ref aMg, .ref aMm, .int mat, .int mer]))] _ := hP
  have hD9 : va_D A [(aM, .inr (9, [.int v1, .int msz, .ref aMt, .int mwi, .int mle, .int mgr, .int mpr, .int mhp, .int mtk, .ref aMk, .ref aMl, .ref aMd, .ref aMs, .int mbn, .ref aMb, .int mmd, .ref aMo, .int mep, .ref aMc, .ref aMn, .ref aMfk, .ref aMfl, .ref aMfd, .ref aMg, .ref aMm, .int mat, .int mer]))] := hD
  exact W.iret (v := 0) hx hb hr (fun t ht hW => ⟨⟨0, v1, rfl, h, by rw [ht]; exact hP9, va_K.moved hW.alike hK, hD9⟩, hS.F ht⟩) hS.2.2 dX10_no_6
-- X10_isIn
def wpX10_isIn (v0 : Int32) (v1 : Int32) (v2 : Int32) (post : Int32 → Prop) : Prop := (v0 < v1 → (post 0)) ∧ (¬ v0 < v1 → ((v2 < v0 → (post 0)) ∧ (¬ v2 < v0 → (post 1))))
set_option maxHeartbeats 4000000 in
set_option maxRecDepth 100000 in
theorem mtX10_isIn (l : Launch) (dC : Nat → ClassId) (dI : Nat → Nat → Nat) (cyI : ClassId) {sz : Nat} {v0 : Int32} {v1 : Int32} {v2 : Int32} {post : Int32 → Prop} (h : wpX10_isIn v0 v1 v2 post) : Met l yX10_isIn wsX10_isIn ({ frames := 0, cells := 0, slots := 0, locals := 0 }) (va_Pc [.int v0, .int v1, .int v2] (wk_B (dC, dI) [(cyI, .int)] [] sz)) (va_Qi (fun (r : Int32) (u : Unit) => post r ) (wk_C (dC, dI) [(cyI, .int)] (va_A [] sz) (fun (u : Unit) => [])) (va_A [] sz)) 0 0 (va_A [] sz) := by
  refine Met.ofW (cc := cX10_isIn) (maxL := 3) (ret := (some .boolean)) (by decide) rfl ?_
  intro p e s m args below meth c s₁ B hml hv
  obtain ⟨rfl, hsz, hP, hK, hD0⟩ := hv
  have hx := B.exec
  have hb := B.bytes
  have hr := B.returns
  have hts := atoms_spec (ws := wsX10_isIn) B.pre
  have hown : s.vm.findClass RX10 = some m.cls := findClass_of_methodNamed B.named
  have hlocks := B.notSynchronized
  subst hsz
  have hD := hD0.self (sz := s.heap.size)
  generalize hAe : va_A [] s.heap.size = A at hD ⊢
  have hA : ∀ q : Nat, s.heap.size ≤ q → A q := fun q h => by rw [← hAe]; exact Or.inr h
  have hS : va_S A s.heap s.heap [] := va_S.rf
  have hP : va_P (dC, dI) vwCl [] s.heap := hP
  have hl := lv_entry ([.int v0, .int v1, .int v2]) (n := 3) (Nat.le_of_ble_eq_true rfl)
  rw [lg_entry_eq]
  generalize (lg_sl ([.int v0, .int v1, .int v2]) ++ List.replicate (3 - (lg_sl ([.int v0, .int v1, .int v2])).length) Slot.unset).toArray = ls at hl ⊢
  have hl : lv_has ls 3 [(0, .int v0), (1, .int v1), (2, .int v2)] := hl
  have C0 : CallFix p m c cX10_isIn 3 s ([.int v0, .int v1, .int v2] : List Value).toArray wsX10_isIn RX10 := ⟨hx, hb, hml, hown, hts⟩
  unfold wpX10_isIn at h
  refine lv_iload_n hx hb dX10_isIn_0 rfl (lv_at hl 0 rfl) ?_
  refine lv_iload_n hx hb dX10_isIn_1 rfl (lv_at hl 1 rfl) ?_
  refine lv_icmp_lt (tgt := 14) hx hb dX10_isIn_2 (by decide) (fun c_1 => ?_) (fun c_1 => ?_)
  · replace h := h.1 c_1
    refine lv_iconst (v := 0) hx hb dX10_isIn_14 (by decide) ?_
    have hP9 : va_P (dC, dI) vwCl [] _ := hP
    have hD9 : va_D A [] := hD
    exact W.zret (v := 0) hx hb hr rfl (fun t ht hW => ⟨⟨0, (), rfl, h, by rw [ht]; exact hP9, va_K.moved hW.alike hK, hD9⟩, hS.F ht⟩) hS.2.2 dX10_isIn_15
  · replace h := h.2 c_1
    refine lv_iload_n hx hb dX10_isIn_5 rfl (lv_at hl 0 rfl) ?_
    refine lv_iload_n hx hb dX10_isIn_6 rfl (lv_at hl 2 rfl) ?_
    refine lv_icmp_gt (tgt := 14) hx hb dX10_isIn_7 (by decide) (fun c_2 => ?_) (fun c_2 => ?_)
    · replace h := h.1 c_2
      refine lv_iconst (v := 0) hx hb dX10_isIn_14 (by decide) ?_
      have hP9 : va_P (dC, dI) vwCl [] _ := hP
      have hD9 : va_D A [] := hD
      exact W.zret (v := 0) hx hb hr rfl (fun t ht hW => ⟨⟨0, (), rfl, h, by rw [ht]; exact hP9, va_K.moved hW.alike hK, hD9⟩, hS.F ht⟩) hS.2.2 dX10_isIn_15
    · replace h := h.2 c_2
      refine lv_iconst (v := 1) hx hb dX10_isIn_10 (by decide) ?_
      refine lv_goto (tgt := 15) hx hb dX10_isIn_11 (by decide) ?_
      have hP9 : va_P (dC, dI) vwCl [] _ := hP
      have hD9 : va_D A [] := hD
      exact W.zret (v := 1) hx hb hr rfl (fun t ht hW => ⟨⟨1, (), rfl, h, by rw [ht]; exact hP9, va_K.moved hW.alike hK, hD9⟩, hS.F ht⟩) hS.2.2 dX10_isIn_15
-- X10_isPlace
theorem qX10_isPlace_0 : Cond.fieldLink RX10 68 "MatchCoderModel" "size" "I" ∈ wsX10_isPlace := (List.mem_cons_of_mem _ (List.mem_append_left _ (List.mem_of_getElem? (i := 0) rfl)))
theorem inX10_isPlace_wsX100 : ∀ w ∈ wsX100, w ∈ wsX10_isPlace := fun _ h => List.mem_cons_of_mem _ (List.mem_append_right _ h)
def wpX10_isPlace (msz : Int32) (v1 : Int32) (post : Int32 → Prop) : Prop := wpX10_isIn v1 0 (msz - 1) (fun (r_1 : Int32) => nb9 r_1 ∧ post r_1)
set_option maxHeartbeats 4000000 in
set_option maxRecDepth 100000 in
theorem mtX10_isPlace (l : Launch) (dC : Nat → ClassId) (dI : Nat → Nat → Nat) (cyI : ClassId) {aM aMt aMk aMl aMd aMs aMb aMo aMc aMn aMfk aMfl aMfd aMg aMm : Nat} {sz : Nat} {mth : Int32} {msz : Int32} {mwi : Int32} {mle : Int32} {mgr : Int32} {mpr : Int32} {mhp : Int32} {mtk : Int32} {mbn : Int32} {mmd : Int32} {mep : Int32} {mat : Int32} {mer : Int32} {v1 : Int32} {post : Int32 → Prop} (h : wpX10_isPlace msz v1 post) : Met l yX10_isPlace wsX10_isPlace ({ frames := 1, cells := 0, slots := 0, locals := 22 }) (va_Pc [.ref aM, .int v1] (wk_B (dC, dI) [(cyI, .int)] [(aM, .inr (9, [.int mth, .int msz, .ref aMt, .int mwi, .int mle, .int mgr, .int mpr, .int mhp, .int mtk, .ref aMk, .ref aMl, .ref aMd, .ref aMs, .int mbn, .ref aMb, .int mmd, .ref aMo, .int mep, .ref aMc, .ref aMn, .ref aMfk, .ref aMfl, .ref aMfd, .ref aMg, .ref aMm, .int mat, .int mer]))] sz)) (va_Qi (fun (r : Int32) (u : Unit) => post r ) (wk_C (dC, dI) [(cyI, .int)] (va_A [(aM, .inr (9, [.int mth, .int msz, .ref aMt, .int mwi, .int mle, .int mgr, .int mpr, .int mhp, .int mtk, .ref aMk, .ref aMl, .ref aMd, .ref aMs, .int mbn, .ref aMb, .int mmd, .ref aMo, .int mep, .ref aMc, .ref aMn, .ref aMfk, .ref aMfl, .ref aMfd, .ref aMg, .ref aMm, .int mat, .int mer]))] sz) (fun (u : Unit) => [(aM, .inr (9, [.int mth, .int msz, .ref aMt, .int mwi, .int mle, .int mgr, .int mpr, .int mhp, .int mtk, .ref aMk, .ref aMl, .ref aMd, .ref aMs, .int mbn, .ref aMb, .int mmd, .ref aMo, .int mep, .ref aMc, .ref aMn, .ref aMfk, .ref aMfl, .ref aMfd, .ref aMg, .ref aMm, .int mat, .int mer]))])) (va_A [(aM, .inr (9, [.int mth, .int msz, .ref aMt, .int mwi, .int mle, .int mgr, .int mpr, .int mhp, .int mtk, .ref aMk, .ref aMl, .ref aMd, .ref aMs, .int mbn, .ref aMb, .int mmd, .ref aMo, .int mep, .ref aMc, .ref aMn, .ref aMfk, .ref aMfl, .ref aMfd, .ref aMg, .ref aMm, .int mat, .int mer]))] sz)) 0 0 (va_A [(aM, .inr (9, [.int mth, .int msz, .ref aMt, .int mwi, .int mle, .int mgr, .int mpr, .int mhp, .int mtk, .ref aMk, .ref aMl, .ref aMd, .ref aMs, .int mbn, .ref aMb, .int mmd, .ref aMo, .int mep, .ref aMc, .ref aMn, .ref aMfk, .ref aMfl, .ref aMfd, .ref aMg, .ref aMm, .int mat, .int mer]))] sz) := by
  refine Met.ofW (cc := cX10_isPlace) (maxL := 2) (ret := (some .boolean)) (by decide) rfl ?_
  intro p e s m args below meth c s₁ B hml hv
  obtain ⟨rfl, hsz, hP, hK, hD0⟩ := hv
  have hx := B.exec
  have hb := B.bytes
  have hr := B.returns
  have hts := atoms_spec (ws := wsX10_isPlace) B.pre
  have hown : s.vm.findClass RX10 = some m.cls := findClass_of_methodNamed B.named
  have hlocks := B.notSynchronized
  subst hsz
  have hD := hD0.self (sz := s.heap.size)
  generalize hAe : va_A [(aM, .inr (9, [.int mth, .int msz, .ref aMt, .int mwi, .int mle, .int mgr, .int mpr, .int mhp, .int mtk, .ref aMk, .ref aMl, .ref aMd, .ref aMs, .int mbn, .ref aMb, .int mmd, .ref aMo, .int mep, .ref aMc, .ref aMn, .ref aMfk, .ref aMfl, .ref aMfd, .ref aMg, .ref aMm, .int mat, .int mer]))] s.heap.size = A at hD ⊢
  have hA : ∀ q : Nat, s.heap.size ≤ q → A q := fun q h => by rw [← hAe]; exact Or.inr h
  have hS : va_S A s.heap s.heap [] := va_S.rf
  have hP : va_P (dC, dI) vwCl [(aM, .inr (9, [.int mth, .int msz, .ref aMt, .int mwi, .int mle, .int mgr, .int mpr, .int mhp, .int mtk, .ref aMk, .ref aMl, .ref aMd, .ref aMs, .int mbn, .ref aMb, .int mmd, .ref aMo, .int mep, .ref aMc, .ref aMn, .ref aMfk, .ref aMfl, .ref aMfd, .ref aMg, .ref aMm, .int mat, .int mer]))] s.heap := hP
  have hl := lv_entry ([.ref aM, .int v1]) (n := 2) (Nat.le_of_ble_eq_true rfl)
  rw [lg_entry_eq]
  generalize (lg_sl ([.ref aM, .int v1]) ++ List.replicate (2 - (lg_sl ([.ref aM, .int v1])).length) Slot.unset).toArray = ls at hl ⊢
  have hl : lv_has ls 2 [(0, .ref aM), (1, .int v1)] := hl
  have C0 : CallFix p m c cX10_isPlace 2 s ([.ref aM, .int v1] : List Value).toArray wsX10_isPlace RX10 := ⟨hx, hb, hml, hown, hts⟩
  unfold wpX10_isPlace at h
  refine lv_iload_n hx hb dX10_isPlace_0 rfl (lv_at hl 1 rfl) ?_
  refine lv_iconst (v := 0) hx hb dX10_isPlace_1 (by decide) ?_
  refine lv_aload_n hx hb dX10_isPlace_2 rfl (lv_at hl 0 rfl) ?_
  refine va_get (D := (dC, dI)) (ci := 9) (v := .int msz) (C := RX10) (T := TX10) (N := 27) hx hb hts inX10_isPlace_wsX100 hown hK hP 0 rfl rfl 1 (by decide) (hts _ qX10_isPlace_0) (fun _ h9 => h9) rfl dX10_isPlace_3 ?_
  refine lv_iconst (v := 1) hx hb dX10_isPlace_6 (by decide) ?_
  refine lv_isub hx hb dX10_isPlace_7 ?_
  refine wk_calli (wc := []) (wr := [(aM, .inr (9, [.int mth, .int msz, .ref aMt, .int mwi, .int mle, .int mgr, .int mpr, .int mhp, .int mtk, .ref aMk, .ref aMl, .ref aMd, .ref aMs, .int mbn, .ref aMb, .int mmd, .ref aMo, .int mep, .ref aMc, .ref aMn, .ref aMfk, .ref aMfl, .ref aMfd, .ref aMg, .ref aMm, .int mat, .int mer]))]) (va_runS (As := [.int v1, .int 0, .int (msz - 1)]) (rest := []) C0 (mtX10_isIn l dC dI cyI (sz := _) (v0 := v1) (v1 := 0) (v2 := msz - 1) h) (va_cwS 3 hts gX10_isPlace_X10_isIn rfl rfl rfl (by decide +kernel) ⟨(Nat.le_of_ble_eq_true rfl), (Nat.le_of_ble_eq_true rfl)⟩) (wk_preS (wc := []) hK hP hD [] rfl (by decide)) rfl rfl hl.1 rfl (lv_room (Nat.le_of_ble_eq_true rfl)) dX10_isPlace_8 ⟨(Nat.le_of_ble_eq_true rfl), (Nat.le_of_ble_eq_true rfl)⟩) hP hD hS hA [] [0] rfl rfl (by decide) (by decide) (fun r_1 u9 H locs h hP hD hS => ?_)
  have hP : va_P (dC, dI) vwCl [(aM, .inr (9, [.int mth, .int msz, .ref aMt, .int mwi, .int mle, .int mgr, .int mpr, .int mhp, .int mtk, .ref aMk, .ref aMl, .ref aMd, .ref aMs, .int mbn, .ref aMb, .int mmd, .ref aMo, .int mep, .ref aMc, .ref aMn, .ref aMfk, .ref aMfl, .ref aMfd, .ref aMg, .ref aMm, .int mat, .int mer]))] H := hP
  have hD : va_D A [(aM, .inr (9, [.int mth, .int msz, .ref aMt, .int mwi, .int mle, .int mgr, .int mpr, .int mhp, .int mtk, .ref aMk, .ref aMl, .ref aMd, .ref aMs, .int mbn, .ref aMb, .int mmd, .ref aMo, .int mep, .ref aMc, .ref aMn, .ref aMfk, .ref aMfl, .ref aMfd, .ref aMg, .ref aMm, .int mat, .int mer]))] := hD
  obtain ⟨hn9, h⟩ := h
  have hP9 : va_P (dC, dI) vwCl [(aM, .inr (9, [.int mth, .int msz, .ref aMt, .int mwi, .int mle, .int mgr, .int mpr, .int mhp, .int mtk, .ref aMk, .ref aMl, .ref aMd, .ref aMs, .int mbn, .ref aMb, .int mmd, .ref aMo, .int mep, .ref aMc, .ref aMn, .ref aMfk, .ref aMfl, .ref aMfd, .ref aMg, .ref aMm, .int mat, .int mer]))] _ := hP
  have hD9 : va_D A [(aM, .inr (9, [.int mth, .int msz, .ref aMt, .int mwi, .int mle, .int mgr, .int mpr, .int mhp, .int mtk, .ref aMk, .ref aMl, .ref aMd, .ref aMs, .int mbn, .ref aMb, .int mmd, .ref aMo, .int mep, .ref aMc, .ref aMn, .ref aMfk, .ref aMfl, .ref aMfd, .ref aMg, .ref aMm, .int mat, .int mer]))] := hD
  exact W.zret (v := r_1) hx hb hr hn9 (fun t ht hW => ⟨⟨r_1, (), rfl, h, by rw [ht]; exact hP9, va_K.moved hW.alike hK, hD9⟩, hS.F ht⟩) hS.2.2 dX10_isPlace_11
-- X10_feed
theorem qX10_feed_0 : Cond.fieldLink RX10 65 "MatchCoderModel" "thrown" "I" ∈ wsX10_feed := (List.mem_cons_of_mem _ (List.mem_append_left _ (List.mem_of_getElem? (i := 0) rfl)))
theorem qX10_feed_1 : Cond.fieldLink RX10 68 "MatchCoderModel" "size" "I" ∈ wsX10_feed := (List.mem_cons_of_mem _ (List.mem_append_left _ (List.mem_of_getElem? (i := 1) rfl)))
theorem qX10_feed_2 : Cond.fieldLink RX10 9 "MatchCoderModel" "text" "[I" ∈ wsX10_feed := (List.mem_cons_of_mem _ (List.mem_append_left _ (List.mem_of_getElem? (i := 2) rfl)))
theorem qX10_feed_3 : Cond.constantLong RX10 79 (255) ∈ wsX10_feed := (List.mem_cons_of_mem _ (List.mem_append_left _ (List.mem_of_getElem? (i := 3) rfl)))
theorem qX10_feed_4 : Cond.fieldLink RX10 81 "MatchCoderModel" "hasPlan" "Z" ∈ wsX10_feed := (List.mem_cons_of_mem _ (List.mem_append_left _ (List.mem_of_getElem? (i := 4) rfl)))
theorem inX10_feed_wsX100 : ∀ w ∈ wsX100, w ∈ wsX10_feed := fun _ h => List.mem_cons_of_mem _ (List.mem_append_right _ h)
def wpX10_feed_43 (v1 : Int64) (K85 : Int32 → (Nat → Int32) → Prop) : Nat → Int32 → Int32 → (Nat → Int32) → Prop
  | 0, _, _, _ => False
  | n43 + 1, v4, msz, mtx => (v4 < 0 → (K85 msz mtx)) ∧ (¬ v4 < 0 → (vp_in msz 64 ∧ (wpX10_feed_43 v1 K85 n43 (v4 + (-1)) (msz + 1) (upd mtx msz.toNatClampNeg (((v1 >>> ((8 * v4).toInt64 &&& 63)) &&& 255).toInt32)))))
set_option maxHeartbeats 4000000 in
set_option maxRecDepth 100000 in
theorem wlX10_feed_43 {p : Program} {l : Launch} {e : Env} {s : State} {m : MethodId} {args : Array Value} {below : List Frame} {meth : Method} {c : Code} {A : Nat → Prop} {Q : State → Prop} {dC : Nat → ClassId} {dI : Nat → Nat → Nat} {cyI : ClassId} {aM aMt aMk aMl aMd aMs aMb aMo aMc aMn aMfk aMfl aMfd aMg aMm : Nat} {v1 : Int64} {mth : Int32} {mwi : Int32} {mle : Int32} {mgr : Int32} {mpr : Int32} {mhp : Int32} {mtk : Int32} {mbn : Int32} {mmd : Int32} {mep : Int32} {mat : Int32} {mer : Int32} {K85 : Int32 → (Nat → Int32) → Prop} (C0 : CallFix p m c cX10_feed 5 s args wsX10_feed RX10) (hA : ∀ q : Nat, s.heap.size ≤ q → A q) (hK : va_K (dC, dI) vwCl [(cyI, .int)] s) (hK85 : ∀ (msz : Int32) (mtx : Nat → Int32), K85 msz mtx → ∀ (H : Heap) (locs : List Loc) (ls : Array Slot), va_P (dC, dI) vwCl [(aM, .inr (9, [.int mth, .int msz, .ref aMt, .int mwi, .int mle, .int mgr, .int mpr, .int mhp, .int mtk, .ref aMk, .ref aMl, .ref aMd, .ref aMs, .int mbn, .ref aMb, .int mmd, .ref aMo, .int mep, .ref aMc, .ref aMn, .ref aMfk, .ref aMfl, .ref aMfd, .ref aMg, .ref aMm, .int mat, .int mer])), (aMt, .inl (cyI, 64, .inl mtx))] H → va_D A [(aM, .inr (9, [.int mth, .int msz, .ref aMt, .int mwi, .int mle, .int mgr, .int mpr, .int mhp, .int mtk, .ref aMk, .ref aMl, .ref aMd, .ref aMs, .int mbn, .ref aMb, .int mmd, .ref aMo, .int mep, .ref aMc, .ref aMn, .ref aMfk, .ref aMfl, .ref aMfd, .ref aMg, .ref aMm, .int mat, .int mer])), (aMt, .inl (cyI, 64, .inl mtx))] → va_S A s.heap H locs → lv_has ls 5 [(0, .ref aM)] → W p l e ({ frames := 1, cells := 0, slots := 0, locals := 22 } : Room) s m args below meth c H locs 0 0 Q (F0 m 85 ls [])) :
    ∀ (n43 : Nat) (v4 : Int32) (msz : Int32) (mtx : Nat → Int32), wpX10_feed_43 v1 K85 n43 v4 msz mtx → ∀ (H : Heap) (locs : List Loc) (ls : Array Slot), va_P (dC, dI) vwCl [(aM, .inr (9, [.int mth, .int msz, .ref aMt, .int mwi, .int mle, .int mgr, .int mpr, .int mhp, .int mtk, .ref aMk, .ref aMl, .ref aMd, .ref aMs, .int mbn, .ref aMb, .int mmd, .ref aMo, .int mep, .ref aMc, .ref aMn, .ref aMfk, .ref aMfl, .ref aMfd, .ref aMg, .ref aMm, .int mat, .int mer])), (aMt, .inl (cyI, 64, .inl mtx))] H → va_D A [(aM, .inr (9, [.int mth, .int msz, .ref aMt, .int mwi, .int mle, .int mgr, .int mpr, .int mhp, .int mtk, .ref aMk, .ref aMl, .ref aMd, .ref aMs, .int mbn, .ref aMb, .int mmd, .ref aMo, .int mep, .ref aMc, .ref aMn, .ref aMfk, .ref aMfl, .ref aMfd, .ref aMg, .ref aMm, .int mat, .int mer])), (aMt, .inl (cyI, 64, .inl mtx))] → va_S A s.heap H locs → lv_has ls 5 [(0, .ref aM), (1, .long v1), (4, .int v4)] → W p l e ({ frames := 1, cells := 0, slots := 0, locals := 22 } : Room) s m args below meth c H locs 0 0 Q (F0 m 43 ls []) := by
  obtain ⟨hx, hb, hml, hown, hts⟩ := id C0
  intro n43
  induction n43 with
  | zero => intro _ _ _ h; exact h.elim
  | succ n43 ih43 =>
    intro v4 msz mtx h H locs ls hP hD hS hl
    rw [wpX10_feed_43] at h
    refine lv_iload hx hb dX10_feed_43 (lv_at hl 2 rfl) ?_
    refine lv_if_lt (tgt := 85) hx hb dX10_feed_45 (by decide) (fun c_4 => ?_) (fun c_4 => ?_)
    · replace h := h.1 c_4
      exact hK85 _ _ h _ _ _ hP hD hS (lv_sub hl [0] rfl)
    · replace h := h.2 c_4
      refine lv_aload_n hx hb dX10_feed_48 rfl (lv_at hl 0 rfl) ?_
      refine va_get (D := (dC, dI)) (ci := 9) (v := .ref aMt) (C := RX10) (T := TX10) (N := 27) hx hb hts inX10_feed_wsX100 hown hK hP 0 rfl rfl 2 (by decide) (hts _ qX10_feed_2) (fun _ h9 => h9) rfl dX10_feed_49 ?_
      refine lv_aload_n hx hb dX10_feed_52 rfl (lv_at hl 0 rfl) ?_
      refine va_get (D := (dC, dI)) (ci := 9) (v := .int msz) (C := RX10) (T := TX10) (N := 27) hx hb hts inX10_feed_wsX100 hown hK hP 0 rfl rfl 1 (by decide) (hts _ qX10_feed_1) (fun _ h9 => h9) rfl dX10_feed_53 ?_
      refine lv_lload_n hx hb dX10_feed_56 rfl (lv_at hl 1 rfl) ?_
      refine lv_bipush (v := 8) hx hb dX10_feed_57 (by decide) ?_
      refine lv_iload hx hb dX10_feed_59 (lv_at hl 2 rfl) ?_
      refine lv_imul hx hb dX10_feed_61 ?_
      refine lv_lshr hx hb dX10_feed_62 rfl ?_
      refine lv_ldc2 hx hb hown (hts _ qX10_feed_3) dX10_feed_63 ?_
      refine lv_land hx hb dX10_feed_66 ?_
      refine lv_l2i hx hb dX10_feed_67 rfl ?_
      obtain ⟨hi_5, h⟩ := h
      refine va_iast hx hb hK hP hD hS 1 0 rfl rfl hi_5 dX10_feed_68 (fun H locs hP hD hS => ?_)
      have hP : va_P (dC, dI) vwCl [(aM, .inr (9, [.int mth, .int msz, .ref aMt, .int mwi, .int mle, .int mgr, .int mpr, .int mhp, .int mtk, .ref aMk, .ref aMl, .ref aMd, .ref aMs, .int mbn, .ref aMb, .int mmd, .ref aMo, .int mep, .ref aMc, .ref aMn, .ref aMfk, .ref aMfl, .ref aMfd, .ref aMg, .ref aMm, .int mat, .int mer])), (aMt, .inl (cyI, 64, .inl (upd mtx msz.toNatClampNeg (((v1 >>> ((8 * v4).toInt64 &&& 63)) &&& 255).toInt32))))] H := hP
      have hD : va_D A [(aM, .inr (9, [.int mth, .int msz, .ref aMt, .int mwi, .int mle, .int mgr, .int mpr, .int mhp, .int mtk, .ref aMk, .ref aMl, .ref aMd, .ref aMs, .int mbn, .ref aMb, .int mmd, .ref aMo, .int mep, .ref aMc, .ref aMn, .ref aMfk, .ref aMfl, .ref aMfd, .ref aMg, .ref aMm, .int mat, .int mer])), (aMt, .inl (cyI, 64, .inl (upd mtx msz.toNatClampNeg (((v1 >>> ((8 * v4).toInt64 &&& 63)) &&& 255).toInt32))))] := hD
      refine lv_aload_n hx hb dX10_feed_69 rfl (lv_at hl 0 rfl) ?_
      refine lv_dup hx hb dX10_feed_70 rfl ?_
      refine va_get (D := (dC, dI)) (ci := 9) (v := .int msz) (C := RX10) (T := TX10) (N := 27) hx hb hts inX10_feed_wsX100 hown hK hP 0 rfl rfl 1 (by decide) (hts _ qX10_feed_1) (fun _ h9 => h9) rfl dX10_feed_71 ?_
      refine lv_iconst (v := 1) hx hb dX10_feed_74 (by decide) ?_
      refine lv_iadd hx hb dX10_feed_75 ?_
      refine va_put (D := (dC, dI)) (ci := 9) (v := .int (msz + 1)) (ty := .int) (C := RX10) (T := TX10) (N := 27) hx hb hts inX10_feed_wsX100 tyX10 tyX10_ok nmX10 hown hK hP hD hS 0 rfl rfl 1 (by decide) (hts _ qX10_feed_1) (fun _ h9 => h9) rfl (by decide +kernel) rfl rfl (Nat.le_of_ble_eq_true rfl) dX10_feed_76 (fun H locs hP hD hS => ?_)
      have hP : va_P (dC, dI) vwCl [(aM, .inr (9, [.int mth, .int (msz + 1), .ref aMt, .int mwi, .int mle, .int mgr, .int mpr, .int mhp, .int mtk, .ref aMk, .ref aMl, .ref aMd, .ref aMs, .int mbn, .ref aMb, .int mmd, .ref aMo, .int mep, .ref aMc, .ref aMn, .ref aMfk, .ref aMfl, .ref aMfd, .ref aMg, .ref aMm, .int mat, .int mer])), (aMt, .inl (cyI, 64, .inl (upd mtx msz.toNatClampNeg (((v1 >>> ((8 * v4).toInt64 &&& 63)) &&& 255).toInt32))))] H := hP
      have hD : va_D A [(aM, .inr (9, [.int mth, .int (msz + 1), .ref aMt, .int mwi, .int mle, .int mgr, .int mpr, .int mhp, .int mtk, .ref aMk, .ref aMl, .ref aMd, .ref aMs, .int mbn, .ref aMb, .int mmd, .ref aMo, .int mep, .ref aMc, .ref aMn, .ref aMfk, .ref aMfl, .ref aMfd, .ref aMg, .ref aMm, .int mat, .int mer])), (aMt, .inl (cyI, 64, .inl (upd mtx msz.toNatClampNeg (((v1 >>> ((8 * v4).toInt64 &&& 63)) &&& 255).toInt32))))] := hD
      refine lv_iinc (v := v4 + (-1)) (lv' := [(4, .int (v4 + (-1))), (0, .ref aM), (1, .long v1)]) hx hb dX10_feed_79 hl (k := 2) rfl rfl (by decide) rfl (fun ls hl => ?_)
      refine lv_goto (tgt := 43) hx hb dX10_feed_82 (by decide) ?_
      exact ih43 _ _ _ h _ _ _ hP hD hS (lv_sub hl [1, 2, 0] rfl)
def wpX10_feed (msz : Int32) (mhp : Int32) (mtx : Nat → Int32) (v1 : Int64) (v3 : Int32) (post : Int32 → Int32 → Int32 → Int32 → (Nat → Int32) → Prop) : Prop := wpX10_isIn v3 1 8 (fun (r_1 : Int32) => (r_1 = 0 → (wpX10_no 1 (fun (r_10 : Int32) (mth_11 : Int32) => post r_10 mth_11 msz mhp mtx))) ∧ (¬ r_1 = 0 → (((msz + v3) ≤ 64 → (∃ n43 : Nat, wpX10_feed_43 v1 (fun (msz_6 : Int32) (mtx_7 : Nat → Int32) => post msz_6 0 msz_6 0 mtx_7) n43 (v3 - 1) msz mtx)) ∧ (¬ (msz + v3) ≤ 64 → (wpX10_no 2 (fun (r_8 : Int32) (mth_9 : Int32) => post r_8 mth_9 msz mhp mtx))))))
set_option maxHeartbeats 4000000 in
set_option maxRecDepth 100000 in
theorem mtX10_feed (l : Launch) (dC : Nat → ClassId) (dI : Nat → Nat → Nat) (cyI : ClassId) {aM aMt aMk aMl aMd aMs aMb aMo aMc aMn aMfk aMfl aMfd aMg aMm : Nat} {sz : Nat} {mth : Int32} {msz : Int32} {mwi : Int32} {mle : Int32} {mgr : Int32} {mpr : Int32} {mhp : Int32} {mtk : Int32} {mbn : Int32} {mmd : Int32} {mep : Int32} {mat : Int32} {mer : Int32} {mtx : Nat → Int32} {v1 : Int64} {v3 : Int32} {post : Int32 → Int32 → Int32 → Int32 → (Nat → Int32) → Prop} (h : wpX10_feed msz mhp mtx v1 v3 post) : Met l yX10_feed wsX10_feed ({ frames := 1, cells := 0, slots := 0, locals := 22 }) (va_Pc [.ref aM, .long v1, .int v3] (wk_B (dC, dI) [(cyI, .int)] [(aM, .inr (9, [.int mth, .int msz, .ref aMt, .int mwi, .int mle, .int mgr, .int mpr, .int mhp, .int mtk, .ref aMk, .ref aMl, .ref aMd, .ref aMs, .int mbn, .ref aMb, .int mmd, .ref aMo, .int mep, .ref aMc, .ref aMn, .ref aMfk, .ref aMfl, .ref aMfd, .ref aMg, .ref aMm, .int mat, .int mer])), (aMt, .inl (cyI, 64, .inl mtx))] sz)) (va_Qi (fun (r : Int32) (u : Int32 × Int32 × Int32 × (Nat → Int32)) => post r u.1 u.2.1 u.2.2.1 u.2.2.2) (wk_C (dC, dI) [(cyI, .int)] (va_A [(aM, .inr (9, [.int mth, .int msz, .ref aMt, .int mwi, .int mle, .int mgr, .int mpr, .int mhp, .int mtk, .ref aMk, .ref aMl, .ref aMd, .ref aMs, .int mbn, .ref aMb, .int mmd, .ref aMo, .int mep, .ref aMc, .ref aMn, .ref aMfk, .ref aMfl, .ref aMfd, .ref aMg, .ref aMm, .int mat, .int mer])), (aMt, .inl (cyI, 64, .inl mtx))] sz) (fun (u : Int32 × Int32 × Int32 × (Nat → Int32)) => [(aM, .inr (9, [.int (u.1), .int (u.2.1), .ref aMt, .int mwi, .int mle, .int mgr, .int mpr, .int (u.2.2.1), .int mtk, .ref aMk, .ref aMl, .ref aMd, .ref aMs, .int mbn, .ref aMb, .int mmd, .ref aMo, .int mep, .ref aMc, .ref aMn, .ref aMfk, .ref aMfl, .ref aMfd, .ref aMg, .ref aMm, .int mat, .int mer])), (aMt, .inl (cyI, 64, .inl (u.2.2.2)))])) (va_A [(aM, .inr (9, [.int mth, .int msz, .ref aMt, .int mwi, .int mle, .int mgr, .int mpr, .int mhp, .int mtk, .ref aMk, .ref aMl, .ref aMd, .ref aMs, .int mbn, .ref aMb, .int mmd, .ref aMo, .int mep, .ref aMc, .ref aMn, .ref aMfk, .ref aMfl, .ref aMfd, .ref aMg, .ref aMm, .int mat, .int mer])), (aMt, .inl (cyI, 64, .inl mtx))] sz)) 0 0 (va_A [(aM, .inr (9, [.int mth, .int msz, .ref aMt, .int mwi, .int mle, .int mgr, .int mpr, .int mhp, .int mtk, .ref aMk, .ref aMl, .ref aMd, .ref aMs, .int mbn, .ref aMb, .int mmd, .ref aMo, .int mep, .ref aMc, .ref aMn, .ref aMfk, .ref aMfl, .ref aMfd, .ref aMg, .ref aMm, .int mat, .int mer])), (aMt, .inl (cyI, 64, .inl mtx))] sz) := by
  refine Met.ofW (cc := cX10_feed) (maxL := 5) (ret := (some .int)) (by decide) rfl ?_
  intro p e s m args below meth c s₁ B hml hv
  obtain ⟨rfl, hsz, hP, hK, hD0⟩ := hv
  have hx := B.exec
  have hb := B.bytes
  have hr := B.returns
  have hts := atoms_spec (ws := wsX10_feed) B.pre
  have hown : s.vm.findClass RX10 = some m.cls := findClass_of_methodNamed B.named
  have hlocks := B.notSynchronized
  subst hsz
  have hD := hD0.self (sz := s.heap.size)
  generalize hAe : va_A [(aM, .inr (9, [.int mth, .int msz, .ref aMt, .int mwi, .int mle, .int mgr, .int mpr, .int mhp, .int mtk, .ref aMk, .ref aMl, .ref aMd, .ref aMs, .int mbn, .ref aMb, .int mmd, .ref aMo, .int mep, .ref aMc, .ref aMn, .ref aMfk, .ref aMfl, .ref aMfd, .ref aMg, .ref aMm, .int mat, .int mer])), (aMt, .inl (cyI, 64, .inl mtx))] s.heap.size = A at hD ⊢
  have hA : ∀ q : Nat, s.heap.size ≤ q → A q := fun q h => by rw [← hAe]; exact Or.inr h
  have hS : va_S A s.heap s.heap [] := va_S.rf
  have hP : va_P (dC, dI) vwCl [(aM, .inr (9, [.int mth, .int msz, .ref aMt, .int mwi, .int mle, .int mgr, .int mpr, .int mhp, .int mtk, .ref aMk, .ref aMl, .ref aMd, .ref aMs, .int mbn, .ref aMb, .int mmd, .ref aMo, .int mep, .ref aMc, .ref aMn, .ref aMfk, .ref aMfl, .ref aMfd, .ref aMg, .ref aMm, .int mat, .int mer])), (aMt, .inl (cyI, 64, .inl mtx))] s.heap := hP
  have hl := lv_entry ([.ref aM, .long v1, .int v3]) (n := 5) (Nat.le_of_ble_eq_true rfl)
  rw [lg_entry_eq]
  generalize (lg_sl ([.ref aM, .long v1, .int v3]) ++ List.replicate (5 - (lg_sl ([.ref aM, .long v1, .int v3])).length) Slot.unset).toArray = ls at hl ⊢
  have hl : lv_has ls 5 [(0, .ref aM), (1, .long v1), (3, .int v3)] := hl
  have C0 : CallFix p m c cX10_feed 5 s ([.ref aM, .long v1, .int v3] : List Value).toArray wsX10_feed RX10 := ⟨hx, hb, hml, hown, hts⟩
  unfold wpX10_feed at h
  refine lv_aload_n hx hb dX10_feed_0 rfl (lv_at hl 0 rfl) ?_
  refine lv_iconst (v := 0) hx hb dX10_feed_1 (by decide) ?_
  refine va_put (D := (dC, dI)) (ci := 9) (v := .int 0) (ty := .int) (C := RX10) (T := TX10) (N := 27) hx hb hts inX10_feed_wsX100 tyX10 tyX10_ok nmX10 hown hK hP hD hS 0 rfl rfl 0 (by decide) (hts _ qX10_feed_0) (fun _ h9 => h9) rfl (by decide +kernel) rfl rfl (Nat.le_of_ble_eq_true rfl) dX10_feed_2 (fun H locs hP hD hS => ?_)
  have hP : va_P (dC, dI) vwCl [(aM, .inr (9, [.int 0, .int msz, .ref aMt, .int mwi, .int mle, .int mgr, .int mpr, .int mhp, .int mtk, .ref aMk, .ref aMl, .ref aMd, .ref aMs, .int mbn, .ref aMb, .int mmd, .ref aMo, .int mep, .ref aMc, .ref aMn, .ref aMfk, .ref aMfl, .ref aMfd, .ref aMg, .ref aMm, .int mat, .int mer])), (aMt, .inl (cyI, 64, .inl mtx))] H := hP
  have hD : va_D A [(aM, .inr (9, [.int 0, .int msz, .ref aMt, .int mwi, .int mle, .int mgr, .int mpr, .int mhp, .int mtk, .ref aMk, .ref aMl, .ref aMd, .ref aMs, .int mbn, .ref aMb, .int mmd, .ref aMo, .int mep, .ref aMc, .ref aMn, .ref aMfk, .ref aMfl, .ref aMfd, .ref aMg, .ref aMm, .int mat, .int mer])), (aMt, .inl (cyI, 64, .inl mtx))] := hD
  refine lv_iload_n hx hb dX10_feed_5 rfl (lv_at hl 2 rfl) ?_
  refine lv_iconst (v := 1) hx hb dX10_feed_6 (by decide) ?_
  refine lv_bipush (v := 8) hx hb dX10_feed_7 (by decide) ?_
  refine wk_calli (wc := []) (wr := [(aM, .inr (9, [.int 0, .int msz, .ref aMt, .int mwi, .int mle, .int mgr, .int mpr, .int mhp, .int mtk, .ref aMk, .ref aMl, .ref aMd, .ref aMs, .int mbn, .ref aMb, .int mmd, .ref aMo, .int mep, .ref aMc, .ref aMn, .ref aMfk, .ref aMfl, .ref aMfd, .ref aMg, .ref aMm, .int mat, .int mer])), (aMt, .inl (cyI, 64, .inl mtx))]) (va_runS (As := [.int v3, .int 1, .int 8]) (rest := []) C0 (mtX10_isIn l dC dI cyI (sz := _) (v0 := v3) (v1 := 1) (v2 := 8) h) (va_cwS 3 hts gX10_feed_X10_isIn rfl rfl rfl (by decide +kernel) ⟨(Nat.le_of_ble_eq_true rfl), (Nat.le_of_ble_eq_true rfl)⟩) (wk_preS (wc := []) hK hP hD [] rfl (by decide)) rfl rfl hl.1 rfl (lv_room (Nat.le_of_ble_eq_true rfl)) dX10_feed_9 ⟨(Nat.le_of_ble_eq_true rfl), (Nat.le_of_ble_eq_true rfl)⟩) hP hD hS hA [] [0, 1] rfl rfl (by decide) (by decide) (fun r_1 u9 H locs h hP hD hS => ?_)
  have hP : va_P (dC, dI) vwCl [(aM, .inr (9, [.int 0, .int msz, .ref aMt, .int mwi, .int mle, .int mgr, .int mpr, .int mhp, .int mtk, .ref aMk, .ref aMl, .ref aMd, .ref aMs, .int mbn, .ref aMb, .int mmd, .ref aMo, .int mep, .ref aMc, .ref aMn, .ref aMfk, .ref aMfl, .ref aMfd, .ref aMg, .ref aMm, .int mat, .int mer])), (aMt, .inl (cyI, 64, .inl mtx))] H := hP
  have hD : va_D A [(aM, .inr (9, [.int 0, .int msz, .ref aMt, .int mwi, .int mle, .int mgr, .int mpr, .int mhp, .int mtk, .ref aMk, .ref aMl, .ref aMd, .ref aMs, .int mbn, .ref aMb, .int mmd, .ref aMo, .int mep, .ref aMc, .ref aMn, .ref aMfk, .ref aMfl, .ref aMfd, .ref aMg, .ref aMm, .int mat, .int mer])), (aMt, .inl (cyI, 64, .inl mtx))] := hD
  refine lv_if_ne (tgt := 21) hx hb dX10_feed_12 (by decide) (fun c_2 => ?_) (fun c_2 => ?_)
  · replace h := h.2 c_2
    refine lv_aload_n hx hb dX10_feed_21 rfl (lv_at hl 0 rfl) ?_
    refine va_get (D := (dC, dI)) (ci := 9) (v := .int msz) (C := RX10) (T := TX10) (N := 27) hx hb hts inX10_feed_wsX100 hown hK hP 0 rfl rfl 1 (by decide) (hts _ qX10_feed_1) (fun _ h9 => h9) rfl dX10_feed_22 ?_
    refine lv_iload_n hx hb dX10_feed_25 rfl (lv_at hl 2 rfl) ?_
    refine lv_iadd hx hb dX10_feed_26 ?_
    refine lv_bipush (v := 64) hx hb dX10_feed_27 (by decide) ?_
    refine lv_icmp_le (tgt := 38) hx hb dX10_feed_29 (by decide) (fun c_3 => ?_) (fun c_3 => ?_)
    · replace h := h.1 c_3
      refine lv_iload_n hx hb dX10_feed_38 rfl (lv_at hl 2 rfl) ?_
      refine lv_iconst (v := 1) hx hb dX10_feed_39 (by decide) ?_
      refine lv_isub hx hb dX10_feed_40 ?_
      refine lv_istore (lv' := [(4, .int (v3 - 1)), (0, .ref aM), (1, .long v1), (3, .int v3)]) hx hb dX10_feed_41 hl (by decide) rfl (fun ls hl => ?_)
      obtain ⟨n43, h⟩ := h
      refine wlX10_feed_43 C0 hA hK ?_ n43 _ _ _ h _ _ _ hP hD hS (lv_sub hl [1, 2, 0] rfl)
      · intro msz_6 mtx_7 h H locs ls hP hD hS hl
        refine lv_aload_n hx hb dX10_feed_85 rfl (lv_at hl 0 rfl) ?_
        refine lv_iconst (v := 0) hx hb dX10_feed_86 (by decide) ?_
        refine va_put (D := (dC, dI)) (ci := 9) (v := .int 0) (ty := .boolean) (C := RX10) (T := TX10) (N := 27) hx hb hts inX10_feed_wsX100 tyX10 tyX10_ok nmX10 hown hK hP hD hS 0 rfl rfl 7 (by decide) (hts _ qX10_feed_4) (fun _ h9 => h9) rfl (by decide +kernel) rfl rfl (Nat.le_of_ble_eq_true rfl) dX10_feed_87 (fun H locs hP hD hS => ?_)
        have hP : va_P (dC, dI) vwCl [(aM, .inr (9, [.int 0, .int msz_6, .ref aMt, .int mwi, .int mle, .int mgr, .int mpr, .int 0, .int mtk, .ref aMk, .ref aMl, .ref aMd, .ref aMs, .int mbn, .ref aMb, .int mmd, .ref aMo, .int mep, .ref aMc, .ref aMn, .ref aMfk, .ref aMfl, .ref aMfd, .ref aMg, .ref aMm, .int mat, .int mer])), (aMt, .inl (cyI, 64, .inl mtx_7))] H := hP
        have hD : va_D A [(aM, .inr (9, [.int 0, .int msz_6, .ref aMt, .int mwi, .int mle, .int mgr, .int mpr, .int 0, .int mtk, .ref aMk, .ref aMl, .ref aMd, .ref aMs, .int mbn, .ref aMb, .int mmd, .ref aMo, .int mep, .ref aMc, .ref aMn, .ref aMfk, .ref aMfl, .ref aMfd, .ref aMg, .ref aMm, .int mat, .int mer])), (aMt, .inl (cyI, 64, .inl mtx_7))] := hD
        refine lv_aload_n hx hb dX10_feed_90 rfl (lv_at hl 0 rfl) ?_
        refine va_get (D := (dC, dI)) (ci := 9) (v := .int msz_6) (C := RX10) (T := TX10) (N := 27) hx hb hts inX10_feed_wsX100 hown hK hP 0 rfl rfl 1 (by decide) (hts _ qX10_feed_1) (fun _ h9 => h9) rfl dX10_feed_91 ?_
        have hP9 : va_P (dC, dI) vwCl [(aM, .inr (9, [.int 0, .int msz_6, .ref aMt, .int mwi, .int mle, .int mgr, .int mpr, .int 0, .int mtk, .ref aMk, .ref aMl, .ref aMd, .ref aMs, .int mbn, .ref aMb, .int mmd, .ref aMo, .int mep, .ref aMc, .ref aMn, .ref aMfk, .ref aMfl, .ref aMfd, .ref aMg, .ref aMm, .int mat, .int mer])), (aMt, .inl (cyI, 64, .inl mtx_7))] _ := hP
        have hD9 : va_D A [(aM, .inr (9, [.int 0, .int msz_6, .ref aMt, .int mwi, .int mle, .int mgr, .int mpr, .int 0, .int mtk, .ref aMk, .ref aMl, .ref aMd, .ref aMs, .int mbn, .ref aMb, .int mmd, .ref aMo, .int mep, .ref aMc, .ref aMn, .ref aMfk, .ref aMfl, .ref aMfd, .ref aMg, .ref aMm, .int mat, .int mer])), (aMt, .inl (cyI, 64, .inl mtx_7))] := hD
        exact W.iret (v := msz_6) hx hb hr (fun t ht hW => ⟨⟨msz_6, (0, msz_6, 0, mtx_7), rfl, h, by rw [ht]; exact hP9, va_K.moved hW.alike hK, hD9⟩, hS.F ht⟩) hS.2.2 dX10_feed_94
    · replace h := h.2 c_3
      refine lv_aload_n hx hb dX10_feed_32 rfl (lv_at hl 0 rfl) ?_
      refine lv_iconst (v := 2) hx hb dX10_feed_33 (by decide) ?_
      refine wk_calli (wc := [(aM, .inr (9, [.int 0, .int msz, .ref aMt, .int mwi, .int mle, .int mgr, .int mpr, .int mhp, .int mtk, .ref aMk, .ref aMl, .ref aMd, .ref aMs, .int mbn, .ref aMb, .int mmd, .ref aMo, .int mep, .ref aMc, .ref aMn, .ref aMfk, .ref aMfl, .ref aMfd, .ref aMg, .ref aMm, .int mat, .int mer]))]) (wr := [(aMt, .inl (cyI, 64, .inl mtx))]) (va_runV (As := [.int 2]) (rest := []) C0 (mtX10_no l dC dI cyI (aM := aM) (aMt := aMt) (aMk := aMk) (aMl := aMl) (aMd := aMd) (aMs := aMs) (aMb := aMb) (aMo := aMo) (aMc := aMc) (aMn := aMn) (aMfk := aMfk) (aMfl := aMfl) (aMfd := aMfd) (aMg := aMg) (aMm := aMm) (sz := _) (mth := 0) (msz := msz) (mwi := mwi) (mle := mle) (mgr := mgr) (mpr := mpr) (mhp := mhp) (mtk := mtk) (mbn := mbn) (mmd := mmd) (mep := mep) (mat := mat) (mer := mer) (v1 := 2) h) (cwV 1 hts gX10_feed_X10_no rfl rfl rfl (by decide +kernel) ⟨(Nat.le_of_ble_eq_true rfl), (Nat.le_of_ble_eq_true rfl)⟩) (wk_preV (wc := [(aM, .inr (9, [.int 0, .int msz, .ref aMt, .int mwi, .int mle, .int mgr, .int mpr, .int mhp, .int mtk, .ref aMk, .ref aMl, .ref aMd, .ref aMs, .int mbn, .ref aMb, .int mmd, .ref aMo, .int mep, .ref aMc, .ref aMn, .ref aMfk, .ref aMfl, .ref aMfd, .ref aMg, .ref aMm, .int mat, .int mer]))]) hK hP hD [0] rfl (by decide) (va_recv hK hP (ci := 9) (q0 := 0) rfl rfl)) rfl rfl hl.1 rfl (lv_room (Nat.le_of_ble_eq_true rfl)) dX10_feed_34 ⟨(Nat.le_of_ble_eq_true rfl), (Nat.le_of_ble_eq_true rfl)⟩) hP hD hS hA [0] [1] rfl rfl (by decide) (by decide) (fun r_8 u9 H locs h hP hD hS => ?_)
      obtain ⟨mth_9, rfl⟩ : ∃ z9, z9 = u9 := ⟨_, rfl⟩
      have hP : va_P (dC, dI) vwCl [(aMt, .inl (cyI, 64, .inl mtx)), (aM, .inr (9, [.int mth_9, .int msz, .ref aMt, .int mwi, .int mle, .int mgr, .int mpr, .int mhp, .int mtk, .ref aMk, .ref aMl, .ref aMd, .ref aMs, .int mbn, .ref aMb, .int mmd, .ref aMo, .int mep, .ref aMc, .ref aMn, .ref aMfk, .ref aMfl, .ref aMfd, .ref aMg, .ref aMm, .int mat, .int mer]))] H := hP
      have hD : va_D A [(aMt, .inl (cyI, 64, .inl mtx)), (aM, .inr (9, [.int mth_9, .int msz, .ref aMt, .int mwi, .int mle, .int mgr, .int mpr, .int mhp, .int mtk, .ref aMk, .ref aMl, .ref aMd, .ref aMs, .int mbn, .ref aMb, .int mmd, .ref aMo, .int mep, .ref aMc, .ref aMn, .ref aMfk, .ref aMfl, .ref aMfd, .ref aMg, .ref aMm, .int mat, .int mer]))] := hD
      have hP9 : va_P (dC, dI) vwCl [(aM, .inr (9, [.int mth_9, .int msz, .ref aMt, .int mwi, .int mle, .int mgr, .int mpr, .int mhp, .int mtk, .ref aMk, .ref aMl, .ref aMd, .ref aMs, .int mbn, .ref aMb, .int mmd, .ref aMo, .int mep, .ref aMc, .ref aMn, .ref aMfk, .ref aMfl, .ref aMfd, .ref aMg, .ref aMm, .int mat, .int mer])), (aMt, .inl (cyI, 64, .inl mtx))] _ := (hP.sub [1, 0] rfl)
      have hD9 : va_D A [(aM, .inr (9, [.int mth_9, .int msz, .ref aMt, .int mwi, .int mle, .int mgr, .int mpr, .int mhp, .int mtk, .ref aMk, .ref aMl, .ref aMd, .ref aMs, .int mbn, .ref aMb, .int mmd, .ref aMo, .int mep, .ref aMc, .ref aMn, .ref aMfk, .ref aMfl, .ref aMfd, .ref aMg, .ref aMm, .int mat, .int mer])), (aMt, .inl (cyI, 64, .inl mtx))] := (hD.sub [1, 0] (by decide) rfl)
      exact W.iret (v := r_8) hx hb hr (fun t ht hW => ⟨⟨r_8, (mth_9, msz, mhp, mtx), rfl, h, by rw [ht]; exact hP9, va_K.moved hW.alike hK, hD9⟩, hS.F ht⟩) hS.2.2 dX10_feed_37
  · replace h := h.1 c_2
    refine lv_aload_n hx hb dX10_feed_15 rfl (lv_at hl 0 rfl) ?_
    refine lv_iconst (v := 1) hx hb dX10_feed_16 (by decide) ?_
    refine wk_calli (wc := [(aM, .inr (9, [.int 0, .int msz, .ref aMt, .int mwi, .int mle, .int mgr, .int mpr, .int mhp, .int mtk, .ref aMk, .ref aMl, .ref aMd, .ref aMs, .int mbn, .ref aMb, .int mmd, .ref aMo, .int mep, .ref aMc, .ref aMn, .ref aMfk, .ref aMfl, .ref aMfd, .ref aMg, .ref aMm, .int mat, .int mer]))]) (wr := [(aMt, .inl (cyI, 64, .inl mtx))]) (va_runV (As := [.int 1]) (rest := []) C0 (mtX10_no l dC dI cyI (aM := aM) (aMt := aMt) (aMk := aMk) (aMl := aMl) (aMd := aMd) (aMs := aMs) (aMb := aMb) (aMo := aMo) (aMc := aMc) (aMn := aMn) (aMfk := aMfk) (aMfl := aMfl) (aMfd := aMfd) (aMg := aMg) (aMm := aMm) (sz := _) (mth := 0) (msz := msz) (mwi := mwi) (mle := mle) (mgr := mgr) (mpr := mpr) (mhp := mhp) (mtk := mtk) (mbn := mbn) (mmd := mmd) (mep := mep) (mat := mat) (mer := mer) (v1 := 1) h) (cwV 1 hts gX10_feed_X10_no rfl rfl rfl (by decide +kernel) ⟨(Nat.le_of_ble_eq_true rfl), (Nat.le_of_ble_eq_true rfl)⟩) (wk_preV (wc := [(aM, .inr (9, [.int 0, .int msz, .ref aMt, .int mwi, .int mle, .int mgr, .int mpr, .int mhp, .int mtk, .ref aMk, .ref aMl, .ref aMd, .ref aMs, .int mbn, .ref aMb, .int mmd, .ref aMo, .int mep, .ref aMc, .ref aMn, .ref aMfk, .ref aMfl, .ref aMfd, .ref aMg, .ref aMm, .int mat, .int mer]))]) hK hP hD [0] rfl (by decide) (va_recv hK hP (ci := 9) (q0 := 0) rfl rfl)) rfl rfl hl.1 rfl (lv_room (Nat.le_of_ble_eq_true rfl)) dX10_feed_17 ⟨(Nat.le_of_ble_eq_true rfl), (Nat.le_of_ble_eq_true rfl)⟩) hP hD hS hA [0] [1] rfl rfl (by decide) (by decide) (fun r_10 u9 H locs h hP hD hS => ?_)
    obtain ⟨mth_11, rfl⟩ : ∃ z9, z9 = u9 := ⟨_, rfl⟩
    have hP : va_P (dC, dI) vwCl [(aMt, .inl (cyI, 64, .inl mtx)), (aM, .inr (9, [.int mth_11, .int msz, .ref aMt, .int mwi, .int mle, .int mgr, .int mpr, .int mhp, .int mtk, .ref aMk, .ref aMl, .ref aMd, .ref aMs, .int mbn, .ref aMb, .int mmd, .ref aMo, .int mep, .ref aMc, .ref aMn, .ref aMfk, .ref aMfl, .ref aMfd, .ref aMg, .ref aMm, .int mat, .int mer]))] H := hP
    have hD : va_D A [(aMt, .inl (cyI, 64, .inl mtx)), (aM, .inr (9, [.int mth_11, .int msz, .ref aMt, .int mwi, .int mle, .int mgr, .int mpr, .int mhp, .int mtk, .ref aMk, .ref aMl, .ref aMd, .ref aMs, .int mbn, .ref aMb, .int mmd, .ref aMo, .int mep, .ref aMc, .ref aMn, .ref aMfk, .ref aMfl, .ref aMfd, .ref aMg, .ref aMm, .int mat, .int mer]))] := hD
    have hP9 : va_P (dC, dI) vwCl [(aM, .inr (9, [.int mth_11, .int msz, .ref aMt, .int mwi, .int mle, .int mgr, .int mpr, .int mhp, .int mtk, .ref aMk, .ref aMl, .ref aMd, .ref aMs, .int mbn, .ref aMb, .int mmd, .ref aMo, .int mep, .ref aMc, .ref aMn, .ref aMfk, .ref aMfl, .ref aMfd, .ref aMg, .ref aMm, .int mat, .int mer])), (aMt, .inl (cyI, 64, .inl mtx))] _ := (hP.sub [1, 0] rfl)
    have hD9 : va_D A [(aM, .inr (9, [.int mth_11, .int msz, .ref aMt, .int mwi, .int mle, .int mgr, .int mpr, .int mhp, .int mtk, .ref aMk, .ref aMl, .ref aMd, .ref aMs, .int mbn, .ref aMb, .int mmd, .ref aMo, .int mep, .ref aMc, .ref aMn, .ref aMfk, .ref aMfl, .ref aMfd, .ref aMg, .ref aMm, .int mat, .int mer])), (aMt, .inl (cyI, 64, .inl mtx))] := (hD.sub [1, 0] (by decide) rfl)
    exact W.iret (v := r_10) hx hb hr (fun t ht hW => ⟨⟨r_10, (mth_11, msz, mhp, mtx), rfl, h, by rw [ht]; exact hP9, va_K.moved hW.alike hK, hD9⟩, hS.F ht⟩) hS.2.2 dX10_feed_20
-- X10_fill
theorem qX10_fill_0 : Cond.fieldLink RX10 65 "MatchCoderModel" "thrown" "I" ∈ wsX10_fill := (List.mem_cons_of_mem _ (List.mem_append_left _ (List.mem_of_getElem? (i := 0) rfl)))
theorem qX10_fill_1 : Cond.fieldLink RX10 68 "MatchCoderModel" "size" "I" ∈ wsX10_fill := (List.mem_cons_of_mem _ (List.mem_append_left _ (List.mem_of_getElem? (i := 1) rfl)))
theorem qX10_fill_2 : Cond.fieldLink RX10 9 "MatchCoderModel" "text" "[I" ∈ wsX10_fill := (List.mem_cons_of_mem _ (List.mem_append_left _ (List.mem_of_getElem? (i := 2) rfl)))
theorem qX10_fill_3 : Cond.fieldLink RX10 81 "MatchCoderModel" "hasPlan" "Z" ∈ wsX10_fill := (List.mem_cons_of_mem _ (List.mem_append_left _ (List.mem_of_getElem? (i := 3) rfl)))
theorem inX10_fill_wsX100 : ∀ w ∈ wsX100, w ∈ wsX10_fill := fun _ h => List.mem_cons_of_mem _ (List.mem_append_right _ h)
def wpX10_fill_51 (v1 : Int32) (v2 : Int32) (msz : Int32) (K74 : (Nat → Int32) → Prop) : Nat → Int32 → (Nat → Int32) → Prop
  | 0, _, _ => False
  | n51 + 1, v3, mtx => (v2 ≤ v3 → (K74 mtx)) ∧ (¬ v2 ≤ v3 → (vp_in (msz + v3) 64 ∧ (wpX10_fill_51 v1 v2 msz K74 n51 (v3 + 1) (upd mtx (msz + v3).toNatClampNeg v1))))
set_option maxHeartbeats 4000000 in
set_option maxRecDepth 100000 in
theorem wlX10_fill_51 {p : Program} {l : Launch} {e : Env} {s : State} {m : MethodId} {args : Array Value} {below : List Frame} {meth : Method} {c : Code} {A : Nat → Prop} {Q : State → Prop} {dC : Nat → ClassId} {dI : Nat → Nat → Nat} {cyI : ClassId} {aM aMt aMk aMl aMd aMs aMb aMo aMc aMn aMfk aMfl aMfd aMg aMm : Nat} {v1 : Int32} {v2 : Int32} {mth : Int32} {msz : Int32} {mwi : Int32} {mle : Int32} {mgr : Int32} {mpr : Int32} {mhp : Int32} {mtk : Int32} {mbn : Int32} {mmd : Int32} {mep : Int32} {mat : Int32} {mer : Int32} {K74 : (Nat → Int32) → Prop} (C0 : CallFix p m c cX10_fill 4 s args wsX10_fill RX10) (hA : ∀ q : Nat, s.heap.size ≤ q → A q) (hK : va_K (dC, dI) vwCl [(cyI, .int)] s) (hK74 : ∀ (mtx : Nat → Int32), K74 mtx → ∀ (H : Heap) (locs : List Loc) (ls : Array Slot), va_P (dC, dI) vwCl [(aM, .inr (9, [.int mth, .int msz, .ref aMt, .int mwi, .int mle, .int mgr, .int mpr, .int mhp, .int mtk, .ref aMk, .ref aMl, .ref aMd, .ref aMs, .int mbn, .ref aMb, .int mmd, .ref aMo, .int mep, .ref aMc, .ref aMn, .ref aMfk, .ref aMfl, .ref aMfd, .ref aMg, .ref aMm, .int mat, .int mer])), (aMt, .inl (cyI, 64, .inl mtx))] H → va_D A [(aM, .inr (9, [.int mth, .int msz, .ref aMt, .int mwi, .int mle, .int mgr, .int mpr, .int mhp, .int mtk, .ref aMk, .ref aMl, .ref aMd, .ref aMs, .int mbn, .ref aMb, .int mmd, .ref aMo, .int mep, .ref aMc, .ref aMn, .ref aMfk, .ref aMfl, .ref aMfd, .ref aMg, .ref aMm, .int mat, .int mer])), (aMt, .inl (cyI, 64, .inl mtx))] → va_S A s.heap H locs → lv_has ls 4 [(0, .ref aM), (2, .int v2)] → W p l e ({ frames := 1, cells := 0, slots := 0, locals := 22 } : Room) s m args below meth c H locs 0 0 Q (F0 m 74 ls [])) :
    ∀ (n51 : Nat) (v3 : Int32) (mtx : Nat → Int32), wpX10_fill_51 v1 v2 msz K74 n51 v3 mtx → ∀ (H : Heap) (locs : List Loc) (ls : Array Slot), va_P (dC, dI) vwCl [(aM, .inr (9, [.int mth, .int msz, .ref aMt, .int mwi, .int mle, .int mgr, .int mpr, .int mhp, .int mtk, .ref aMk, .ref aMl, .ref aMd, .ref aMs, .int mbn, .ref aMb, .int mmd, .ref aMo, .int mep, .ref aMc, .ref aMn, .ref aMfk, .ref aMfl, .ref aMfd, .ref aMg, .ref aMm, .int mat, .int mer])), (aMt, .inl (cyI, 64, .inl mtx))] H → va_D A [(aM, .inr (9, [.int mth, .int msz, .ref aMt, .int mwi, .int mle, .int mgr, .int mpr, .int mhp, .int mtk, .ref aMk, .ref aMl, .ref aMd, .ref aMs, .int mbn, .ref aMb, .int mmd, .ref aMo, .int mep, .ref aMc, .ref aMn, .ref aMfk, .ref aMfl, .ref aMfd, .ref aMg, .ref aMm, .int mat, .int mer])), (aMt, .inl (cyI, 64, .inl mtx))] → va_S A s.heap H locs → lv_has ls 4 [(0, .ref aM), (1, .int v1), (2, .int v2), (3, .int v3)] → W p l e ({ frames := 1, cells := 0, slots := 0, locals := 22 } : Room) s m args below meth c H locs 0 0 Q (F0 m 51 ls []) := by
  obtain ⟨hx, hb, hml, hown, hts⟩ := id C0
  intro n51
  induction n51 with
  | zero => intro _ _ h; exact h.elim
  | succ n51 ih51 =>
    intro v3 mtx h H locs ls hP hD hS hl
    rw [wpX10_fill_51] at h
    refine lv_iload_n hx hb dX10_fill_51 rfl (lv_at hl 3 rfl) ?_
    refine lv_iload_n hx hb dX10_fill_52 rfl (lv_at hl 2 rfl) ?_
    refine lv_icmp_ge (tgt := 74) hx hb dX10_fill_53 (by decide) (fun c_8 => ?_) (fun c_8 => ?_)
    · replace h := h.1 c_8
      exact hK74 _ h _ _ _ hP hD hS (lv_sub hl [0, 2] rfl)
    · replace h := h.2 c_8
      refine lv_aload_n hx hb dX10_fill_56 rfl (lv_at hl 0 rfl) ?_
      refine va_get (D := (dC, dI)) (ci := 9) (v := .ref aMt) (C := RX10) (T := TX10) (N := 27) hx hb hts inX10_fill_wsX100 hown hK hP 0 rfl rfl 2 (by decide) (hts _ qX10_fill_2) (fun _ h9 => h9) rfl dX10_fill_57 ?_
      refine lv_aload_n hx hb dX10_fill_60 rfl (lv_at hl 0 rfl) ?_
      refine va_get (D := (dC, dI)) (ci := 9) (v := .int msz) (C := RX10) (T := TX10) (N := 27) hx hb hts inX10_fill_wsX100 hown hK hP 0 rfl rfl 1 (by decide) (hts _ qX10_fill_1) (fun _ h9 => h9) rfl dX10_fill_61 ?_
      refine lv_iload_n hx hb dX10_fill_64 rfl (lv_at hl 3 rfl) ?_
      refine lv_iadd hx hb dX10_fill_65 ?_
      refine lv_iload_n hx hb dX10_fill_66 rfl (lv_at hl 1 rfl) ?_
      obtain ⟨hi_9, h⟩ := h
      refine va_iast hx hb hK hP hD hS 1 0 rfl rfl hi_9 dX10_fill_67 (fun H locs hP hD hS => ?_)
      have hP : va_P (dC, dI) vwCl [(aM, .inr (9, [.int mth, .int msz, .ref aMt, .int mwi, .int mle, .int mgr, .int mpr, .int mhp, .int mtk, .ref aMk, .ref aMl, .ref aMd, .ref aMs, .int mbn, .ref aMb, .int mmd, .ref aMo, .int mep, .ref aMc, .ref aMn, .ref aMfk, .ref aMfl, .ref aMfd, .ref aMg, .ref aMm, .int mat, .int mer])), (aMt, .inl (cyI, 64, .inl (upd mtx (msz + v3).toNatClampNeg v1)))] H := hP
      have hD : va_D A [(aM, .inr (9, [.int mth, .int msz, .ref aMt, .int mwi, .int mle, .int mgr, .int mpr, .int mhp, .int mtk, .ref aMk, .ref aMl, .ref aMd, .ref aMs, .int mbn, .ref aMb, .int mmd, .ref aMo, .int mep, .ref aMc, .ref aMn, .ref aMfk, .ref aMfl, .ref aMfd, .ref aMg, .ref aMm, .int mat, .int mer])), (aMt, .inl (cyI, 64, .inl (upd mtx (msz + v3).toNatClampNeg v1)))] := hD
      refine lv_iinc (v := v3 + 1) (lv' := [(3, .int (v3 + 1)), (0, .ref aM), (1, .int v1), (2, .int v2)]) hx hb dX10_fill_68 hl (k := 3) rfl rfl (by decide) rfl (fun ls hl => ?_)
      refine lv_goto (tgt := 51) hx hb dX10_fill_71 (by decide) ?_
      exact ih51 _ _ h _ _ _ hP hD hS (lv_sub hl [1, 2, 3, 0] rfl)
def wpX10_fill (msz : Int32) (mhp : Int32) (mtx : Nat → Int32) (v1 : Int32) (v2 : Int32) (post : Int32 → Int32 → Int32 → Int32 → (Nat → Int32) → Prop) : Prop := wpX10_isIn v1 0 255 (fun (r_1 : Int32) => (r_1 = 0 → (wpX10_no 1 (fun (r_3 : Int32) (mth_4 : Int32) => post r_3 mth_4 msz mhp mtx))) ∧ (¬ r_1 = 0 → (wpX10_isIn v2 1 64 (fun (r_5 : Int32) => (r_5 = 0 → (wpX10_no 1 (fun (r_13 : Int32) (mth_14 : Int32) => post r_13 mth_14 msz mhp mtx))) ∧ (¬ r_5 = 0 → (((msz + v2) ≤ 64 → (∃ n51 : Nat, wpX10_fill_51 v1 v2 msz (fun (mtx_10 : Nat → Int32) => post (msz + v2) 0 (msz + v2) 0 mtx_10) n51 0 mtx)) ∧ (¬ (msz + v2) ≤ 64 → (wpX10_no 2 (fun (r_11 : Int32) (mth_12 : Int32) => post r_11 mth_12 msz mhp mtx)))))))))
set_option maxHeartbeats 4000000 in
set_option maxRecDepth 100000 in
theorem mtX10_fill (l : Launch) (dC : Nat → ClassId) (dI : Nat → Nat → Nat) (cyI : ClassId) {aM aMt aMk aMl aMd aMs aMb aMo aMc aMn aMfk aMfl aMfd aMg aMm : Nat} {sz : Nat} {mth : Int32} {msz : Int32} {mwi : Int32} {mle : Int32} {mgr : Int32} {mpr : Int32} {mhp : Int32} {mtk : Int32} {mbn : Int32} {mmd : Int32} {mep : Int32} {mat : Int32} {mer : Int32} {mtx : Nat → Int32} {v1 : Int32} {v2 : Int32} {post : Int32 → Int32 → Int32 → Int32 → (Nat → Int32) → Prop} (h : wpX10_fill msz mhp mtx v1 v2 post) : Met l yX10_fill wsX10_fill ({ frames := 1, cells := 0, slots := 0, locals := 22 }) (va_Pc [.ref aM, .int v1, .int v2] (wk_B (dC, dI) [(cyI, .int)] [(aM, .inr (9, [.int mth, .int msz, .ref aMt, .int mwi, .int mle, .int mgr, .int mpr, .int mhp, .int mtk, .ref aMk, .ref aMl, .ref aMd, .ref aMs, .int mbn, .ref aMb, .int mmd, .ref aMo, .int mep, .ref aMc, .ref aMn, .ref aMfk, .ref aMfl, .ref aMfd, .ref aMg, .ref aMm, .int mat, .int mer])), (aMt, .inl (cyI, 64, .inl mtx))] sz)) (va_Qi (fun (r : Int32) (u : Int32 × Int32 × Int32 × (Nat → Int32)) => post r u.1 u.2.1 u.2.2.1 u.2.2.2) (wk_C (dC, dI) [(cyI, .int)] (va_A [(aM, .inr (9, [.int mth, .int msz, .ref aMt, .int mwi, .int mle, .int mgr, .int mpr, .int mhp, .int mtk, .ref aMk, .ref aMl, .ref aMd, .ref aMs, .int mbn, .ref aMb, .int mmd, .ref aMo, .int mep, .ref aMc, .ref aMn, .ref aMfk, .ref aMfl, .ref aMfd, .ref aMg, .ref aMm, .int mat, .int mer])), (aMt, .inl (cyI, 64, .inl mtx))] sz) (fun (u : Int32 × Int32 × Int32 × (Nat → Int32)) => [(aM, .inr (9, [.int (u.1), .int (u.2.1), .ref aMt, .int mwi, .int mle, .int mgr, .int mpr, .int (u.2.2.1), .int mtk, .ref aMk, .ref aMl, .ref aMd, .ref aMs, .int mbn, .ref aMb, .int mmd, .ref aMo, .int mep, .ref aMc, .ref aMn, .ref aMfk, .ref aMfl, .ref aMfd, .ref aMg, .ref aMm, .int mat, .int mer])), (aMt, .inl (cyI, 64, .inl (u.2.2.2)))])) (va_A [(aM, .inr (9, [.int mth, .int msz, .ref aMt, .int mwi, .int mle, .int mgr, .int mpr, .int mhp, .int mtk, .ref aMk, .ref aMl, .ref aMd, .ref aMs, .int mbn, .ref aMb, .int mmd, .ref aMo, .int mep, .ref aMc, .ref aMn, .ref aMfk, .ref aMfl, .ref aMfd, .ref aMg, .ref aMm, .int mat, .int mer])), (aMt, .inl (cyI, 64, .inl mtx))] sz)) 0 0 (va_A [(aM, .inr (9, [.int mth, .int msz, .ref aMt, .int mwi, .int mle, .int mgr, .int mpr, .int mhp, .int mtk, .ref aMk, .ref aMl, .ref aMd, .ref aMs, .int mbn, .ref aMb, .int mmd, .ref aMo, .int mep, .ref aMc, .ref aMn, .ref aMfk, .ref aMfl, .ref aMfd, .ref aMg, .ref aMm, .int mat, .int mer])), (aMt, .inl (cyI, 64, .inl mtx))] sz) := by
  refine Met.ofW (cc := cX10_fill) (maxL := 4) (ret := (some .int)) (by decide) rfl ?_
  intro p e s m args below meth c s₁ B hml hv
  obtain ⟨rfl, hsz, hP, hK, hD0⟩ := hv
  have hx := B.exec
  have hb := B.bytes
  have hr := B.returns
  have hts := atoms_spec (ws := wsX10_fill) B.pre
  have hown : s.vm.findClass RX10 = some m.cls := findClass_of_methodNamed B.named
  have hlocks := B.notSynchronized
  subst hsz
  have hD := hD0.self (sz := s.heap.size)
  generalize hAe : va_A [(aM, .inr (9, [.int mth, .int msz, .ref aMt, .int mwi, .int mle, .int mgr, .int mpr, .int mhp, .int mtk, .ref aMk, .ref aMl, .ref aMd, .ref aMs, .int mbn, .ref aMb, .int mmd, .ref aMo, .int mep, .ref aMc, .ref aMn, .ref aMfk, .ref aMfl, .ref aMfd, .ref aMg, .ref aMm, .int mat, .int mer])), (aMt, .inl (cyI, 64, .inl mtx))] s.heap.size = A at hD ⊢
  have hA : ∀ q : Nat, s.heap.size ≤ q → A q := fun q h => by rw [← hAe]; exact Or.inr h
  have hS : va_S A s.heap s.heap [] := va_S.rf
  have hP : va_P (dC, dI) vwCl [(aM, .inr (9, [.int mth, .int msz, .ref aMt, .int mwi, .int mle, .int mgr, .int mpr, .int mhp, .int mtk, .ref aMk, .ref aMl, .ref aMd, .ref aMs, .int mbn, .ref aMb, .int mmd, .ref aMo, .int mep, .ref aMc, .ref aMn, .ref aMfk, .ref aMfl, .ref aMfd, .ref aMg, .ref aMm, .int mat, .int mer])), (aMt, .inl (cyI, 64, .inl mtx))] s.heap := hP
  have hl := lv_entry ([.ref aM, .int v1, .int v2]) (n := 4) (Nat.le_of_ble_eq_true rfl)
  rw [lg_entry_eq]
  generalize (lg_sl ([.ref aM, .int v1, .int v2]) ++ List.replicate (4 - (lg_sl ([.ref aM, .int v1, .int v2])).length) Slot.unset).toArray = ls at hl ⊢
  have hl : lv_has ls 4 [(0, .ref aM), (1, .int v1), (2, .int v2)] := hl
  have C0 : CallFix p m c cX10_fill 4 s ([.ref aM, .int v1, .int v2] : List Value).toArray wsX10_fill RX10 := ⟨hx, hb, hml, hown, hts⟩
  unfold wpX10_fill at h
  refine lv_aload_n hx hb dX10_fill_0 rfl (lv_at hl 0 rfl) ?_
  refine lv_iconst (v := 0) hx hb dX10_fill_1 (by decide) ?_
  refine va_put (D := (dC, dI)) (ci := 9) (v := .int 0) (ty := .int) (C := RX10) (T := TX10) (N := 27) hx hb hts inX10_fill_wsX100 tyX10 tyX10_ok nmX10 hown hK hP hD hS 0 rfl rfl 0 (by decide) (hts _ qX10_fill_0) (fun _ h9 => h9) rfl (by decide +kernel) rfl rfl (Nat.le_of_ble_eq_true rfl) dX10_fill_2 (fun H locs hP hD hS => ?_)
  have hP : va_P (dC, dI) vwCl [(aM, .inr (9, [.int 0, .int msz, .ref aMt, .int mwi, .int mle, .int mgr, .int mpr, .int mhp, .int mtk, .ref aMk, .ref aMl, .ref aMd, .ref aMs, .int mbn, .ref aMb, .int mmd, .ref aMo, .int mep, .ref aMc, .ref aMn, .ref aMfk, .ref aMfl, .ref aMfd, .ref aMg, .ref aMm, .int mat, .int mer])), (aMt, .inl (cyI, 64, .inl mtx))] H := hP
  have hD : va_D A [(aM, .inr (9, [.int 0, .int msz, .ref aMt, .int mwi, .int mle, .int mgr, .int mpr, .int mhp, .int mtk, .ref aMk, .ref aMl, .ref aMd, .ref aMs, .int mbn, .ref aMb, .int mmd, .ref aMo, .int mep, .ref aMc, .ref aMn, .ref aMfk, .ref aMfl, .ref aMfd, .ref aMg, .ref aMm, .int mat, .int mer])), (aMt, .inl (cyI, 64, .inl mtx))] := hD
  refine lv_iload_n hx hb dX10_fill_5 rfl (lv_at hl 1 rfl) ?_
  refine lv_iconst (v := 0) hx hb dX10_fill_6 (by decide) ?_
  refine lv_sipush (v := 255) hx hb dX10_fill_7 (by decide) ?_
  refine wk_calli (wc := []) (wr := [(aM, .inr (9, [.int 0, .int msz, .ref aMt, .int mwi, .int mle, .int mgr, .int mpr, .int mhp, .int mtk, .ref aMk, .ref aMl, .ref aMd, .ref aMs, .int mbn, .ref aMb, .int mmd, .ref aMo, .int mep, .ref aMc, .ref aMn, .ref aMfk, .ref aMfl, .ref aMfd, .ref aMg, .ref aMm, .int mat, .int mer])), (aMt, .inl (cyI, 64, .inl mtx))]) (va_runS (As := [.int v1, .int 0, .int 255]) (rest := []) C0 (mtX10_isIn l dC dI cyI (sz := _) (v0 := v1) (v1 := 0) (v2 := 255) h) (va_cwS 3 hts gX10_fill_X10_isIn rfl rfl rfl (by decide +kernel) ⟨(Nat.le_of_ble_eq_true rfl), (Nat.le_of_ble_eq_true rfl)⟩) (wk_preS (wc := []) hK hP hD [] rfl (by decide)) rfl rfl hl.1 rfl (lv_room (Nat.le_of_ble_eq_true rfl)) dX10_fill_10 ⟨(Nat.le_of_ble_eq_true rfl), (Nat.le_of_ble_eq_true rfl)⟩) hP hD hS hA [] [0, 1] rfl rfl (by decide) (by decide) (fun r_1 u9 H locs h hP hD hS => ?_)
  have hP : va_P (dC, dI) vwCl [(aM, .inr (9, [.int 0, .int msz, .ref aMt, .int mwi, .int mle, .int mgr, .int mpr, .int mhp, .int mtk, .ref aMk, .ref aMl, .ref aMd, .ref aMs, .int mbn, .ref aMb, .int mmd, .ref aMo, .int mep, .ref aMc, .ref aMn, .ref aMfk, .ref aMfl, .ref aMfd, .ref aMg, .ref aMm, .int mat, .int mer])), (aMt, .inl (cyI, 64, .inl mtx))] H := hP
  have hD : va_D A [(aM, .inr (9, [.int 0, .int msz, .ref aMt, .int mwi, .int mle, .int mgr, .int mpr, .int mhp, .int mtk, .ref aMk, .ref aMl, .ref aMd, .ref aMs, .int mbn, .ref aMb, .int mmd, .ref aMo, .int mep, .ref aMc, .ref aMn, .ref aMfk, .ref aMfl, .ref aMfd, .ref aMg, .ref aMm, .int mat, .int mer])), (aMt, .inl (cyI, 64, .inl mtx))] := hD
  refine lv_if_eq (tgt := 26) hx hb dX10_fill_13 (by decide) (fun c_2 => ?_) (fun c_2 => ?_)
  · replace h := h.1 c_2
    refine lv_aload_n hx hb dX10_fill_26 rfl (lv_at hl 0 rfl) ?_
    refine lv_iconst (v := 1) hx hb dX10_fill_27 (by decide) ?_
    refine wk_calli (wc := [(aM, .inr (9, [.int 0, .int msz, .ref aMt, .int mwi, .int mle, .int mgr, .int mpr, .int mhp, .int mtk, .ref aMk, .ref aMl, .ref aMd, .ref aMs, .int mbn, .ref aMb, .int mmd, .ref aMo, .int mep, .ref aMc, .ref aMn, .ref aMfk, .ref aMfl, .ref aMfd, .ref aMg, .ref aMm, .int mat, .int mer]))]) (wr := [(aMt, .inl (cyI, 64, .inl mtx))]) (va_runV (As := [.int 1]) (rest := []) C0 (mtX10_no l dC dI cyI (aM := aM) (aMt := aMt) (aMk := aMk) (aMl := aMl) (aMd := aMd) (aMs := aMs) (aMb := aMb) (aMo := aMo) (aMc := aMc) (aMn := aMn) (aMfk := aMfk) (aMfl := aMfl) (aMfd := aMfd) (aMg := aMg) (aMm := aMm) (sz := _) (mth := 0) (msz := msz) (mwi := mwi) (mle := mle) (mgr := mgr) (mpr := mpr) (mhp := mhp) (mtk := mtk) (mbn := mbn) (mmd := mmd) (mep := mep) (mat := mat) (mer := mer) (v1 := 1) h) (cwV 1 hts gX10_fill_X10_no rfl rfl rfl (by decide +kernel) ⟨(Nat.le_of_ble_eq_true rfl), (Nat.le_of_ble_eq_true rfl)⟩) (wk_preV (wc := [(aM, .inr (9, [.int 0, .int msz, .ref aMt, .int mwi, .int mle, .int mgr, .int mpr, .int mhp, .int mtk, .ref aMk, .ref aMl, .ref aMd, .ref aMs, .int mbn, .ref aMb, .int mmd, .ref aMo, .int mep, .ref aMc, .ref aMn, .ref aMfk, .ref aMfl, .ref aMfd, .ref aMg, .ref aMm, .int mat, .int mer]))]) hK hP hD [0] rfl (by decide) (va_recv hK hP (ci := 9) (q0 := 0) rfl rfl)) rfl rfl hl.1 rfl (lv_room (Nat.le_of_ble_eq_true rfl)) dX10_fill_28 ⟨(Nat.le_of_ble_eq_true rfl), (Nat.le_of_ble_eq_true rfl)⟩) hP hD hS hA [0] [1] rfl rfl (by decide) (by decide) (fun r_3 u9 H locs h hP hD hS => ?_)
    obtain ⟨mth_4, rfl⟩ : ∃ z9, z9 = u9 := ⟨_, rfl⟩
    have hP : va_P (dC, dI) vwCl [(aMt, .inl (cyI, 64, .inl mtx)), (aM, .inr (9, [.int mth_4, .int msz, .ref aMt, .int mwi, .int mle, .int mgr, .int mpr, .int mhp, .int mtk, .ref aMk, .ref aMl, .ref aMd, .ref aMs, .int mbn, .ref aMb, .int mmd, .ref aMo, .int mep, .ref aMc, .ref aMn, .ref aMfk, .ref aMfl, .ref aMfd, .ref aMg, .ref aMm, .int mat, .int mer]))] H := hP
    have hD : va_D A [(aMt, .inl (cyI, 64, .inl mtx)), (aM, .inr (9, [.int mth_4, .int msz, .ref aMt, .int mwi, .int mle, .int mgr, .int mpr, .int mhp, .int mtk, .ref aMk, .ref aMl, .ref aMd, .ref aMs, .int mbn, .ref aMb, .int mmd, .ref aMo, .int mep, .ref aMc, .ref aMn, .ref aMfk, .ref aMfl, .ref aMfd, .ref aMg, .ref aMm, .int mat, .int mer]))] := hD
    have hP9 : va_P (dC, dI) vwCl [(aM, .inr (9, [.int mth_4, .int msz, .ref aMt, .int mwi, .int mle, .int mgr, .int mpr, .int mhp, .int mtk, .ref aMk, .ref aMl, .ref aMd, .ref aMs, .int mbn, .ref aMb, .int mmd, .ref aMo, .int mep, .ref aMc, .ref aMn, .ref aMfk, .ref aMfl, .ref aMfd, .ref aMg, .ref aMm, .int mat, .int mer])), (aMt, .inl (cyI, 64, .inl mtx))] _ := (hP.sub [1, 0] rfl)
    have hD9 : va_D A [(aM, .inr (9, [.int mth_4, .int msz, .ref aMt, .int mwi, .int mle, .int mgr, .int mpr, .int mhp, .int mtk, .ref aMk, .ref aMl, .ref aMd, .ref aMs, .int mbn, .ref aMb, .int mmd, .ref aMo, .int mep, .ref aMc, .ref aMn, .ref aMfk, .ref aMfl, .ref aMfd, .ref aMg, .ref aMm, .int mat, .int mer])), (aMt, .inl (cyI, 64, .inl mtx))] := (hD.sub [1, 0] (by decide) rfl)
    exact W.iret (v := r_3) hx hb hr (fun t ht hW => ⟨⟨r_3, (mth_4, msz, mhp, mtx), rfl, h, by rw [ht]; exact hP9, va_K.moved hW.alike hK, hD9⟩, hS.F ht⟩) hS.2.2 dX10_fill_31
  · replace h := h.2 c_2
    refine lv_iload_n hx hb dX10_fill_16 rfl (lv_at hl 2 rfl) ?_
    refine lv_iconst (v := 1) hx hb dX10_fill_17 (by decide) ?_
    refine lv_bipush (v := 64) hx hb dX10_fill_18 (by decide) ?_
    refine wk_calli (wc := []) (wr := [(aM, .inr (9, [.int 0, .int msz, .ref aMt, .int mwi, .int mle, .int mgr, .int mpr, .int mhp, .int mtk, .ref aMk, .ref aMl, .ref aMd, .ref aMs, .int mbn, .ref aMb, .int mmd, .ref aMo, .int mep, .ref aMc, .ref aMn, .ref aMfk, .ref aMfl, .ref aMfd, .ref aMg, .ref aMm, .int mat, .int mer])), (aMt, .inl (cyI, 64, .inl mtx))]) (va_runS (As := [.int v2, .int 1, .int 64]) (rest := []) C0 (mtX10_isIn l dC dI cyI (sz := _) (v0 := v2) (v1 := 1) (v2 := 64) h) (va_cwS 3 hts gX10_fill_X10_isIn rfl rfl rfl (by decide +kernel) ⟨(Nat.le_of_ble_eq_true rfl), (Nat.le_of_ble_eq_true rfl)⟩) (wk_preS (wc := []) hK hP hD [] rfl (by decide)) rfl rfl hl.1 rfl (lv_room (Nat.le_of_ble_eq_true rfl)) dX10_fill_20 ⟨(Nat.le_of_ble_eq_true rfl), (Nat.le_of_ble_eq_true rfl)⟩) hP hD hS hA [] [0, 1] rfl rfl (by decide) (by decide) (fun r_5 u9 H locs h hP hD hS => ?_)
    have hP : va_P (dC, dI) vwCl [(aM, .inr (9, [.int 0, .int msz, .ref aMt, .int mwi, .int mle, .int mgr, .int mpr, .int mhp, .int mtk, .ref aMk, .ref aMl, .ref aMd, .ref aMs, .int mbn, .ref aMb, .int mmd, .ref aMo, .int mep, .ref aMc, .ref aMn, .ref aMfk, .ref aMfl, .ref aMfd, .ref aMg, .ref aMm, .int mat, .int mer])), (aMt, .inl (cyI, 64, .inl mtx))] H := hP
    have hD : va_D A [(aM, .inr (9, [.int 0, .int msz, .ref aMt, .int mwi, .int mle, .int mgr, .int mpr, .int mhp, .int mtk, .ref aMk, .ref aMl, .ref aMd, .ref aMs, .int mbn, .ref aMb, .int mmd, .ref aMo, .int mep, .ref aMc, .ref aMn, .ref aMfk, .ref aMfl, .ref aMfd, .ref aMg, .ref aMm, .int mat, .int mer])), (aMt, .inl (cyI, 64, .inl mtx))] := hD
    refine lv_if_ne (tgt := 32) hx hb dX10_fill_23 (by decide) (fun c_6 => ?_) (fun c_6 => ?_)
    · replace h := h.2 c_6
      refine lv_aload_n hx hb dX10_fill_32 rfl (lv_at hl 0 rfl) ?_
      refine va_get (D := (dC, dI)) (ci := 9) (v := .int msz) (C := RX10) (T := TX10) (N := 27) hx hb hts inX10_fill_wsX100 hown hK hP 0 rfl rfl 1 (by decide) (hts _ qX10_fill_1) (fun _ h9 => h9) rfl dX10_fill_33 ?_
      refine lv_iload_n hx hb dX10_fill_36 rfl (lv_at hl 2 rfl) ?_
      refine lv_iadd hx hb dX10_fill_37 ?_
      refine lv_bipush (v := 64) hx hb dX10_fill_38 (by decide) ?_
      refine lv_icmp_le (tgt := 49) hx hb dX10_fill_40 (by decide) (fun c_7 => ?_) (fun c_7 => ?_)
      · replace h := h.1 c_7
        refine lv_iconst (v := 0) hx hb dX10_fill_49 (by decide) ?_
        refine lv_istore_n (lv' := [(3, .int 0), (0, .ref aM), (1, .int v1), (2, .int v2)]) hx hb dX10_fill_50 rfl hl (by decide) rfl (fun ls hl => ?_)
        obtain ⟨n51, h⟩ := h
        refine wlX10_fill_51 C0 hA hK ?_ n51 _ _ h _ _ _ hP hD hS (lv_sub hl [1, 2, 3, 0] rfl)
        · intro mtx_10 h H locs ls hP hD hS hl
          refine lv_aload_n hx hb dX10_fill_74 rfl (lv_at hl 0 rfl) ?_
          refine lv_dup hx hb dX10_fill_75 rfl ?_
          refine va_get (D := (dC, dI)) (ci := 9) (v := .int msz) (C := RX10) (T := TX10) (N := 27) hx hb hts inX10_fill_wsX100 hown hK hP 0 rfl rfl 1 (by decide) (hts _ qX10_fill_1) (fun _ h9 => h9) rfl dX10_fill_76 ?_
          refine lv_iload_n hx hb dX10_fill_79 rfl (lv_at hl 1 rfl) ?_
          refine lv_iadd hx hb dX10_fill_80 ?_
          refine va_put (D := (dC, dI)) (ci := 9) (v := .int (msz + v2)) (ty := .int) (C := RX10) (T := TX10) (N := 27) hx hb hts inX10_fill_wsX100 tyX10 tyX10_ok nmX10 hown hK hP hD hS 0 rfl rfl 1 (by decide) (hts _ qX10_fill_1) (fun _ h9 => h9) rfl (by decide +kernel) rfl rfl (Nat.le_of_ble_eq_true rfl) dX10_fill_81 (fun H locs hP hD hS => ?_)
          have hP : va_P (dC, dI) vwCl [(aM, .inr (9, [.int 0, .int (msz + v2), .ref aMt, .int mwi, .int mle, .int mgr, .int mpr, .int mhp, .int mtk, .ref aMk, .ref aMl, .ref aMd, .ref aMs, .int mbn, .ref aMb, .int mmd, .ref aMo, .int mep, .ref aMc, .ref aMn, .ref aMfk, .ref aMfl, .ref aMfd, .ref aMg, .ref aMm, .int mat, .int mer])), (aMt, .inl (cyI, 64, .inl mtx_10))] H := hP
          have hD : va_D A [(aM, .inr (9, [.int 0, .int (msz + v2), .ref aMt, .int mwi, .int mle, .int mgr, .int mpr, .int mhp, .int mtk, .ref aMk, .ref aMl, .ref aMd, .ref aMs, .int mbn, .ref aMb, .int mmd, .ref aMo, .int mep, .ref aMc, .ref aMn, .ref aMfk, .ref aMfl, .ref aMfd, .ref aMg, .ref aMm, .int mat, .int mer])), (aMt, .inl (cyI, 64, .inl mtx_10))] := hD
          refine lv_aload_n hx hb dX10_fill_84 rfl (lv_at hl 0 rfl) ?_
          refine lv_iconst (v := 0) hx hb dX10_fill_85 (by decide) ?_
          refine va_put (D := (dC, dI)) (ci := 9) (v := .int 0) (ty := .boolean) (C := RX10) (T := TX10) (N := 27) hx hb hts inX10_fill_wsX100 tyX10 tyX10_ok nmX10 hown hK hP hD hS 0 rfl rfl 7 (by decide) (hts _ qX10_fill_3) (fun _ h9 => h9) rfl (by decide +kernel) rfl rfl (Nat.le_of_ble_eq_true rfl) dX10_fill_86 (fun H locs hP hD hS => ?_)
          have hP : va_P (dC, dI) vwCl [(aM, .inr (9, [.int 0, .int (msz + v2), .ref aMt, .int mwi, .int mle, .int mgr, .int mpr, .int 0, .int mtk, .ref aMk, .ref aMl, .ref aMd, .ref aMs, .int mbn, .ref aMb, .int mmd, .ref aMo, .int mep, .ref aMc, .ref aMn, .ref aMfk, .ref aMfl, .ref aMfd, .ref aMg, .ref aMm, .int mat, .int mer])), (aMt, .inl (cyI, 64, .inl mtx_10))] H := hP
          have hD : va_D A [(aM, .inr (9, [.int 0, .int (msz + v2), .ref aMt, .int mwi, .int mle, .int mgr, .int mpr, .int 0, .int mtk, .ref aMk, .ref aMl, .ref aMd, .ref aMs, .int mbn, .ref aMb, .int mmd, .ref aMo, .int mep, .ref aMc, .ref aMn, .ref aMfk, .ref aMfl, .ref aMfd, .ref aMg, .ref aMm, .int mat, .int mer])), (aMt, .inl (cyI, 64, .inl mtx_10))] := hD
          refine lv_aload_n hx hb dX10_fill_89 rfl (lv_at hl 0 rfl) ?_
          refine va_get (D := (dC, dI)) (ci := 9) (v := .int (msz + v2)) (C := RX10) (T := TX10) (N := 27) hx hb hts inX10_fill_wsX100 hown hK hP 0 rfl rfl 1 (by decide) (hts _ qX10_fill_1) (fun _ h9 => h9) rfl dX10_fill_90 ?_
          have hP9 : va_P (dC, dI) vwCl [(aM, .inr (9, [.int 0, .int (msz + v2), .ref aMt, .int mwi, .int mle, .int mgr, .int mpr, .int 0, .int mtk, .ref aMk, .ref aMl, .ref aMd, .ref aMs, .int mbn, .ref aMb, .int mmd, .ref aMo, .int mep, .ref aMc, .ref aMn, .ref aMfk, .ref aMfl, .ref aMfd, .ref aMg, .ref aMm, .int mat, .int mer])), (aMt, .inl (cyI, 64, .inl mtx_10))] _ := hP
          have hD9 : va_D A [(aM, .inr (9, [.int 0, .int (msz + v2), .ref aMt, .int mwi, .int mle, .int mgr, .int mpr, .int 0, .int mtk, .ref aMk, .ref aMl, .ref aMd, .ref aMs, .int mbn, .ref aMb, .int mmd, .ref aMo, .int mep, .ref aMc, .ref aMn, .ref aMfk, .ref aMfl, .ref aMfd, .ref aMg, .ref aMm, .int mat, .int mer])), (aMt, .inl (cyI, 64, .inl mtx_10))] := hD
          exact W.iret (v := msz + v2) hx hb hr (fun t ht hW => ⟨⟨msz + v2, (0, msz + v2, 0, mtx_10), rfl, h, by rw [ht]; exact hP9, va_K.moved hW.alike hK, hD9⟩, hS.F ht⟩) hS.2.2 dX10_fill_93
      · replace h := h.2 c_7
        refine lv_aload_n hx hb dX10_fill_43 rfl (lv_at hl 0 rfl) ?_
        refine lv_iconst (v := 2) hx hb dX10_fill_44 (by decide) ?_
        refine wk_calli (wc := [(aM, .inr (9, [.int 0, .int msz, .ref aMt, .int mwi, .int mle, .int mgr, .int mpr, .int mhp, .int mtk, .ref aMk, .ref aMl, .ref aMd, .ref aMs, .int mbn, .ref aMb, .int mmd, .ref aMo, .int mep, .ref aMc, .ref aMn, .ref aMfk, .ref aMfl, .ref aMfd, .ref aMg, .ref aMm, .int mat, .int mer]))]) (wr := [(aMt, .inl (cyI, 64, .inl mtx))]) (va_runV (As := [.int 2]) (rest := []) C0 (mtX10_no l dC dI cyI (aM := aM) (aMt := aMt) (aMk := aMk) (aMl := aMl) (aMd := aMd) (aMs := aMs) (aMb := aMb) (aMo := aMo) (aMc := aMc) (aMn := aMn) (aMfk := aMfk) (aMfl := aMfl) (aMfd := aMfd) (aMg := aMg) (aMm := aMm) (sz := _) (mth := 0) (msz := msz) (mwi := mwi) (mle := mle) (mgr := mgr) (mpr := mpr) (mhp := mhp) (mtk := mtk) (mbn := mbn) (mmd := mmd) (mep := mep) (mat := mat) (mer := mer) (v1 := 2) h) (cwV 1 hts gX10_fill_X10_no rfl rfl rfl (by decide +kernel) ⟨(Nat.le_of_ble_eq_true rfl), (Nat.le_of_ble_eq_true rfl)⟩) (wk_preV (wc := [(aM, .inr (9, [.int 0, .int msz, .ref aMt, .int mwi, .int mle, .int mgr, .int mpr, .int mhp, .int mtk, .ref aMk, .ref aMl, .ref aMd, .ref aMs, .int mbn, .ref aMb, .int mmd, .ref aMo, .int mep, .ref aMc, .ref aMn, .ref aMfk, .ref aMfl, .ref aMfd, .ref aMg, .ref aMm, .int mat, .int mer]))]) hK hP hD [0] rfl (by decide) (va_recv hK hP (ci := 9) (q0 := 0) rfl rfl)) rfl rfl hl.1 rfl (lv_room (Nat.le_of_ble_eq_true rfl)) dX10_fill_45 ⟨(Nat.le_of_ble_eq_true rfl), (Nat.le_of_ble_eq_true rfl)⟩) hP hD hS hA [0] [1] rfl rfl (by decide) (by decide) (fun r_11 u9 H locs h hP hD hS => ?_)
        obtain ⟨mth_12, rfl⟩ : ∃ z9, z9 = u9 := ⟨_, rfl⟩
        have hP : va_P (dC, dI) vwCl [(aMt, .inl (cyI, 64, .inl mtx)), (aM, .inr (9, [.int mth_12, .int msz, .ref aMt, .int mwi, .int mle, .int mgr, .int mpr, .int mhp, .int mtk, .ref aMk, .ref aMl, .ref aMd, .ref aMs, .int mbn, .ref aMb, .int mmd, .ref aMo, .int mep, .ref aMc, .ref aMn, .ref aMfk, .ref aMfl, .ref aMfd, .ref aMg, .ref aMm, .int mat, .int mer]))] H := hP
        have hD : va_D A [(aMt, .inl (cyI, 64, .inl mtx)), (aM, .inr (9, [.int mth_12, .int msz, .ref aMt, .int mwi, .int mle, .int mgr, .int mpr, .int mhp, .int mtk, .ref aMk, .ref aMl, .ref aMd, .ref aMs, .int mbn, .ref aMb, .int mmd, .ref aMo, .int mep, .ref aMc, .ref aMn, .ref aMfk, .ref aMfl, .ref aMfd, .ref aMg, .ref aMm, .int mat, .int mer]))] := hD
        have hP9 : va_P (dC, dI) vwCl [(aM, .inr (9, [.int mth_12, .int msz, .ref aMt, .int mwi, .int mle, .int mgr, .int mpr, .int mhp, .int mtk, .ref aMk, .ref aMl, .ref aMd, .ref aMs, .int mbn, .ref aMb, .int mmd, .ref aMo, .int mep, .ref aMc, .ref aMn, .ref aMfk, .ref aMfl, .ref aMfd, .ref aMg, .ref aMm, .int mat, .int mer])), (aMt, .inl (cyI, 64, .inl mtx))] _ := (hP.sub [1, 0] rfl)
        have hD9 : va_D A [(aM, .inr (9, [.int mth_12, .int msz, .ref aMt, .int mwi, .int mle, .int mgr, .int mpr, .int mhp, .int mtk, .ref aMk, .ref aMl, .ref aMd, .ref aMs, .int mbn, .ref aMb, .int mmd, .ref aMo, .int mep, .ref aMc, .ref aMn, .ref aMfk, .ref aMfl, .ref aMfd, .ref aMg, .ref aMm, .int mat, .int mer])), (aMt, .inl (cyI, 64, .inl mtx))] := (hD.sub [1, 0] (by decide) rfl)
        exact W.iret (v := r_11) hx hb hr (fun t ht hW => ⟨⟨r_11, (mth_12, msz, mhp, mtx), rfl, h, by rw [ht]; exact hP9, va_K.moved hW.alike hK, hD9⟩, hS.F ht⟩) hS.2.2 dX10_fill_48
    · replace h := h.1 c_6
      refine lv_aload_n hx hb dX10_fill_26 rfl (lv_at hl 0 rfl) ?_
      refine lv_iconst (v := 1) hx hb dX10_fill_27 (by decide) ?_
      refine wk_calli (wc := [(aM, .inr (9, [.int 0, .int msz, .ref aMt, .int mwi, .int mle, .int mgr, .int mpr, .int mhp, .int mtk, .ref aMk, .ref aMl, .ref aMd, .ref aMs, .int mbn, .ref aMb, .int mmd, .ref aMo, .int mep, .ref aMc, .ref aMn, .ref aMfk, .ref aMfl, .ref aMfd, .ref aMg, .ref aMm, .int mat, .int mer]))]) (wr := [(aMt, .inl (cyI, 64, .inl mtx))]) (va_runV (As := [.int 1]) (rest := []) C0 (mtX10_no l dC dI cyI (aM := aM) (aMt := aMt) (aMk := aMk) (aMl := aMl) (aMd := aMd) (aMs := aMs) (aMb := aMb) (aMo := aMo) (aMc := aMc) (aMn := aMn) (aMfk := aMfk) (aMfl := aMfl) (aMfd := aMfd) (aMg := aMg) (aMm := aMm) (sz := _) (mth := 0) (msz := msz) (mwi := mwi) (mle := mle) (mgr := mgr) (mpr := mpr) (mhp := mhp) (mtk := mtk) (mbn := mbn) (mmd := mmd) (mep := mep) (mat := mat) (mer := mer) (v1 := 1) h) (cwV 1 hts gX10_fill_X10_no rfl rfl rfl (by decide +kernel) ⟨(Nat.le_of_ble_eq_true rfl), (Nat.le_of_ble_eq_true rfl)⟩) (wk_preV (wc := [(aM, .inr (9, [.int 0, .int msz, .ref aMt, .int mwi, .int mle, .int mgr, .int mpr, .int mhp, .int mtk, .ref aMk, .ref aMl, .ref aMd, .ref aMs, .int mbn, .ref aMb, .int mmd, .ref aMo, .int mep, .ref aMc, .ref aMn, .ref aMfk, .ref aMfl, .ref aMfd, .ref aMg, .ref aMm, .int mat, .int mer]))]) hK hP hD [0] rfl (by decide) (va_recv hK hP (ci := 9) (q0 := 0) rfl rfl)) rfl rfl hl.1 rfl (lv_room (Nat.le_of_ble_eq_true rfl)) dX10_fill_28 ⟨(Nat.le_of_ble_eq_true rfl), (Nat.le_of_ble_eq_true rfl)⟩) hP hD hS hA [0] [1] rfl rfl (by decide) (by decide) (fun r_13 u9 H locs h hP hD hS => ?_)
      obtain ⟨mth_14, rfl⟩ : ∃ z9, z9 = u9 := ⟨_, rfl⟩
      have hP : va_P (dC, dI) vwCl [(aMt, .inl (cyI, 64, .inl mtx)), (aM, .inr (9, [.int mth_14, .int msz, .ref aMt, .int mwi, .int mle, .int mgr, .int mpr, .int mhp, .int mtk, .ref aMk, .ref aMl, .ref aMd, .ref aMs, .int mbn, .ref aMb, .int mmd, .ref aMo, .int mep, .ref aMc, .ref aMn, .ref aMfk, .ref aMfl, .ref aMfd, .ref aMg, .ref aMm, .int mat, .int mer]))] H := hP
      have hD : va_D A [(aMt, .inl (cyI, 64, .inl mtx)), (aM, .inr (9, [.int mth_14, .int msz, .ref aMt, .int mwi, .int mle, .int mgr, .int mpr, .int mhp, .int mtk, .ref aMk, .ref aMl, .ref aMd, .ref aMs, .int mbn, .ref aMb, .int mmd, .ref aMo, .int mep, .ref aMc, .ref aMn, .ref aMfk, .ref aMfl, .ref aMfd, .ref aMg, .ref aMm, .int mat, .int mer]))] := hD
      have hP9 : va_P (dC, dI) vwCl [(aM, .inr (9, [.int mth_14, .int msz, .ref aMt, .int mwi, .int mle, .int mgr, .int mpr, .int mhp, .int mtk, .ref aMk, .ref aMl, .ref aMd, .ref aMs, .int mbn, .ref aMb, .int mmd, .ref aMo, .int mep, .ref aMc, .ref aMn, .ref aMfk, .ref aMfl, .ref aMfd, .ref aMg, .ref aMm, .int mat, .int mer])), (aMt, .inl (cyI, 64, .inl mtx))] _ := (hP.sub [1, 0] rfl)
      have hD9 : va_D A [(aM, .inr (9, [.int mth_14, .int msz, .ref aMt, .int mwi, .int mle, .int mgr, .int mpr, .int mhp, .int mtk, .ref aMk, .ref aMl, .ref aMd, .ref aMs, .int mbn, .ref aMb, .int mmd, .ref aMo, .int mep, .ref aMc, .ref aMn, .ref aMfk, .ref aMfl, .ref aMfd, .ref aMg, .ref aMm, .int mat, .int mer])), (aMt, .inl (cyI, 64, .inl mtx))] := (hD.sub [1, 0] (by decide) rfl)
      exact W.iret (v := r_13) hx hb hr (fun t ht hW => ⟨⟨r_13, (mth_14, msz, mhp, mtx), rfl, h, by rw [ht]; exact hP9, va_K.moved hW.alike hK, hD9⟩, hS.F ht⟩) hS.2.2 dX10_fill_31
-- X10_cut
theorem qX10_cut_0 : Cond.fieldLink RX10 65 "MatchCoderModel" "thrown" "I" ∈ wsX10_cut := (List.mem_cons_of_mem _ (List.mem_append_left _ (List.mem_of_getElem? (i := 0) rfl)))
theorem qX10_cut_1 : Cond.fieldLink RX10 68 "MatchCoderModel" "size" "I" ∈ wsX10_cut := (List.mem_cons_of_mem _ (List.mem_append_left _ (List.mem_of_getElem? (i := 1) rfl)))
theorem qX10_cut_2 : Cond.fieldLink RX10 81 "MatchCoderModel" "hasPlan" "Z" ∈ wsX10_cut := (List.mem_cons_of_mem _ (List.mem_append_left _ (List.mem_of_getElem? (i := 2) rfl)))
theorem inX10_cut_wsX100 : ∀ w ∈ wsX100, w ∈ wsX10_cut := fun _ h => List.mem_cons_of_mem _ (List.mem_append_right _ h)
def wpX10_cut (msz : Int32) (mhp : Int32) (v1 : Int32) (post : Int32 → Int32 → Int32 → Int32 → Prop) : Prop := wpX10_isIn v1 0 msz (fun (r_1 : Int32) => (r_1 = 0 → (wpX10_no 1 (fun (r_3 : Int32) (mth_4 : Int32) => post r_3 mth_4 msz mhp))) ∧ (¬ r_1 = 0 → (post (msz - v1) 0 (msz - v1) 0)))
set_option maxHeartbeats 4000000 in
set_option maxRecDepth 100000 in
theorem mtX10_cut (l : Launch) (dC : Nat → ClassId) (dI : Nat → Nat → Nat) (cyI : ClassId) {aM aMt aMk aMl aMd aMs aMb aMo aMc aMn aMfk aMfl aMfd aMg aMm : Nat} {sz : Nat} {mth : Int32} {msz : Int32} {mwi : Int32} {mle : Int32} {mgr : Int32} {mpr : Int32} {mhp : Int32} {mtk : Int32} {mbn : Int32} {mmd : Int32} {mep : Int32} {mat : Int32} {mer : Int32} {v1 : Int32} {post : Int32 → Int32 → Int32 → Int32 → Prop} (h : wpX10_cut msz mhp v1 post) : Met l yX10_cut wsX10_cut ({ frames := 1, cells := 0, slots := 0, locals := 22 }) (va_Pc [.ref aM, .int v1] (wk_B (dC, dI) [(cyI, .int)] [(aM, .inr (9, [.int mth, .int msz, .ref aMt, .int mwi, .int mle, .int mgr, .int mpr, .int mhp, .int mtk, .ref aMk, .ref aMl, .ref aMd, .ref aMs, .int mbn, .ref aMb, .int mmd, .ref aMo, .int mep, .ref aMc, .ref aMn, .ref aMfk, .ref aMfl, .ref aMfd, .ref aMg, .ref aMm, .int mat, .int mer]))] sz)) (va_Qi (fun (r : Int32) (u : Int32 × Int32 × Int32) => post r u.1 u.2.1 u.2.2) (wk_C (dC, dI) [(cyI, .int)] (va_A [(aM, .inr (9, [.int mth, .int msz, .ref aMt, .int mwi, .int mle, .int mgr, .int mpr, .int mhp, .int mtk, .ref aMk, .ref aMl, .ref aMd, .ref aMs, .int mbn, .ref aMb, .int mmd, .ref aMo, .int mep, .ref aMc, .ref aMn, .ref aMfk, .ref aMfl, .ref aMfd, .ref aMg, .ref aMm, .int mat, .int mer]))] sz) (fun (u : Int32 × Int32 × Int32) => [(aM, .inr (9, [.int (u.1), .int (u.2.1), .ref aMt, .int mwi, .int mle, .int mgr, .int mpr, .int (u.2.2), .int mtk, .ref aMk, .ref aMl, .ref aMd, .ref aMs, .int mbn, .ref aMb, .int mmd, .ref aMo, .int mep, .ref aMc, .ref aMn, .ref aMfk, .ref aMfl, .ref aMfd, .ref aMg, .ref aMm, .int mat, .int mer]))])) (va_A [(aM, .inr (9, [.int mth, .int msz, .ref aMt, .int mwi, .int mle, .int mgr, .int mpr, .int mhp, .int mtk, .ref aMk, .ref aMl, .ref aMd, .ref aMs, .int mbn, .ref aMb, .int mmd, .ref aMo, .int mep, .ref aMc, .ref aMn, .ref aMfk, .ref aMfl, .ref aMfd, .ref aMg, .ref aMm, .int mat, .int mer]))] sz)) 0 0 (va_A [(aM, .inr (9, [.int mth, .int msz, .ref aMt, .int mwi, .int mle, .int mgr, .int mpr, .int mhp, .int mtk, .ref aMk, .ref aMl, .ref aMd, .ref aMs, .int mbn, .ref aMb, .int mmd, .ref aMo, .int mep, .ref aMc, .ref aMn, .ref aMfk, .ref aMfl, .ref aMfd, .ref aMg, .ref aMm, .int mat, .int mer]))] sz) := by
  refine Met.ofW (cc := cX10_cut) (maxL := 2) (ret := (some .int)) (by decide) rfl ?_
  intro p e s m args below meth c s₁ B hml hv
  obtain ⟨rfl, hsz, hP, hK, hD0⟩ := hv
  have hx := B.exec
  have hb := B.bytes
  have hr := B.returns
  have hts := atoms_spec (ws := wsX10_cut) B.pre
  have hown : s.vm.findClass RX10 = some m.cls := findClass_of_methodNamed B.named
  have hlocks := B.notSynchronized
  subst hsz
  have hD := hD0.self (sz := s.heap.size)
  generalize hAe : va_A [(aM, .inr (9, [.int mth, .int msz, .ref aMt, .int mwi, .int mle, .int mgr, .int mpr, .int mhp, .int mtk, .ref aMk, .ref aMl, .ref aMd, .ref aMs, .int mbn, .ref aMb, .int mmd, .ref aMo, .int mep, .ref aMc, .ref aMn, .ref aMfk, .ref aMfl, .ref aMfd, .ref aMg, .ref aMm, .int mat, .int mer]))] s.heap.size = A at hD ⊢
  have hA : ∀ q : Nat, s.heap.size ≤ q → A q := fun q h => by rw [← hAe]; exact Or.inr h
  have hS : va_S A s.heap s.heap [] := va_S.rf
  have hP : va_P (dC, dI) vwCl [(aM, .inr (9, [.int mth, .int msz, .ref aMt, .int mwi, .int mle, .int mgr, .int mpr, .int mhp, .int mtk, .ref aMk, .ref aMl, .ref aMd, .ref aMs, .int mbn, .ref aMb, .int mmd, .ref aMo, .int mep, .ref aMc, .ref aMn, .ref aMfk, .ref aMfl, .ref aMfd, .ref aMg, .ref aMm, .int mat, .int mer]))] s.heap := hP
  have hl := lv_entry ([.ref aM, .int v1]) (n := 2) (Nat.le_of_ble_eq_true rfl)
  rw [lg_entry_eq]
  generalize (lg_sl ([.ref aM, .int v1]) ++ List.replicate (2 - (lg_sl ([.ref aM, .int v1])).length) Slot.unset).toArray = ls at hl ⊢
  have hl : lv_has ls 2 [(0, .ref aM), (1, .int v1)] := hl
  have C0 : CallFix p m c cX10_cut 2 s ([.ref aM, .int v1] : List Value).toArray wsX10_cut RX10 := ⟨hx, hb, hml, hown, hts⟩
  unfold wpX10_cut at h
  refine lv_aload_n hx hb dX10_cut_0 rfl (lv_at hl 0 rfl) ?_
  refine lv_iconst (v := 0) hx hb dX10_cut_1 (by decide) ?_
  refine va_put (D := (dC, dI)) (ci := 9) (v := .int 0) (ty := .int) (C := RX10) (T := TX10) (N := 27) hx hb hts inX10_cut_wsX100 tyX10 tyX10_ok nmX10 hown hK hP hD hS 0 rfl rfl 0 (by decide) (hts _ qX10_cut_0) (fun _ h9 => h9) rfl (by decide +kernel) rfl rfl (Nat.le_of_ble_eq_true rfl) dX10_cut_2 (fun H locs hP hD hS => ?_)
  have hP : va_P (dC, dI) vwCl [(aM, .inr (9, [.int 0, .int msz, .ref aMt, .int mwi, .int mle, .int mgr, .int mpr, .int mhp, .int mtk, .ref aMk, .ref aMl, .ref aMd, .ref aMs, .int mbn, .ref aMb, .int mmd, .ref aMo, .int mep, .ref aMc, .ref aMn, .ref aMfk, .ref aMfl, .ref aMfd, .ref aMg, .ref aMm, .int mat, .int mer]))] H := hP
  have hD : va_D A [(aM, .inr (9, [.int 0, .int msz, .ref aMt, .int mwi, .int mle, .int mgr, .int mpr, .int mhp, .int mtk, .ref aMk, .ref aMl, .ref aMd, .ref aMs, .int mbn, .ref aMb, .int mmd, .ref aMo, .int mep, .ref aMc, .ref aMn, .ref aMfk, .ref aMfl, .ref aMfd, .ref aMg, .ref aMm, .int mat, .int mer]))] := hD
  refine lv_iload_n hx hb dX10_cut_5 rfl (lv_at hl 1 rfl) ?_
  refine lv_iconst (v := 0) hx hb dX10_cut_6 (by decide) ?_
  refine lv_aload_n hx hb dX10_cut_7 rfl (lv_at hl 0 rfl) ?_
  refine va_get (D := (dC, dI)) (ci := 9) (v := .int msz) (C := RX10) (T := TX10) (N := 27) hx hb hts inX10_cut_wsX100 hown hK hP 0 rfl rfl 1 (by decide) (hts _ qX10_cut_1) (fun _ h9 => h9) rfl dX10_cut_8 ?_
  refine wk_calli (wc := []) (wr := [(aM, .inr (9, [.int 0, .int msz, .ref aMt, .int mwi, .int mle, .int mgr, .int mpr, .int mhp, .int mtk, .ref aMk, .ref aMl, .ref aMd, .ref aMs, .int mbn, .ref aMb, .int mmd, .ref aMo, .int mep, .ref aMc, .ref aMn, .ref aMfk, .ref aMfl, .ref aMfd, .ref aMg, .ref aMm, .int mat, .int mer]))]) (va_runS (As := [.int v1, .int 0, .int msz]) (rest := []) C0 (mtX10_isIn l dC dI cyI (sz := _) (v0 := v1) (v1 := 0) (v2 := msz) h) (va_cwS 3 hts gX10_cut_X10_isIn rfl rfl rfl (by decide +kernel) ⟨(Nat.le_of_ble_eq_true rfl), (Nat.le_of_ble_eq_true rfl)⟩) (wk_preS (wc := []) hK hP hD [] rfl (by decide)) rfl rfl hl.1 rfl (lv_room (Nat.le_of_ble_eq_true rfl)) dX10_cut_11 ⟨(Nat.le_of_ble_eq_true rfl), (Nat.le_of_ble_eq_true rfl)⟩) hP hD hS hA [] [0] rfl rfl (by decide) (by decide) (fun r_1 u9 H locs h hP hD hS => ?_)
  have hP : va_P (dC, dI) vwCl [(aM, .inr (9, [.int 0, .int msz, .ref aMt, .int mwi, .int mle, .int mgr, .int mpr, .int mhp, .int mtk, .ref aMk, .ref aMl, .ref aMd, .ref aMs, .int mbn, .ref aMb, .int mmd, .ref aMo, .int mep, .ref aMc, .ref aMn, .ref aMfk, .ref aMfl, .ref aMfd, .ref aMg, .ref aMm, .int mat, .int mer]))] H := hP
  have hD : va_D A [(aM, .inr (9, [.int 0, .int msz, .ref aMt, .int mwi, .int mle, .int mgr, .int mpr, .int mhp, .int mtk, .ref aMk, .ref aMl, .ref aMd, .ref aMs, .int mbn, .ref aMb, .int mmd, .ref aMo, .int mep, .ref aMc, .ref aMn, .ref aMfk, .ref aMfl, .ref aMfd, .ref aMg, .ref aMm, .int mat, .int mer]))] := hD
  refine lv_if_ne (tgt := 23) hx hb dX10_cut_14 (by decide) (fun c_2 => ?_) (fun c_2 => ?_)
  · replace h := h.2 c_2
    refine lv_aload_n hx hb dX10_cut_23 rfl (lv_at hl 0 rfl) ?_
    refine lv_dup hx hb dX10_cut_24 rfl ?_
    refine va_get (D := (dC, dI)) (ci := 9) (v := .int msz) (C := RX10) (T := TX10) (N := 27) hx hb hts inX10_cut_wsX100 hown hK hP 0 rfl rfl 1 (by decide) (hts _ qX10_cut_1) (fun _ h9 => h9) rfl dX10_cut_25 ?_
    refine lv_iload_n hx hb dX10_cut_28 rfl (lv_at hl 1 rfl) ?_
    refine lv_isub hx hb dX10_cut_29 ?_
    refine va_put (D := (dC, dI)) (ci := 9) (v := .int (msz - v1)) (ty := .int) (C := RX10) (T := TX10) (N := 27) hx hb hts inX10_cut_wsX100 tyX10 tyX10_ok nmX10 hown hK hP hD hS 0 rfl rfl 1 (by decide) (hts _ qX10_cut_1) (fun _ h9 => h9) rfl (by decide +kernel) rfl rfl (Nat.le_of_ble_eq_true rfl) dX10_cut_30 (fun H locs hP hD hS => ?_)
    have hP : va_P (dC, dI) vwCl [(aM, .inr (9, [.int 0, .int (msz - v1), .ref aMt, .int mwi, .int mle, .int mgr, .int mpr, .int mhp, .int mtk, .ref aMk, .ref aMl, .ref aMd, .ref aMs, .int mbn, .ref aMb, .int mmd, .ref aMo, .int mep, .ref aMc, .ref aMn, .ref aMfk, .ref aMfl, .ref aMfd, .ref aMg, .ref aMm, .int mat, .int mer]))] H := hP
    have hD : va_D A [(aM, .inr (9, [.int 0, .int (msz - v1), .ref aMt, .int mwi, .int mle, .int mgr, .int mpr, .int mhp, .int mtk, .ref aMk, .ref aMl, .ref aMd, .ref aMs, .int mbn, .ref aMb, .int mmd, .ref aMo, .int mep, .ref aMc, .ref aMn, .ref aMfk, .ref aMfl, .ref aMfd, .ref aMg, .ref aMm, .int mat, .int mer]))] := hD
    refine lv_aload_n hx hb dX10_cut_33 rfl (lv_at hl 0 rfl) ?_
    refine lv_iconst (v := 0) hx hb dX10_cut_34 (by decide) ?_
    refine va_put (D := (dC, dI)) (ci := 9) (v := .int 0) (ty := .boolean) (C := RX10) (T := TX10) (N := 27) hx hb hts inX10_cut_wsX100 tyX10 tyX10_ok nmX10 hown hK hP hD hS 0 rfl rfl 7 (by decide) (hts _ qX10_cut_2) (fun _ h9 => h9) rfl (by decide +kernel) rfl rfl (Nat.le_of_ble_eq_true rfl) dX10_cut_35 (fun H locs hP hD hS => ?_)
    have hP : va_P (dC, dI) vwCl [(aM, .inr (9, [.int 0, .int (msz - v1), .ref aMt, .int mwi, .int mle, .int mgr, .int mpr, .int 0, .int mtk, .ref aMk, .ref aMl, .ref aMd, .ref aMs, .int mbn, .ref aMb, .int mmd, .ref aMo, .int mep, .ref aMc, .ref aMn, .ref aMfk, .ref aMfl, .ref aMfd, .ref aMg, .ref aMm, .int mat, .int mer]))] H := hP
    have hD : va_D A [(aM, .inr (9, [.int 0, .int (msz - v1), .ref aMt, .int mwi, .int mle, .int mgr, .int mpr, .int 0, .int mtk, .ref aMk, .ref aMl, .ref aMd, .ref aMs, .int mbn, .ref aMb, .int mmd, .ref aMo, .int mep, .ref aMc, .ref aMn, .ref aMfk, .ref aMfl, .ref aMfd, .ref aMg, .ref aMm, .int mat, .int mer]))] := hD
    refine lv_aload_n hx hb dX10_cut_38 rfl (lv_at hl 0 rfl) ?_
    refine va_get (D := (dC, dI)) (ci := 9) (v := .int (msz - v1)) (C := RX10) (T := TX10) (N := 27) hx hb hts inX10_cut_wsX100 hown hK hP 0 rfl rfl 1 (by decide) (hts _ qX10_cut_1) (fun _ h9 => h9) rfl dX10_cut_39 ?_
    have hP9 : va_P (dC, dI) vwCl [(aM, .inr (9, [.int 0, .int (msz - v1), .ref aMt, .int mwi, .int mle, .int mgr, .int mpr, .int 0, .int mtk, .ref aMk, .ref aMl, .ref aMd, .ref aMs, .int mbn, .ref aMb, .int mmd, .ref aMo, .int mep, .ref aMc, .ref aMn, .ref aMfk, .ref aMfl, .ref aMfd, .ref aMg, .ref aMm, .int mat, .int mer]))] _ := hP
    have hD9 : va_D A [(aM, .inr (9, [.int 0, .int (msz - v1), .ref aMt, .int mwi, .int mle, .int mgr, .int mpr, .int 0, .int mtk, .ref aMk, .ref aMl, .ref aMd, .ref aMs, .int mbn, .ref aMb, .int mmd, .ref aMo, .int mep, .ref aMc, .ref aMn, .ref aMfk, .ref aMfl, .ref aMfd, .ref aMg, .ref aMm, .int mat, .int mer]))] := hD
    exact W.iret (v := msz - v1) hx hb hr (fun t ht hW => ⟨⟨msz - v1, (0, msz - v1, 0), rfl, h, by rw [ht]; exact hP9, va_K.moved hW.alike hK, hD9⟩, hS.F ht⟩) hS.2.2 dX10_cut_42
  · replace h := h.1 c_2
    refine lv_aload_n hx hb dX10_cut_17 rfl (lv_at hl 0 rfl) ?_
    refine lv_iconst (v := 1) hx hb dX10_cut_18 (by decide) ?_
    refine wk_calli (wc := [(aM, .inr (9, [.int 0, .int msz, .ref aMt, .int mwi, .int mle, .int mgr, .int mpr, .int mhp, .int mtk, .ref aMk, .ref aMl, .ref aMd, .ref aMs, .int mbn, .ref aMb, .int mmd, .ref aMo, .int mep, .ref aMc, .ref aMn, .ref aMfk, .ref aMfl, .ref aMfd, .ref aMg, .ref aMm, .int mat, .int mer]))]) (wr := []) (va_runV (As := [.int 1]) (rest := []) C0 (mtX10_no l dC dI cyI (aM := aM) (aMt := aMt) (aMk := aMk) (aMl := aMl) (aMd := aMd) (aMs := aMs) (aMb := aMb) (aMo := aMo) (aMc := aMc) (aMn := aMn) (aMfk := aMfk) (aMfl := aMfl) (aMfd := aMfd) (aMg := aMg) (aMm := aMm) (sz := _) (mth := 0) (msz := msz) (mwi := mwi) (mle := mle) (mgr := mgr) (mpr := mpr) (mhp := mhp) (mtk := mtk) (mbn := mbn) (mmd := mmd) (mep := mep) (mat := mat) (mer := mer) (v1 := 1) h) (cwV 1 hts gX10_cut_X10_no rfl rfl rfl (by decide +kernel) ⟨(Nat.le_of_ble_eq_true rfl), (Nat.le_of_ble_eq_true rfl)⟩) (wk_preV (wc := [(aM, .inr (9, [.int 0, .int msz, .ref aMt, .int mwi, .int mle, .int mgr, .int mpr, .int mhp, .int mtk, .ref aMk, .ref aMl, .ref aMd, .ref aMs, .int mbn, .ref aMb, .int mmd, .ref aMo, .int mep, .ref aMc, .ref aMn, .ref aMfk, .ref aMfl, .ref aMfd, .ref aMg, .ref aMm, .int mat, .int mer]))]) hK hP hD [0] rfl (by decide) (va_recv hK hP (ci := 9) (q0 := 0) rfl rfl)) rfl rfl hl.1 rfl (lv_room (Nat.le_of_ble_eq_true rfl)) dX10_cut_19 ⟨(Nat.le_of_ble_eq_true rfl), (Nat.le_of_ble_eq_true rfl)⟩) hP hD hS hA [0] [] rfl rfl (by decide) (by decide) (fun r_3 u9 H locs h hP hD hS => ?_)
    obtain ⟨mth_4, rfl⟩ : ∃ z9, z9 = u9 := ⟨_, rfl⟩
    have hP : va_P (dC, dI) vwCl [(aM, .inr (9, [.int mth_4, .int msz, .ref aMt, .int mwi, .int mle, .int mgr, .int mpr, .int mhp, .int mtk, .ref aMk, .ref aMl, .ref aMd, .ref aMs, .int mbn, .ref aMb, .int mmd, .ref aMo, .int mep, .ref aMc, .ref aMn, .ref aMfk, .ref aMfl, .ref aMfd, .ref aMg, .ref aMm, .int mat, .int mer]))] H := hP
    have hD : va_D A [(aM, .inr (9, [.int mth_4, .int msz, .ref aMt, .int mwi, .int mle, .int mgr, .int mpr, .int mhp, .int mtk, .ref aMk, .ref aMl, .ref aMd, .ref aMs, .int mbn, .ref aMb, .int mmd, .ref aMo, .int mep, .ref aMc, .ref aMn, .ref aMfk, .ref aMfl, .ref aMfd, .ref aMg, .ref aMm, .int mat, .int mer]))] := hD
    have hP9 : va_P (dC, dI) vwCl [(aM, .inr (9, [.int mth_4, .int msz, .ref aMt, .int mwi, .int mle, .int mgr, .int mpr, .int mhp, .int mtk, .ref aMk, .ref aMl, .ref aMd, .ref aMs, .int mbn, .ref aMb, .int mmd, .ref aMo, .int mep, .ref aMc, .ref aMn, .ref aMfk, .ref aMfl, .ref aMfd, .ref aMg, .ref aMm, .int mat, .int mer]))] _ := hP
    have hD9 : va_D A [(aM, .inr (9, [.int mth_4, .int msz, .ref aMt, .int mwi, .int mle, .int mgr, .int mpr, .int mhp, .int mtk, .ref aMk, .ref aMl, .ref aMd, .ref aMs, .int mbn, .ref aMb, .int mmd, .ref aMo, .int mep, .ref aMc, .ref aMn, .ref aMfk, .ref aMfl, .ref aMfd, .ref aMg, .ref aMm, .int mat, .int mer]))] := hD
    exact W.iret (v := r_3) hx hb hr (fun t ht hW => ⟨⟨r_3, (mth_4, msz, mhp), rfl, h, by rw [ht]; exact hP9, va_K.moved hW.alike hK, hD9⟩, hS.F ht⟩) hS.2.2 dX10_cut_22
-- X10_set
theorem qX10_set_0 : Cond.fieldLink RX10 65 "MatchCoderModel" "thrown" "I" ∈ wsX10_set := (List.mem_cons_of_mem _ (List.mem_append_left _ (List.mem_of_getElem? (i := 0) rfl)))
theorem qX10_set_1 : Cond.fieldLink RX10 9 "MatchCoderModel" "text" "[I" ∈ wsX10_set := (List.mem_cons_of_mem _ (List.mem_append_left _ (List.mem_of_getElem? (i := 1) rfl)))
theorem qX10_set_2 : Cond.fieldLink RX10 81 "MatchCoderModel" "hasPlan" "Z" ∈ wsX10_set := (List.mem_cons_of_mem _ (List.mem_append_left _ (List.mem_of_getElem? (i := 2) rfl)))
theorem inX10_set_wsX100 : ∀ w ∈ wsX100, w ∈ wsX10_set := fun _ h => List.mem_cons_of_mem _ (List.mem_append_right _ h)
def wpX10_set (msz : Int32) (mhp : Int32) (mtx : Nat → Int32) (v1 : Int32) (v2 : Int32) (post : Int32 → Int32 → Int32 → (Nat → Int32) → Prop) : Prop := wpX10_isPlace msz v1 (fun (r_1 : Int32) => (r_1 = 0 → (wpX10_no 1 (fun (r_8 : Int32) (mth_9 : Int32) => post r_8 mth_9 mhp mtx))) ∧ (¬ r_1 = 0 → (wpX10_isIn v2 0 255 (fun (r_3 : Int32) => (r_3 = 0 → (wpX10_no 2 (fun (r_6 : Int32) (mth_7 : Int32) => post r_6 mth_7 mhp mtx))) ∧ (¬ r_3 = 0 → (vp_in v1 64 ∧ (post (mtx v1.toNatClampNeg) 0 0 (upd mtx v1.toNatClampNeg v2))))))))
set_option maxHeartbeats 4000000 in
set_option maxRecDepth 100000 in
theorem mtX10_set (l : Launch) (dC : Nat → ClassId) (dI : Nat → Nat → Nat) (cyI : ClassId) {aM aMt aMk aMl aMd aMs aMb aMo aMc aMn aMfk aMfl aMfd aMg aMm : Nat} {sz : Nat} {mth : Int32} {msz : Int32} {mwi : Int32} {mle : Int32} {mgr : Int32} {mpr : Int32} {mhp : Int32} {mtk : Int32} {mbn : Int32} {mmd : Int32} {mep : Int32} {mat : Int32} {mer : Int32} {mtx : Nat → Int32} {v1 : Int32} {v2 : Int32} {post : Int32 → Int32 → Int32 → (Nat → Int32) → Prop} (h : wpX10_set msz mhp mtx v1 v2 post) : Met l yX10_set wsX10_set ({ frames := 2, cells := 0, slots := 0, locals := 43 }) (va_Pc [.ref aM, .int v1, .int v2] (wk_B (dC, dI) [(cyI, .int)] [(aM, .inr (9, [.int mth, .int msz, .ref aMt, .int mwi, .int mle, .int mgr, .int mpr, .int mhp, .int mtk, .ref aMk, .ref aMl, .ref aMd, .ref aMs, .int mbn, .ref aMb, .int mmd, .ref aMo, .int mep, .ref aMc, .ref aMn, .ref aMfk, .ref aMfl, .ref aMfd, .ref aMg, .ref aMm, .int mat, .int mer])), (aMt, .inl (cyI, 64, .inl mtx))] sz)) (va_Qi (fun (r : Int32) (u : Int32 × Int32 × (Nat → Int32)) => post r u.1 u.2.1 u.2.2) (wk_C (dC, dI) [(cyI, .int)] (va_A [(aM, .inr (9, [.int mth, .int msz, .ref aMt, .int mwi, .int mle, .int mgr, .int mpr, .int mhp, .int mtk, .ref aMk, .ref aMl, .ref aMd, .ref aMs, .int mbn, .ref aMb, .int mmd, .ref aMo, .int mep, .ref aMc, .ref aMn, .ref aMfk, .ref aMfl, .ref aMfd, .ref aMg, .ref aMm, .int mat, .int mer])), (aMt, .inl (cyI, 64, .inl mtx))] sz) (fun (u : Int32 × Int32 × (Nat → Int32)) => [(aM, .inr (9, [.int (u.1), .int msz, .ref aMt, .int mwi, .int mle, .int mgr, .int mpr, .int (u.2.1), .int mtk, .ref aMk, .ref aMl, .ref aMd, .ref aMs, .int mbn, .ref aMb, .int mmd, .ref aMo, .int mep, .ref aMc, .ref aMn, .ref aMfk, .ref aMfl, .ref aMfd, .ref aMg, .ref aMm, .int mat, .int mer])), (aMt, .inl (cyI, 64, .inl (u.2.2)))])) (va_A [(aM, .inr (9, [.int mth, .int msz, .ref aMt, .int mwi, .int mle, .int mgr, .int mpr, .int mhp, .int mtk, .ref aMk, .ref aMl, .ref aMd, .ref aMs, .int mbn, .ref aMb, .int mmd, .ref aMo, .int mep, .ref aMc, .ref aMn, .ref aMfk, .ref aMfl, .ref aMfd, .ref aMg, .ref aMm, .int mat, .int mer])), (aMt, .inl (cyI, 64, .inl mtx))] sz)) 0 0 (va_A [(aM, .inr (9, [.int mth, .int msz, .ref aMt, .int mwi, .int mle, .int mgr, .int mpr, .int mhp, .int mtk, .ref aMk, .ref aMl, .ref aMd, .ref aMs, .int mbn, .ref aMb, .int mmd, .ref aMo, .int mep, .ref aMc, .ref aMn, .ref aMfk, .ref aMfl, .ref aMfd, .ref aMg, .ref aMm, .int mat, .int mer])), (aMt, .inl (cyI, 64, .inl mtx))] sz) := by
  refine Met.ofW (cc := cX10_set) (maxL := 4) (ret := (some .int)) (by decide) rfl ?_
  intro p e s m args below meth c s₁ B hml hv
  obtain ⟨rfl, hsz, hP, hK, hD0⟩ := hv
  have hx := B.exec
  have hb := B.bytes
  have hr := B.returns
  have hts := atoms_spec (ws := wsX10_set) B.pre
  have hown : s.vm.findClass RX10 = some m.cls := findClass_of_methodNamed B.named
  have hlocks := B.notSynchronized
  subst hsz
  have hD := hD0.self (sz := s.heap.size)
  generalize hAe : va_A [(aM, .inr (9, [.int mth, .int msz, .ref aMt, .int mwi, .int mle, .int mgr, .int mpr, .int mhp, .int mtk, .ref aMk, .ref aMl, .ref aMd, .ref aMs, .int mbn, .ref aMb, .int mmd, .ref aMo, .int mep, .ref aMc, .ref aMn, .ref aMfk, .ref aMfl, .ref aMfd, .ref aMg, .ref aMm, .int mat, .int mer])), (aMt, .inl (cyI, 64, .inl mtx))] s.heap.size = A at hD ⊢
  have hA : ∀ q : Nat, s.heap.size ≤ q → A q := fun q h => by rw [← hAe]; exact Or.inr h
  have hS : va_S A s.heap s.heap [] := va_S.rf
  have hP : va_P (dC, dI) vwCl [(aM, .inr (9, [.int mth, .int msz, .ref aMt, .int mwi, .int mle, .int mgr, .int mpr, .int mhp, .int mtk, .ref aMk, .ref aMl, .ref aMd, .ref aMs, .int mbn, .ref aMb, .int mmd, .ref aMo, .int mep, .ref aMc, .ref aMn, .ref aMfk, .ref aMfl, .ref aMfd, .ref aMg, .ref aMm, .int mat, .int mer])), (aMt, .inl (cyI, 64, .inl mtx))] s.heap := hP
  have hl := lv_entry ([.ref aM, .int v1, .int v2]) (n := 4) (Nat.le_of_ble_eq_true rfl)
  rw [lg_entry_eq]
  generalize (lg_sl ([.ref aM, .int v1, .int v2]) ++ List.replicate (4 - (lg_sl ([.ref aM, .int v1, .int v2])).length) Slot.unset).toArray = ls at hl ⊢
  have hl : lv_has ls 4 [(0, .ref aM), (1, .int v1), (2, .int v2)] := hl
  have C0 : CallFix p m c cX10_set 4 s ([.ref aM, .int v1, .int v2] : List Value).toArray wsX10_set RX10 := ⟨hx, hb, hml, hown, hts⟩
  unfold wpX10_set at h
  refine lv_aload_n hx hb dX10_set_0 rfl (lv_at hl 0 rfl) ?_
  refine lv_iconst (v := 0) hx hb dX10_set_1 (by decide) ?_
  refine va_put (D := (dC, dI)) (ci := 9) (v := .int 0) (ty := .int) (C := RX10) (T := TX10) (N := 27) hx hb hts inX10_set_wsX100 tyX10 tyX10_ok nmX10 hown hK hP hD hS 0 rfl rfl 0 (by decide) (hts _ qX10_set_0) (fun _ h9 => h9) rfl (by decide +kernel) rfl rfl (Nat.le_of_ble_eq_true rfl) dX10_set_2 (fun H locs hP hD hS => ?_)
  have hP : va_P (dC, dI) vwCl [(aM, .inr (9, [.int 0, .int msz, .ref aMt, .int mwi, .int mle, .int mgr, .int mpr, .int mhp, .int mtk, .ref aMk, .ref aMl, .ref aMd, .ref aMs, .int mbn, .ref aMb, .int mmd, .ref aMo, .int mep, .ref aMc, .ref aMn, .ref aMfk, .ref aMfl, .ref aMfd, .ref aMg, .ref aMm, .int mat, .int mer])), (aMt, .inl (cyI, 64, .inl mtx))] H := hP
  have hD : va_D A [(aM, .inr (9, [.int 0, .int msz, .ref aMt, .int mwi, .int mle, .int mgr, .int mpr, .int mhp, .int mtk, .ref aMk, .ref aMl, .ref aMd, .ref aMs, .int mbn, .ref aMb, .int mmd, .ref aMo, .int mep, .ref aMc, .ref aMn, .ref aMfk, .ref aMfl, .ref aMfd, .ref aMg, .ref aMm, .int mat, .int mer])), (aMt, .inl (cyI, 64, .inl mtx))] := hD
  refine lv_aload_n hx hb dX10_set_5 rfl (lv_at hl 0 rfl) ?_
  refine lv_iload_n hx hb dX10_set_6 rfl (lv_at hl 1 rfl) ?_
  refine wk_calli (wc := [(aM, .inr (9, [.int 0, .int msz, .ref aMt, .int mwi, .int mle, .int mgr, .int mpr, .int mhp, .int mtk, .ref aMk, .ref aMl, .ref aMd, .ref aMs, .int mbn, .ref aMb, .int mmd, .ref aMo, .int mep, .ref aMc, .ref aMn, .ref aMfk, .ref aMfl, .ref aMfd, .ref aMg, .ref aMm, .int mat, .int mer]))]) (wr := [(aMt, .inl (cyI, 64, .inl mtx))]) (va_runV (As := [.int v1]) (rest := []) C0 (mtX10_isPlace l dC dI cyI (aM := aM) (aMt := aMt) (aMk := aMk) (aMl := aMl) (aMd := aMd) (aMs := aMs) (aMb := aMb) (aMo := aMo) (aMc := aMc) (aMn := aMn) (aMfk := aMfk) (aMfl := aMfl) (aMfd := aMfd) (aMg := aMg) (aMm := aMm) (sz := _) (mth := 0) (msz := msz) (mwi := mwi) (mle := mle) (mgr := mgr) (mpr := mpr) (mhp := mhp) (mtk := mtk) (mbn := mbn) (mmd := mmd) (mep := mep) (mat := mat) (mer := mer) (v1 := v1) h) (cwV 1 hts gX10_set_X10_isPlace rfl rfl rfl (by decide +kernel) ⟨(Nat.le_of_ble_eq_true rfl), (Nat.le_of_ble_eq_true rfl)⟩) (wk_preV (wc := [(aM, .inr (9, [.int 0, .int msz, .ref aMt, .int mwi, .int mle, .int mgr, .int mpr, .int mhp, .int mtk, .ref aMk, .ref aMl, .ref aMd, .ref aMs, .int mbn, .ref aMb, .int mmd, .ref aMo, .int mep, .ref aMc, .ref aMn, .ref aMfk, .ref aMfl, .ref aMfd, .ref aMg, .ref aMm, .int mat, .int mer]))]) hK hP hD [0] rfl (by decide) (va_recv hK hP (ci := 9) (q0 := 0) rfl rfl)) rfl rfl hl.1 rfl (lv_room (Nat.le_of_ble_eq_true rfl)) dX10_set_7 ⟨(Nat.le_of_ble_eq_true rfl), (Nat.le_of_ble_eq_true rfl)⟩) hP hD hS hA [0] [1] rfl rfl (by decide) (by decide) (fun r_1 u9 H locs h hP hD hS => ?_)
  have hP : va_P (dC, dI) vwCl [(aMt, .inl (cyI, 64, .inl mtx)), (aM, .inr (9, [.int 0, .int msz, .ref aMt, .int mwi, .int mle, .int mgr, .int mpr, .int mhp, .int mtk, .ref aMk, .ref aMl, .ref aMd, .ref aMs, .int mbn, .ref aMb, .int mmd, .ref aMo, .int mep, .ref aMc, .ref aMn, .ref aMfk, .ref aMfl, .ref aMfd, .ref aMg, .ref aMm, .int mat, .int mer]))] H := hP
  have hD : va_D A [(aMt, .inl (cyI, 64, .inl mtx)), (aM, .inr (9, [.int 0, .int msz, .ref aMt, .int mwi, .int mle, .int mgr, .int mpr, .int mhp, .int mtk, .ref aMk, .ref aMl, .ref aMd, .ref aMs, .int mbn, .ref aMb, .int mmd, .ref aMo, .int mep, .ref aMc, .ref aMn, .ref aMfk, .ref aMfl, .ref aMfd, .ref aMg, .ref aMm, .int mat, .int mer]))] := hD
  refine lv_if_ne (tgt := 19) hx hb dX10_set_10 (by decide) (fun c_2 => ?_) (fun c_2 => ?_)
  · replace h := h.2 c_2
    refine lv_iload_n hx hb dX10_set_19 rfl (lv_at hl 2 rfl) ?_
    refine lv_iconst (v := 0) hx hb dX10_set_20 (by decide) ?_
    refine lv_sipush (v := 255) hx hb dX10_set_21 (by decide) ?_
    refine wk_calli (wc := []) (wr := [(aMt, .inl (cyI, 64, .inl mtx)), (aM, .inr (9, [.int 0, .int msz, .ref aMt, .int mwi, .int mle, .int mgr, .int mpr, .int mhp, .int mtk, .ref aMk, .ref aMl, .ref aMd, .ref aMs, .int mbn, .ref aMb, .int mmd, .ref aMo, .int mep, .ref aMc, .ref aMn, .ref aMfk, .ref aMfl, .ref aMfd, .ref aMg, .ref aMm, .int mat, .int mer]))]) (va_runS (As := [.int v2, .int 0, .int 255]) (rest := []) C0 (mtX10_isIn l dC dI cyI (sz := _) (v0 := v2) (v1 := 0) (v2 := 255) h) (va_cwS 3 hts gX10_set_X10_isIn rfl rfl rfl (by decide +kernel) ⟨(Nat.le_of_ble_eq_true rfl), (Nat.le_of_ble_eq_true rfl)⟩) (wk_preS (wc := []) hK hP hD [] rfl (by decide)) rfl rfl hl.1 rfl (lv_room (Nat.le_of_ble_eq_true rfl)) dX10_set_24 ⟨(Nat.le_of_ble_eq_true rfl), (Nat.le_of_ble_eq_true rfl)⟩) hP hD hS hA [] [0, 1] rfl rfl (by decide) (by decide) (fun r_3 u9 H locs h hP hD hS => ?_)
    have hP : va_P (dC, dI) vwCl [(aMt, .inl (cyI, 64, .inl mtx)), (aM, .inr (9, [.int 0, .int msz, .ref aMt, .int mwi, .int mle, .int mgr, .int mpr, .int mhp, .int mtk, .ref aMk, .ref aMl, .ref aMd, .ref aMs, .int mbn, .ref aMb, .int mmd, .ref aMo, .int mep, .ref aMc, .ref aMn, .ref aMfk, .ref aMfl, .ref aMfd, .ref aMg, .ref aMm, .int mat, .int mer]))] H := hP
    have hD : va_D A [(aMt, .inl (cyI, 64, .inl mtx)), (aM, .inr (9, [.int 0, .int msz, .ref aMt, .int mwi, .int mle, .int mgr, .int mpr, .int mhp, .int mtk, .ref aMk, .ref aMl, .ref aMd, .ref aMs, .int mbn, .ref aMb, .int mmd, .ref aMo, .int mep, .ref aMc, .ref aMn, .ref aMfk, .ref aMfl, .ref aMfd, .ref aMg, .ref aMm, .int mat, .int mer]))] := hD
    refine lv_if_ne (tgt := 36) hx hb dX10_set_27 (by decide) (fun c_4 => ?_) (fun c_4 => ?_)
    · replace h := h.2 c_4
      refine lv_aload_n hx hb dX10_set_36 rfl (lv_at hl 0 rfl) ?_
      refine va_get (D := (dC, dI)) (ci := 9) (v := .ref aMt) (C := RX10) (T := TX10) (N := 27) hx hb hts inX10_set_wsX100 hown hK hP 1 rfl rfl 2 (by decide) (hts _ qX10_set_1) (fun _ h9 => h9) rfl dX10_set_37 ?_
      refine lv_iload_n hx hb dX10_set_40 rfl (lv_at hl 1 rfl) ?_
      obtain ⟨hi_5, h⟩ := h
      refine va_iald hx hb hK hP 0 0 rfl rfl hi_5 dX10_set_41 ?_
      refine lv_istore_n (lv' := [(3, .int (mtx v1.toNatClampNeg)), (0, .ref aM), (1, .int v1), (2, .int v2)]) hx hb dX10_set_42 rfl hl (by decide) rfl (fun ls hl => ?_)
      refine lv_aload_n hx hb dX10_set_43 rfl (lv_at hl 1 rfl) ?_
      refine va_get (D := (dC, dI)) (ci := 9) (v := .ref aMt) (C := RX10) (T := TX10) (N := 27) hx hb hts inX10_set_wsX100 hown hK hP 1 rfl rfl 2 (by decide) (hts _ qX10_set_1) (fun _ h9 => h9) rfl dX10_set_44 ?_
      refine lv_iload_n hx hb dX10_set_47 rfl (lv_at hl 2 rfl) ?_
      refine lv_iload_n hx hb dX10_set_48 rfl (lv_at hl 3 rfl) ?_
      refine va_iast hx hb hK hP hD hS 0 0 rfl rfl hi_5 dX10_set_49 (fun H locs hP hD hS => ?_)
      have hP : va_P (dC, dI) vwCl [(aMt, .inl (cyI, 64, .inl (upd mtx v1.toNatClampNeg v2))), (aM, .inr (9, [.int 0, .int msz, .ref aMt, .int mwi, .int mle, .int mgr, .int mpr, .int mhp, .int mtk, .ref aMk, .ref aMl, .ref aMd, .ref aMs, .int mbn, .ref aMb, .int mmd, .ref aMo, .int mep, .ref aMc, .ref aMn, .ref aMfk, .ref aMfl, .ref aMfd, .ref aMg, .ref aMm, .int mat, .int mer]))] H := hP
      have hD : va_D A [(aMt, .inl (cyI, 64, .inl (upd mtx v1.toNatClampNeg v2))), (aM, .inr (9, [.int 0, .int msz, .ref aMt, .int mwi, .int mle, .int mgr, .int mpr, .int mhp, .int mtk, .ref aMk, .ref aMl, .ref aMd, .ref aMs, .int mbn, .ref aMb, .int mmd, .ref aMo, .int mep, .ref aMc, .ref aMn, .ref aMfk, .ref aMfl, .ref aMfd, .ref aMg, .ref aMm, .int mat, .int mer]))] := hD
      refine lv_aload_n hx hb dX10_set_50 rfl (lv_at hl 1 rfl) ?_
      refine lv_iconst (v := 0) hx hb dX10_set_51 (by decide) ?_
      refine va_put (D := (dC, dI)) (ci := 9) (v := .int 0) (ty := .boolean) (C := RX10) (T := TX10) (N := 27) hx hb hts inX10_set_wsX100 tyX10 tyX10_ok nmX10 hown hK hP hD hS 1 rfl rfl 7 (by decide) (hts _ qX10_set_2) (fun _ h9 => h9) rfl (by decide +kernel) rfl rfl (Nat.le_of_ble_eq_true rfl) dX10_set_52 (fun H locs hP hD hS => ?_)
      have hP : va_P (dC, dI) vwCl [(aMt, .inl (cyI, 64, .inl (upd mtx v1.toNatClampNeg v2))), (aM, .inr (9, [.int 0, .int msz, .ref aMt, .int mwi, .int mle, .int mgr, .int mpr, .int 0, .int mtk, .ref aMk, .ref aMl, .ref aMd, .ref aMs, .int mbn, .ref aMb, .int mmd, .ref aMo, .int mep, .ref aMc, .ref aMn, .ref aMfk, .ref aMfl, .ref aMfd, .ref aMg, .ref aMm, .int mat, .int mer]))] H := hP
      have hD : va_D A [(aMt, .inl (cyI, 64, .inl (upd mtx v1.toNatClampNeg v2))), (aM, .inr (9, [.int 0, .int msz, .ref aMt, .int mwi, .int mle, .int mgr, .int mpr, .int 0, .int mtk, .ref aMk, .ref aMl, .ref aMd, .ref aMs, .int mbn, .ref aMb, .int mmd, .ref aMo, .int mep, .ref aMc, .ref aMn, .ref aMfk, .ref aMfl, .ref aMfd, .ref aMg, .ref aMm, .int mat, .int mer]))] := hD
      refine lv_iload_n hx hb dX10_set_55 rfl (lv_at hl 0 rfl) ?_
      have hP9 : va_P (dC, dI) vwCl [(aM, .inr (9, [.int 0, .int msz, .ref aMt, .int mwi, .int mle, .int mgr, .int mpr, .int 0, .int mtk, .ref aMk, .ref aMl, .ref aMd, .ref aMs, .int mbn, .ref aMb, .int mmd, .ref aMo, .int mep, .ref aMc, .ref aMn, .ref aMfk, .ref aMfl, .ref aMfd, .ref aMg, .ref aMm, .int mat, .int mer])), (aMt, .inl (cyI, 64, .inl (upd mtx v1.toNatClampNeg v2)))] _ := (hP.sub [1, 0] rfl)
      have hD9 : va_D A [(aM, .inr (9, [.int 0, .int msz, .ref aMt, .int mwi, .int mle, .int mgr, .int mpr, .int 0, .int mtk, .ref aMk, .ref aMl, .ref aMd, .ref aMs, .int mbn, .ref aMb, .int mmd, .ref aMo, .int mep, .ref aMc, .ref aMn, .ref aMfk, .ref aMfl, .ref aMfd, .ref aMg, .ref aMm, .int mat, .int mer])), (aMt, .inl (cyI, 64, .inl (upd mtx v1.toNatClampNeg v2)))] := (hD.sub [1, 0] (by decide) rfl)
      exact W.iret (v := mtx v1.toNatClampNeg) hx hb hr (fun t ht hW => ⟨⟨mtx v1.toNatClampNeg, (0, 0, upd mtx v1.toNatClampNeg v2), rfl, h, by rw [ht]; exact hP9, va_K.moved hW.alike hK, hD9⟩, hS.F ht⟩) hS.2.2 dX10_set_56
    · replace h := h.1 c_4
      refine lv_aload_n hx hb dX10_set_30 rfl (lv_at hl 0 rfl) ?_
      refine lv_iconst (v := 2) hx hb dX10_set_31 (by decide) ?_
      refine wk_calli (wc := [(aM, .inr (9, [.int 0, .int msz, .ref aMt, .int mwi, .int mle, .int mgr, .int mpr, .int mhp, .int mtk, .ref aMk, .ref aMl, .ref aMd, .ref aMs, .int mbn, .ref aMb, .int mmd, .ref aMo, .int mep, .ref aMc, .ref aMn, .ref aMfk, .ref aMfl, .ref aMfd, .ref aMg, .ref aMm, .int mat, .int mer]))]) (wr := [(aMt, .inl (cyI, 64, .inl mtx))]) (va_runV (As := [.int 2]) (rest := []) C0 (mtX10_no l dC dI cyI (aM := aM) (aMt := aMt) (aMk := aMk) (aMl := aMl) (aMd := aMd) (aMs := aMs) (aMb := aMb) (aMo := aMo) (aMc := aMc) (aMn := aMn) (aMfk := aMfk) (aMfl := aMfl) (aMfd := aMfd) (aMg := aMg) (aMm := aMm) (sz := _) (mth := 0) (msz := msz) (mwi := mwi) (mle := mle) (mgr := mgr) (mpr := mpr) (mhp := mhp) (mtk := mtk) (mbn := mbn) (mmd := mmd) (mep := mep) (mat := mat) (mer := mer) (v1 := 2) h) (cwV 1 hts gX10_set_X10_no rfl rfl rfl (by decide +kernel) ⟨(Nat.le_of_ble_eq_true rfl), (Nat.le_of_ble_eq_true rfl)⟩) (wk_preV (wc := [(aM, .inr (9, [.int 0, .int msz, .ref aMt, .int mwi, .int mle, .int mgr, .int mpr, .int mhp, .int mtk, .ref aMk, .ref aMl, .ref aMd, .ref aMs, .int mbn, .ref aMb, .int mmd, .ref aMo, .int mep, .ref aMc, .ref aMn, .ref aMfk, .ref aMfl, .ref aMfd, .ref aMg, .ref aMm, .int mat, .int mer]))]) hK hP hD [1] rfl (by decide) (va_recv hK hP (ci := 9) (q0 := 1) rfl rfl)) rfl rfl hl.1 rfl (lv_room (Nat.le_of_ble_eq_true rfl)) dX10_set_32 ⟨(Nat.le_of_ble_eq_true rfl), (Nat.le_of_ble_eq_true rfl)⟩) hP hD hS hA [1] [0] rfl rfl (by decide) (by decide) (fun r_6 u9 H locs h hP hD hS => ?_)
      obtain ⟨mth_7, rfl⟩ : ∃ z9, z9 = u9 := ⟨_, rfl⟩
      have hP : va_P (dC, dI) vwCl [(aMt, .inl (cyI, 64, .inl mtx)), (aM, .inr (9, [.int mth_7, .int msz, .ref aMt, .int mwi, .int mle, .int mgr, .int mpr, .int mhp, .int mtk, .ref aMk, .ref aMl, .ref aMd, .ref aMs, .int mbn, .ref aMb, .int mmd, .ref aMo, .int mep, .ref aMc, .ref aMn, .ref aMfk, .ref aMfl, .ref aMfd, .ref aMg, .ref aMm, .int mat, .int mer]))] H := hP
      have hD : va_D A [(aMt, .inl (cyI, 64, .inl mtx)), (aM, .inr (9, [.int mth_7, .int msz, .ref aMt, .int mwi, .int mle, .int mgr, .int mpr, .int mhp, .int mtk, .ref aMk, .ref aMl, .ref aMd, .ref aMs, .int mbn, .ref aMb, .int mmd, .ref aMo, .int mep, .ref aMc, .ref aMn, .ref aMfk, .ref aMfl, .ref aMfd, .ref aMg, .ref aMm, .int mat, .int mer]))] := hD
      have hP9 : va_P (dC, dI) vwCl [(aM, .inr (9, [.int mth_7, .int msz, .ref aMt, .int mwi, .int mle, .int mgr, .int mpr, .int mhp, .int mtk, .ref aMk, .ref aMl, .ref aMd, .ref aMs, .int mbn, .ref aMb, .int mmd, .ref aMo, .int mep, .ref aMc, .ref aMn, .ref aMfk, .ref aMfl, .ref aMfd, .ref aMg, .ref aMm, .int mat, .int mer])), (aMt, .inl (cyI, 64, .inl mtx))] _ := (hP.sub [1, 0] rfl)
      have hD9 : va_D A [(aM, .inr (9, [.int mth_7, .int msz, .ref aMt, .int mwi, .int mle, .int mgr, .int mpr, .int mhp, .int mtk, .ref aMk, .ref aMl, .ref aMd, .ref aMs, .int mbn, .ref aMb, .int mmd, .ref aMo, .int mep, .ref aMc, .ref aMn, .ref aMfk, .ref aMfl, .ref aMfd, .ref aMg, .ref aMm, .int mat, .int mer])), (aMt, .inl (cyI, 64, .inl mtx))] := (hD.sub [1, 0] (by decide) rfl)
      exact W.iret (v := r_6) hx hb hr (fun t ht hW => ⟨⟨r_6, (mth_7, mhp, mtx), rfl, h, by rw [ht]; exact hP9, va_K.moved hW.alike hK, hD9⟩, hS.F ht⟩) hS.2.2 dX10_set_35
  · replace h := h.1 c_2
    refine lv_aload_n hx hb dX10_set_13 rfl (lv_at hl 0 rfl) ?_
    refine lv_iconst (v := 1) hx hb dX10_set_14 (by decide) ?_
    refine wk_calli (wc := [(aM, .inr (9, [.int 0, .int msz, .ref aMt, .int mwi, .int mle, .int mgr, .int mpr, .int mhp, .int mtk, .ref aMk, .ref aMl, .ref aMd, .ref aMs, .int mbn, .ref aMb, .int mmd, .ref aMo, .int mep, .ref aMc, .ref aMn, .ref aMfk, .ref aMfl, .ref aMfd, .ref aMg, .ref aMm, .int mat, .int mer]))]) (wr := [(aMt, .inl (cyI, 64, .inl mtx))]) (va_runV (As := [.int 1]) (rest := []) C0 (mtX10_no l dC dI cyI (aM := aM) (aMt := aMt) (aMk := aMk) (aMl := aMl) (aMd := aMd) (aMs := aMs) (aMb := aMb) (aMo := aMo) (aMc := aMc) (aMn := aMn) (aMfk := aMfk) (aMfl := aMfl) (aMfd := aMfd) (aMg := aMg) (aMm := aMm) (sz := _) (mth := 0) (msz := msz) (mwi := mwi) (mle := mle) (mgr := mgr) (mpr := mpr) (mhp := mhp) (mtk := mtk) (mbn := mbn) (mmd := mmd) (mep := mep) (mat := mat) (mer := mer) (v1 := 1) h) (cwV 1 hts gX10_set_X10_no rfl rfl rfl (by decide +kernel) ⟨(Nat.le_of_ble_eq_true rfl), (Nat.le_of_ble_eq_true rfl)⟩) (wk_preV (wc := [(aM, .inr (9, [.int 0, .int msz, .ref aMt, .int mwi, .int mle, .int mgr, .int mpr, .int mhp, .int mtk, .ref aMk, .ref aMl, .ref aMd, .ref aMs, .int mbn, .ref aMb, .int mmd, .ref aMo, .int mep, .ref aMc, .ref aMn, .ref aMfk, .ref aMfl, .ref aMfd, .ref aMg, .ref aMm, .int mat, .int mer]))]) hK hP hD [1] rfl (by decide) (va_recv hK hP (ci := 9) (q0 := 1) rfl rfl)) rfl rfl hl.1 rfl (lv_room (Nat.le_of_ble_eq_true rfl)) dX10_set_15 ⟨(Nat.le_of_ble_eq_true rfl), (Nat.le_of_ble_eq_true rfl)⟩) hP hD hS hA [1] [0] rfl rfl (by decide) (by decide) (fun r_8 u9 H locs h hP hD hS => ?_)
    obtain ⟨mth_9, rfl⟩ : ∃ z9, z9 = u9 := ⟨_, rfl⟩
    have hP : va_P (dC, dI) vwCl [(aMt, .inl (cyI, 64, .inl mtx)), (aM, .inr (9, [.int mth_9, .int msz, .ref aMt, .int mwi, .int mle, .int mgr, .int mpr, .int mhp, .int mtk, .ref aMk, .ref aMl, .ref aMd, .ref aMs, .int mbn, .ref aMb, .int mmd, .ref aMo, .int mep, .ref aMc, .ref aMn, .ref aMfk, .ref aMfl, .ref aMfd, .ref aMg, .ref aMm, .int mat, .int mer]))] H := hP
    have hD : va_D A [(aMt, .inl (cyI, 64, .inl mtx)), (aM, .inr (9, [.int mth_9, .int msz, .ref aMt, .int mwi, .int mle, .int mgr, .int mpr, .int mhp, .int mtk, .ref aMk, .ref aMl, .ref aMd, .ref aMs, .int mbn, .ref aMb, .int mmd, .ref aMo, .int mep, .ref aMc, .ref aMn, .ref aMfk, .ref aMfl, .ref aMfd, .ref aMg, .ref aMm, .int mat, .int mer]))] := hD
    have hP9 : va_P (dC, dI) vwCl [(aM, .inr (9, [.int mth_9, .int msz, .ref aMt, .int mwi, .int mle, .int mgr, .int mpr, .int mhp, .int mtk, .ref aMk, .ref aMl, .ref aMd, .ref aMs, .int mbn, .ref aMb, .int mmd, .ref aMo, .int mep, .ref aMc, .ref aMn, .ref aMfk, .ref aMfl, .ref aMfd, .ref aMg, .ref aMm, .int mat, .int mer])), (aMt, .inl (cyI, 64, .inl mtx))] _ := (hP.sub [1, 0] rfl)
    have hD9 : va_D A [(aM, .inr (9, [.int mth_9, .int msz, .ref aMt, .int mwi, .int mle, .int mgr, .int mpr, .int mhp, .int mtk, .ref aMk, .ref aMl, .ref aMd, .ref aMs, .int mbn, .ref aMb, .int mmd, .ref aMo, .int mep, .ref aMc, .ref aMn, .ref aMfk, .ref aMfl, .ref aMfd, .ref aMg, .ref aMm, .int mat, .int mer])), (aMt, .inl (cyI, 64, .inl mtx))] := (hD.sub [1, 0] (by decide) rfl)
    exact W.iret (v := r_8) hx hb hr (fun t ht hW => ⟨⟨r_8, (mth_9, mhp, mtx), rfl, h, by rw [ht]; exact hP9, va_K.moved hW.alike hK, hD9⟩, hS.F ht⟩) hS.2.2 dX10_set_18
-- X10_size
theorem qX10_size_0 : Cond.fieldLink RX10 65 "MatchCoderModel" "thrown" "I" ∈ wsX10_size := (List.mem_cons_of_mem _ (List.mem_append_left _ (List.mem_of_getElem? (i := 0) rfl)))
theorem qX10_size_1 : Cond.fieldLink RX10 68 "MatchCoderModel" "size" "I" ∈ wsX10_size := (List.mem_cons_of_mem _ (List.mem_append_left _ (List.mem_of_getElem? (i := 1) rfl)))
theorem inX10_size_wsX100 : ∀ w ∈ wsX100, w ∈ wsX10_size := fun _ h => List.mem_cons_of_mem _ (List.mem_append_right _ h)
def wpX10_size (msz : Int32) (post : Int32 → Int32 → Prop) : Prop := post msz 0
set_option maxHeartbeats 4000000 in
set_option maxRecDepth 100000 in
theorem mtX10_size (l : Launch) (dC : Nat → ClassId) (dI : Nat → Nat → Nat) (cyI : ClassId) {aM aMt aMk aMl aMd aMs aMb aMo aMc aMn aMfk aMfl aMfd aMg aMm : Nat} {sz : Nat} {mth : Int32} {msz : Int32} {mwi : Int32} {mle : Int32} {mgr : Int32} {mpr : Int32} {mhp : Int32} {mtk : Int32} {mbn : Int32} {mmd : Int32} {mep : Int32} {mat : Int32} {mer : Int32} {post : Int32 → Int32 → Prop} (h : wpX10_size msz post) : Met l yX10_size wsX10_size ({ frames := 0, cells := 0, slots := 0, locals := 0 }) (va_Pc [.ref aM] (wk_B (dC, dI) [(cyI, .int)] [(aM, .inr (9, [.int mth, .int msz, .ref aMt, .int mwi, .int mle, .int mgr, .int mpr, .int mhp, .int mtk, .ref aMk, .ref aMl, .ref aMd, .ref aMs, .int mbn, .ref aMb, .int mmd, .ref aMo, .int mep, .ref aMc, .ref aMn, .ref aMfk, .ref aMfl, .ref aMfd, .ref aMg, .ref aMm, .int mat, .int mer]))] sz)) (va_Qi (fun (r : Int32) (u : Int32) => post r u) (wk_C (dC, dI) [(cyI, .int)] (va_A [(aM, .inr (9, [.int mth, .int msz, .ref aMt, .int mwi, .int mle, .int mgr, .int mpr, .int mhp, .int mtk, .ref aMk, .ref aMl, .ref aMd, .ref aMs, .int mbn, .ref aMb, .int mmd, .ref aMo, .int mep, .ref aMc, .ref aMn, .ref aMfk, .ref aMfl, .ref aMfd, .ref aMg, .ref aMm, .int mat, .int mer]))] sz) (fun (u : Int32) => [(aM, .inr (9, [.int (u), .int msz, .ref aMt, .int mwi, .int mle, .int mgr, .int mpr, .int mhp, .int mtk, .ref aMk, .ref aMl, .ref aMd, .ref aMs, .int mbn, .ref aMb, .int mmd, .ref aMo, .int mep, .ref aMc, .ref aMn, .ref aMfk, .ref aMfl, .ref aMfd, .ref aMg, .ref aMm, .int mat, .int mer]))])) (va_A [(aM, .inr (9, [.int mth, .int msz, .ref aMt, .int mwi, .int mle, .int mgr, .int mpr, .int mhp, .int mtk, .ref aMk, .ref aMl, .ref aMd, .ref aMs, .int mbn, .ref aMb, .int mmd, .ref aMo, .int mep, .ref aMc, .ref aMn, .ref aMfk, .ref aMfl, .ref aMfd, .ref aMg, .ref aMm, .int mat, .int mer]))] sz)) 0 0 (va_A [(aM, .inr (9, [.int mth, .int msz, .ref aMt, .int mwi, .int mle, .int mgr, .int mpr, .int mhp, .int mtk, .ref aMk, .ref aMl, .ref aMd, .ref aMs, .int mbn, .ref aMb, .int mmd, .ref aMo, .int mep, .ref aMc, .ref aMn, .ref aMfk, .ref aMfl, .ref aMfd, .ref aMg, .ref aMm, .int mat, .int mer]))] sz) := by
  refine Met.ofW (cc := cX10_size) (maxL := 1) (ret := (some .int)) (by decide) rfl ?_
  intro p e s m args below meth c s₁ B hml hv
  obtain ⟨rfl, hsz, hP, hK, hD0⟩ := hv
  have hx := B.exec
  have hb := B.bytes
  have hr := B.returns
  have hts := atoms_spec (ws := wsX10_size) B.pre
  have hown : s.vm.findClass RX10 = some m.cls := findClass_of_methodNamed B.named
  have hlocks := B.notSynchronized
  subst hsz
  have hD := hD0.self (sz := s.heap.size)
  generalize hAe : va_A [(aM, .inr (9, [.int mth, .int msz, .ref aMt, .int mwi, .int mle, .int mgr, .int mpr, .int mhp, .int mtk, .ref aMk, .ref aMl, .ref aMd, .ref aMs, .int mbn, .ref aMb, .int mmd, .ref aMo, .int mep, .ref aMc, .ref aMn, .ref aMfk, .ref aMfl, .ref aMfd, .ref aMg, .ref aMm, .int mat, .int mer]))] s.heap.size = A at hD ⊢
  have hA : ∀ q : Nat, s.heap.size ≤ q → A q := fun q h => by rw [← hAe]; exact Or.inr h
  have hS : va_S A s.heap s.heap [] := va_S.rf
  have hP : va_P (dC, dI) vwCl [(aM, .inr (9, [.int mth, .int msz, .ref aMt, .int mwi, .int mle, .int mgr, .int mpr, .int mhp, .int mtk, .ref aMk, .ref aMl, .ref aMd, .ref aMs, .int mbn, .ref aMb, .int mmd, .ref aMo, .int mep, .ref aMc, .ref aMn, .ref aMfk, .ref aMfl, .ref aMfd, .ref aMg, .ref aMm, .int mat, .int mer]))] s.heap := hP
  have hl := lv_entry ([.ref aM]) (n := 1) (Nat.le_of_ble_eq_true rfl)
  rw [lg_entry_eq]
  generalize (lg_sl ([.ref aM]) ++ List.replicate (1 - (lg_sl ([.ref aM])).length) Slot.unset).toArray = ls at hl ⊢
  have hl : lv_has ls 1 [(0, .ref aM)] := hl
  have C0 : CallFix p m c cX10_size 1 s ([.ref aM] : List Value).toArray wsX10_size RX10 := ⟨hx, hb, hml, hown, hts⟩
  unfold wpX10_size at h
  refine lv_aload_n hx hb dX10_size_0 rfl (lv_at hl 0 rfl) ?_
  refine lv_iconst (v := 0) hx hb dX10_size_1 (by decide) ?_
  refine va_put (D := (dC, dI)) (ci := 9) (v := .int 0) (ty := .int) (C := RX10) (T := TX10) (N := 27) hx hb hts inX10_size_wsX100 tyX10 tyX10_ok nmX10 hown hK hP hD hS 0 rfl rfl 0 (by decide) (hts _ qX10_size_0) (fun _ h9 => h9) rfl (by decide +kernel) rfl rfl (Nat.le_of_ble_eq_true rfl) dX10_size_2 (fun H locs hP hD hS => ?_)
  have hP : va_P (dC, dI) vwCl [(aM, .inr (9, [.int 0, .int msz, .ref aMt, .int mwi, .int mle, .int mgr, .int mpr, .int mhp, .int mtk, .ref aMk, .ref aMl, .ref aMd, .ref aMs, .int mbn, .ref aMb, .int mmd, .ref aMo, .int mep, .ref aMc, .ref aMn, .ref aMfk, .ref aMfl, .ref aMfd, .ref aMg, .ref aMm, .int mat, .int mer]))] H := hP
  have hD : va_D A [(aM, .inr (9, [.int 0, .int msz, .ref aMt, .int mwi, .int mle, .int mgr, .int mpr, .int mhp, .int mtk, .ref aMk, .ref aMl, .ref aMd, .ref aMs, .int mbn, .ref aMb, .int mmd, .ref aMo, .int mep, .ref aMc, .ref aMn, .ref aMfk, .ref aMfl, .ref aMfd, .ref aMg, .ref aMm, .int mat, .int mer]))] := hD
  refine lv_aload_n hx hb dX10_size_5 rfl (lv_at hl 0 rfl) ?_
  refine va_get (D := (dC, dI)) (ci := 9) (v := .int msz) (C := RX10) (T := TX10) (N := 27) hx hb hts inX10_size_wsX100 hown hK hP 0 rfl rfl 1 (by decide) (hts _ qX10_size_1) (fun _ h9 => h9) rfl dX10_size_6 ?_
  have hP9 : va_P (dC, dI) vwCl [(aM, .inr (9, [.int 0, .int msz, .ref aMt, .int mwi, .int mle, .int mgr, .int mpr, .int mhp, .int mtk, .ref aMk, .ref aMl, .ref aMd, .ref aMs, .int mbn, .ref aMb, .int mmd, .ref aMo, .int mep, .ref aMc, .ref aMn, .ref aMfk, .ref aMfl, .ref aMfd, .ref aMg, .ref aMm, .int mat, .int mer]))] _ := hP
  have hD9 : va_D A [(aM, .inr (9, [.int 0, .int msz, .ref aMt, .int mwi, .int mle, .int mgr, .int mpr, .int mhp, .int mtk, .ref aMk, .ref aMl, .ref aMd, .ref aMs, .int mbn, .ref aMb, .int mmd, .ref aMo, .int mep, .ref aMc, .ref aMn, .ref aMfk, .ref aMfl, .ref aMfd, .ref aMg, .ref aMm, .int mat, .int mer]))] := hD
  exact W.iret (v := msz) hx hb hr (fun t ht hW => ⟨⟨msz, 0, rfl, h, by rw [ht]; exact hP9, va_K.moved hW.alike hK, hD9⟩, hS.F ht⟩) hS.2.2 dX10_size_9
-- X10_byteAt
theorem qX10_byteAt_0 : Cond.fieldLink RX10 65 "MatchCoderModel" "thrown" "I" ∈ wsX10_byteAt := (List.mem_cons_of_mem _ (List.mem_append_left _ (List.mem_of_getElem? (i := 0) rfl)))
theorem qX10_byteAt_1 : Cond.fieldLink RX10 9 "MatchCoderModel" "text" "[I" ∈ wsX10_byteAt := (List.mem_cons_of_mem _ (List.mem_append_left _ (List.mem_of_getElem? (i := 1) rfl)))
theorem inX10_byteAt_wsX100 : ∀ w ∈ wsX100, w ∈ wsX10_byteAt := fun _ h => List.mem_cons_of_mem _ (List.mem_append_right _ h)
def wpX10_byteAt (msz : Int32) (mtx : Nat → Int32) (v1 : Int32) (post : Int32 → Int32 → Prop) : Prop := wpX10_isPlace msz v1 (fun (r_1 : Int32) => (r_1 = 0 → (wpX10_no 1 (fun (r_3 : Int32) (mth_4 : Int32) => post r_3 mth_4))) ∧ (¬ r_1 = 0 → (vp_in v1 64 ∧ (post (mtx v1.toNatClampNeg) 0))))
set_option maxHeartbeats 4000000 in
set_option maxRecDepth 100000 in
theorem mtX10_byteAt (l : Launch) (dC : Nat → ClassId) (dI : Nat → Nat → Nat) (cyI : ClassId) {aM aMt aMk aMl aMd aMs aMb aMo aMc aMn aMfk aMfl aMfd aMg aMm : Nat} {sz : Nat} {mth : Int32} {msz : Int32} {mwi : Int32} {mle : Int32} {mgr : Int32} {mpr : Int32} {mhp : Int32} {mtk : Int32} {mbn : Int32} {mmd : Int32} {mep : Int32} {mat : Int32} {mer : Int32} {mtx : Nat → Int32} {v1 : Int32} {post : Int32 → Int32 → Prop} (h : wpX10_byteAt msz mtx v1 post) : Met l yX10_byteAt wsX10_byteAt ({ frames := 2, cells := 0, slots := 0, locals := 43 }) (va_Pc [.ref aM, .int v1] (wk_B (dC, dI) [(cyI, .int)] [(aM, .inr (9, [.int mth, .int msz, .ref aMt, .int mwi, .int mle, .int mgr, .int mpr, .int mhp, .int mtk, .ref aMk, .ref aMl, .ref aMd, .ref aMs, .int mbn, .ref aMb, .int mmd, .ref aMo, .int mep, .ref aMc, .ref aMn, .ref aMfk, .ref aMfl, .ref aMfd, .ref aMg, .ref aMm, .int mat, .int mer])), (aMt, .inl (cyI, 64, .inl mtx))] sz)) (va_Qi (fun (r : Int32) (u : Int32) => post r u) (wk_C (dC, dI) [(cyI, .int)] (va_A [(aM, .inr (9, [.int mth, .int msz, .ref aMt, .int mwi, .int mle, .int mgr, .int mpr, .int mhp, .int mtk, .ref aMk, .ref aMl, .ref aMd, .ref aMs, .int mbn, .ref aMb, .int mmd, .ref aMo, .int mep, .ref aMc, .ref aMn, .ref aMfk, .ref aMfl, .ref aMfd, .ref aMg, .ref aMm, .int mat, .int mer])), (aMt, .inl (cyI, 64, .inl mtx))] sz) (fun (u : Int32) => [(aM, .inr (9, [.int (u), .int msz, .ref aMt, .int mwi, .int mle, .int mgr, .int mpr, .int mhp, .int mtk, .ref aMk, .ref aMl, .ref aMd, .ref aMs, .int mbn, .ref aMb, .int mmd, .ref aMo, .int mep, .ref aMc, .ref aMn, .ref aMfk, .ref aMfl, .ref aMfd, .ref aMg, .ref aMm, .int mat, .int mer])), (aMt, .inl (cyI, 64, .inl mtx))])) (va_A [(aM, .inr (9, [.int mth, .int msz, .ref aMt, .int mwi, .int mle, .int mgr, .int mpr, .int mhp, .int mtk, .ref aMk, .ref aMl, .ref aMd, .ref aMs, .int mbn, .ref aMb, .int mmd, .ref aMo, .int mep, .ref aMc, .ref aMn, .ref aMfk, .ref aMfl, .ref aMfd, .ref aMg, .ref aMm, .int mat, .int mer])), (aMt, .inl (cyI, 64, .inl mtx))] sz)) 0 0 (va_A [(aM, .inr (9, [.int mth, .int msz, .ref aMt, .int mwi, .int mle, .int mgr, .int mpr, .int mhp, .int mtk, .ref aMk, .ref aMl, .ref aMd, .ref aMs, .int mbn, .ref aMb, .int mmd, .ref aMo, .int mep, .ref aMc, .ref aMn, .ref aMfk, .ref aMfl, .ref aMfd, .ref aMg, .ref aMm, .int mat, .int mer])), (aMt, .inl (cyI, 64, .inl mtx))] sz) := by
  refine Met.ofW (cc := cX10_byteAt) (maxL := 2) (ret := (some .int)) (by decide) rfl ?_
  intro p e s m args below meth c s₁ B hml hv
  obtain ⟨rfl, hsz, hP, hK, hD0⟩ := hv
  have hx := B.exec
  have hb := B.bytes
  have hr := B.returns
  have hts := atoms_spec (ws := wsX10_byteAt) B.pre
  have hown : s.vm.findClass RX10 = some m.cls := findClass_of_methodNamed B.named
  have hlocks := B.notSynchronized
  subst hsz
  have hD := hD0.self (sz := s.heap.size)
  generalize hAe : va_A [(aM, .inr (9, [.int mth, .int msz, .ref aMt, .int mwi, .int mle, .int mgr, .int mpr, .int mhp, .int mtk, .ref aMk, .ref aMl, .ref aMd, .ref aMs, .int mbn, .ref aMb, .int mmd, .ref aMo, .int mep, .ref aMc, .ref aMn, .ref aMfk, .ref aMfl, .ref aMfd, .ref aMg, .ref aMm, .int mat, .int mer])), (aMt, .inl (cyI, 64, .inl mtx))] s.heap.size = A at hD ⊢
  have hA : ∀ q : Nat, s.heap.size ≤ q → A q := fun q h => by rw [← hAe]; exact Or.inr h
  have hS : va_S A s.heap s.heap [] := va_S.rf
  have hP : va_P (dC, dI) vwCl [(aM, .inr (9, [.int mth, .int msz, .ref aMt, .int mwi, .int mle, .int mgr, .int mpr, .int mhp, .int mtk, .ref aMk, .ref aMl, .ref aMd, .ref aMs, .int mbn, .ref aMb, .int mmd, .ref aMo, .int mep, .ref aMc, .ref aMn, .ref aMfk, .ref aMfl, .ref aMfd, .ref aMg, .ref aMm, .int mat, .int mer])), (aMt, .inl (cyI, 64, .inl mtx))] s.heap := hP
  have hl := lv_entry ([.ref aM, .int v1]) (n := 2) (Nat.le_of_ble_eq_true rfl)
  rw [lg_entry_eq]
  generalize (lg_sl ([.ref aM, .int v1]) ++ List.replicate (2 - (lg_sl ([.ref aM, .int v1])).length) Slot.unset).toArray = ls at hl ⊢
  have hl : lv_has ls 2 [(0, .ref aM), (1, .int v1)] := hl
  have C0 : CallFix p m c cX10_byteAt 2 s ([.ref aM, .int v1] : List Value).toArray wsX10_byteAt RX10 := ⟨hx, hb, hml, hown, hts⟩
  unfold wpX10_byteAt at h
  refine lv_aload_n hx hb dX10_byteAt_0 rfl (lv_at hl 0 rfl) ?_
  refine lv_iconst (v := 0) hx hb dX10_byteAt_1 (by decide) ?_
  refine va_put (D := (dC, dI)) (ci := 9) (v := .int 0) (ty := .int) (C := RX10) (T := TX10) (N := 27) hx hb hts inX10_byteAt_wsX100 tyX10 tyX10_ok nmX10 hown hK hP hD hS 0 rfl rfl 0 (by decide) (hts _ qX10_byteAt_0) (fun _ h9 => h9) rfl (by decide +kernel) rfl rfl (Nat.le_of_ble_eq_true rfl) dX10_byteAt_2 (fun H locs hP hD hS => ?_)
  have hP : va_P (dC, dI) vwCl [(aM, .inr (9, [.int 0, .int msz, .ref aMt, .int mwi, .int mle, .int mgr, .int mpr, .int mhp, .int mtk, .ref aMk, .ref aMl, .ref aMd, .ref aMs, .int mbn, .ref aMb, .int mmd, .ref aMo, .int mep, .ref aMc, .ref aMn, .ref aMfk, .ref aMfl, .ref aMfd, .ref aMg, .ref aMm, .int mat, .int mer])), (aMt, .inl (cyI, 64, .inl mtx))] H := hP
  have hD : va_D A [(aM, .inr (9, [.int 0, .int msz, .ref aMt, .int mwi, .int mle, .int mgr, .int mpr, .int mhp, .int mtk, .ref aMk, .ref aMl, .ref aMd, .ref aMs, .int mbn, .ref aMb, .int mmd, .ref aMo, .int mep, .ref aMc, .ref aMn, .ref aMfk, .ref aMfl, .ref aMfd, .ref aMg, .ref aMm, .int mat, .int mer])), (aMt, .inl (cyI, 64, .inl mtx))] := hD
  refine lv_aload_n hx hb dX10_byteAt_5 rfl (lv_at hl 0 rfl) ?_
  refine lv_iload_n hx hb dX10_byteAt_6 rfl (lv_at hl 1 rfl) ?_
  refine wk_calli (wc := [(aM, .inr (9, [.int 0, .int msz, .ref aMt, .int mwi, .int mle, .int mgr, .int mpr, .int mhp, .int mtk, .ref aMk, .ref aMl, .ref aMd, .ref aMs, .int mbn, .ref aMb, .int mmd, .ref aMo, .int mep, .ref aMc, .ref aMn, .ref aMfk, .ref aMfl, .ref aMfd, .ref aMg, .ref aMm, .int mat, .int mer]))]) (wr := [(aMt, .inl (cyI, 64, .inl mtx))]) (va_runV (As := [.int v1]) (rest := []) C0 (mtX10_isPlace l dC dI cyI (aM := aM) (aMt := aMt) (aMk := aMk) (aMl := aMl) (aMd := aMd) (aMs := aMs) (aMb := aMb) (aMo := aMo) (aMc := aMc) (aMn := aMn) (aMfk := aMfk) (aMfl := aMfl) (aMfd := aMfd) (aMg := aMg) (aMm := aMm) (sz := _) (mth := 0) (msz := msz) (mwi := mwi) (mle := mle) (mgr := mgr) (mpr := mpr) (mhp := mhp) (mtk := mtk) (mbn := mbn) (mmd := mmd) (mep := mep) (mat := mat) (mer := mer) (v1 := v1) h) (cwV 1 hts gX10_byteAt_X10_isPlace rfl rfl rfl (by decide +kernel) ⟨(Nat.le_of_ble_eq_true rfl), (Nat.le_of_ble_eq_true rfl)⟩) (wk_preV (wc := [(aM, .inr (9, [.int 0, .int msz, .ref aMt, .int mwi, .int mle, .int mgr, .int mpr, .int mhp, .int mtk, .ref aMk, .ref aMl, .ref aMd, .ref aMs, .int mbn, .ref aMb, .int mmd, .ref aMo, .int mep, .ref aMc, .ref aMn, .ref aMfk, .ref aMfl, .ref aMfd, .ref aMg, .ref aMm, .int mat, .int mer]))]) hK hP hD [0] rfl (by decide) (va_recv hK hP (ci := 9) (q0 := 0) rfl rfl)) rfl rfl hl.1 rfl (lv_room (Nat.le_of_ble_eq_true rfl)) dX10_byteAt_7 ⟨(Nat.le_of_ble_eq_true rfl), (Nat.le_of_ble_eq_true rfl)⟩) hP hD hS hA [0] [1] rfl rfl (by decide) (by decide) (fun r_1 u9 H locs h hP hD hS => ?_)
  have hP : va_P (dC, dI) vwCl [(aMt, .inl (cyI, 64, .inl mtx)), (aM, .inr (9, [.int 0, .int msz, .ref aMt, .int mwi, .int mle, .int mgr, .int mpr, .int mhp, .int mtk, .ref aMk, .ref aMl, .ref aMd, .ref aMs, .int mbn, .ref aMb, .int mmd, .ref aMo, .int mep, .ref aMc, .ref aMn, .ref aMfk, .ref aMfl, .ref aMfd, .ref aMg, .ref aMm, .int mat, .int mer]))] H := hP
  have hD : va_D A [(aMt, .inl (cyI, 64, .inl mtx)), (aM, .inr (9, [.int 0, .int msz, .ref aMt, .int mwi, .int mle, .int mgr, .int mpr, .int mhp, .int mtk, .ref aMk, .ref aMl, .ref aMd, .ref aMs, .int mbn, .ref aMb, .int mmd, .ref aMo, .int mep, .ref aMc, .ref aMn, .ref aMfk, .ref aMfl, .ref aMfd, .ref aMg, .ref aMm, .int mat, .int mer]))] := hD
  refine lv_if_eq (tgt := 22) hx hb dX10_byteAt_10 (by decide) (fun c_2 => ?_) (fun c_2 => ?_)
  · replace h := h.1 c_2
    refine lv_aload_n hx hb dX10_byteAt_22 rfl (lv_at hl 0 rfl) ?_
    refine lv_iconst (v := 1) hx hb dX10_byteAt_23 (by decide) ?_
    refine wk_calli (wc := [(aM, .inr (9, [.int 0, .int msz, .ref aMt, .int mwi, .int mle, .int mgr, .int mpr, .int mhp, .int mtk, .ref aMk, .ref aMl, .ref aMd, .ref aMs, .int mbn, .ref aMb, .int mmd, .ref aMo, .int mep, .ref aMc, .ref aMn, .ref aMfk, .ref aMfl, .ref aMfd, .ref aMg, .ref aMm, .int mat, .int mer]))]) (wr := [(aMt, .inl (cyI, 64, .inl mtx))]) (va_runV (As := [.int 1]) (rest := []) C0 (mtX10_no l dC dI cyI (aM := aM) (aMt := aMt) (aMk := aMk) (aMl := aMl) (aMd := aMd) (aMs := aMs) (aMb := aMb) (aMo := aMo) (aMc := aMc) (aMn := aMn) (aMfk := aMfk) (aMfl := aMfl) (aMfd := aMfd) (aMg := aMg) (aMm := aMm) (sz := _) (mth := 0) (msz := msz) (mwi := mwi) (mle := mle) (mgr := mgr) (mpr := mpr) (mhp := mhp) (mtk := mtk) (mbn := mbn) (mmd := mmd) (mep := mep) (mat := mat) (mer := mer) (v1 := 1) h) (cwV 1 hts gX10_byteAt_X10_no rfl rfl rfl (by decide +kernel) ⟨(Nat.le_of_ble_eq_true rfl), (Nat.le_of_ble_eq_true rfl)⟩) (wk_preV (wc := [(aM, .inr (9, [.int 0, .int msz, .ref aMt, .int mwi, .int mle, .int mgr, .int mpr, .int mhp, .int mtk, .ref aMk, .ref aMl, .ref aMd, .ref aMs, .int mbn, .ref aMb, .int mmd, .ref aMo, .int mep, .ref aMc, .ref aMn, .ref aMfk, .ref aMfl, .ref aMfd, .ref aMg, .ref aMm, .int mat, .int mer]))]) hK hP hD [1] rfl (by decide) (va_recv hK hP (ci := 9) (q0 := 1) rfl rfl)) rfl rfl hl.1 rfl (lv_room (Nat.le_of_ble_eq_true rfl)) dX10_byteAt_24 ⟨(Nat.le_of_ble_eq_true rfl), (Nat.le_of_ble_eq_true rfl)⟩) hP hD hS hA [1] [0] rfl rfl (by decide) (by decide) (fun r_3 u9 H locs h hP hD hS => ?_)
    obtain ⟨mth_4, rfl⟩ : ∃ z9, z9 = u9 := ⟨_, rfl⟩
    have hP : va_P (dC, dI) vwCl [(aMt, .inl (cyI, 64, .inl mtx)), (aM, .inr (9, [.int mth_4, .int msz, .ref aMt, .int mwi, .int mle, .int mgr, .int mpr, .int mhp, .int mtk, .ref aMk, .ref aMl, .ref aMd, .ref aMs, .int mbn, .ref aMb, .int mmd, .ref aMo, .int mep, .ref aMc, .ref aMn, .ref aMfk, .ref aMfl, .ref aMfd, .ref aMg, .ref aMm, .int mat, .int mer]))] H := hP
    have hD : va_D A [(aMt, .inl (cyI, 64, .inl mtx)), (aM, .inr (9, [.int mth_4, .int msz, .ref aMt, .int mwi, .int mle, .int mgr, .int mpr, .int mhp, .int mtk, .ref aMk, .ref aMl, .ref aMd, .ref aMs, .int mbn, .ref aMb, .int mmd, .ref aMo, .int mep, .ref aMc, .ref aMn, .ref aMfk, .ref aMfl, .ref aMfd, .ref aMg, .ref aMm, .int mat, .int mer]))] := hD
    have hP9 : va_P (dC, dI) vwCl [(aM, .inr (9, [.int mth_4, .int msz, .ref aMt, .int mwi, .int mle, .int mgr, .int mpr, .int mhp, .int mtk, .ref aMk, .ref aMl, .ref aMd, .ref aMs, .int mbn, .ref aMb, .int mmd, .ref aMo, .int mep, .ref aMc, .ref aMn, .ref aMfk, .ref aMfl, .ref aMfd, .ref aMg, .ref aMm, .int mat, .int mer])), (aMt, .inl (cyI, 64, .inl mtx))] _ := (hP.sub [1, 0] rfl)
    have hD9 : va_D A [(aM, .inr (9, [.int mth_4, .int msz, .ref aMt, .int mwi, .int mle, .int mgr, .int mpr, .int mhp, .int mtk, .ref aMk, .ref aMl, .ref aMd, .ref aMs, .int mbn, .ref aMb, .int mmd, .ref aMo, .int mep, .ref aMc, .ref aMn, .ref aMfk, .ref aMfl, .ref aMfd, .ref aMg, .ref aMm, .int mat, .int mer])), (aMt, .inl (cyI, 64, .inl mtx))] := (hD.sub [1, 0] (by decide) rfl)
    exact W.iret (v := r_3) hx hb hr (fun t ht hW => ⟨⟨r_3, mth_4, rfl, h, by rw [ht]; exact hP9, va_K.moved hW.alike hK, hD9⟩, hS.F ht⟩) hS.2.2 dX10_byteAt_27
  · replace h := h.2 c_2
    refine lv_aload_n hx hb dX10_byteAt_13 rfl (lv_at hl 0 rfl) ?_
    refine va_get (D := (dC, dI)) (ci := 9) (v := .ref aMt) (C := RX10) (T := TX10) (N := 27) hx hb hts inX10_byteAt_wsX100 hown hK hP 1 rfl rfl 2 (by decide) (hts _ qX10_byteAt_1) (fun _ h9 => h9) rfl dX10_byteAt_14 ?_
    refine lv_iload_n hx hb dX10_byteAt_17 rfl (lv_at hl 1 rfl) ?_
    obtain ⟨hi_5, h⟩ := h
    refine va_iald hx hb hK hP 0 0 rfl rfl hi_5 dX10_byteAt_18 ?_
    refine lv_goto (tgt := 27) hx hb dX10_byteAt_19 (by decide) ?_
    have hP9 : va_P (dC, dI) vwCl [(aM, .inr (9, [.int 0, .int msz, .ref aMt, .int mwi, .int mle, .int mgr, .int mpr, .int mhp, .int mtk, .ref aMk, .ref aMl, .ref aMd, .ref aMs, .int mbn, .ref aMb, .int mmd, .ref aMo, .int mep, .ref aMc, .ref aMn, .ref aMfk, .ref aMfl, .ref aMfd, .ref aMg, .ref aMm, .int mat, .int mer])), (aMt, .inl (cyI, 64, .inl mtx))] _ := (hP.sub [1, 0] rfl)
    have hD9 : va_D A [(aM, .inr (9, [.int 0, .int msz, .ref aMt, .int mwi, .int mle, .int mgr, .int mpr, .int mhp, .int mtk, .ref aMk, .ref aMl, .ref aMd, .ref aMs, .int mbn, .ref aMb, .int mmd, .ref aMo, .int mep, .ref aMc, .ref aMn, .ref aMfk, .ref aMfl, .ref aMfd, .ref aMg, .ref aMm, .int mat, .int mer])), (aMt, .inl (cyI, 64, .inl mtx))] := (hD.sub [1, 0] (by decide) rfl)
    exact W.iret (v := mtx v1.toNatClampNeg) hx hb hr (fun t ht hW => ⟨⟨mtx v1.toNatClampNeg, 0, rfl, h, by rw [ht]; exact hP9, va_K.moved hW.alike hK, hD9⟩, hS.F ht⟩) hS.2.2 dX10_byteAt_27
-- X10_setWindow
theorem qX10_setWindow_0 : Cond.fieldLink RX10 65 "MatchCoderModel" "thrown" "I" ∈ wsX10_setWindow := (List.mem_cons_of_mem _ (List.mem_append_left _ (List.mem_of_getElem? (i := 0) rfl)))
theorem qX10_setWindow_1 : Cond.fieldLink RX10 13 "MatchCoderModel" "window" "I" ∈ wsX10_setWindow := (List.mem_cons_of_mem _ (List.mem_append_left _ (List.mem_of_getElem? (i := 1) rfl)))
theorem qX10_setWindow_2 : Cond.fieldLink RX10 81 "MatchCoderModel" "hasPlan" "Z" ∈ wsX10_setWindow := (List.mem_cons_of_mem _ (List.mem_append_left _ (List.mem_of_getElem? (i := 2) rfl)))
theorem inX10_setWindow_wsX100 : ∀ w ∈ wsX100, w ∈ wsX10_setWindow := fun _ h => List.mem_cons_of_mem _ (List.mem_append_right _ h)
def wpX10_setWindow (mwi : Int32) (mhp : Int32) (v1 : Int32) (post : Int32 → Int32 → Int32 → Int32 → Prop) : Prop := wpX10_isIn v1 1 64 (fun (r_1 : Int32) => (r_1 = 0 → (wpX10_no 1 (fun (r_3 : Int32) (mth_4 : Int32) => post r_3 mth_4 mwi mhp))) ∧ (¬ r_1 = 0 → (post mwi 0 v1 0)))
set_option maxHeartbeats 4000000 in
set_option maxRecDepth 100000 in
theorem mtX10_setWindow (l : Launch) (dC : Nat → ClassId) (dI : Nat → Nat → Nat) (cyI : ClassId) {aM aMt aMk aMl aMd aMs aMb aMo aMc aMn aMfk aMfl aMfd aMg aMm : Nat} {sz : Nat} {mth : Int32} {msz : Int32} {mwi : Int32} {mle : Int32} {mgr : Int32} {mpr : Int32} {mhp : Int32} {mtk : Int32} {mbn : Int32} {mmd : Int32} {mep : Int32} {mat : Int32} {mer : Int32} {v1 : Int32} {post : Int32 → Int32 → Int32 → Int32 → Prop} (h : wpX10_setWindow mwi mhp v1 post) : Met l yX10_setWindow wsX10_setWindow ({ frames := 1, cells := 0, slots := 0, locals := 22 }) (va_Pc [.ref aM, .int v1] (wk_B (dC, dI) [(cyI, .int)] [(aM, .inr (9, [.int mth, .int msz, .ref aMt, .int mwi, .int mle, .int mgr, .int mpr, .int mhp, .int mtk, .ref aMk, .ref aMl, .ref aMd, .ref aMs, .int mbn, .ref aMb, .int mmd, .ref aMo, .int mep, .ref aMc, .ref aMn, .ref aMfk, .ref aMfl, .ref aMfd, .ref aMg, .ref aMm, .int mat, .int mer]))] sz)) (va_Qi (fun (r : Int32) (u : Int32 × Int32 × Int32) => post r u.1 u.2.1 u.2.2) (wk_C (dC, dI) [(cyI, .int)] (va_A [(aM, .inr (9, [.int mth, .int msz, .ref aMt, .int mwi, .int mle, .int mgr, .int mpr, .int mhp, .int mtk, .ref aMk, .ref aMl, .ref aMd, .ref aMs, .int mbn, .ref aMb, .int mmd, .ref aMo, .int mep, .ref aMc, .ref aMn, .ref aMfk, .ref aMfl, .ref aMfd, .ref aMg, .ref aMm, .int mat, .int mer]))] sz) (fun (u : Int32 × Int32 × Int32) => [(aM, .inr (9, [.int (u.1), .int msz, .ref aMt, .int (u.2.1), .int mle, .int mgr, .int mpr, .int (u.2.2), .int mtk, .ref aMk, .ref aMl, .ref aMd, .ref aMs, .int mbn, .ref aMb, .int mmd, .ref aMo, .int mep, .ref aMc, .ref aMn, .ref aMfk, .ref aMfl, .ref aMfd, .ref aMg, .ref aMm, .int mat, .int mer]))])) (va_A [(aM, .inr (9, [.int mth, .int msz, .ref aMt, .int mwi, .int mle, .int mgr, .int mpr, .int mhp, .int mtk, .ref aMk, .ref aMl, .ref aMd, .ref aMs, .int mbn, .ref aMb, .int mmd, .ref aMo, .int mep, .ref aMc, .ref aMn, .ref aMfk, .ref aMfl, .ref aMfd, .ref aMg, .ref aMm, .int mat, .int mer]))] sz)) 0 0 (va_A [(aM, .inr (9, [.int mth, .int msz, .ref aMt, .int mwi, .int mle, .int mgr, .int mpr, .int mhp, .int mtk, .ref aMk, .ref aMl, .ref aMd, .ref aMs, .int mbn, .ref aMb, .int mmd, .ref aMo, .int mep, .ref aMc, .ref aMn, .ref aMfk, .ref aMfl, .ref aMfd, .ref aMg, .ref aMm, .int mat, .int mer]))] sz) := by
  refine Met.ofW (cc := cX10_setWindow) (maxL := 3) (ret := (some .int)) (by decide) rfl ?_
  intro p e s m args below meth c s₁ B hml hv
  obtain ⟨rfl, hsz, hP, hK, hD0⟩ := hv
  have hx := B.exec
  have hb := B.bytes
  have hr := B.returns
  have hts := atoms_spec (ws := wsX10_setWindow) B.pre
  have hown : s.vm.findClass RX10 = some m.cls := findClass_of_methodNamed B.named
  have hlocks := B.notSynchronized
  subst hsz
  have hD := hD0.self (sz := s.heap.size)
  generalize hAe : va_A [(aM, .inr (9, [.int mth, .int msz, .ref aMt, .int mwi, .int mle, .int mgr, .int mpr, .int mhp, .int mtk, .ref aMk, .ref aMl, .ref aMd, .ref aMs, .int mbn, .ref aMb, .int mmd, .ref aMo, .int mep, .ref aMc, .ref aMn, .ref aMfk, .ref aMfl, .ref aMfd, .ref aMg, .ref aMm, .int mat, .int mer]))] s.heap.size = A at hD ⊢
  have hA : ∀ q : Nat, s.heap.size ≤ q → A q := fun q h => by rw [← hAe]; exact Or.inr h
  have hS : va_S A s.heap s.heap [] := va_S.rf
  have hP : va_P (dC, dI) vwCl [(aM, .inr (9, [.int mth, .int msz, .ref aMt, .int mwi, .int mle, .int mgr, .int mpr, .int mhp, .int mtk, .ref aMk, .ref aMl, .ref aMd, .ref aMs, .int mbn, .ref aMb, .int mmd, .ref aMo, .int mep, .ref aMc, .ref aMn, .ref aMfk, .ref aMfl, .ref aMfd, .ref aMg, .ref aMm, .int mat, .int mer]))] s.heap := hP
  have hl := lv_entry ([.ref aM, .int v1]) (n := 3) (Nat.le_of_ble_eq_true rfl)
  rw [lg_entry_eq]
  generalize (lg_sl ([.ref aM, .int v1]) ++ List.replicate (3 - (lg_sl ([.ref aM, .int v1])).length) Slot.unset).toArray = ls at hl ⊢
  have hl : lv_has ls 3 [(0, .ref aM), (1, .int v1)] := hl
  have C0 : CallFix p m c cX10_setWindow 3 s ([.ref aM, .int v1] : List Value).toArray wsX10_setWindow RX10 := ⟨hx, hb, hml, hown, hts⟩
  unfold wpX10_setWindow at h
  refine lv_aload_n hx hb dX10_setWindow_0 rfl (lv_at hl 0 rfl) ?_
  refine lv_iconst (v := 0) hx hb dX10_setWindow_1 (by decide) ?_
  refine va_put (D := (dC, dI)) (ci := 9) (v := .int 0) (ty := .int) (C := RX10) (T := TX10) (N := 27) hx hb hts inX10_setWindow_wsX100 tyX10 tyX10_ok nmX10 hown hK hP hD hS 0 rfl rfl 0 (by decide) (hts _ qX10_setWindow_0) (fun _ h9 => h9) rfl (by decide +kernel) rfl rfl (Nat.le_of_ble_eq_true rfl) dX10_setWindow_2 (fun H locs hP hD hS => ?_)
  have hP : va_P (dC, dI) vwCl [(aM, .inr (9, [.int 0, .int msz, .ref aMt, .int mwi, .int mle, .int mgr, .int mpr, .int mhp, .int mtk, .ref aMk, .ref aMl, .ref aMd, .ref aMs, .int mbn, .ref aMb, .int mmd, .ref aMo, .int mep, .ref aMc, .ref aMn, .ref aMfk, .ref aMfl, .ref aMfd, .ref aMg, .ref aMm, .int mat, .int mer]))] H := hP
  have hD : va_D A [(aM, .inr (9, [.int 0, .int msz, .ref aMt, .int mwi, .int mle, .int mgr, .int mpr, .int mhp, .int mtk, .ref aMk, .ref aMl, .ref aMd, .ref aMs, .int mbn, .ref aMb, .int mmd, .ref aMo, .int mep, .ref aMc, .ref aMn, .ref aMfk, .ref aMfl, .ref aMfd, .ref aMg, .ref aMm, .int mat, .int mer]))] := hD
  refine lv_iload_n hx hb dX10_setWindow_5 rfl (lv_at hl 1 rfl) ?_
  refine lv_iconst (v := 1) hx hb dX10_setWindow_6 (by decide) ?_
  refine lv_bipush (v := 64) hx hb dX10_setWindow_7 (by decide) ?_
  refine wk_calli (wc := []) (wr := [(aM, .inr (9, [.int 0, .int msz, .ref aMt, .int mwi, .int mle, .int mgr, .int mpr, .int mhp, .int mtk, .ref aMk, .ref aMl, .ref aMd, .ref aMs, .int mbn, .ref aMb, .int mmd, .ref aMo, .int mep, .ref aMc, .ref aMn, .ref aMfk, .ref aMfl, .ref aMfd, .ref aMg, .ref aMm, .int mat, .int mer]))]) (va_runS (As := [.int v1, .int 1, .int 64]) (rest := []) C0 (mtX10_isIn l dC dI cyI (sz := _) (v0 := v1) (v1 := 1) (v2 := 64) h) (va_cwS 3 hts gX10_setWindow_X10_isIn rfl rfl rfl (by decide +kernel) ⟨(Nat.le_of_ble_eq_true rfl), (Nat.le_of_ble_eq_true rfl)⟩) (wk_preS (wc := []) hK hP hD [] rfl (by decide)) rfl rfl hl.1 rfl (lv_room (Nat.le_of_ble_eq_true rfl)) dX10_setWindow_9 ⟨(Nat.le_of_ble_eq_true rfl), (Nat.le_of_ble_eq_true rfl)⟩) hP hD hS hA [] [0] rfl rfl (by decide) (by decide) (fun r_1 u9 H locs h hP hD hS => ?_)
  have hP : va_P (dC, dI) vwCl [(aM, .inr (9, [.int 0, .int msz, .ref aMt, .int mwi, .int mle, .int mgr, .int mpr, .int mhp, .int mtk, .ref aMk, .ref aMl, .ref aMd, .ref aMs, .int mbn, .ref aMb, .int mmd, .ref aMo, .int mep, .ref aMc, .ref aMn, .ref aMfk, .ref aMfl, .ref aMfd, .ref aMg, .ref aMm, .int mat, .int mer]))] H := hP
  have hD : va_D A [(aM, .inr (9, [.int 0, .int msz, .ref aMt, .int mwi, .int mle, .int mgr, .int mpr, .int mhp, .int mtk, .ref aMk, .ref aMl, .ref aMd, .ref aMs, .int mbn, .ref aMb, .int mmd, .ref aMo, .int mep, .ref aMc, .ref aMn, .ref aMfk, .ref aMfl, .ref aMfd, .ref aMg, .ref aMm, .int mat, .int mer]))] := hD
  refine lv_if_ne (tgt := 21) hx hb dX10_setWindow_12 (by decide) (fun c_2 => ?_) (fun c_2 => ?_)
  · replace h := h.2 c_2
    refine lv_aload_n hx hb dX10_setWindow_21 rfl (lv_at hl 0 rfl) ?_
    refine va_get (D := (dC, dI)) (ci := 9) (v := .int mwi) (C := RX10) (T := TX10) (N := 27) hx hb hts inX10_setWindow_wsX100 hown hK hP 0 rfl rfl 3 (by decide) (hts _ qX10_setWindow_1) (fun _ h9 => h9) rfl dX10_setWindow_22 ?_
    refine lv_istore_n (lv' := [(2, .int mwi), (0, .ref aM), (1, .int v1)]) hx hb dX10_setWindow_25 rfl hl (by decide) rfl (fun ls hl => ?_)
    refine lv_aload_n hx hb dX10_setWindow_26 rfl (lv_at hl 1 rfl) ?_
    refine lv_iload_n hx hb dX10_setWindow_27 rfl (lv_at hl 2 rfl) ?_
    refine va_put (D := (dC, dI)) (ci := 9) (v := .int v1) (ty := .int) (C := RX10) (T := TX10) (N := 27) hx hb hts inX10_setWindow_wsX100 tyX10 tyX10_ok nmX10 hown hK hP hD hS 0 rfl rfl 3 (by decide) (hts _ qX10_setWindow_1) (fun _ h9 => h9) rfl (by decide +kernel) rfl rfl (Nat.le_of_ble_eq_true rfl) dX10_setWindow_28 (fun H locs hP hD hS => ?_)
    have hP : va_P (dC, dI) vwCl [(aM, .inr (9, [.int 0, .int msz, .ref aMt, .int v1, .int mle, .int mgr, .int mpr, .int mhp, .int mtk, .ref aMk, .ref aMl, .ref aMd, .ref aMs, .int mbn, .ref aMb, .int mmd, .ref aMo, .int mep, .ref aMc, .ref aMn, .ref aMfk, .ref aMfl, .ref aMfd, .ref aMg, .ref aMm, .int mat, .int mer]))] H := hP
    have hD : va_D A [(aM, .inr (9, [.int 0, .int msz, .ref aMt, .int v1, .int mle, .int mgr, .int mpr, .int mhp, .int mtk, .ref aMk, .ref aMl, .ref aMd, .ref aMs, .int mbn, .ref aMb, .int mmd, .ref aMo, .int mep, .ref aMc, .ref aMn, .ref aMfk, .ref aMfl, .ref aMfd, .ref aMg, .ref aMm, .int mat, .int mer]))] := hD
    refine lv_aload_n hx hb dX10_setWindow_31 rfl (lv_at hl 1 rfl) ?_
    refine lv_iconst (v := 0) hx hb dX10_setWindow_32 (by decide) ?_
    refine va_put (D := (dC, dI)) (ci := 9) (v := .int 0) (ty := .boolean) (C := RX10) (T := TX10) (N := 27) hx hb hts inX10_setWindow_wsX100 tyX10 tyX10_ok nmX10 hown hK hP hD hS 0 rfl rfl 7 (by decide) (hts _ qX10_setWindow_2) (fun _ h9 => h9) rfl (by decide +kernel) rfl rfl (Nat.le_of_ble_eq_true rfl) dX10_setWindow_33 (fun H locs hP hD hS => ?_)
    have hP : va_P (dC, dI) vwCl [(aM, .inr (9, [.int 0, .int msz, .ref aMt, .int v1, .int mle, .int mgr, .int mpr, .int 0, .int mtk, .ref aMk, .ref aMl, .ref aMd, .ref aMs, .int mbn, .ref aMb, .int mmd, .ref aMo, .int mep, .ref aMc, .ref aMn, .ref aMfk, .ref aMfl, .ref aMfd, .ref aMg, .ref aMm, .int mat, .int mer]))] H := hP
    have hD : va_D A [(aM, .inr (9, [.int 0, .int msz, .ref aMt, .int v1, .int mle, .int mgr, .int mpr, .int 0, .int mtk, .ref aMk, .ref aMl, .ref aMd, .ref aMs, .int mbn, .ref aMb, .int mmd, .ref aMo, .int mep, .ref aMc, .ref aMn, .ref aMfk, .ref aMfl, .ref aMfd, .ref aMg, .ref aMm, .int mat, .int mer]))] := hD
    refine lv_iload_n hx hb dX10_setWindow_36 rfl (lv_at hl 0 rfl) ?_
    have hP9 : va_P (dC, dI) vwCl [(aM, .inr (9, [.int 0, .int msz, .ref aMt, .int v1, .int mle, .int mgr, .int mpr, .int 0, .int mtk, .ref aMk, .ref aMl, .ref aMd, .ref aMs, .int mbn, .ref aMb, .int mmd, .ref aMo, .int mep, .ref aMc, .ref aMn, .ref aMfk, .ref aMfl, .ref aMfd, .ref aMg, .ref aMm, .int mat, .int mer]))] _ := hP
    have hD9 : va_D A [(aM, .inr (9, [.int 0, .int msz, .ref aMt, .int v1, .int mle, .int mgr, .int mpr, .int 0, .int mtk, .ref aMk, .ref aMl, .ref aMd, .ref aMs, .int mbn, .ref aMb, .int mmd, .ref aMo, .int mep, .ref aMc, .ref aMn, .ref aMfk, .ref aMfl, .ref aMfd, .ref aMg, .ref aMm, .int mat, .int mer]))] := hD
    exact W.iret (v := mwi) hx hb hr (fun t ht hW => ⟨⟨mwi, (0, v1, 0), rfl, h, by rw [ht]; exact hP9, va_K.moved hW.alike hK, hD9⟩, hS.F ht⟩) hS.2.2 dX10_setWindow_37
  · replace h := h.1 c_2
    refine lv_aload_n hx hb dX10_setWindow_15 rfl (lv_at hl 0 rfl) ?_
    refine lv_iconst (v := 1) hx hb dX10_setWindow_16 (by decide) ?_
    refine wk_calli (wc := [(aM, .inr (9, [.int 0, .int msz, .ref aMt, .int mwi, .int mle, .int mgr, .int mpr, .int mhp, .int mtk, .ref aMk, .ref aMl, .ref aMd, .ref aMs, .int mbn, .ref aMb, .int mmd, .ref aMo, .int mep, .ref aMc, .ref aMn, .ref aMfk, .ref aMfl, .ref aMfd, .ref aMg, .ref aMm, .int mat, .int mer]))]) (wr := []) (va_runV (As := [.int 1]) (rest := []) C0 (mtX10_no l dC dI cyI (aM := aM) (aMt := aMt) (aMk := aMk) (aMl := aMl) (aMd := aMd) (aMs := aMs) (aMb := aMb) (aMo := aMo) (aMc := aMc) (aMn := aMn) (aMfk := aMfk) (aMfl := aMfl) (aMfd := aMfd) (aMg := aMg) (aMm := aMm) (sz := _) (mth := 0) (msz := msz) (mwi := mwi) (mle := mle) (mgr := mgr) (mpr := mpr) (mhp := mhp) (mtk := mtk) (mbn := mbn) (mmd := mmd) (mep := mep) (mat := mat) (mer := mer) (v1 := 1) h) (cwV 1 hts gX10_setWindow_X10_no rfl rfl rfl (by decide +kernel) ⟨(Nat.le_of_ble_eq_true rfl), (Nat.le_of_ble_eq_true rfl)⟩) (wk_preV (wc := [(aM, .inr (9, [.int 0, .int msz, .ref aMt, .int mwi, .int mle, .int mgr, .int mpr, .int mhp, .int mtk, .ref aMk, .ref aMl, .ref aMd, .ref aMs, .int mbn, .ref aMb, .int mmd, .ref aMo, .int mep, .ref aMc, .ref aMn, .ref aMfk, .ref aMfl, .ref aMfd, .ref aMg, .ref aMm, .int mat, .int mer]))]) hK hP hD [0] rfl (by decide) (va_recv hK hP (ci := 9) (q0 := 0) rfl rfl)) rfl rfl hl.1 rfl (lv_room (Nat.le_of_ble_eq_true rfl)) dX10_setWindow_17 ⟨(Nat.le_of_ble_eq_true rfl), (Nat.le_of_ble_eq_true rfl)⟩) hP hD hS hA [0] [] rfl rfl (by decide) (by decide) (fun r_3 u9 H locs h hP hD hS => ?_)
    obtain ⟨mth_4, rfl⟩ : ∃ z9, z9 = u9 := ⟨_, rfl⟩
    have hP : va_P (dC, dI) vwCl [(aM, .inr (9, [.int mth_4, .int msz, .ref aMt, .int mwi, .int mle, .int mgr, .int mpr, .int mhp, .int mtk, .ref aMk, .ref aMl, .ref aMd, .ref aMs, .int mbn, .ref aMb, .int mmd, .ref aMo, .int mep, .ref aMc, .ref aMn, .ref aMfk, .ref aMfl, .ref aMfd, .ref aMg, .ref aMm, .int mat, .int mer]))] H := hP
    have hD : va_D A [(aM, .inr (9, [.int mth_4, .int msz, .ref aMt, .int mwi, .int mle, .int mgr, .int mpr, .int mhp, .int mtk, .ref aMk, .ref aMl, .ref aMd, .ref aMs, .int mbn, .ref aMb, .int mmd, .ref aMo, .int mep, .ref aMc, .ref aMn, .ref aMfk, .ref aMfl, .ref aMfd, .ref aMg, .ref aMm, .int mat, .int mer]))] := hD
    have hP9 : va_P (dC, dI) vwCl [(aM, .inr (9, [.int mth_4, .int msz, .ref aMt, .int mwi, .int mle, .int mgr, .int mpr, .int mhp, .int mtk, .ref aMk, .ref aMl, .ref aMd, .ref aMs, .int mbn, .ref aMb, .int mmd, .ref aMo, .int mep, .ref aMc, .ref aMn, .ref aMfk, .ref aMfl, .ref aMfd, .ref aMg, .ref aMm, .int mat, .int mer]))] _ := hP
    have hD9 : va_D A [(aM, .inr (9, [.int mth_4, .int msz, .ref aMt, .int mwi, .int mle, .int mgr, .int mpr, .int mhp, .int mtk, .ref aMk, .ref aMl, .ref aMd, .ref aMs, .int mbn, .ref aMb, .int mmd, .ref aMo, .int mep, .ref aMc, .ref aMn, .ref aMfk, .ref aMfl, .ref aMfd, .ref aMg, .ref aMm, .int mat, .int mer]))] := hD
    exact W.iret (v := r_3) hx hb hr (fun t ht hW => ⟨⟨r_3, (mth_4, mwi, mhp), rfl, h, by rw [ht]; exact hP9, va_K.moved hW.alike hK, hD9⟩, hS.F ht⟩) hS.2.2 dX10_setWindow_20
-- X10_setLengths
theorem qX10_setLengths_0 : Cond.fieldLink RX10 65 "MatchCoderModel" "thrown" "I" ∈ wsX10_setLengths := (List.mem_cons_of_mem _ (List.mem_append_left _ (List.mem_of_getElem? (i := 0) rfl)))
theorem qX10_setLengths_1 : Cond.fieldLink RX10 17 "MatchCoderModel" "least" "I" ∈ wsX10_setLengths := (List.mem_cons_of_mem _ (List.mem_append_left _ (List.mem_of_getElem? (i := 1) rfl)))
theorem qX10_setLengths_2 : Cond.fieldLink RX10 20 "MatchCoderModel" "greatest" "I" ∈ wsX10_setLengths := (List.mem_cons_of_mem _ (List.mem_append_left _ (List.mem_of_getElem? (i := 2) rfl)))
theorem qX10_setLengths_3 : Cond.fieldLink RX10 81 "MatchCoderModel" "hasPlan" "Z" ∈ wsX10_setLengths := (List.mem_cons_of_mem _ (List.mem_append_left _ (List.mem_of_getElem? (i := 3) rfl)))
theorem inX10_setLengths_wsX100 : ∀ w ∈ wsX100, w ∈ wsX10_setLengths := fun _ h => List.mem_cons_of_mem _ (List.mem_append_right _ h)
def wpX10_setLengths_31 (v1 : Int32) (v2 : Int32) (k0 : Int32) (mle : Int32) (mgr : Int32) (mhp : Int32) (post : Int32 → Int32 → Int32 → Int32 → Int32 → Prop) : Prop := (k0 = 0 → ((mle = v1 → ((mgr = v2 → (post 0 k0 v1 v2 0)) ∧ (¬ mgr = v2 → (post 1 k0 v1 v2 0)))) ∧ (¬ mle = v1 → (post 1 k0 v1 v2 0)))) ∧ (¬ k0 = 0 → (post 0 k0 mle mgr mhp))
set_option maxHeartbeats 4000000 in
set_option maxRecDepth 100000 in
theorem wjX10_setLengths_31 {p : Program} {l : Launch} {e : Env} {s : State} {m : MethodId} {args : Array Value} {below : List Frame} {meth : Method} {c : Code} {A : Nat → Prop} {Q : State → Prop} {dC : Nat → ClassId} {dI : Nat → Nat → Nat} {cyI : ClassId} {aM aMt aMk aMl aMd aMs aMb aMo aMc aMn aMfk aMfl aMfd aMg aMm : Nat} {v1 : Int32} {v2 : Int32} {k0 : Int32} {mth : Int32} {msz : Int32} {mwi : Int32} {mle : Int32} {mgr : Int32} {mpr : Int32} {mhp : Int32} {mtk : Int32} {mbn : Int32} {mmd : Int32} {mep : Int32} {mat : Int32} {mer : Int32} {post : Int32 → Int32 → Int32 → Int32 → Int32 → Prop} (C0 : CallFix p m c cX10_setLengths 4 s args wsX10_setLengths RX10) (hA : ∀ q : Nat, s.heap.size ≤ q → A q) (hK : va_K (dC, dI) vwCl [(cyI, .int)] s) (h : wpX10_setLengths_31 v1 v2 k0 mle mgr mhp post) (H : Heap) (locs : List Loc) (ls : Array Slot) (hP : va_P (dC, dI) vwCl [(aM, .inr (9, [.int mth, .int msz, .ref aMt, .int mwi, .int mle, .int mgr, .int mpr, .int mhp, .int mtk, .ref aMk, .ref aMl, .ref aMd, .ref aMs, .int mbn, .ref aMb, .int mmd, .ref aMo, .int mep, .ref aMc, .ref aMn, .ref aMfk, .ref aMfl, .ref aMfd, .ref aMg, .ref aMm, .int mat, .int mer]))] H) (hD : va_D A [(aM, .inr (9, [.int mth, .int msz, .ref aMt, .int mwi, .int mle, .int mgr, .int mpr, .int mhp, .int mtk, .ref aMk, .ref aMl, .ref aMd, .ref aMs, .int mbn, .ref aMb, .int mmd, .ref aMo, .int mep, .ref aMc, .ref aMn, .ref aMfk, .ref aMfl, .ref aMfd, .ref aMg, .ref aMm, .int mat, .int mer]))]) (hS : va_S A s.heap H locs) (hl : lv_has ls 4 [(0, .ref aM), (1, .int v1), (2, .int v2)]) (hR42 : ∀ (r9 : Int32) (mth9 : Int32) (mle9 : Int32) (mgr9 : Int32) (mhp9 : Int32), nb9 r9 → post r9 mth9 mle9 mgr9 mhp9 → ∀ (H : Heap) (locs : List Loc) (ls : Array Slot), va_P (dC, dI) vwCl [(aM, .inr (9, [.int mth9, .int msz, .ref aMt, .int mwi, .int mle9, .int mgr9, .int mpr, .int mhp9, .int mtk, .ref aMk, .ref aMl, .ref aMd, .ref aMs, .int mbn, .ref aMb, .int mmd, .ref aMo, .int mep, .ref aMc, .ref aMn, .ref aMfk, .ref aMfl, .ref aMfd, .ref aMg, .ref aMm, .int mat, .int mer]))] H → va_D A [(aM, .inr (9, [.int mth9, .int msz, .ref aMt, .int mwi, .int mle9, .int mgr9, .int mpr, .int mhp9, .int mtk, .ref aMk, .ref aMl, .ref aMd, .ref aMs, .int mbn, .ref aMb, .int mmd, .ref aMo, .int mep, .ref aMc, .ref aMn, .ref aMfk, .ref aMfl, .ref aMfd, .ref aMg, .ref aMm, .int mat, .int mer]))] → va_S A s.heap H locs → W p l e ({ frames := 1, cells := 0, slots := 0, locals := 22 } : Room) s m args below meth c H locs 0 0 Q (F0 m 42 ls [.int r9])) (hR81 : ∀ (r9 : Int32) (mth9 : Int32) (mle9 : Int32) (mgr9 : Int32) (mhp9 : Int32), nb9 r9 → post r9 mth9 mle9 mgr9 mhp9 → ∀ (H : Heap) (locs : List Loc) (ls : Array Slot), va_P (dC, dI) vwCl [(aM, .inr (9, [.int mth9, .int msz, .ref aMt, .int mwi, .int mle9, .int mgr9, .int mpr, .int mhp9, .int mtk, .ref aMk, .ref aMl, .ref aMd, .ref aMs, .int mbn, .ref aMb, .int mmd, .ref aMo, .int mep, .ref aMc, .ref aMn, .ref aMfk, .ref aMfl, .ref aMfd, .ref aMg, .ref aMm, .int mat, .int mer]))] H → va_D A [(aM, .inr (9, [.int mth9, .int msz, .ref aMt, .int mwi, .int mle9, .int mgr9, .int mpr, .int mhp9, .int mtk, .ref aMk, .ref aMl, .ref aMd, .ref aMs, .int mbn, .ref aMb, .int mmd, .ref aMo, .int mep, .ref aMc, .ref aMn, .ref aMfk, .ref aMfl, .ref aMfd, .ref aMg, .ref aMm, .int mat, .int mer]))] → va_S A s.heap H locs → W p l e ({ frames := 1, cells := 0, slots := 0, locals := 22 } : Room) s m args below meth c H locs 0 0 Q (F0 m 81 ls [.int r9])) : W p l e ({ frames := 1, cells := 0, slots := 0, locals := 22 } : Room) s m args below meth c H locs 0 0 Q (F0 m 31 ls [.int k0, .ref aM]) := by
  obtain ⟨hx, hb, hml, hown, hts⟩ := id C0
  unfold wpX10_setLengths_31 at h
  refine va_put (D := (dC, dI)) (ci := 9) (v := .int k0) (ty := .int) (C := RX10) (T := TX10) (N := 27) hx hb hts inX10_setLengths_wsX100 tyX10 tyX10_ok nmX10 hown hK hP hD hS 0 rfl rfl 0 (by decide) (hts _ qX10_setLengths_0) (fun _ h9 => h9) rfl (by decide +kernel) rfl rfl (Nat.le_of_ble_eq_true rfl) dX10_setLengths_31 (fun H locs hP hD hS => ?_)
  have hP : va_P (dC, dI) vwCl [(aM, .inr (9, [.int k0, .int msz, .ref aMt, .int mwi, .int mle, .int mgr, .int mpr, .int mhp, .int mtk, .ref aMk, .ref aMl, .ref aMd, .ref aMs, .int mbn, .ref aMb, .int mmd, .ref aMo, .int mep, .ref aMc, .ref aMn, .ref aMfk, .ref aMfl, .ref aMfd, .ref aMg, .ref aMm, .int mat, .int mer]))] H := hP
  have hD : va_D A [(aM, .inr (9, [.int k0, .int msz, .ref aMt, .int mwi, .int mle, .int mgr, .int mpr, .int mhp, .int mtk, .ref aMk, .ref aMl, .ref aMd, .ref aMs, .int mbn, .ref aMb, .int mmd, .ref aMo, .int mep, .ref aMc, .ref aMn, .ref aMfk, .ref aMfl, .ref aMfd, .ref aMg, .ref aMm, .int mat, .int mer]))] := hD
  refine lv_aload_n hx hb dX10_setLengths_34 rfl (lv_at hl 0 rfl) ?_
  refine va_get (D := (dC, dI)) (ci := 9) (v := .int k0) (C := RX10) (T := TX10) (N := 27) hx hb hts inX10_setLengths_wsX100 hown hK hP 0 rfl rfl 0 (by decide) (hts _ qX10_setLengths_0) (fun _ h9 => h9) rfl dX10_setLengths_35 ?_
  refine lv_if_eq (tgt := 43) hx hb dX10_setLengths_38 (by decide) (fun c_3 => ?_) (fun c_3 => ?_)
  · replace h := h.1 c_3
    refine lv_aload_n hx hb dX10_setLengths_43 rfl (lv_at hl 0 rfl) ?_
    refine va_get (D := (dC, dI)) (ci := 9) (v := .int mle) (C := RX10) (T := TX10) (N := 27) hx hb hts inX10_setLengths_wsX100 hown hK hP 0 rfl rfl 4 (by decide) (hts _ qX10_setLengths_1) (fun _ h9 => h9) rfl dX10_setLengths_44 ?_
    refine lv_iload_n hx hb dX10_setLengths_47 rfl (lv_at hl 1 rfl) ?_
    refine lv_icmp_ne (tgt := 59) hx hb dX10_setLengths_48 (by decide) (fun c_4 => ?_) (fun c_4 => ?_)
    · replace h := h.2 c_4
      refine lv_iconst (v := 1) hx hb dX10_setLengths_59 (by decide) ?_
      refine lv_goto (tgt := 64) hx hb dX10_setLengths_60 (by decide) ?_
      refine lv_istore_n (lv' := [(3, .int 1), (0, .ref aM), (1, .int v1), (2, .int v2)]) hx hb dX10_setLengths_64 rfl hl (by decide) rfl (fun ls hl => ?_)
      refine lv_aload_n hx hb dX10_setLengths_65 rfl (lv_at hl 1 rfl) ?_
      refine lv_iload_n hx hb dX10_setLengths_66 rfl (lv_at hl 2 rfl) ?_
      refine va_put (D := (dC, dI)) (ci := 9) (v := .int v1) (ty := .int) (C := RX10) (T := TX10) (N := 27) hx hb hts inX10_setLengths_wsX100 tyX10 tyX10_ok nmX10 hown hK hP hD hS 0 rfl rfl 4 (by decide) (hts _ qX10_setLengths_1) (fun _ h9 => h9) rfl (by decide +kernel) rfl rfl (Nat.le_of_ble_eq_true rfl) dX10_setLengths_67 (fun H locs hP hD hS => ?_)
      have hP : va_P (dC, dI) vwCl [(aM, .inr (9, [.int k0, .int msz, .ref aMt, .int mwi, .int v1, .int mgr, .int mpr, .int mhp, .int mtk, .ref aMk, .ref aMl, .ref aMd, .ref aMs, .int mbn, .ref aMb, .int mmd, .ref aMo, .int mep, .ref aMc, .ref aMn, .ref aMfk, .ref aMfl, .ref aMfd, .ref aMg, .ref aMm, .int mat, .int mer]))] H := hP
      have hD : va_D A [(aM, .inr (9, [.int k0, .int msz, .ref aMt, .int mwi, .int v1, .int mgr, .int mpr, .int mhp, .int mtk, .ref aMk, .ref aMl, .ref aMd, .ref aMs, .int mbn, .ref aMb, .int mmd, .ref aMo, .int mep, .ref aMc, .ref aMn, .ref aMfk, .ref aMfl, .ref aMfd, .ref aMg, .ref aMm, .int mat, .int mer]))] := hD
      refine lv_aload_n hx hb dX10_setLengths_70 rfl (lv_at hl 1 rfl) ?_
      refine lv_iload_n hx hb dX10_setLengths_71 rfl (lv_at hl 3 rfl) ?_
      refine va_put (D := (dC, dI)) (ci := 9) (v := .int v2) (ty := .int) (C := RX10) (T := TX10) (N := 27) hx hb hts inX10_setLengths_wsX100 tyX10 tyX10_ok nmX10 hown hK hP hD hS 0 rfl rfl 5 (by decide) (hts _ qX10_setLengths_2) (fun _ h9 => h9) rfl (by decide +kernel) rfl rfl (Nat.le_of_ble_eq_true rfl) dX10_setLengths_72 (fun H locs hP hD hS => ?_)
      have hP : va_P (dC, dI) vwCl [(aM, .inr (9, [.int k0, .int msz, .ref aMt, .int mwi, .int v1, .int v2, .int mpr, .int mhp, .int mtk, .ref aMk, .ref aMl, .ref aMd, .ref aMs, .int mbn, .ref aMb, .int mmd, .ref aMo, .int mep, .ref aMc, .ref aMn, .ref aMfk, .ref aMfl, .ref aMfd, .ref aMg, .ref aMm, .int mat, .int mer]))] H := hP
      have hD : va_D A [(aM, .inr (9, [.int k0, .int msz, .ref aMt, .int mwi, .int v1, .int v2, .int mpr, .int mhp, .int mtk, .ref aMk, .ref aMl, .ref aMd, .ref aMs, .int mbn, .ref aMb, .int mmd, .ref aMo, .int mep, .ref aMc, .ref aMn, .ref aMfk, .ref aMfl, .ref aMfd, .ref aMg, .ref aMm, .int mat, .int mer]))] := hD
      refine lv_aload_n hx hb dX10_setLengths_75 rfl (lv_at hl 1 rfl) ?_
      refine lv_iconst (v := 0) hx hb dX10_setLengths_76 (by decide) ?_
      refine va_put (D := (dC, dI)) (ci := 9) (v := .int 0) (ty := .boolean) (C := RX10) (T := TX10) (N := 27) hx hb hts inX10_setLengths_wsX100 tyX10 tyX10_ok nmX10 hown hK hP hD hS 0 rfl rfl 7 (by decide) (hts _ qX10_setLengths_3) (fun _ h9 => h9) rfl (by decide +kernel) rfl rfl (Nat.le_of_ble_eq_true rfl) dX10_setLengths_77 (fun H locs hP hD hS => ?_)
      have hP : va_P (dC, dI) vwCl [(aM, .inr (9, [.int k0, .int msz, .ref aMt, .int mwi, .int v1, .int v2, .int mpr, .int 0, .int mtk, .ref aMk, .ref aMl, .ref aMd, .ref aMs, .int mbn, .ref aMb, .int mmd, .ref aMo, .int mep, .ref aMc, .ref aMn, .ref aMfk, .ref aMfl, .ref aMfd, .ref aMg, .ref aMm, .int mat, .int mer]))] H := hP
      have hD : va_D A [(aM, .inr (9, [.int k0, .int msz, .ref aMt, .int mwi, .int v1, .int v2, .int mpr, .int 0, .int mtk, .ref aMk, .ref aMl, .ref aMd, .ref aMs, .int mbn, .ref aMb, .int mmd, .ref aMo, .int mep, .ref aMc, .ref aMn, .ref aMfk, .ref aMfl, .ref aMfd, .ref aMg, .ref aMm, .int mat, .int mer]))] := hD
      refine lv_iload_n hx hb dX10_setLengths_80 rfl (lv_at hl 0 rfl) ?_
      exact hR81 _ _ _ _ _ (rfl : nb9 1) h _ _ _ hP hD hS
    · replace h := h.1 c_4
      refine lv_aload_n hx hb dX10_setLengths_51 rfl (lv_at hl 0 rfl) ?_
      refine va_get (D := (dC, dI)) (ci := 9) (v := .int mgr) (C := RX10) (T := TX10) (N := 27) hx hb hts inX10_setLengths_wsX100 hown hK hP 0 rfl rfl 5 (by decide) (hts _ qX10_setLengths_2) (fun _ h9 => h9) rfl dX10_setLengths_52 ?_
      refine lv_iload_n hx hb dX10_setLengths_55 rfl (lv_at hl 2 rfl) ?_
      refine lv_icmp_eq (tgt := 63) hx hb dX10_setLengths_56 (by decide) (fun c_5 => ?_) (fun c_5 => ?_)
      · replace h := h.1 c_5
        refine lv_iconst (v := 0) hx hb dX10_setLengths_63 (by decide) ?_
        refine lv_istore_n (lv' := [(3, .int 0), (0, .ref aM), (1, .int v1), (2, .int v2)]) hx hb dX10_setLengths_64 rfl hl (by decide) rfl (fun ls hl => ?_)
        refine lv_aload_n hx hb dX10_setLengths_65 rfl (lv_at hl 1 rfl) ?_
        refine lv_iload_n hx hb dX10_setLengths_66 rfl (lv_at hl 2 rfl) ?_
        refine va_put (D := (dC, dI)) (ci := 9) (v := .int v1) (ty := .int) (C := RX10) (T := TX10) (N := 27) hx hb hts inX10_setLengths_wsX100 tyX10 tyX10_ok nmX10 hown hK hP hD hS 0 rfl rfl 4 (by decide) (hts _ qX10_setLengths_1) (fun _ h9 => h9) rfl (by decide +kernel) rfl rfl (Nat.le_of_ble_eq_true rfl) dX10_setLengths_67 (fun H locs hP hD hS => ?_)
        have hP : va_P (dC, dI) vwCl [(aM, .inr (9, [.int k0, .int msz, .ref aMt, .int mwi, .int v1, .int mgr, .int mpr, .int mhp, .int mtk, .ref aMk, .ref aMl, .ref aMd, .ref aMs, .int mbn, .ref aMb, .int mmd, .ref aMo, .int mep, .ref aMc, .ref aMn, .ref aMfk, .ref aMfl, .ref aMfd, .ref aMg, .ref aMm, .int mat, .int mer]))] H := hP
        have hD : va_D A [(aM, .inr (9, [.int k0, .int msz, .ref aMt, .int mwi, .int v1, .int mgr, .int mpr, .int mhp, .int mtk, .ref aMk, .ref aMl, .ref aMd, .ref aMs, .int mbn, .ref aMb, .int mmd, .ref aMo, .int mep, .ref aMc, .ref aMn, .ref aMfk, .ref aMfl, .ref aMfd, .ref aMg, .ref aMm, .int mat, .int mer]))] := hD
        refine lv_aload_n hx hb dX10_setLengths_70 rfl (lv_at hl 1 rfl) ?_
        refine lv_iload_n hx hb dX10_setLengths_71 rfl (lv_at hl 3 rfl) ?_
        refine va_put (D := (dC, dI)) (ci := 9) (v := .int v2) (ty := .int) (C := RX10) (T := TX10) (N := 27) hx hb hts inX10_setLengths_wsX100 tyX10 tyX10_ok nmX10 hown hK hP hD hS 0 rfl rfl 5 (by decide) (hts _ qX10_setLengths_2) (fun _ h9 => h9) rfl (by decide +kernel) rfl rfl (Nat.le_of_ble_eq_true rfl) dX10_setLengths_72 (fun H locs hP hD hS => ?_)
        have hP : va_P (dC, dI) vwCl [(aM, .inr (9, [.int k0, .int msz, .ref aMt, .int mwi, .int v1, .int v2, .int mpr, .int mhp, .int mtk, .ref aMk, .ref aMl, .ref aMd, .ref aMs, .int mbn, .ref aMb, .int mmd, .ref aMo, .int mep, .ref aMc, .ref aMn, .ref aMfk, .ref aMfl, .ref aMfd, .ref aMg, .ref aMm, .int mat, .int mer]))] H := hP
        have hD : va_D A [(aM, .inr (9, [.int k0, .int msz, .ref aMt, .int mwi, .int v1, .int v2, .int mpr, .int mhp, .int mtk, .ref aMk, .ref aMl, .ref aMd, .ref aMs, .int mbn, .ref aMb, .int mmd, .ref aMo, .int mep, .ref aMc, .ref aMn, .ref aMfk, .ref aMfl, .ref aMfd, .ref aMg, .ref aMm, .int mat, .int mer]))] := hD
        refine lv_aload_n hx hb dX10_setLengths_75 rfl (lv_at hl 1 rfl) ?_
        refine lv_iconst (v := 0) hx hb dX10_setLengths_76 (by decide) ?_
        refine va_put (D := (dC, dI)) (ci := 9) (v := .int 0) (ty := .boolean) (C := RX10) (T := TX10) (N := 27) hx hb hts inX10_setLengths_wsX100 tyX10 tyX10_ok nmX10 hown hK hP hD hS 0 rfl rfl 7 (by decide) (hts _ qX10_setLengths_3) (fun _ h9 => h9) rfl (by decide +kernel) rfl rfl (Nat.le_of_ble_eq_true rfl) dX10_setLengths_77 (fun H locs hP hD hS => ?_)
        have hP : va_P (dC, dI) vwCl [(aM, .inr (9, [.int k0, .int msz, .ref aMt, .int mwi, .int v1, .int v2, .int mpr, .int 0, .int mtk, .ref aMk, .ref aMl, .ref aMd, .ref aMs, .int mbn, .ref aMb, .int mmd, .ref aMo, .int mep, .ref aMc, .ref aMn, .ref aMfk, .ref aMfl, .ref aMfd, .ref aMg, .ref aMm, .int mat, .int mer]))] H := hP
        have hD : va_D A [(aM, .inr (9, [.int k0, .int msz, .ref aMt, .int mwi, .int v1, .int v2, .int mpr, .int 0, .int mtk, .ref aMk, .ref aMl, .ref aMd, .ref aMs, .int mbn, .ref aMb, .int mmd, .ref aMo, .int mep, .ref aMc, .ref aMn, .ref aMfk, .ref aMfl, .ref aMfd, .ref aMg, .ref aMm, .int mat, .int mer]))] := hD
        refine lv_iload_n hx hb dX10_setLengths_80 rfl (lv_at hl 0 rfl) ?_
        exact hR81 _ _ _ _ _ (rfl : nb9 0) h _ _ _ hP hD hS
      · replace h := h.2 c_5
        refine lv_iconst (v := 1) hx hb dX10_setLengths_59 (by decide) ?_
        refine lv_goto (tgt := 64) hx hb dX10_setLengths_60 (by decide) ?_
        refine lv_istore_n (lv' := [(3, .int 1), (0, .ref aM), (1, .int v1), (2, .int v2)]) hx hb dX10_setLengths_64 rfl hl (by decide) rfl (fun ls hl => ?_)
        refine lv_aload_n hx hb dX10_setLengths_65 rfl (lv_at hl 1 rfl) ?_
        refine lv_iload_n hx hb dX10_setLengths_66 rfl (lv_at hl 2 rfl) ?_
        refine va_put (D := (dC, dI)) (ci := 9) (v := .int v1) (ty := .int) (C := RX10) (T := TX10) (N := 27) hx hb hts inX10_setLengths_wsX100 tyX10 tyX10_ok nmX10 hown hK hP hD hS 0 rfl rfl 4 (by decide) (hts _ qX10_setLengths_1) (fun _ h9 => h9) rfl (by decide +kernel) rfl rfl (Nat.le_of_ble_eq_true rfl) dX10_setLengths_67 (fun H locs hP hD hS => ?_)
        have hP : va_P (dC, dI) vwCl [(aM, .inr (9, [.int k0, .int msz, .ref aMt, .int mwi, .int v1, .int mgr, .int mpr, .int mhp, .int mtk, .ref aMk, .ref aMl, .ref aMd, .ref aMs, .int mbn, .ref aMb, .int mmd, .ref aMo, .int mep, .ref aMc, .ref aMn, .ref aMfk, .ref aMfl, .ref aMfd, .ref aMg, .ref aMm, .int mat, .int mer]))] H := hP
        have hD : va_D A [(aM, .inr (9, [.int k0, .int msz, .ref aMt, .int mwi, .int v1, .int mgr, .int mpr, .int mhp, .int mtk, .ref aMk, .ref aMl, .ref aMd, .ref aMs, .int mbn, .ref aMb, .int mmd, .ref aMo, .int mep, .ref aMc, .ref aMn, .ref aMfk, .ref aMfl, .ref aMfd, .ref aMg, .ref aMm, .int mat, .int mer]))] := hD
        refine lv_aload_n hx hb dX10_setLengths_70 rfl (lv_at hl 1 rfl) ?_
        refine lv_iload_n hx hb dX10_setLengths_71 rfl (lv_at hl 3 rfl) ?_
        refine va_put (D := (dC, dI)) (ci := 9) (v := .int v2) (ty := .int) (C := RX10) (T := TX10) (N := 27) hx hb hts inX10_setLengths_wsX100 tyX10 tyX10_ok nmX10 hown hK hP hD hS 0 rfl rfl 5 (by decide) (hts _ qX10_setLengths_2) (fun _ h9 => h9) rfl (by decide +kernel) rfl rfl (Nat.le_of_ble_eq_true rfl) dX10_setLengths_72 (fun H locs hP hD hS => ?_)
        have hP : va_P (dC, dI) vwCl [(aM, .inr (9, [.int k0, .int msz, .ref aMt, .int mwi, .int v1, .int v2, .int mpr, .int mhp, .int mtk, .ref aMk, .ref aMl, .ref aMd, .ref aMs, .int mbn, .ref aMb, .int mmd, .ref aMo, .int mep, .ref aMc, .ref aMn, .ref aMfk, .ref aMfl, .ref aMfd, .ref aMg, .ref aMm, .int mat, .int mer]))] H := hP
        have hD : va_D A [(aM, .inr (9, [.int k0, .int msz, .ref aMt, .int mwi, .int v1, .int v2, .int mpr, .int mhp, .int mtk, .ref aMk, .ref aMl, .ref aMd, .ref aMs, .int mbn, .ref aMb, .int mmd, .ref aMo, .int mep, .ref aMc, .ref aMn, .ref aMfk, .ref aMfl, .ref aMfd, .ref aMg, .ref aMm, .int mat, .int mer]))] := hD
        refine lv_aload_n hx hb dX10_setLengths_75 rfl (lv_at hl 1 rfl) ?_
        refine lv_iconst (v := 0) hx hb dX10_setLengths_76 (by decide) ?_
        refine va_put (D := (dC, dI)) (ci := 9) (v := .int 0) (ty := .boolean) (C := RX10) (T := TX10) (N := 27) hx hb hts inX10_setLengths_wsX100 tyX10 tyX10_ok nmX10 hown hK hP hD hS 0 rfl rfl 7 (by decide) (hts _ qX10_setLengths_3) (fun _ h9 => h9) rfl (by decide +kernel) rfl rfl (Nat.le_of_ble_eq_true rfl) dX10_setLengths_77 (fun H locs hP hD hS => ?_)
        have hP : va_P (dC, dI) vwCl [(aM, .inr (9, [.int k0, .int msz, .ref aMt, .int mwi, .int v1, .int v2, .int mpr, .int 0, .int mtk, .ref aMk, .ref aMl, .ref aMd, .ref aMs, .int mbn, .ref aMb, .int mmd, .ref aMo, .int mep, .ref aMc, .ref aMn, .ref aMfk, .ref aMfl, .ref aMfd, .ref aMg, .ref aMm, .int mat, .int mer]))] H := hP
        have hD : va_D A [(aM, .inr (9, [.int k0, .int msz, .ref aMt, .int mwi, .int v1, .int v2, .int mpr, .int 0, .int mtk, .ref aMk, .ref aMl, .ref aMd, .ref aMs, .int mbn, .ref aMb, .int mmd, .ref aMo, .int mep, .ref aMc, .ref aMn, .ref aMfk, .ref aMfl, .ref aMfd, .ref aMg, .ref aMm, .int mat, .int mer]))] := hD
        refine lv_iload_n hx hb dX10_setLengths_80 rfl (lv_at hl 0 rfl) ?_
        exact hR81 _ _ _ _ _ (rfl : nb9 1) h _ _ _ hP hD hS
  · replace h := h.2 c_3
    refine lv_iconst (v := 0) hx hb dX10_setLengths_41 (by decide) ?_
    exact hR42 _ _ _ _ _ (rfl : nb9 0) h _ _ _ hP hD hS
def wpX10_setLengths (mle : Int32) (mgr : Int32) (mhp : Int32) (v1 : Int32) (v2 : Int32) (post : Int32 → Int32 → Int32 → Int32 → Int32 → Prop) : Prop := wpX10_isIn v1 2 6 (fun (r_1 : Int32) => (r_1 = 0 → (wpX10_setLengths_31 v1 v2 1 mle mgr mhp post)) ∧ (¬ r_1 = 0 → (wpX10_isIn v2 2 64 (fun (r_16 : Int32) => (r_16 = 0 → (wpX10_setLengths_31 v1 v2 1 mle mgr mhp post)) ∧ (¬ r_16 = 0 → ((v2 < v1 → (wpX10_setLengths_31 v1 v2 1 mle mgr mhp post)) ∧ (¬ v2 < v1 → (wpX10_setLengths_31 v1 v2 0 mle mgr mhp post))))))))
set_option maxHeartbeats 4000000 in
set_option maxRecDepth 100000 in
theorem mtX10_setLengths (l : Launch) (dC : Nat → ClassId) (dI : Nat → Nat → Nat) (cyI : ClassId) {aM aMt aMk aMl aMd aMs aMb aMo aMc aMn aMfk aMfl aMfd aMg aMm : Nat} {sz : Nat} {mth : Int32} {msz : Int32} {mwi : Int32} {mle : Int32} {mgr : Int32} {mpr : Int32} {mhp : Int32} {mtk : Int32} {mbn : Int32} {mmd : Int32} {mep : Int32} {mat : Int32} {mer : Int32} {v1 : Int32} {v2 : Int32} {post : Int32 → Int32 → Int32 → Int32 → Int32 → Prop} (h : wpX10_setLengths mle mgr mhp v1 v2 post) : Met l yX10_setLengths wsX10_setLengths ({ frames := 1, cells := 0, slots := 0, locals := 22 }) (va_Pc [.ref aM, .int v1, .int v2] (wk_B (dC, dI) [(cyI, .int)] [(aM, .inr (9, [.int mth, .int msz, .ref aMt, .int mwi, .int mle, .int mgr, .int mpr, .int mhp, .int mtk, .ref aMk, .ref aMl, .ref aMd, .ref aMs, .int mbn, .ref aMb, .int mmd, .ref aMo, .int mep, .ref aMc, .ref aMn, .ref aMfk, .ref aMfl, .ref aMfd, .ref aMg, .ref aMm, .int mat, .int mer]))] sz)) (va_Qi (fun (r : Int32) (u : Int32 × Int32 × Int32 × Int32) => post r u.1 u.2.1 u.2.2.1 u.2.2.2) (wk_C (dC, dI) [(cyI, .int)] (va_A [(aM, .inr (9, [.int mth, .int msz, .ref aMt, .int mwi, .int mle, .int mgr, .int mpr, .int mhp, .int mtk, .ref aMk, .ref aMl, .ref aMd, .ref aMs, .int mbn, .ref aMb, .int mmd, .ref aMo, .int mep, .ref aMc, .ref aMn, .ref aMfk, .ref aMfl, .ref aMfd, .ref aMg, .ref aMm, .int mat, .int mer]))] sz) (fun (u : Int32 × Int32 × Int32 × Int32) => [(aM, .inr (9, [.int (u.1), .int msz, .ref aMt, .int mwi, .int (u.2.1), .int (u.2.2.1), .int mpr, .int (u.2.2.2), .int mtk, .ref aMk, .ref aMl, .ref aMd, .ref aMs, .int mbn, .ref aMb, .int mmd, .ref aMo, .int mep, .ref aMc, .ref aMn, .ref aMfk, .ref aMfl, .ref aMfd, .ref aMg, .ref aMm, .int mat, .int mer]))])) (va_A [(aM, .inr (9, [.int mth, .int msz, .ref aMt, .int mwi, .int mle, .int mgr, .int mpr, .int mhp, .int mtk, .ref aMk, .ref aMl, .ref aMd, .ref aMs, .int mbn, .ref aMb, .int mmd, .ref aMo, .int mep, .ref aMc, .ref aMn, .ref aMfk, .ref aMfl, .ref aMfd, .ref aMg, .ref aMm, .int mat, .int mer]))] sz)) 0 0 (va_A [(aM, .inr (9, [.int mth, .int msz, .ref aMt, .int mwi, .int mle, .int mgr, .int mpr, .int mhp, .int mtk, .ref aMk, .ref aMl, .ref aMd, .ref aMs, .int mbn, .ref aMb, .int mmd, .ref aMo, .int mep, .ref aMc, .ref aMn, .ref aMfk, .ref aMfl, .ref aMfd, .ref aMg, .ref aMm, .int mat, .int mer]))] sz) := by
  refine Met.ofW (cc := cX10_setLengths) (maxL := 4) (ret := (some .boolean)) (by decide) rfl ?_
  intro p e s m args below meth c s₁ B hml hv
  obtain ⟨rfl, hsz, hP, hK, hD0⟩ := hv
  have hx := B.exec
  have hb := B.bytes
  have hr := B.returns
  have hts := atoms_spec (ws := wsX10_setLengths) B.pre
  have hown : s.vm.findClass RX10 = some m.cls := findClass_of_methodNamed B.named
  have hlocks := B.notSynchronized
  subst hsz
  have hD := hD0.self (sz := s.heap.size)
  generalize hAe : va_A [(aM, .inr (9, [.int mth, .int msz, .ref aMt, .int mwi, .int mle, .int mgr, .int mpr, .int mhp, .int mtk, .ref aMk, .ref aMl, .ref aMd, .ref aMs, .int mbn, .ref aMb, .int mmd, .ref aMo, .int mep, .ref aMc, .ref aMn, .ref aMfk, .ref aMfl, .ref aMfd, .ref aMg, .ref aMm, .int mat, .int mer]))] s.heap.size = A at hD ⊢
  have hA : ∀ q : Nat, s.heap.size ≤ q → A q := fun q h => by rw [← hAe]; exact Or.inr h
  have hS : va_S A s.heap s.heap [] := va_S.rf
  have hP : va_P (dC, dI) vwCl [(aM, .inr (9, [.int mth, .int msz, .ref aMt, .int mwi, .int mle, .int mgr, .int mpr, .int mhp, .int mtk, .ref aMk, .ref aMl, .ref aMd, .ref aMs, .int mbn, .ref aMb, .int mmd, .ref aMo, .int mep, .ref aMc, .ref aMn, .ref aMfk, .ref aMfl, .ref aMfd, .ref aMg, .ref aMm, .int mat, .int mer]))] s.heap := hP
  have hl := lv_entry ([.ref aM, .int v1, .int v2]) (n := 4) (Nat.le_of_ble_eq_true rfl)
  rw [lg_entry_eq]
  generalize (lg_sl ([.ref aM, .int v1, .int v2]) ++ List.replicate (4 - (lg_sl ([.ref aM, .int v1, .int v2])).length) Slot.unset).toArray = ls at hl ⊢
  have hl : lv_has ls 4 [(0, .ref aM), (1, .int v1), (2, .int v2)] := hl
  have C0 : CallFix p m c cX10_setLengths 4 s ([.ref aM, .int v1, .int v2] : List Value).toArray wsX10_setLengths RX10 := ⟨hx, hb, hml, hown, hts⟩
  unfold wpX10_setLengths at h
  refine lv_aload_n hx hb dX10_setLengths_0 rfl (lv_at hl 0 rfl) ?_
  refine lv_iload_n hx hb dX10_setLengths_1 rfl (lv_at hl 1 rfl) ?_
  refine lv_iconst (v := 2) hx hb dX10_setLengths_2 (by decide) ?_
  refine lv_bipush (v := 6) hx hb dX10_setLengths_3 (by decide) ?_
  refine wk_calli (wc := []) (wr := [(aM, .inr (9, [.int mth, .int msz, .ref aMt, .int mwi, .int mle, .int mgr, .int mpr, .int mhp, .int mtk, .ref aMk, .ref aMl, .ref aMd, .ref aMs, .int mbn, .ref aMb, .int mmd, .ref aMo, .int mep, .ref aMc, .ref aMn, .ref aMfk, .ref aMfl, .ref aMfd, .ref aMg, .ref aMm, .int mat, .int mer]))]) (va_runS (As := [.int v1, .int 2, .int 6]) (rest := [.ref aM]) C0 (mtX10_isIn l dC dI cyI (sz := _) (v0 := v1) (v1 := 2) (v2 := 6) h) (va_cwS 3 hts gX10_setLengths_X10_isIn rfl rfl rfl (by decide +kernel) ⟨(Nat.le_of_ble_eq_true rfl), (Nat.le_of_ble_eq_true rfl)⟩) (wk_preS (wc := []) hK hP hD [] rfl (by decide)) rfl rfl hl.1 rfl (lv_room (Nat.le_of_ble_eq_true rfl)) dX10_setLengths_5 ⟨(Nat.le_of_ble_eq_true rfl), (Nat.le_of_ble_eq_true rfl)⟩) hP hD hS hA [] [0] rfl rfl (by decide) (by decide) (fun r_1 u9 H locs h hP hD hS => ?_)
  have hP : va_P (dC, dI) vwCl [(aM, .inr (9, [.int mth, .int msz, .ref aMt, .int mwi, .int mle, .int mgr, .int mpr, .int mhp, .int mtk, .ref aMk, .ref aMl, .ref aMd, .ref aMs, .int mbn, .ref aMb, .int mmd, .ref aMo, .int mep, .ref aMc, .ref aMn, .ref aMfk, .ref aMfl, .ref aMfd, .ref aMg, .ref aMm, .int mat, .int mer]))] H := hP
  have hD : va_D A [(aM, .inr (9, [.int mth, .int msz, .ref aMt, .int mwi, .int mle, .int mgr, .int mpr, .int mhp, .int mtk, .ref aMk, .ref aMl, .ref aMd, .ref aMs, .int mbn, .ref aMb, .int mmd, .ref aMo, .int mep, .ref aMc, .ref aMn, .ref aMfk, .ref aMfl, .ref aMfd, .ref aMg, .ref aMm, .int mat, .int mer]))] := hD
  refine lv_if_eq (tgt := 30) hx hb dX10_setLengths_8 (by decide) (fun c_2 => ?_) (fun c_2 => ?_)
  · replace h := h.1 c_2
    refine lv_iconst (v := 1) hx hb dX10_setLengths_30 (by decide) ?_
    refine wjX10_setLengths_31 C0 hA hK h _ _ _ hP hD hS (lv_sub hl [0, 1, 2] rfl) ?_ ?_
    · intro r_6 mth_7 mle_8 mgr_9 mhp_10 hn9 h H locs ls hP hD hS
      have hP9 : va_P (dC, dI) vwCl [(aM, .inr (9, [.int mth_7, .int msz, .ref aMt, .int mwi, .int mle_8, .int mgr_9, .int mpr, .int mhp_10, .int mtk, .ref aMk, .ref aMl, .ref aMd, .ref aMs, .int mbn, .ref aMb, .int mmd, .ref aMo, .int mep, .ref aMc, .ref aMn, .ref aMfk, .ref aMfl, .ref aMfd, .ref aMg, .ref aMm, .int mat, .int mer]))] _ := hP
      have hD9 : va_D A [(aM, .inr (9, [.int mth_7, .int msz, .ref aMt, .int mwi, .int mle_8, .int mgr_9, .int mpr, .int mhp_10, .int mtk, .ref aMk, .ref aMl, .ref aMd, .ref aMs, .int mbn, .ref aMb, .int mmd, .ref aMo, .int mep, .ref aMc, .ref aMn, .ref aMfk, .ref aMfl, .ref aMfd, .ref aMg, .ref aMm, .int mat, .int mer]))] := hD
      exact W.zret (v := r_6) hx hb hr hn9 (fun t ht hW => ⟨⟨r_6, (mth_7, mle_8, mgr_9, mhp_10), rfl, h, by rw [ht]; exact hP9, va_K.moved hW.alike hK, hD9⟩, hS.F ht⟩) hS.2.2 dX10_setLengths_42
    · intro r_11 mth_12 mle_13 mgr_14 mhp_15 hn9 h H locs ls hP hD hS
      have hP9 : va_P (dC, dI) vwCl [(aM, .inr (9, [.int mth_12, .int msz, .ref aMt, .int mwi, .int mle_13, .int mgr_14, .int mpr, .int mhp_15, .int mtk, .ref aMk, .ref aMl, .ref aMd, .ref aMs, .int mbn, .ref aMb, .int mmd, .ref aMo, .int mep, .ref aMc, .ref aMn, .ref aMfk, .ref aMfl, .ref aMfd, .ref aMg, .ref aMm, .int mat, .int mer]))] _ := hP
      have hD9 : va_D A [(aM, .inr (9, [.int mth_12, .int msz, .ref aMt, .int mwi, .int mle_13, .int mgr_14, .int mpr, .int mhp_15, .int mtk, .ref aMk, .ref aMl, .ref aMd, .ref aMs, .int mbn, .ref aMb, .int mmd, .ref aMo, .int mep, .ref aMc, .ref aMn, .ref aMfk, .ref aMfl, .ref aMfd, .ref aMg, .ref aMm, .int mat, .int mer]))] := hD
      exact W.zret (v := r_11) hx hb hr hn9 (fun t ht hW => ⟨⟨r_11, (mth_12, mle_13, mgr_14, mhp_15), rfl, h, by rw [ht]; exact hP9, va_K.moved hW.alike hK, hD9⟩, hS.F ht⟩) hS.2.2 dX10_setLengths_81
  · replace h := h.2 c_2
    refine lv_iload_n hx hb dX10_setLengths_11 rfl (lv_at hl 2 rfl) ?_
    refine lv_iconst (v := 2) hx hb dX10_setLengths_12 (by decide) ?_
    refine lv_bipush (v := 64) hx hb dX10_setLengths_13 (by decide) ?_
    refine wk_calli (wc := []) (wr := [(aM, .inr (9, [.int mth, .int msz, .ref aMt, .int mwi, .int mle, .int mgr, .int mpr, .int mhp, .int mtk, .ref aMk, .ref aMl, .ref aMd, .ref aMs, .int mbn, .ref aMb, .int mmd, .ref aMo, .int mep, .ref aMc, .ref aMn, .ref aMfk, .ref aMfl, .ref aMfd, .ref aMg, .ref aMm, .int mat, .int mer]))]) (va_runS (As := [.int v2, .int 2, .int 64]) (rest := [.ref aM]) C0 (mtX10_isIn l dC dI cyI (sz := _) (v0 := v2) (v1 := 2) (v2 := 64) h) (va_cwS 3 hts gX10_setLengths_X10_isIn rfl rfl rfl (by decide +kernel) ⟨(Nat.le_of_ble_eq_true rfl), (Nat.le_of_ble_eq_true rfl)⟩) (wk_preS (wc := []) hK hP hD [] rfl (by decide)) rfl rfl hl.1 rfl (lv_room (Nat.le_of_ble_eq_true rfl)) dX10_setLengths_15 ⟨(Nat.le_of_ble_eq_true rfl), (Nat.le_of_ble_eq_true rfl)⟩) hP hD hS hA [] [0] rfl rfl (by decide) (by decide) (fun r_16 u9 H locs h hP hD hS => ?_)
    have hP : va_P (dC, dI) vwCl [(aM, .inr (9, [.int mth, .int msz, .ref aMt, .int mwi, .int mle, .int mgr, .int mpr, .int mhp, .int mtk, .ref aMk, .ref aMl, .ref aMd, .ref aMs, .int mbn, .ref aMb, .int mmd, .ref aMo, .int mep, .ref aMc, .ref aMn, .ref aMfk, .ref aMfl, .ref aMfd, .ref aMg, .ref aMm, .int mat, .int mer]))] H := hP
    have hD : va_D A [(aM, .inr (9, [.int mth, .int msz, .ref aMt, .int mwi, .int mle, .int mgr, .int mpr, .int mhp, .int mtk, .ref aMk, .ref aMl, .ref aMd, .ref aMs, .int mbn, .ref aMb, .int mmd, .ref aMo, .int mep, .ref aMc, .ref aMn, .ref aMfk, .ref aMfl, .ref aMfd, .ref aMg, .ref aMm, .int mat, .int mer]))] := hD
    refine lv_if_eq (tgt := 30) hx hb dX10_setLengths_18 (by decide) (fun c_17 => ?_) (fun c_17 => ?_)
    · replace h := h.1 c_17
      refine lv_iconst (v := 1) hx hb dX10_setLengths_30 (by decide) ?_
      refine wjX10_setLengths_31 C0 hA hK h _ _ _ hP hD hS (lv_sub hl [0, 1, 2] rfl) ?_ ?_
      · intro r_18 mth_19 mle_20 mgr_21 mhp_22 hn9 h H locs ls hP hD hS
        have hP9 : va_P (dC, dI) vwCl [(aM, .inr (9, [.int mth_19, .int msz, .ref aMt, .int mwi, .int mle_20, .int mgr_21, .int mpr, .int mhp_22, .int mtk, .ref aMk, .ref aMl, .ref aMd, .ref aMs, .int mbn, .ref aMb, .int mmd, .ref aMo, .int mep, .ref aMc, .ref aMn, .ref aMfk, .ref aMfl, .ref aMfd, .ref aMg, .ref aMm, .int mat, .int mer]))] _ := hP
        have hD9 : va_D A [(aM, .inr (9, [.int mth_19, .int msz, .ref aMt, .int mwi, .int mle_20, .int mgr_21, .int mpr, .int mhp_22, .int mtk, .ref aMk, .ref aMl, .ref aMd, .ref aMs, .int mbn, .ref aMb, .int mmd, .ref aMo, .int mep, .ref aMc, .ref aMn, .ref aMfk, .ref aMfl, .ref aMfd, .ref aMg, .ref aMm, .int mat, .int mer]))] := hD
        exact W.zret (v := r_18) hx hb hr hn9 (fun t ht hW => ⟨⟨r_18, (mth_19, mle_20, mgr_21, mhp_22), rfl, h, by rw [ht]; exact hP9, va_K.moved hW.alike hK, hD9⟩, hS.F ht⟩) hS.2.2 dX10_setLengths_42
      · intro r_23 mth_24 mle_25 mgr_26 mhp_27 hn9 h H locs ls hP hD hS
        have hP9 : va_P (dC, dI) vwCl [(aM, .inr (9, [.int mth_24, .int msz, .ref aMt, .int mwi, .int mle_25, .int mgr_26, .int mpr, .int mhp_27, .int mtk, .ref aMk, .ref aMl, .ref aMd, .ref aMs, .int mbn, .ref aMb, .int mmd, .ref aMo, .int mep, .ref aMc, .ref aMn, .ref aMfk, .ref aMfl, .ref aMfd, .ref aMg, .ref aMm, .int mat, .int mer]))] _ := hP
        have hD9 : va_D A [(aM, .inr (9, [.int mth_24, .int msz, .ref aMt, .int mwi, .int mle_25, .int mgr_26, .int mpr, .int mhp_27, .int mtk, .ref aMk, .ref aMl, .ref aMd, .ref aMs, .int mbn, .ref aMb, .int mmd, .ref aMo, .int mep, .ref aMc, .ref aMn, .ref aMfk, .ref aMfl, .ref aMfd, .ref aMg, .ref aMm, .int mat, .int mer]))] := hD
        exact W.zret (v := r_23) hx hb hr hn9 (fun t ht hW => ⟨⟨r_23, (mth_24, mle_25, mgr_26, mhp_27), rfl, h, by rw [ht]; exact hP9, va_K.moved hW.alike hK, hD9⟩, hS.F ht⟩) hS.2.2 dX10_setLengths_81
    · replace h := h.2 c_17
      refine lv_iload_n hx hb dX10_setLengths_21 rfl (lv_at hl 1 rfl) ?_
      refine lv_iload_n hx hb dX10_setLengths_22 rfl (lv_at hl 2 rfl) ?_
      refine lv_icmp_gt (tgt := 30) hx hb dX10_setLengths_23 (by decide) (fun c_28 => ?_) (fun c_28 => ?_)
      · replace h := h.1 c_28
        refine lv_iconst (v := 1) hx hb dX10_setLengths_30 (by decide) ?_
        refine wjX10_setLengths_31 C0 hA hK h _ _ _ hP hD hS (lv_sub hl [0, 1, 2] rfl) ?_ ?_
        · intro r_29 mth_30 mle_31 mgr_32 mhp_33 hn9 h H locs ls hP hD hS
          have hP9 : va_P (dC, dI) vwCl [(aM, .inr (9, [.int mth_30, .int msz, .ref aMt, .int mwi, .int mle_31, .int mgr_32, .int mpr, .int mhp_33, .int mtk, .ref aMk, .ref aMl, .ref aMd, .ref aMs, .int mbn, .ref aMb, .int mmd, .ref aMo, .int mep, .ref aMc, .ref aMn, .ref aMfk, .ref aMfl, .ref aMfd, .ref aMg, .ref aMm, .int mat, .int mer]))] _ := hP
          have hD9 : va_D A [(aM, .inr (9, [.int mth_30, .int msz, .ref aMt, .int mwi, .int mle_31, .int mgr_32, .int mpr, .int mhp_33, .int mtk, .ref aMk, .ref aMl, .ref aMd, .ref aMs, .int mbn, .ref aMb, .int mmd, .ref aMo, .int mep, .ref aMc, .ref aMn, .ref aMfk, .ref aMfl, .ref aMfd, .ref aMg, .ref aMm, .int mat, .int mer]))] := hD
          exact W.zret (v := r_29) hx hb hr hn9 (fun t ht hW => ⟨⟨r_29, (mth_30, mle_31, mgr_32, mhp_33), rfl, h, by rw [ht]; exact hP9, va_K.moved hW.alike hK, hD9⟩, hS.F ht⟩) hS.2.2 dX10_setLengths_42
        · intro r_34 mth_35 mle_36 mgr_37 mhp_38 hn9 h H locs ls hP hD hS
          have hP9 : va_P (dC, dI) vwCl [(aM, .inr (9, [.int mth_35, .int msz, .ref aMt, .int mwi, .int mle_36, .int mgr_37, .int mpr, .int mhp_38, .int mtk, .ref aMk, .ref aMl, .ref aMd, .ref aMs, .int mbn, .ref aMb, .int mmd, .ref aMo, .int mep, .ref aMc, .ref aMn, .ref aMfk, .ref aMfl, .ref aMfd, .ref aMg, .ref aMm, .int mat, .int mer]))] _ := hP
          have hD9 : va_D A [(aM, .inr (9, [.int mth_35, .int msz, .ref aMt, .int mwi, .int mle_36, .int mgr_37, .int mpr, .int mhp_38, .int mtk, .ref aMk, .ref aMl, .ref aMd, .ref aMs, .int mbn, .ref aMb, .int mmd, .ref aMo, .int mep, .ref aMc, .ref aMn, .ref aMfk, .ref aMfl, .ref aMfd, .ref aMg, .ref aMm, .int mat, .int mer]))] := hD
          exact W.zret (v := r_34) hx hb hr hn9 (fun t ht hW => ⟨⟨r_34, (mth_35, mle_36, mgr_37, mhp_38), rfl, h, by rw [ht]; exact hP9, va_K.moved hW.alike hK, hD9⟩, hS.F ht⟩) hS.2.2 dX10_setLengths_81
      · replace h := h.2 c_28
        refine lv_iconst (v := 0) hx hb dX10_setLengths_26 (by decide) ?_
        refine lv_goto (tgt := 31) hx hb dX10_setLengths_27 (by decide) ?_
        refine wjX10_setLengths_31 C0 hA hK h _ _ _ hP hD hS (lv_sub hl [0, 1, 2] rfl) ?_ ?_
        · intro r_39 mth_40 mle_41 mgr_42 mhp_43 hn9 h H locs ls hP hD hS
          have hP9 : va_P (dC, dI) vwCl [(aM, .inr (9, [.int mth_40, .int msz, .ref aMt, .int mwi, .int mle_41, .int mgr_42, .int mpr, .int mhp_43, .int mtk, .ref aMk, .ref aMl, .ref aMd, .ref aMs, .int mbn, .ref aMb, .int mmd, .ref aMo, .int mep, .ref aMc, .ref aMn, .ref aMfk, .ref aMfl, .ref aMfd, .ref aMg, .ref aMm, .int mat, .int mer]))] _ := hP
          have hD9 : va_D A [(aM, .inr (9, [.int mth_40, .int msz, .ref aMt, .int mwi, .int mle_41, .int mgr_42, .int mpr, .int mhp_43, .int mtk, .ref aMk, .ref aMl, .ref aMd, .ref aMs, .int mbn, .ref aMb, .int mmd, .ref aMo, .int mep, .ref aMc, .ref aMn, .ref aMfk, .ref aMfl, .ref aMfd, .ref aMg, .ref aMm, .int mat, .int mer]))] := hD
          exact W.zret (v := r_39) hx hb hr hn9 (fun t ht hW => ⟨⟨r_39, (mth_40, mle_41, mgr_42, mhp_43), rfl, h, by rw [ht]; exact hP9, va_K.moved hW.alike hK, hD9⟩, hS.F ht⟩) hS.2.2 dX10_setLengths_42
        · intro r_44 mth_45 mle_46 mgr_47 mhp_48 hn9 h H locs ls hP hD hS
          have hP9 : va_P (dC, dI) vwCl [(aM, .inr (9, [.int mth_45, .int msz, .ref aMt, .int mwi, .int mle_46, .int mgr_47, .int mpr, .int mhp_48, .int mtk, .ref aMk, .ref aMl, .ref aMd, .ref aMs, .int mbn, .ref aMb, .int mmd, .ref aMo, .int mep, .ref aMc, .ref aMn, .ref aMfk, .ref aMfl, .ref aMfd, .ref aMg, .ref aMm, .int mat, .int mer]))] _ := hP
          have hD9 : va_D A [(aM, .inr (9, [.int mth_45, .int msz, .ref aMt, .int mwi, .int mle_46, .int mgr_47, .int mpr, .int mhp_48, .int mtk, .ref aMk, .ref aMl, .ref aMd, .ref aMs, .int mbn, .ref aMb, .int mmd, .ref aMo, .int mep, .ref aMc, .ref aMn, .ref aMfk, .ref aMfl, .ref aMfd, .ref aMg, .ref aMm, .int mat, .int mer]))] := hD
          exact W.zret (v := r_44) hx hb hr hn9 (fun t ht hW => ⟨⟨r_44, (mth_45, mle_46, mgr_47, mhp_48), rfl, h, by rw [ht]; exact hP9, va_K.moved hW.alike hK, hD9⟩, hS.F ht⟩) hS.2.2 dX10_setLengths_81
-- X10_setPrice
theorem qX10_setPrice_0 : Cond.fieldLink RX10 65 "MatchCoderModel" "thrown" "I" ∈ wsX10_setPrice := (List.mem_cons_of_mem _ (List.mem_append_left _ (List.mem_of_getElem? (i := 0) rfl)))
theorem qX10_setPrice_1 : Cond.fieldLink RX10 89 "MatchCoderModel" "price" "I" ∈ wsX10_setPrice := (List.mem_cons_of_mem _ (List.mem_append_left _ (List.mem_of_getElem? (i := 1) rfl)))
theorem qX10_setPrice_2 : Cond.fieldLink RX10 81 "MatchCoderModel" "hasPlan" "Z" ∈ wsX10_setPrice := (List.mem_cons_of_mem _ (List.mem_append_left _ (List.mem_of_getElem? (i := 2) rfl)))
theorem inX10_setPrice_wsX100 : ∀ w ∈ wsX100, w ∈ wsX10_setPrice := fun _ h => List.mem_cons_of_mem _ (List.mem_append_right _ h)
def wpX10_setPrice (mpr : Int32) (mhp : Int32) (v1 : Int32) (post : Int32 → Int32 → Int32 → Int32 → Prop) : Prop := wpX10_isIn v1 0 30 (fun (r_1 : Int32) => (r_1 = 0 → (wpX10_no 1 (fun (r_3 : Int32) (mth_4 : Int32) => post r_3 mth_4 mpr mhp))) ∧ (¬ r_1 = 0 → (post mpr 0 v1 0)))
set_option maxHeartbeats 4000000 in
set_option maxRecDepth 100000 in
theorem mtX10_setPrice (l : Launch) (dC : Nat → ClassId) (dI : Nat → Nat → Nat) (cyI : ClassId) {aM aMt aMk aMl aMd aMs aMb aMo aMc aMn aMfk aMfl aMfd aMg aMm : Nat} {sz : Nat} {mth : Int32} {msz : Int32} {mwi : Int32} {mle : Int32} {mgr : Int32} {mpr : Int32} {mhp : Int32} {mtk : Int32} {mbn : Int32} {mmd : Int32} {mep : Int32} {mat : Int32} {mer : Int32} {v1 : Int32} {post : Int32 → Int32 → Int32 → Int32 → Prop} (h : wpX10_setPrice mpr mhp v1 post) : Met l yX10_setPrice wsX10_setPrice ({ frames := 1, cells := 0, slots := 0, locals := 22 }) (va_Pc [.ref aM, .int v1] (wk_B (dC, dI) [(cyI, .int)] [(aM, .inr (9, [.int mth, .int msz, .ref aMt, .int mwi, .int mle, .int mgr, .int mpr, .int mhp, .int mtk, .ref aMk, .ref aMl, .ref aMd, .ref aMs, .int mbn, .ref aMb, .int mmd, .ref aMo, .int mep, .ref aMc, .ref aMn, .ref aMfk, .ref aMfl, .ref aMfd, .ref aMg, .ref aMm, .int mat, .int mer]))] sz)) (va_Qi (fun (r : Int32) (u : Int32 × Int32 × Int32) => post r u.1 u.2.1 u.2.2) (wk_C (dC, dI) [(cyI, .int)] (va_A [(aM, .inr (9, [.int mth, .int msz, .ref aMt, .int mwi, .int mle, .int mgr, .int mpr, .int mhp, .int mtk, .ref aMk, .ref aMl, .ref aMd, .ref aMs, .int mbn, .ref aMb, .int mmd, .ref aMo, .int mep, .ref aMc, .ref aMn, .ref aMfk, .ref aMfl, .ref aMfd, .ref aMg, .ref aMm, .int mat, .int mer]))] sz) (fun (u : Int32 × Int32 × Int32) => [(aM, .inr (9, [.int (u.1), .int msz, .ref aMt, .int mwi, .int mle, .int mgr, .int (u.2.1), .int (u.2.2), .int mtk, .ref aMk, .ref aMl, .ref aMd, .ref aMs, .int mbn, .ref aMb, .int mmd, .ref aMo, .int mep, .ref aMc, .ref aMn, .ref aMfk, .ref aMfl, .ref aMfd, .ref aMg, .ref aMm, .int mat, .int mer]))])) (va_A [(aM, .inr (9, [.int mth, .int msz, .ref aMt, .int mwi, .int mle, .int mgr, .int mpr, .int mhp, .int mtk, .ref aMk, .ref aMl, .ref aMd, .ref aMs, .int mbn, .ref aMb, .int mmd, .ref aMo, .int mep, .ref aMc, .ref aMn, .ref aMfk, .ref aMfl, .ref aMfd, .ref aMg, .ref aMm, .int mat, .int mer]))] sz)) 0 0 (va_A [(aM, .inr (9, [.int mth, .int msz, .ref aMt, .int mwi, .int mle, .int mgr, .int mpr, .int mhp, .int mtk, .ref aMk, .ref aMl, .ref aMd, .ref aMs, .int mbn, .ref aMb, .int mmd, .ref aMo, .int mep, .ref aMc, .ref aMn, .ref aMfk, .ref aMfl, .ref aMfd, .ref aMg, .ref aMm, .int mat, .int mer]))] sz) := by
  refine Met.ofW (cc := cX10_setPrice) (maxL := 3) (ret := (some .int)) (by decide) rfl ?_
  intro p e s m args below meth c s₁ B hml hv
  obtain ⟨rfl, hsz, hP, hK, hD0⟩ := hv
  have hx := B.exec
  have hb := B.bytes
  have hr := B.returns
  have hts := atoms_spec (ws := wsX10_setPrice) B.pre
  have hown : s.vm.findClass RX10 = some m.cls := findClass_of_methodNamed B.named
  have hlocks := B.notSynchronized
  subst hsz
  have hD := hD0.self (sz := s.heap.size)
  generalize hAe : va_A [(aM, .inr (9, [.int mth, .int msz, .ref aMt, .int mwi, .int mle, .int mgr, .int mpr, .int mhp, .int mtk, .ref aMk, .ref aMl, .ref aMd, .ref aMs, .int mbn, .ref aMb, .int mmd, .ref aMo, .int mep, .ref aMc, .ref aMn, .ref aMfk, .ref aMfl, .ref aMfd, .ref aMg, .ref aMm, .int mat, .int mer]))] s.heap.size = A at hD ⊢
  have hA : ∀ q : Nat, s.heap.size ≤ q → A q := fun q h => by rw [← hAe]; exact Or.inr h
  have hS : va_S A s.heap s.heap [] := va_S.rf
  have hP : va_P (dC, dI) vwCl [(aM, .inr (9, [.int mth, .int msz, .ref aMt, .int mwi, .int mle, .int mgr, .int mpr, .int mhp, .int mtk, .ref aMk, .ref aMl, .ref aMd, .ref aMs, .int mbn, .ref aMb, .int mmd, .ref aMo, .int mep, .ref aMc, .ref aMn, .ref aMfk, .ref aMfl, .ref aMfd, .ref aMg, .ref aMm, .int mat, .int mer]))] s.heap := hP
  have hl := lv_entry ([.ref aM, .int v1]) (n := 3) (Nat.le_of_ble_eq_true rfl)
  rw [lg_entry_eq]
  generalize (lg_sl ([.ref aM, .int v1]) ++ List.replicate (3 - (lg_sl ([.ref aM, .int v1])).length) Slot.unset).toArray = ls at hl ⊢
  have hl : lv_has ls 3 [(0, .ref aM), (1, .int v1)] := hl
  have C0 : CallFix p m c cX10_setPrice 3 s ([.ref aM, .int v1] : List Value).toArray wsX10_setPrice RX10 := ⟨hx, hb, hml, hown, hts⟩
  unfold wpX10_setPrice at h
  refine lv_aload_n hx hb dX10_setPrice_0 rfl (lv_at hl 0 rfl) ?_
  refine lv_iconst (v := 0) hx hb dX10_setPrice_1 (by decide) ?_
  refine va_put (D := (dC, dI)) (ci := 9) (v := .int 0) (ty := .int) (C := RX10) (T := TX10) (N := 27) hx hb hts inX10_setPrice_wsX100 tyX10 tyX10_ok nmX10 hown hK hP hD hS 0 rfl rfl 0 (by decide) (hts _ qX10_setPrice_0) (fun _ h9 => h9) rfl (by decide +kernel) rfl rfl (Nat.le_of_ble_eq_true rfl) dX10_setPrice_2 (fun H locs hP hD hS => ?_)
  have hP : va_P (dC, dI) vwCl [(aM, .inr (9, [.int 0, .int msz, .ref aMt, .int mwi, .int mle, .int mgr, .int mpr, .int mhp, .int mtk, .ref aMk, .ref aMl, .ref aMd, .ref aMs, .int mbn, .ref aMb, .int mmd, .ref aMo, .int mep, .ref aMc, .ref aMn, .ref aMfk, .ref aMfl, .ref aMfd, .ref aMg, .ref aMm, .int mat, .int mer]))] H := hP
  have hD : va_D A [(aM, .inr (9, [.int 0, .int msz, .ref aMt, .int mwi, .int mle, .int mgr, .int mpr, .int mhp, .int mtk, .ref aMk, .ref aMl, .ref aMd, .ref aMs, .int mbn, .ref aMb, .int mmd, .ref aMo, .int mep, .ref aMc, .ref aMn, .ref aMfk, .ref aMfl, .ref aMfd, .ref aMg, .ref aMm, .int mat, .int mer]))] := hD
  refine lv_iload_n hx hb dX10_setPrice_5 rfl (lv_at hl 1 rfl) ?_
  refine lv_iconst (v := 0) hx hb dX10_setPrice_6 (by decide) ?_
  refine lv_bipush (v := 30) hx hb dX10_setPrice_7 (by decide) ?_
  refine wk_calli (wc := []) (wr := [(aM, .inr (9, [.int 0, .int msz, .ref aMt, .int mwi, .int mle, .int mgr, .int mpr, .int mhp, .int mtk, .ref aMk, .ref aMl, .ref aMd, .ref aMs, .int mbn, .ref aMb, .int mmd, .ref aMo, .int mep, .ref aMc, .ref aMn, .ref aMfk, .ref aMfl, .ref aMfd, .ref aMg, .ref aMm, .int mat, .int mer]))]) (va_runS (As := [.int v1, .int 0, .int 30]) (rest := []) C0 (mtX10_isIn l dC dI cyI (sz := _) (v0 := v1) (v1 := 0) (v2 := 30) h) (va_cwS 3 hts gX10_setPrice_X10_isIn rfl rfl rfl (by decide +kernel) ⟨(Nat.le_of_ble_eq_true rfl), (Nat.le_of_ble_eq_true rfl)⟩) (wk_preS (wc := []) hK hP hD [] rfl (by decide)) rfl rfl hl.1 rfl (lv_room (Nat.le_of_ble_eq_true rfl)) dX10_setPrice_9 ⟨(Nat.le_of_ble_eq_true rfl), (Nat.le_of_ble_eq_true rfl)⟩) hP hD hS hA [] [0] rfl rfl (by decide) (by decide) (fun r_1 u9 H locs h hP hD hS => ?_)
  have hP : va_P (dC, dI) vwCl [(aM, .inr (9, [.int 0, .int msz, .ref aMt, .int mwi, .int mle, .int mgr, .int mpr, .int mhp, .int mtk, .ref aMk, .ref aMl, .ref aMd, .ref aMs, .int mbn, .ref aMb, .int mmd, .ref aMo, .int mep, .ref aMc, .ref aMn, .ref aMfk, .ref aMfl, .ref aMfd, .ref aMg, .ref aMm, .int mat, .int mer]))] H := hP
  have hD : va_D A [(aM, .inr (9, [.int 0, .int msz, .ref aMt, .int mwi, .int mle, .int mgr, .int mpr, .int mhp, .int mtk, .ref aMk, .ref aMl, .ref aMd, .ref aMs, .int mbn, .ref aMb, .int mmd, .ref aMo, .int mep, .ref aMc, .ref aMn, .ref aMfk, .ref aMfl, .ref aMfd, .ref aMg, .ref aMm, .int mat, .int mer]))] := hD
  refine lv_if_ne (tgt := 21) hx hb dX10_setPrice_12 (by decide) (fun c_2 => ?_) (fun c_2 => ?_)
  · replace h := h.2 c_2
    refine lv_aload_n hx hb dX10_setPrice_21 rfl (lv_at hl 0 rfl) ?_
    refine va_get (D := (dC, dI)) (ci := 9) (v := .int mpr) (C := RX10) (T := TX10) (N := 27) hx hb hts inX10_setPrice_wsX100 hown hK hP 0 rfl rfl 6 (by decide) (hts _ qX10_setPrice_1) (fun _ h9 => h9) rfl dX10_setPrice_22 ?_
    refine lv_istore_n (lv' := [(2, .int mpr), (0, .ref aM), (1, .int v1)]) hx hb dX10_setPrice_25 rfl hl (by decide) rfl (fun ls hl => ?_)
    refine lv_aload_n hx hb dX10_setPrice_26 rfl (lv_at hl 1 rfl) ?_
    refine lv_iload_n hx hb dX10_setPrice_27 rfl (lv_at hl 2 rfl) ?_
    refine va_put (D := (dC, dI)) (ci := 9) (v := .int v1) (ty := .int) (C := RX10) (T := TX10) (N := 27) hx hb hts inX10_setPrice_wsX100 tyX10 tyX10_ok nmX10 hown hK hP hD hS 0 rfl rfl 6 (by decide) (hts _ qX10_setPrice_1) (fun _ h9 => h9) rfl (by decide +kernel) rfl rfl (Nat.le_of_ble_eq_true rfl) dX10_setPrice_28 (fun H locs hP hD hS => ?_)
    have hP : va_P (dC, dI) vwCl [(aM, .inr (9, [.int 0, .int msz, .ref aMt, .int mwi, .int mle, .int mgr, .int v1, .int mhp, .int mtk, .ref aMk, .ref aMl, .ref aMd, .ref aMs, .int mbn, .ref aMb, .int mmd, .ref aMo, .int mep, .ref aMc, .ref aMn, .ref aMfk, .ref aMfl, .ref aMfd, .ref aMg, .ref aMm, .int mat, .int mer]))] H := hP
    have hD : va_D A [(aM, .inr (9, [.int 0, .int msz, .ref aMt, .int mwi, .int mle, .int mgr, .int v1, .int mhp, .int mtk, .ref aMk, .ref aMl, .ref aMd, .ref aMs, .int mbn, .ref aMb, .int mmd, .ref aMo, .int mep, .ref aMc, .ref aMn, .ref aMfk, .ref aMfl, .ref aMfd, .ref aMg, .ref aMm, .int mat, .int mer]))] := hD
    refine lv_aload_n hx hb dX10_setPrice_31 rfl (lv_at hl 1 rfl) ?_
    refine lv_iconst (v := 0) hx hb dX10_setPrice_32 (by decide) ?_
    refine va_put (D := (dC, dI)) (ci := 9) (v := .int 0) (ty := .boolean) (C := RX10) (T := TX10) (N := 27) hx hb hts inX10_setPrice_wsX100 tyX10 tyX10_ok nmX10 hown hK hP hD hS 0 rfl rfl 7 (by decide) (hts _ qX10_setPrice_2) (fun _ h9 => h9) rfl (by decide +kernel) rfl rfl (Nat.le_of_ble_eq_true rfl) dX10_setPrice_33 (fun H locs hP hD hS => ?_)
    have hP : va_P (dC, dI) vwCl [(aM, .inr (9, [.int 0, .int msz, .ref aMt, .int mwi, .int mle, .int mgr, .int v1, .int 0, .int mtk, .ref aMk, .ref aMl, .ref aMd, .ref aMs, .int mbn, .ref aMb, .int mmd, .ref aMo, .int mep, .ref aMc, .ref aMn, .ref aMfk, .ref aMfl, .ref aMfd, .ref aMg, .ref aMm, .int mat, .int mer]))] H := hP
    have hD : va_D A [(aM, .inr (9, [.int 0, .int msz, .ref aMt, .int mwi, .int mle, .int mgr, .int v1, .int 0, .int mtk, .ref aMk, .ref aMl, .ref aMd, .ref aMs, .int mbn, .ref aMb, .int mmd, .ref aMo, .int mep, .ref aMc, .ref aMn, .ref aMfk, .ref aMfl, .ref aMfd, .ref aMg, .ref aMm, .int mat, .int mer]))] := hD
    refine lv_iload_n hx hb dX10_setPrice_36 rfl (lv_at hl 0 rfl) ?_
    have hP9 : va_P (dC, dI) vwCl [(aM, .inr (9, [.int 0, .int msz, .ref aMt, .int mwi, .int mle, .int mgr, .int v1, .int 0, .int mtk, .ref aMk, .ref aMl, .ref aMd, .ref aMs, .int mbn, .ref aMb, .int mmd, .ref aMo, .int mep, .ref aMc, .ref aMn, .ref aMfk, .ref aMfl, .ref aMfd, .ref aMg, .ref aMm, .int mat, .int mer]))] _ := hP
    have hD9 : va_D A [(aM, .inr (9, [.int 0, .int msz, .ref aMt, .int mwi, .int mle, .int mgr, .int v1, .int 0, .int mtk, .ref aMk, .ref aMl, .ref aMd, .ref aMs, .int mbn, .ref aMb, .int mmd, .ref aMo, .int mep, .ref aMc, .ref aMn, .ref aMfk, .ref aMfl, .ref aMfd, .ref aMg, .ref aMm, .int mat, .int mer]))] := hD
    exact W.iret (v := mpr) hx hb hr (fun t ht hW => ⟨⟨mpr, (0, v1, 0), rfl, h, by rw [ht]; exact hP9, va_K.moved hW.alike hK, hD9⟩, hS.F ht⟩) hS.2.2 dX10_setPrice_37
  · replace h := h.1 c_2
    refine lv_aload_n hx hb dX10_setPrice_15 rfl (lv_at hl 0 rfl) ?_
    refine lv_iconst (v := 1) hx hb dX10_setPrice_16 (by decide) ?_
    refine wk_calli (wc := [(aM, .inr (9, [.int 0, .int msz, .ref aMt, .int mwi, .int mle, .int mgr, .int mpr, .int mhp, .int mtk, .ref aMk, .ref aMl, .ref aMd, .ref aMs, .int mbn, .ref aMb, .int mmd, .ref aMo, .int mep, .ref aMc, .ref aMn, .ref aMfk, .ref aMfl, .ref aMfd, .ref aMg, .ref aMm, .int mat, .int mer]))]) (wr := []) (va_runV (As := [.int 1]) (rest := []) C0 (mtX10_no l dC dI cyI (aM := aM) (aMt := aMt) (aMk := aMk) (aMl := aMl) (aMd := aMd) (aMs := aMs) (aMb := aMb) (aMo := aMo) (aMc := aMc) (aMn := aMn) (aMfk := aMfk) (aMfl := aMfl) (aMfd := aMfd) (aMg := aMg) (aMm := aMm) (sz := _) (mth := 0) (msz := msz) (mwi := mwi) (mle := mle) (mgr := mgr) (mpr := mpr) (mhp := mhp) (mtk := mtk) (mbn := mbn) (mmd := mmd) (mep := mep) (mat := mat) (mer := mer) (v1 := 1) h) (cwV 1 hts gX10_setPrice_X10_no rfl rfl rfl (by decide +kernel) ⟨(Nat.le_of_ble_eq_true rfl), (Nat.le_of_ble_eq_true rfl)⟩) (wk_preV (wc := [(aM, .inr (9, [.int 0, .int msz, .ref aMt, .int mwi, .int mle, .int mgr, .int mpr, .int mhp, .int mtk, .ref aMk, .ref aMl, .ref aMd, .ref aMs, .int mbn, .ref aMb, .int mmd, .ref aMo, .int mep, .ref aMc, .ref aMn, .ref aMfk, .ref aMfl, .ref aMfd, .ref aMg, .ref aMm, .int mat, .int mer]))]) hK hP hD [0] rfl (by decide) (va_recv hK hP (ci := 9) (q0 := 0) rfl rfl)) rfl rfl hl.1 rfl (lv_room (Nat.le_of_ble_eq_true rfl)) dX10_setPrice_17 ⟨(Nat.le_of_ble_eq_true rfl), (Nat.le_of_ble_eq_true rfl)⟩) hP hD hS hA [0] [] rfl rfl (by decide) (by decide) (fun r_3 u9 H locs h hP hD hS => ?_)
    obtain ⟨mth_4, rfl⟩ : ∃ z9, z9 = u9 := ⟨_, rfl⟩
    have hP : va_P (dC, dI) vwCl [(aM, .inr (9, [.int mth_4, .int msz, .ref aMt, .int mwi, .int mle, .int mgr, .int mpr, .int mhp, .int mtk, .ref aMk, .ref aMl, .ref aMd, .ref aMs, .int mbn, .ref aMb, .int mmd, .ref aMo, .int mep, .ref aMc, .ref aMn, .ref aMfk, .ref aMfl, .ref aMfd, .ref aMg, .ref aMm, .int mat, .int mer]))] H := hP
    have hD : va_D A [(aM, .inr (9, [.int mth_4, .int msz, .ref aMt, .int mwi, .int mle, .int mgr, .int mpr, .int mhp, .int mtk, .ref aMk, .ref aMl, .ref aMd, .ref aMs, .int mbn, .ref aMb, .int mmd, .ref aMo, .int mep, .ref aMc, .ref aMn, .ref aMfk, .ref aMfl, .ref aMfd, .ref aMg, .ref aMm, .int mat, .int mer]))] := hD
    have hP9 : va_P (dC, dI) vwCl [(aM, .inr (9, [.int mth_4, .int msz, .ref aMt, .int mwi, .int mle, .int mgr, .int mpr, .int mhp, .int mtk, .ref aMk, .ref aMl, .ref aMd, .ref aMs, .int mbn, .ref aMb, .int mmd, .ref aMo, .int mep, .ref aMc, .ref aMn, .ref aMfk, .ref aMfl, .ref aMfd, .ref aMg, .ref aMm, .int mat, .int mer]))] _ := hP
    have hD9 : va_D A [(aM, .inr (9, [.int mth_4, .int msz, .ref aMt, .int mwi, .int mle, .int mgr, .int mpr, .int mhp, .int mtk, .ref aMk, .ref aMl, .ref aMd, .ref aMs, .int mbn, .ref aMb, .int mmd, .ref aMo, .int mep, .ref aMc, .ref aMn, .ref aMfk, .ref aMfl, .ref aMfd, .ref aMg, .ref aMm, .int mat, .int mer]))] := hD
    exact W.iret (v := r_3) hx hb hr (fun t ht hW => ⟨⟨r_3, (mth_4, mpr, mhp), rfl, h, by rw [ht]; exact hP9, va_K.moved hW.alike hK, hD9⟩, hS.F ht⟩) hS.2.2 dX10_setPrice_20
