-- X4_forget
theorem qX4_forget_0 : Cond.fieldLink RX4 28 "MatchCoder$Plan" "chosen" "Z" ∈ wsX4_forget := (List.mem_cons_of_mem _ (List.mem_append_left _ (List.mem_of_getElem? (i := 0) rfl)))
theorem qX4_forget_1 : Cond.fieldLink RX4 24 "MatchCoder$Plan" "count" "I" ∈ wsX4_forget := (List.mem_cons_of_mem _ (List.mem_append_left _ (List.mem_of_getElem? (i := 1) rfl)))
theorem inX4_forget_wsX40 : ∀ w ∈ wsX40, w ∈ wsX4_forget := fun _ h => List.mem_cons_of_mem _ (List.mem_append_right _ h)
def wpX4_forget (post : Int32 → Int32 → Prop) : Prop := post 0 0
set_option maxHeartbeats 4000000 in
set_option maxRecDepth 100000 in
theorem mtX4_forget (l : Launch) (dC : Nat → ClassId) (dI : Nat → Nat → Nat) (cyI : ClassId) {aP aPk aPl aPd aPs : Nat} {sz : Nat} {pn : Int32} {pch : Int32} {post : Int32 → Int32 → Prop} (h : wpX4_forget post) : Met l yX4_forget wsX4_forget ({ frames := 0, cells := 0, slots := 0, locals := 0 }) (va_Pc [.ref aP] (wk_B (dC, dI) [(cyI, .int)] [(aP, .inr (3, [.ref aPk, .ref aPl, .ref aPd, .ref aPs, .int pn, .int pch]))] sz)) (va_Qv (fun (u : Int32 × Int32) => post u.1 u.2) (wk_C (dC, dI) [(cyI, .int)] (va_A [(aP, .inr (3, [.ref aPk, .ref aPl, .ref aPd, .ref aPs, .int pn, .int pch]))] sz) (fun (u : Int32 × Int32) => [(aP, .inr (3, [.ref aPk, .ref aPl, .ref aPd, .ref aPs, .int (u.1), .int (u.2)]))])) (va_A [(aP, .inr (3, [.ref aPk, .ref aPl, .ref aPd, .ref aPs, .int pn, .int pch]))] sz)) 0 0 (va_A [(aP, .inr (3, [.ref aPk, .ref aPl, .ref aPd, .ref aPs, .int pn, .int pch]))] sz) := by
  refine Met.ofW (cc := cX4_forget) (maxL := 1) (ret := none) (by decide) rfl ?_
  intro p e s m args below meth c s₁ B hml hv
  obtain ⟨rfl, hsz, hP, hK, hD0⟩ := hv
  have hx := B.exec
  have hb := B.bytes
  have hr := B.returns
  have hts := atoms_spec (ws := wsX4_forget) B.pre
  have hown : s.vm.findClass RX4 = some m.cls := findClass_of_methodNamed B.named
  have hlocks := B.notSynchronized
  subst hsz
  have hD := hD0.self (sz := s.heap.size)
  generalize hAe : va_A [(aP, .inr (3, [.ref aPk, .ref aPl, .ref aPd, .ref aPs, .int pn, .int pch]))] s.heap.size = A at hD ⊢
  have hA : ∀ q : Nat, s.heap.size ≤ q → A q := fun q h => by rw [← hAe]; exact Or.inr h
  have hS : va_S A s.heap s.heap [] := va_S.rf
  have hP : va_P (dC, dI) vwCl [(aP, .inr (3, [.ref aPk, .ref aPl, .ref aPd, .ref aPs, .int pn, .int pch]))] s.heap := hP
  have hl := lv_entry ([.ref aP]) (n := 1) (Nat.le_of_ble_eq_true rfl)
  rw [lg_entry_eq]
  generalize (lg_sl ([.ref aP]) ++ List.replicate (1 - (lg_sl ([.ref aP])).length) Slot.unset).toArray = ls at hl ⊢
  have hl : lv_has ls 1 [(0, .ref aP)] := hl
  have C0 : CallFix p m c cX4_forget 1 s ([.ref aP] : List Value).toArray wsX4_forget RX4 := ⟨hx, hb, hml, hown, hts⟩
  unfold wpX4_forget at h
  refine lv_aload_n hx hb dX4_forget_0 rfl (lv_at hl 0 rfl) ?_
  refine lv_iconst (v := 0) hx hb dX4_forget_1 (by decide) ?_
  refine va_put (D := (dC, dI)) (ci := 3) (v := .int 0) (ty := .boolean) (C := RX4) (T := TX4) (N := 6) hx hb hts inX4_forget_wsX40 tyX4 tyX4_ok nmX4 hown hK hP hD hS 0 rfl rfl 5 (by decide) (hts _ qX4_forget_0) (fun _ h9 => h9) rfl (by decide +kernel) rfl rfl (Nat.le_of_ble_eq_true rfl) dX4_forget_2 (fun H locs hP hD hS => ?_)
  have hP : va_P (dC, dI) vwCl [(aP, .inr (3, [.ref aPk, .ref aPl, .ref aPd, .ref aPs, .int pn, .int 0]))] H := hP
  have hD : va_D A [(aP, .inr (3, [.ref aPk, .ref aPl, .ref aPd, .ref aPs, .int pn, .int 0]))] := hD
  refine lv_aload_n hx hb dX4_forget_5 rfl (lv_at hl 0 rfl) ?_
  refine lv_iconst (v := 0) hx hb dX4_forget_6 (by decide) ?_
  refine va_put (D := (dC, dI)) (ci := 3) (v := .int 0) (ty := .int) (C := RX4) (T := TX4) (N := 6) hx hb hts inX4_forget_wsX40 tyX4 tyX4_ok nmX4 hown hK hP hD hS 0 rfl rfl 4 (by decide) (hts _ qX4_forget_1) (fun _ h9 => h9) rfl (by decide +kernel) rfl rfl (Nat.le_of_ble_eq_true rfl) dX4_forget_7 (fun H locs hP hD hS => ?_)
  have hP : va_P (dC, dI) vwCl [(aP, .inr (3, [.ref aPk, .ref aPl, .ref aPd, .ref aPs, .int 0, .int 0]))] H := hP
  have hD : va_D A [(aP, .inr (3, [.ref aPk, .ref aPl, .ref aPd, .ref aPs, .int 0, .int 0]))] := hD
  have hP9 : va_P (dC, dI) vwCl [(aP, .inr (3, [.ref aPk, .ref aPl, .ref aPd, .ref aPs, .int 0, .int 0]))] _ := hP
  have hD9 : va_D A [(aP, .inr (3, [.ref aPk, .ref aPl, .ref aPd, .ref aPs, .int 0, .int 0]))] := hD
  exact W.vret hx hb hr (fun t ht hW => ⟨⟨(0, 0), rfl, h, by rw [ht]; exact hP9, va_K.moved hW.alike hK, hD9⟩, hS.F ht⟩) hS.2.2 dX4_forget_10
-- X4_begin
theorem qX4_begin_0 : Cond.fieldLink RX4 28 "MatchCoder$Plan" "chosen" "Z" ∈ wsX4_begin := (List.mem_cons_of_mem _ (List.mem_append_left _ (List.mem_of_getElem? (i := 0) rfl)))
theorem qX4_begin_1 : Cond.fieldLink RX4 24 "MatchCoder$Plan" "count" "I" ∈ wsX4_begin := (List.mem_cons_of_mem _ (List.mem_append_left _ (List.mem_of_getElem? (i := 1) rfl)))
theorem inX4_begin_wsX40 : ∀ w ∈ wsX40, w ∈ wsX4_begin := fun _ h => List.mem_cons_of_mem _ (List.mem_append_right _ h)
def wpX4_begin (post : Int32 → Int32 → Prop) : Prop := post 0 1
set_option maxHeartbeats 4000000 in
set_option maxRecDepth 100000 in
theorem mtX4_begin (l : Launch) (dC : Nat → ClassId) (dI : Nat → Nat → Nat) (cyI : ClassId) {aP aPk aPl aPd aPs : Nat} {sz : Nat} {pn : Int32} {pch : Int32} {post : Int32 → Int32 → Prop} (h : wpX4_begin post) : Met l yX4_begin wsX4_begin ({ frames := 0, cells := 0, slots := 0, locals := 0 }) (va_Pc [.ref aP] (wk_B (dC, dI) [(cyI, .int)] [(aP, .inr (3, [.ref aPk, .ref aPl, .ref aPd, .ref aPs, .int pn, .int pch]))] sz)) (va_Qv (fun (u : Int32 × Int32) => post u.1 u.2) (wk_C (dC, dI) [(cyI, .int)] (va_A [(aP, .inr (3, [.ref aPk, .ref aPl, .ref aPd, .ref aPs, .int pn, .int pch]))] sz) (fun (u : Int32 × Int32) => [(aP, .inr (3, [.ref aPk, .ref aPl, .ref aPd, .ref aPs, .int (u.1), .int (u.2)]))])) (va_A [(aP, .inr (3, [.ref aPk, .ref aPl, .ref aPd, .ref aPs, .int pn, .int pch]))] sz)) 0 0 (va_A [(aP, .inr (3, [.ref aPk, .ref aPl, .ref aPd, .ref aPs, .int pn, .int pch]))] sz) := by
  refine Met.ofW (cc := cX4_begin) (maxL := 1) (ret := none) (by decide) rfl ?_
  intro p e s m args below meth c s₁ B hml hv
  obtain ⟨rfl, hsz, hP, hK, hD0⟩ := hv
  have hx := B.exec
  have hb := B.bytes
  have hr := B.returns
  have hts := atoms_spec (ws := wsX4_begin) B.pre
  have hown : s.vm.findClass RX4 = some m.cls := findClass_of_methodNamed B.named
  have hlocks := B.notSynchronized
  subst hsz
  have hD := hD0.self (sz := s.heap.size)
  generalize hAe : va_A [(aP, .inr (3, [.ref aPk, .ref aPl, .ref aPd, .ref aPs, .int pn, .int pch]))] s.heap.size = A at hD ⊢
  have hA : ∀ q : Nat, s.heap.size ≤ q → A q := fun q h => by rw [← hAe]; exact Or.inr h
  have hS : va_S A s.heap s.heap [] := va_S.rf
  have hP : va_P (dC, dI) vwCl [(aP, .inr (3, [.ref aPk, .ref aPl, .ref aPd, .ref aPs, .int pn, .int pch]))] s.heap := hP
  have hl := lv_entry ([.ref aP]) (n := 1) (Nat.le_of_ble_eq_true rfl)
  rw [lg_entry_eq]
  generalize (lg_sl ([.ref aP]) ++ List.replicate (1 - (lg_sl ([.ref aP])).length) Slot.unset).toArray = ls at hl ⊢
  have hl : lv_has ls 1 [(0, .ref aP)] := hl
  have C0 : CallFix p m c cX4_begin 1 s ([.ref aP] : List Value).toArray wsX4_begin RX4 := ⟨hx, hb, hml, hown, hts⟩
  unfold wpX4_begin at h
  refine lv_aload_n hx hb dX4_begin_0 rfl (lv_at hl 0 rfl) ?_
  refine lv_iconst (v := 1) hx hb dX4_begin_1 (by decide) ?_
  refine va_put (D := (dC, dI)) (ci := 3) (v := .int 1) (ty := .boolean) (C := RX4) (T := TX4) (N := 6) hx hb hts inX4_begin_wsX40 tyX4 tyX4_ok nmX4 hown hK hP hD hS 0 rfl rfl 5 (by decide) (hts _ qX4_begin_0) (fun _ h9 => h9) rfl (by decide +kernel) rfl rfl (Nat.le_of_ble_eq_true rfl) dX4_begin_2 (fun H locs hP hD hS => ?_)
  have hP : va_P (dC, dI) vwCl [(aP, .inr (3, [.ref aPk, .ref aPl, .ref aPd, .ref aPs, .int pn, .int 1]))] H := hP
  have hD : va_D A [(aP, .inr (3, [.ref aPk, .ref aPl, .ref aPd, .ref aPs, .int pn, .int 1]))] := hD
  refine lv_aload_n hx hb dX4_begin_5 rfl (lv_at hl 0 rfl) ?_
  refine lv_iconst (v := 0) hx hb dX4_begin_6 (by decide) ?_
  refine va_put (D := (dC, dI)) (ci := 3) (v := .int 0) (ty := .int) (C := RX4) (T := TX4) (N := 6) hx hb hts inX4_begin_wsX40 tyX4 tyX4_ok nmX4 hown hK hP hD hS 0 rfl rfl 4 (by decide) (hts _ qX4_begin_1) (fun _ h9 => h9) rfl (by decide +kernel) rfl rfl (Nat.le_of_ble_eq_true rfl) dX4_begin_7 (fun H locs hP hD hS => ?_)
  have hP : va_P (dC, dI) vwCl [(aP, .inr (3, [.ref aPk, .ref aPl, .ref aPd, .ref aPs, .int 0, .int 1]))] H := hP
  have hD : va_D A [(aP, .inr (3, [.ref aPk, .ref aPl, .ref aPd, .ref aPs, .int 0, .int 1]))] := hD
  have hP9 : va_P (dC, dI) vwCl [(aP, .inr (3, [.ref aPk, .ref aPl, .ref aPd, .ref aPs, .int 0, .int 1]))] _ := hP
  have hD9 : va_D A [(aP, .inr (3, [.ref aPk, .ref aPl, .ref aPd, .ref aPs, .int 0, .int 1]))] := hD
  exact W.vret hx hb hr (fun t ht hW => ⟨⟨(0, 1), rfl, h, by rw [ht]; exact hP9, va_K.moved hW.alike hK, hD9⟩, hS.F ht⟩) hS.2.2 dX4_begin_10
-- X4_add
theorem qX4_add_0 : Cond.fieldLink RX4 24 "MatchCoder$Plan" "count" "I" ∈ wsX4_add := (List.mem_cons_of_mem _ (List.mem_append_left _ (List.mem_of_getElem? (i := 0) rfl)))
theorem qX4_add_1 : Cond.fieldLink RX4 9 "MatchCoder$Plan" "kinds" "[I" ∈ wsX4_add := (List.mem_cons_of_mem _ (List.mem_append_left _ (List.mem_of_getElem? (i := 1) rfl)))
theorem qX4_add_2 : Cond.fieldLink RX4 15 "MatchCoder$Plan" "lengths" "[I" ∈ wsX4_add := (List.mem_cons_of_mem _ (List.mem_append_left _ (List.mem_of_getElem? (i := 2) rfl)))
theorem qX4_add_3 : Cond.fieldLink RX4 18 "MatchCoder$Plan" "distances" "[I" ∈ wsX4_add := (List.mem_cons_of_mem _ (List.mem_append_left _ (List.mem_of_getElem? (i := 3) rfl)))
theorem qX4_add_4 : Cond.fieldLink RX4 21 "MatchCoder$Plan" "starts" "[I" ∈ wsX4_add := (List.mem_cons_of_mem _ (List.mem_append_left _ (List.mem_of_getElem? (i := 4) rfl)))
theorem inX4_add_wsX40 : ∀ w ∈ wsX40, w ∈ wsX4_add := fun _ h => List.mem_cons_of_mem _ (List.mem_append_right _ h)
def wpX4_add (pn : Int32) (pk : Nat → Int32) (pl : Nat → Int32) (pd : Nat → Int32) (ps : Nat → Int32) (v1 : Int32) (v2 : Int32) (v3 : Int32) (v4 : Int32) (post : Int32 → (Nat → Int32) → (Nat → Int32) → (Nat → Int32) → (Nat → Int32) → Prop) : Prop := (64 ≤ pn → (post pn pk pl pd ps)) ∧ (¬ 64 ≤ pn → (vp_in pn 64 ∧ (post (pn + 1) (upd pk pn.toNatClampNeg v1) (upd pl pn.toNatClampNeg v2) (upd pd pn.toNatClampNeg v3) (upd ps pn.toNatClampNeg v4))))
set_option maxHeartbeats 4000000 in
set_option maxRecDepth 100000 in
theorem mtX4_add (l : Launch) (dC : Nat → ClassId) (dI : Nat → Nat → Nat) (cyI : ClassId) {aP aPk aPl aPd aPs : Nat} {sz : Nat} {pn : Int32} {pch : Int32} {pk : Nat → Int32} {pl : Nat → Int32} {pd : Nat → Int32} {ps : Nat → Int32} {v1 : Int32} {v2 : Int32} {v3 : Int32} {v4 : Int32} {post : Int32 → (Nat → Int32) → (Nat → Int32) → (Nat → Int32) → (Nat → Int32) → Prop} (h : wpX4_add pn pk pl pd ps v1 v2 v3 v4 post) : Met l yX4_add wsX4_add ({ frames := 0, cells := 0, slots := 0, locals := 0 }) (va_Pc [.ref aP, .int v1, .int v2, .int v3, .int v4] (wk_B (dC, dI) [(cyI, .int)] [(aP, .inr (3, [.ref aPk, .ref aPl, .ref aPd, .ref aPs, .int pn, .int pch])), (aPk, .inl (cyI, 64, .inl pk)), (aPl, .inl (cyI, 64, .inl pl)), (aPd, .inl (cyI, 64, .inl pd)), (aPs, .inl (cyI, 64, .inl ps))] sz)) (va_Qv (fun (u : Int32 × (Nat → Int32) × (Nat → Int32) × (Nat → Int32) × (Nat → Int32)) => post u.1 u.2.1 u.2.2.1 u.2.2.2.1 u.2.2.2.2) (wk_C (dC, dI) [(cyI, .int)] (va_A [(aP, .inr (3, [.ref aPk, .ref aPl, .ref aPd, .ref aPs, .int pn, .int pch])), (aPk, .inl (cyI, 64, .inl pk)), (aPl, .inl (cyI, 64, .inl pl)), (aPd, .inl (cyI, 64, .inl pd)), (aPs, .inl (cyI, 64, .inl ps))] sz) (fun (u : Int32 × (Nat → Int32) × (Nat → Int32) × (Nat → Int32) × (Nat → Int32)) => [(aP, .inr (3, [.ref aPk, .ref aPl, .ref aPd, .ref aPs, .int (u.1), .int pch])), (aPk, .inl (cyI, 64, .inl (u.2.1))), (aPl, .inl (cyI, 64, .inl (u.2.2.1))), (aPd, .inl (cyI, 64, .inl (u.2.2.2.1))), (aPs, .inl (cyI, 64, .inl (u.2.2.2.2)))])) (va_A [(aP, .inr (3, [.ref aPk, .ref aPl, .ref aPd, .ref aPs, .int pn, .int pch])), (aPk, .inl (cyI, 64, .inl pk)), (aPl, .inl (cyI, 64, .inl pl)), (aPd, .inl (cyI, 64, .inl pd)), (aPs, .inl (cyI, 64, .inl ps))] sz)) 0 0 (va_A [(aP, .inr (3, [.ref aPk, .ref aPl, .ref aPd, .ref aPs, .int pn, .int pch])), (aPk, .inl (cyI, 64, .inl pk)), (aPl, .inl (cyI, 64, .inl pl)), (aPd, .inl (cyI, 64, .inl pd)), (aPs, .inl (cyI, 64, .inl ps))] sz) := by
  refine Met.ofW (cc := cX4_add) (maxL := 5) (ret := none) (by decide) rfl ?_
  intro p e s m args below meth c s₁ B hml hv
  obtain ⟨rfl, hsz, hP, hK, hD0⟩ := hv
  have hx := B.exec
  have hb := B.bytes
  have hr := B.returns
  have hts := atoms_spec (ws := wsX4_add) B.pre
  have hown : s.vm.findClass RX4 = some m.cls := findClass_of_methodNamed B.named
  have hlocks := B.notSynchronized
  subst hsz
  have hD := hD0.self (sz := s.heap.size)
  generalize hAe : va_A [(aP, .inr (3, [.ref aPk, .ref aPl, .ref aPd, .ref aPs, .int pn, .int pch])), (aPk, .inl (cyI, 64, .inl pk)), (aPl, .inl (cyI, 64, .inl pl)), (aPd, .inl (cyI, 64, .inl pd)), (aPs, .inl (cyI, 64, .inl ps))] s.heap.size = A at hD ⊢
  have hA : ∀ q : Nat, s.heap.size ≤ q → A q := fun q h => by rw [← hAe]; exact Or.inr h
  have hS : va_S A s.heap s.heap [] := va_S.rf
  have hP : va_P (dC, dI) vwCl [(aP, .inr (3, [.ref aPk, .ref aPl, .ref aPd, .ref aPs, .int pn, .int pch])), (aPk, .inl (cyI, 64, .inl pk)), (aPl, .inl (cyI, 64, .inl pl)), (aPd, .inl (cyI, 64, .inl pd)), (aPs, .inl (cyI, 64, .inl ps))] s.heap := hP
  have hl := lv_entry ([.ref aP, .int v1, .int v2, .int v3, .int v4]) (n := 5) (Nat.le_of_ble_eq_true rfl)
  rw [lg_entry_eq]
  generalize (lg_sl ([.ref aP, .int v1, .int v2, .int v3, .int v4]) ++ List.replicate (5 - (lg_sl ([.ref aP, .int v1, .int v2, .int v3, .int v4])).length) Slot.unset).toArray = ls at hl ⊢
  have hl : lv_has ls 5 [(0, .ref aP), (1, .int v1), (2, .int v2), (3, .int v3), (4, .int v4)] := hl
  have C0 : CallFix p m c cX4_add 5 s ([.ref aP, .int v1, .int v2, .int v3, .int v4] : List Value).toArray wsX4_add RX4 := ⟨hx, hb, hml, hown, hts⟩
  unfold wpX4_add at h
  refine lv_aload_n hx hb dX4_add_0 rfl (lv_at hl 0 rfl) ?_
  refine va_get (D := (dC, dI)) (ci := 3) (v := .int pn) (C := RX4) (T := TX4) (N := 6) hx hb hts inX4_add_wsX40 hown hK hP 0 rfl rfl 4 (by decide) (hts _ qX4_add_0) (fun _ h9 => h9) rfl dX4_add_1 ?_
  refine lv_bipush (v := 64) hx hb dX4_add_4 (by decide) ?_
  refine lv_icmp_ge (tgt := 60) hx hb dX4_add_6 (by decide) (fun c_1 => ?_) (fun c_1 => ?_)
  · replace h := h.1 c_1
    have hP9 : va_P (dC, dI) vwCl [(aP, .inr (3, [.ref aPk, .ref aPl, .ref aPd, .ref aPs, .int pn, .int pch])), (aPk, .inl (cyI, 64, .inl pk)), (aPl, .inl (cyI, 64, .inl pl)), (aPd, .inl (cyI, 64, .inl pd)), (aPs, .inl (cyI, 64, .inl ps))] _ := hP
    have hD9 : va_D A [(aP, .inr (3, [.ref aPk, .ref aPl, .ref aPd, .ref aPs, .int pn, .int pch])), (aPk, .inl (cyI, 64, .inl pk)), (aPl, .inl (cyI, 64, .inl pl)), (aPd, .inl (cyI, 64, .inl pd)), (aPs, .inl (cyI, 64, .inl ps))] := hD
    exact W.vret hx hb hr (fun t ht hW => ⟨⟨(pn, pk, pl, pd, ps), rfl, h, by rw [ht]; exact hP9, va_K.moved hW.alike hK, hD9⟩, hS.F ht⟩) hS.2.2 dX4_add_60
  · replace h := h.2 c_1
    refine lv_aload_n hx hb dX4_add_9 rfl (lv_at hl 0 rfl) ?_
    refine va_get (D := (dC, dI)) (ci := 3) (v := .ref aPk) (C := RX4) (T := TX4) (N := 6) hx hb hts inX4_add_wsX40 hown hK hP 0 rfl rfl 0 (by decide) (hts _ qX4_add_1) (fun _ h9 => h9) rfl dX4_add_10 ?_
    refine lv_aload_n hx hb dX4_add_13 rfl (lv_at hl 0 rfl) ?_
    refine va_get (D := (dC, dI)) (ci := 3) (v := .int pn) (C := RX4) (T := TX4) (N := 6) hx hb hts inX4_add_wsX40 hown hK hP 0 rfl rfl 4 (by decide) (hts _ qX4_add_0) (fun _ h9 => h9) rfl dX4_add_14 ?_
    refine lv_iload_n hx hb dX4_add_17 rfl (lv_at hl 1 rfl) ?_
    obtain ⟨hi_2, h⟩ := h
    refine va_iast hx hb hK hP hD hS 1 0 rfl rfl hi_2 dX4_add_18 (fun H locs hP hD hS => ?_)
    have hP : va_P (dC, dI) vwCl [(aP, .inr (3, [.ref aPk, .ref aPl, .ref aPd, .ref aPs, .int pn, .int pch])), (aPk, .inl (cyI, 64, .inl (upd pk pn.toNatClampNeg v1))), (aPl, .inl (cyI, 64, .inl pl)), (aPd, .inl (cyI, 64, .inl pd)), (aPs, .inl (cyI, 64, .inl ps))] H := hP
    have hD : va_D A [(aP, .inr (3, [.ref aPk, .ref aPl, .ref aPd, .ref aPs, .int pn, .int pch])), (aPk, .inl (cyI, 64, .inl (upd pk pn.toNatClampNeg v1))), (aPl, .inl (cyI, 64, .inl pl)), (aPd, .inl (cyI, 64, .inl pd)), (aPs, .inl (cyI, 64, .inl ps))] := hD
    refine lv_aload_n hx hb dX4_add_19 rfl (lv_at hl 0 rfl) ?_
    refine va_get (D := (dC, dI)) (ci := 3) (v := .ref aPl) (C := RX4) (T := TX4) (N := 6) hx hb hts inX4_add_wsX40 hown hK hP 0 rfl rfl 1 (by decide) (hts _ qX4_add_2) (fun _ h9 => h9) rfl dX4_add_20 ?_
    refine lv_aload_n hx hb dX4_add_23 rfl (lv_at hl 0 rfl) ?_
    refine va_get (D := (dC, dI)) (ci := 3) (v := .int pn) (C := RX4) (T := TX4) (N := 6) hx hb hts inX4_add_wsX40 hown hK hP 0 rfl rfl 4 (by decide) (hts _ qX4_add_0) (fun _ h9 => h9) rfl dX4_add_24 ?_
    refine lv_iload_n hx hb dX4_add_27 rfl (lv_at hl 2 rfl) ?_
    refine va_iast hx hb hK hP hD hS 2 0 rfl rfl hi_2 dX4_add_28 (fun H locs hP hD hS => ?_)
    have hP : va_P (dC, dI) vwCl [(aP, .inr (3, [.ref aPk, .ref aPl, .ref aPd, .ref aPs, .int pn, .int pch])), (aPk, .inl (cyI, 64, .inl (upd pk pn.toNatClampNeg v1))), (aPl, .inl (cyI, 64, .inl (upd pl pn.toNatClampNeg v2))), (aPd, .inl (cyI, 64, .inl pd)), (aPs, .inl (cyI, 64, .inl ps))] H := hP
    have hD : va_D A [(aP, .inr (3, [.ref aPk, .ref aPl, .ref aPd, .ref aPs, .int pn, .int pch])), (aPk, .inl (cyI, 64, .inl (upd pk pn.toNatClampNeg v1))), (aPl, .inl (cyI, 64, .inl (upd pl pn.toNatClampNeg v2))), (aPd, .inl (cyI, 64, .inl pd)), (aPs, .inl (cyI, 64, .inl ps))] := hD
    refine lv_aload_n hx hb dX4_add_29 rfl (lv_at hl 0 rfl) ?_
    refine va_get (D := (dC, dI)) (ci := 3) (v := .ref aPd) (C := RX4) (T := TX4) (N := 6) hx hb hts inX4_add_wsX40 hown hK hP 0 rfl rfl 2 (by decide) (hts _ qX4_add_3) (fun _ h9 => h9) rfl dX4_add_30 ?_
    refine lv_aload_n hx hb dX4_add_33 rfl (lv_at hl 0 rfl) ?_
    refine va_get (D := (dC, dI)) (ci := 3) (v := .int pn) (C := RX4) (T := TX4) (N := 6) hx hb hts inX4_add_wsX40 hown hK hP 0 rfl rfl 4 (by decide) (hts _ qX4_add_0) (fun _ h9 => h9) rfl dX4_add_34 ?_
    refine lv_iload_n hx hb dX4_add_37 rfl (lv_at hl 3 rfl) ?_
    refine va_iast hx hb hK hP hD hS 3 0 rfl rfl hi_2 dX4_add_38 (fun H locs hP hD hS => ?_)
    have hP : va_P (dC, dI) vwCl [(aP, .inr (3, [.ref aPk, .ref aPl, .ref aPd, .ref aPs, .int pn, .int pch])), (aPk, .inl (cyI, 64, .inl (upd pk pn.toNatClampNeg v1))), (aPl, .inl (cyI, 64, .inl (upd pl pn.toNatClampNeg v2))), (aPd, .inl (cyI, 64, .inl (upd pd pn.toNatClampNeg v3))), (aPs, .inl (cyI, 64, .inl ps))] H := hP
    have hD : va_D A [(aP, .inr (3, [.ref aPk, .ref aPl, .ref aPd, .ref aPs, .int pn, .int pch])), (aPk, .inl (cyI, 64, .inl (upd pk pn.toNatClampNeg v1))), (aPl, .inl (cyI, 64, .inl (upd pl pn.toNatClampNeg v2))), (aPd, .inl (cyI, 64, .inl (upd pd pn.toNatClampNeg v3))), (aPs, .inl (cyI, 64, .inl ps))] := hD
    refine lv_aload_n hx hb dX4_add_39 rfl (lv_at hl 0 rfl) ?_
    refine va_get (D := (dC, dI)) (ci := 3) (v := .ref aPs) (C := RX4) (T := TX4) (N := 6) hx hb hts inX4_add_wsX40 hown hK hP 0 rfl rfl 3 (by decide) (hts _ qX4_add_4) (fun _ h9 => h9) rfl dX4_add_40 ?_
    refine lv_aload_n hx hb dX4_add_43 rfl (lv_at hl 0 rfl) ?_
    refine va_get (D := (dC, dI)) (ci := 3) (v := .int pn) (C := RX4) (T := TX4) (N := 6) hx hb hts inX4_add_wsX40 hown hK hP 0 rfl rfl 4 (by decide) (hts _ qX4_add_0) (fun _ h9 => h9) rfl dX4_add_44 ?_
    refine lv_iload hx hb dX4_add_47 (lv_at hl 4 rfl) ?_
    refine va_iast hx hb hK hP hD hS 4 0 rfl rfl hi_2 dX4_add_49 (fun H locs hP hD hS => ?_)
    have hP : va_P (dC, dI) vwCl [(aP, .inr (3, [.ref aPk, .ref aPl, .ref aPd, .ref aPs, .int pn, .int pch])), (aPk, .inl (cyI, 64, .inl (upd pk pn.toNatClampNeg v1))), (aPl, .inl (cyI, 64, .inl (upd pl pn.toNatClampNeg v2))), (aPd, .inl (cyI, 64, .inl (upd pd pn.toNatClampNeg v3))), (aPs, .inl (cyI, 64, .inl (upd ps pn.toNatClampNeg v4)))] H := hP
    have hD : va_D A [(aP, .inr (3, [.ref aPk, .ref aPl, .ref aPd, .ref aPs, .int pn, .int pch])), (aPk, .inl (cyI, 64, .inl (upd pk pn.toNatClampNeg v1))), (aPl, .inl (cyI, 64, .inl (upd pl pn.toNatClampNeg v2))), (aPd, .inl (cyI, 64, .inl (upd pd pn.toNatClampNeg v3))), (aPs, .inl (cyI, 64, .inl (upd ps pn.toNatClampNeg v4)))] := hD
    refine lv_aload_n hx hb dX4_add_50 rfl (lv_at hl 0 rfl) ?_
    refine lv_dup hx hb dX4_add_51 rfl ?_
    refine va_get (D := (dC, dI)) (ci := 3) (v := .int pn) (C := RX4) (T := TX4) (N := 6) hx hb hts inX4_add_wsX40 hown hK hP 0 rfl rfl 4 (by decide) (hts _ qX4_add_0) (fun _ h9 => h9) rfl dX4_add_52 ?_
    refine lv_iconst (v := 1) hx hb dX4_add_55 (by decide) ?_
    refine lv_iadd hx hb dX4_add_56 ?_
    refine va_put (D := (dC, dI)) (ci := 3) (v := .int (pn + 1)) (ty := .int) (C := RX4) (T := TX4) (N := 6) hx hb hts inX4_add_wsX40 tyX4 tyX4_ok nmX4 hown hK hP hD hS 0 rfl rfl 4 (by decide) (hts _ qX4_add_0) (fun _ h9 => h9) rfl (by decide +kernel) rfl rfl (Nat.le_of_ble_eq_true rfl) dX4_add_57 (fun H locs hP hD hS => ?_)
    have hP : va_P (dC, dI) vwCl [(aP, .inr (3, [.ref aPk, .ref aPl, .ref aPd, .ref aPs, .int (pn + 1), .int pch])), (aPk, .inl (cyI, 64, .inl (upd pk pn.toNatClampNeg v1))), (aPl, .inl (cyI, 64, .inl (upd pl pn.toNatClampNeg v2))), (aPd, .inl (cyI, 64, .inl (upd pd pn.toNatClampNeg v3))), (aPs, .inl (cyI, 64, .inl (upd ps pn.toNatClampNeg v4)))] H := hP
    have hD : va_D A [(aP, .inr (3, [.ref aPk, .ref aPl, .ref aPd, .ref aPs, .int (pn + 1), .int pch])), (aPk, .inl (cyI, 64, .inl (upd pk pn.toNatClampNeg v1))), (aPl, .inl (cyI, 64, .inl (upd pl pn.toNatClampNeg v2))), (aPd, .inl (cyI, 64, .inl (upd pd pn.toNatClampNeg v3))), (aPs, .inl (cyI, 64, .inl (upd ps pn.toNatClampNeg v4)))] := hD
    have hP9 : va_P (dC, dI) vwCl [(aP, .inr (3, [.ref aPk, .ref aPl, .ref aPd, .ref aPs, .int (pn + 1), .int pch])), (aPk, .inl (cyI, 64, .inl (upd pk pn.toNatClampNeg v1))), (aPl, .inl (cyI, 64, .inl (upd pl pn.toNatClampNeg v2))), (aPd, .inl (cyI, 64, .inl (upd pd pn.toNatClampNeg v3))), (aPs, .inl (cyI, 64, .inl (upd ps pn.toNatClampNeg v4)))] _ := hP
    have hD9 : va_D A [(aP, .inr (3, [.ref aPk, .ref aPl, .ref aPd, .ref aPs, .int (pn + 1), .int pch])), (aPk, .inl (cyI, 64, .inl (upd pk pn.toNatClampNeg v1))), (aPl, .inl (cyI, 64, .inl (upd pl pn.toNatClampNeg v2))), (aPd, .inl (cyI, 64, .inl (upd pd pn.toNatClampNeg v3))), (aPs, .inl (cyI, 64, .inl (upd ps pn.toNatClampNeg v4)))] := hD
    exact W.vret hx hb hr (fun t ht hW => ⟨⟨(pn + 1, upd pk pn.toNatClampNeg v1, upd pl pn.toNatClampNeg v2, upd pd pn.toNatClampNeg v3, upd ps pn.toNatClampNeg v4), rfl, h, by rw [ht]; exact hP9, va_K.moved hW.alike hK, hD9⟩, hS.F ht⟩) hS.2.2 dX4_add_60
-- X4_bytesOfKind
theorem qX4_bytesOfKind_0 : Cond.fieldLink RX4 24 "MatchCoder$Plan" "count" "I" ∈ wsX4_bytesOfKind := (List.mem_cons_of_mem _ (List.mem_append_left _ (List.mem_of_getElem? (i := 0) rfl)))
theorem qX4_bytesOfKind_1 : Cond.fieldLink RX4 9 "MatchCoder$Plan" "kinds" "[I" ∈ wsX4_bytesOfKind := (List.mem_cons_of_mem _ (List.mem_append_left _ (List.mem_of_getElem? (i := 1) rfl)))
theorem qX4_bytesOfKind_2 : Cond.fieldLink RX4 15 "MatchCoder$Plan" "lengths" "[I" ∈ wsX4_bytesOfKind := (List.mem_cons_of_mem _ (List.mem_append_left _ (List.mem_of_getElem? (i := 2) rfl)))
theorem inX4_bytesOfKind_wsX40 : ∀ w ∈ wsX40, w ∈ wsX4_bytesOfKind := fun _ h => List.mem_cons_of_mem _ (List.mem_append_right _ h)
def wpX4_bytesOfKind_31 (v2 : Int32) (v3 : Int32) (KB : Int32 → Int32 → Prop) (K37 : Int32 → Prop) : Prop := KB v2 (v3 + 1)
set_option maxHeartbeats 4000000 in
set_option maxRecDepth 100000 in
theorem wjX4_bytesOfKind_31 {p : Program} {l : Launch} {e : Env} {s : State} {m : MethodId} {args : Array Value} {below : List Frame} {meth : Method} {c : Code} {A : Nat → Prop} {Q : State → Prop} {dC : Nat → ClassId} {dI : Nat → Nat → Nat} {cyI : ClassId} {aP aPk aPl aPd aPs : Nat} {v1 : Int32} {v2 : Int32} {v3 : Int32} {pn : Int32} {pch : Int32} {pk : Nat → Int32} {pl : Nat → Int32} {KB : Int32 → Int32 → Prop} {K37 : Int32 → Prop} (C0 : CallFix p m c cX4_bytesOfKind 4 s args wsX4_bytesOfKind RX4) (hA : ∀ q : Nat, s.heap.size ≤ q → A q) (hK : va_K (dC, dI) vwCl [(cyI, .int)] s) (h : wpX4_bytesOfKind_31 v2 v3 KB K37) (H : Heap) (locs : List Loc) (ls : Array Slot) (hP : va_P (dC, dI) vwCl [(aP, .inr (3, [.ref aPk, .ref aPl, .ref aPd, .ref aPs, .int pn, .int pch])), (aPk, .inl (cyI, 64, .inl pk)), (aPl, .inl (cyI, 64, .inl pl))] H) (hD : va_D A [(aP, .inr (3, [.ref aPk, .ref aPl, .ref aPd, .ref aPs, .int pn, .int pch])), (aPk, .inl (cyI, 64, .inl pk)), (aPl, .inl (cyI, 64, .inl pl))]) (hS : va_S A s.heap H locs) (hl : lv_has ls 4 [(0, .ref aP), (1, .int v1), (2, .int v2), (3, .int v3)]) (hKB : ∀ (v2 : Int32) (v3 : Int32), KB v2 v3 → ∀ (H : Heap) (locs : List Loc) (ls : Array Slot), va_P (dC, dI) vwCl [(aP, .inr (3, [.ref aPk, .ref aPl, .ref aPd, .ref aPs, .int pn, .int pch])), (aPk, .inl (cyI, 64, .inl pk)), (aPl, .inl (cyI, 64, .inl pl))] H → va_D A [(aP, .inr (3, [.ref aPk, .ref aPl, .ref aPd, .ref aPs, .int pn, .int pch])), (aPk, .inl (cyI, 64, .inl pk)), (aPl, .inl (cyI, 64, .inl pl))] → va_S A s.heap H locs → lv_has ls 4 [(0, .ref aP), (1, .int v1), (2, .int v2), (3, .int v3)] → W p l e ({ frames := 0, cells := 0, slots := 0, locals := 0 } : Room) s m args below meth c H locs 0 0 Q (F0 m 4 ls [])) (hK37 : ∀ (v2 : Int32), K37 v2 → ∀ (H : Heap) (locs : List Loc) (ls : Array Slot), va_P (dC, dI) vwCl [(aP, .inr (3, [.ref aPk, .ref aPl, .ref aPd, .ref aPs, .int pn, .int pch])), (aPk, .inl (cyI, 64, .inl pk)), (aPl, .inl (cyI, 64, .inl pl))] H → va_D A [(aP, .inr (3, [.ref aPk, .ref aPl, .ref aPd, .ref aPs, .int pn, .int pch])), (aPk, .inl (cyI, 64, .inl pk)), (aPl, .inl (cyI, 64, .inl pl))] → va_S A s.heap H locs → lv_has ls 4 [(2, .int v2)] → W p l e ({ frames := 0, cells := 0, slots := 0, locals := 0 } : Room) s m args below meth c H locs 0 0 Q (F0 m 37 ls [])) : W p l e ({ frames := 0, cells := 0, slots := 0, locals := 0 } : Room) s m args below meth c H locs 0 0 Q (F0 m 31 ls []) := by
  obtain ⟨hx, hb, hml, hown, hts⟩ := id C0
  unfold wpX4_bytesOfKind_31 at h
  refine lv_iinc (v := v3 + 1) (lv' := [(3, .int (v3 + 1)), (0, .ref aP), (1, .int v1), (2, .int v2)]) hx hb dX4_bytesOfKind_31 hl (k := 3) rfl rfl (by decide) rfl (fun ls hl => ?_)
  refine lv_goto (tgt := 4) hx hb dX4_bytesOfKind_34 (by decide) ?_
  exact hKB _ _ h _ _ _ hP hD hS (lv_sub hl [1, 2, 3, 0] rfl)
def wpX4_bytesOfKind_4 (v1 : Int32) (pn : Int32) (pk : Nat → Int32) (pl : Nat → Int32) (K37 : Int32 → Prop) : Nat → Int32 → Int32 → Prop
  | 0, _, _ => False
  | n4 + 1, v2, v3 => (pn ≤ v3 → (K37 v2)) ∧ (¬ pn ≤ v3 → (vp_in v3 64 ∧ (((pk v3.toNatClampNeg) = v1 → (wpX4_bytesOfKind_31 (v2 + (pl v3.toNatClampNeg)) v3 (wpX4_bytesOfKind_4 v1 pn pk pl K37 n4) K37)) ∧ (¬ (pk v3.toNatClampNeg) = v1 → (wpX4_bytesOfKind_31 v2 v3 (wpX4_bytesOfKind_4 v1 pn pk pl K37 n4) K37)))))
set_option maxHeartbeats 4000000 in
set_option maxRecDepth 100000 in
theorem wlX4_bytesOfKind_4 {p : Program} {l : Launch} {e : Env} {s : State} {m : MethodId} {args : Array Value} {below : List Frame} {meth : Method} {c : Code} {A : Nat → Prop} {Q : State → Prop} {dC : Nat → ClassId} {dI : Nat → Nat → Nat} {cyI : ClassId} {aP aPk aPl aPd aPs : Nat} {v1 : Int32} {pn : Int32} {pch : Int32} {pk : Nat → Int32} {pl : Nat → Int32} {K37 : Int32 → Prop} (C0 : CallFix p m c cX4_bytesOfKind 4 s args wsX4_bytesOfKind RX4) (hA : ∀ q : Nat, s.heap.size ≤ q → A q) (hK : va_K (dC, dI) vwCl [(cyI, .int)] s) (hK37 : ∀ (v2 : Int32), K37 v2 → ∀ (H : Heap) (locs : List Loc) (ls : Array Slot), va_P (dC, dI) vwCl [(aP, .inr (3, [.ref aPk, .ref aPl, .ref aPd, .ref aPs, .int pn, .int pch])), (aPk, .inl (cyI, 64, .inl pk)), (aPl, .inl (cyI, 64, .inl pl))] H → va_D A [(aP, .inr (3, [.ref aPk, .ref aPl, .ref aPd, .ref aPs, .int pn, .int pch])), (aPk, .inl (cyI, 64, .inl pk)), (aPl, .inl (cyI, 64, .inl pl))] → va_S A s.heap H locs → lv_has ls 4 [(2, .int v2)] → W p l e ({ frames := 0, cells := 0, slots := 0, locals := 0 } : Room) s m args below meth c H locs 0 0 Q (F0 m 37 ls [])) :
    ∀ (n4 : Nat) (v2 : Int32) (v3 : Int32), wpX4_bytesOfKind_4 v1 pn pk pl K37 n4 v2 v3 → ∀ (H : Heap) (locs : List Loc) (ls : Array Slot), va_P (dC, dI) vwCl [(aP, .inr (3, [.ref aPk, .ref aPl, .ref aPd, .ref aPs, .int pn, .int pch])), (aPk, .inl (cyI, 64, .inl pk)), (aPl, .inl (cyI, 64, .inl pl))] H → va_D A [(aP, .inr (3, [.ref aPk, .ref aPl, .ref aPd, .ref aPs, .int pn, .int pch])), (aPk, .inl (cyI, 64, .inl pk)), (aPl, .inl (cyI, 64, .inl pl))] → va_S A s.heap H locs → lv_has ls 4 [(0, .ref aP), (1, .int v1), (2, .int v2), (3, .int v3)] → W p l e ({ frames := 0, cells := 0, slots := 0, locals := 0 } : Room) s m args below meth c H locs 0 0 Q (F0 m 4 ls []) := by
  obtain ⟨hx, hb, hml, hown, hts⟩ := id C0
  intro n4
  induction n4 with
  | zero => intro _ _ h; exact h.elim
  | succ n4 ih4 =>
    intro v2 v3 h H locs ls hP hD hS hl
    rw [wpX4_bytesOfKind_4] at h
    refine lv_iload_n hx hb dX4_bytesOfKind_4 rfl (lv_at hl 3 rfl) ?_
    refine lv_aload_n hx hb dX4_bytesOfKind_5 rfl (lv_at hl 0 rfl) ?_
    refine va_get (D := (dC, dI)) (ci := 3) (v := .int pn) (C := RX4) (T := TX4) (N := 6) hx hb hts inX4_bytesOfKind_wsX40 hown hK hP 0 rfl rfl 4 (by decide) (hts _ qX4_bytesOfKind_0) (fun _ h9 => h9) rfl dX4_bytesOfKind_6 ?_
    refine lv_icmp_ge (tgt := 37) hx hb dX4_bytesOfKind_9 (by decide) (fun c_1 => ?_) (fun c_1 => ?_)
    · replace h := h.1 c_1
      exact hK37 _ h _ _ _ hP hD hS (lv_sub hl [2] rfl)
    · replace h := h.2 c_1
      refine lv_aload_n hx hb dX4_bytesOfKind_12 rfl (lv_at hl 0 rfl) ?_
      refine va_get (D := (dC, dI)) (ci := 3) (v := .ref aPk) (C := RX4) (T := TX4) (N := 6) hx hb hts inX4_bytesOfKind_wsX40 hown hK hP 0 rfl rfl 0 (by decide) (hts _ qX4_bytesOfKind_1) (fun _ h9 => h9) rfl dX4_bytesOfKind_13 ?_
      refine lv_iload_n hx hb dX4_bytesOfKind_16 rfl (lv_at hl 3 rfl) ?_
      obtain ⟨hi_2, h⟩ := h
      refine va_iald hx hb hK hP 1 0 rfl rfl hi_2 dX4_bytesOfKind_17 ?_
      refine lv_iload_n hx hb dX4_bytesOfKind_18 rfl (lv_at hl 1 rfl) ?_
      refine lv_icmp_ne (tgt := 31) hx hb dX4_bytesOfKind_19 (by decide) (fun c_3 => ?_) (fun c_3 => ?_)
      · replace h := h.2 c_3
        exact wjX4_bytesOfKind_31 C0 hA hK h _ _ _ hP hD hS (lv_sub hl [0, 1, 2, 3] rfl) ih4 hK37
      · replace h := h.1 c_3
        refine lv_iload_n hx hb dX4_bytesOfKind_22 rfl (lv_at hl 2 rfl) ?_
        refine lv_aload_n hx hb dX4_bytesOfKind_23 rfl (lv_at hl 0 rfl) ?_
        refine va_get (D := (dC, dI)) (ci := 3) (v := .ref aPl) (C := RX4) (T := TX4) (N := 6) hx hb hts inX4_bytesOfKind_wsX40 hown hK hP 0 rfl rfl 1 (by decide) (hts _ qX4_bytesOfKind_2) (fun _ h9 => h9) rfl dX4_bytesOfKind_24 ?_
        refine lv_iload_n hx hb dX4_bytesOfKind_27 rfl (lv_at hl 3 rfl) ?_
        refine va_iald hx hb hK hP 2 0 rfl rfl hi_2 dX4_bytesOfKind_28 ?_
        refine lv_iadd hx hb dX4_bytesOfKind_29 ?_
        refine lv_istore_n (lv' := [(2, .int (v2 + (pl v3.toNatClampNeg))), (0, .ref aP), (1, .int v1), (3, .int v3)]) hx hb dX4_bytesOfKind_30 rfl hl (by decide) rfl (fun ls hl => ?_)
        exact wjX4_bytesOfKind_31 C0 hA hK h _ _ _ hP hD hS (lv_sub hl [1, 2, 0, 3] rfl) ih4 hK37
def wpX4_bytesOfKind (pn : Int32) (pk : Nat → Int32) (pl : Nat → Int32) (v1 : Int32) (post : Int32 → Prop) : Prop := ∃ n4 : Nat, wpX4_bytesOfKind_4 v1 pn pk pl (fun (v2_4 : Int32) => post v2_4) n4 0 0
set_option maxHeartbeats 4000000 in
set_option maxRecDepth 100000 in
theorem mtX4_bytesOfKind (l : Launch) (dC : Nat → ClassId) (dI : Nat → Nat → Nat) (cyI : ClassId) {aP aPk aPl aPd aPs : Nat} {sz : Nat} {pn : Int32} {pch : Int32} {pk : Nat → Int32} {pl : Nat → Int32} {v1 : Int32} {post : Int32 → Prop} (h : wpX4_bytesOfKind pn pk pl v1 post) : Met l yX4_bytesOfKind wsX4_bytesOfKind ({ frames := 0, cells := 0, slots := 0, locals := 0 }) (va_Pc [.ref aP, .int v1] (wk_B (dC, dI) [(cyI, .int)] [(aP, .inr (3, [.ref aPk, .ref aPl, .ref aPd, .ref aPs, .int pn, .int pch])), (aPk, .inl (cyI, 64, .inl pk)), (aPl, .inl (cyI, 64, .inl pl))] sz)) (va_Qi (fun (r : Int32) (u : Unit) => post r ) (wk_C (dC, dI) [(cyI, .int)] (va_A [(aP, .inr (3, [.ref aPk, .ref aPl, .ref aPd, .ref aPs, .int pn, .int pch])), (aPk, .inl (cyI, 64, .inl pk)), (aPl, .inl (cyI, 64, .inl pl))] sz) (fun (u : Unit) => [(aP, .inr (3, [.ref aPk, .ref aPl, .ref aPd, .ref aPs, .int pn, .int pch])), (aPk, .inl (cyI, 64, .inl pk)), (aPl, .inl (cyI, 64, .inl pl))])) (va_A [(aP, .inr (3, [.ref aPk, .ref aPl, .ref aPd, .ref aPs, .int pn, .int pch])), (aPk, .inl (cyI, 64, .inl pk)), (aPl, .inl (cyI, 64, .inl pl))] sz)) 0 0 (va_A [(aP, .inr (3, [.ref aPk, .ref aPl, .ref aPd, .ref aPs, .int pn, .int pch])), (aPk, .inl (cyI, 64, .inl pk)), (aPl, .inl (cyI, 64, .inl pl))] sz) := by
  refine Met.ofW (cc := cX4_bytesOfKind) (maxL := 4) (ret := (some .int)) (by decide) rfl ?_
  intro p e s m args below meth c s₁ B hml hv
  obtain ⟨rfl, hsz, hP, hK, hD0⟩ := hv
  have hx := B.exec
  have hb := B.bytes
  have hr := B.returns
  have hts := atoms_spec (ws := wsX4_bytesOfKind) B.pre
  have hown : s.vm.findClass RX4 = some m.cls := findClass_of_methodNamed B.named
  have hlocks := B.notSynchronized
  subst hsz
  have hD := hD0.self (sz := s.heap.size)
  generalize hAe : va_A [(aP, .inr (3, [.ref aPk, .ref aPl, .ref aPd, .ref aPs, .int pn, .int pch])), (aPk, .inl (cyI, 64, .inl pk)), (aPl, .inl (cyI, 64, .inl pl))] s.heap.size = A at hD ⊢
  have hA : ∀ q : Nat, s.heap.size ≤ q → A q := fun q h => by rw [← hAe]; exact Or.inr h
  have hS : va_S A s.heap s.heap [] := va_S.rf
  have hP : va_P (dC, dI) vwCl [(aP, .inr (3, [.ref aPk, .ref aPl, .ref aPd, .ref aPs, .int pn, .int pch])), (aPk, .inl (cyI, 64, .inl pk)), (aPl, .inl (cyI, 64, .inl pl))] s.heap := hP
  have hl := lv_entry ([.ref aP, .int v1]) (n := 4) (Nat.le_of_ble_eq_true rfl)
  rw [lg_entry_eq]
  generalize (lg_sl ([.ref aP, .int v1]) ++ List.replicate (4 - (lg_sl ([.ref aP, .int v1])).length) Slot.unset).toArray = ls at hl ⊢
  have hl : lv_has ls 4 [(0, .ref aP), (1, .int v1)] := hl
  have C0 : CallFix p m c cX4_bytesOfKind 4 s ([.ref aP, .int v1] : List Value).toArray wsX4_bytesOfKind RX4 := ⟨hx, hb, hml, hown, hts⟩
  unfold wpX4_bytesOfKind at h
  refine lv_iconst (v := 0) hx hb dX4_bytesOfKind_0 (by decide) ?_
  refine lv_istore_n (lv' := [(2, .int 0), (0, .ref aP), (1, .int v1)]) hx hb dX4_bytesOfKind_1 rfl hl (by decide) rfl (fun ls hl => ?_)
  refine lv_iconst (v := 0) hx hb dX4_bytesOfKind_2 (by decide) ?_
  refine lv_istore_n (lv' := [(3, .int 0), (2, .int 0), (0, .ref aP), (1, .int v1)]) hx hb dX4_bytesOfKind_3 rfl hl (by decide) rfl (fun ls hl => ?_)
  obtain ⟨n4, h⟩ := h
  refine wlX4_bytesOfKind_4 C0 hA hK ?_ n4 _ _ h _ _ _ hP hD hS (lv_sub hl [2, 3, 1, 0] rfl)
  · intro v2_4 h H locs ls hP hD hS hl
    refine lv_iload_n hx hb dX4_bytesOfKind_37 rfl (lv_at hl 0 rfl) ?_
    have hP9 : va_P (dC, dI) vwCl [(aP, .inr (3, [.ref aPk, .ref aPl, .ref aPd, .ref aPs, .int pn, .int pch])), (aPk, .inl (cyI, 64, .inl pk)), (aPl, .inl (cyI, 64, .inl pl))] _ := hP
    have hD9 : va_D A [(aP, .inr (3, [.ref aPk, .ref aPl, .ref aPd, .ref aPs, .int pn, .int pch])), (aPk, .inl (cyI, 64, .inl pk)), (aPl, .inl (cyI, 64, .inl pl))] := hD
    exact W.iret (v := v2_4) hx hb hr (fun t ht hW => ⟨⟨v2_4, (), rfl, h, by rw [ht]; exact hP9, va_K.moved hW.alike hK, hD9⟩, hS.F ht⟩) hS.2.2 dX4_bytesOfKind_38
-- X4_bitsOf
theorem qX4_bitsOf_0 : Cond.fieldLink RX4 9 "MatchCoder$Plan" "kinds" "[I" ∈ wsX4_bitsOf := (List.mem_cons_of_mem _ (List.mem_append_left _ (List.mem_of_getElem? (i := 0) rfl)))
theorem qX4_bitsOf_1 : Cond.fieldLink RX4 15 "MatchCoder$Plan" "lengths" "[I" ∈ wsX4_bitsOf := (List.mem_cons_of_mem _ (List.mem_append_left _ (List.mem_of_getElem? (i := 2) rfl)))
theorem qX4_bitsOf_2 : Cond.fieldLink RX4 18 "MatchCoder$Plan" "distances" "[I" ∈ wsX4_bitsOf := (List.mem_cons_of_mem _ (List.mem_append_left _ (List.mem_of_getElem? (i := 1) rfl)))
theorem inX4_bitsOf_wsX40 : ∀ w ∈ wsX40, w ∈ wsX4_bitsOf := fun _ h => List.mem_cons_of_mem _ (List.mem_append_right _ h)
def wpX4_bitsOf (pk : Nat → Int32) (pl : Nat → Int32) (pd : Nat → Int32) (v1 : Int32) (post : Int32 → Prop) : Prop := vp_in v1 64 ∧ (((pk v1.toNatClampNeg) = 0 → (post 9)) ∧ (¬ (pk v1.toNatClampNeg) = 0 → (((pk v1.toNatClampNeg) = 1 → (wpX2_matchBits (pd v1.toNatClampNeg) (pl v1.toNatClampNeg) (fun (r_5 : Int32) => post r_5))) ∧ (¬ (pk v1.toNatClampNeg) = 1 → (wpX2_againBits (pl v1.toNatClampNeg) (fun (r_4 : Int32) => post r_4))))))
set_option maxHeartbeats 4000000 in
set_option maxRecDepth 100000 in
theorem mtX4_bitsOf (l : Launch) (dC : Nat → ClassId) (dI : Nat → Nat → Nat) (cyI : ClassId) {aP aPk aPl aPd aPs : Nat} {sz : Nat} {pn : Int32} {pch : Int32} {pk : Nat → Int32} {pl : Nat → Int32} {pd : Nat → Int32} {v1 : Int32} {post : Int32 → Prop} (h : wpX4_bitsOf pk pl pd v1 post) : Met l yX4_bitsOf wsX4_bitsOf ({ frames := 2, cells := 0, slots := 0, locals := 41 }) (va_Pc [.ref aP, .int v1] (wk_B (dC, dI) [(cyI, .int)] [(aP, .inr (3, [.ref aPk, .ref aPl, .ref aPd, .ref aPs, .int pn, .int pch])), (aPk, .inl (cyI, 64, .inl pk)), (aPl, .inl (cyI, 64, .inl pl)), (aPd, .inl (cyI, 64, .inl pd))] sz)) (va_Qi (fun (r : Int32) (u : Unit) => post r ) (wk_C (dC, dI) [(cyI, .int)] (va_A [(aP, .inr (3, [.ref aPk, .ref aPl, .ref aPd, .ref aPs, .int pn, .int pch])), (aPk, .inl (cyI, 64, .inl pk)), (aPl, .inl (cyI, 64, .inl pl)), (aPd, .inl (cyI, 64, .inl pd))] sz) (fun (u : Unit) => [(aP, .inr (3, [.ref aPk, .ref aPl, .ref aPd, .ref aPs, .int pn, .int pch])), (aPk, .inl (cyI, 64, .inl pk)), (aPl, .inl (cyI, 64, .inl pl)), (aPd, .inl (cyI, 64, .inl pd))])) (va_A [(aP, .inr (3, [.ref aPk, .ref aPl, .ref aPd, .ref aPs, .int pn, .int pch])), (aPk, .inl (cyI, 64, .inl pk)), (aPl, .inl (cyI, 64, .inl pl)), (aPd, .inl (cyI, 64, .inl pd))] sz)) 0 0 (va_A [(aP, .inr (3, [.ref aPk, .ref aPl, .ref aPd, .ref aPs, .int pn, .int pch])), (aPk, .inl (cyI, 64, .inl pk)), (aPl, .inl (cyI, 64, .inl pl)), (aPd, .inl (cyI, 64, .inl pd))] sz) := by
  refine Met.ofW (cc := cX4_bitsOf) (maxL := 2) (ret := (some .int)) (by decide) rfl ?_
  intro p e s m args below meth c s₁ B hml hv
  obtain ⟨rfl, hsz, hP, hK, hD0⟩ := hv
  have hx := B.exec
  have hb := B.bytes
  have hr := B.returns
  have hts := atoms_spec (ws := wsX4_bitsOf) B.pre
  have hown : s.vm.findClass RX4 = some m.cls := findClass_of_methodNamed B.named
  have hlocks := B.notSynchronized
  subst hsz
  have hD := hD0.self (sz := s.heap.size)
  generalize hAe : va_A [(aP, .inr (3, [.ref aPk, .ref aPl, .ref aPd, .ref aPs, .int pn, .int pch])), (aPk, .inl (cyI, 64, .inl pk)), (aPl, .inl (cyI, 64, .inl pl)), (aPd, .inl (cyI, 64, .inl pd))] s.heap.size = A at hD ⊢
  have hA : ∀ q : Nat, s.heap.size ≤ q → A q := fun q h => by rw [← hAe]; exact Or.inr h
  have hS : va_S A s.heap s.heap [] := va_S.rf
  have hP : va_P (dC, dI) vwCl [(aP, .inr (3, [.ref aPk, .ref aPl, .ref aPd, .ref aPs, .int pn, .int pch])), (aPk, .inl (cyI, 64, .inl pk)), (aPl, .inl (cyI, 64, .inl pl)), (aPd, .inl (cyI, 64, .inl pd))] s.heap := hP
  have hl := lv_entry ([.ref aP, .int v1]) (n := 2) (Nat.le_of_ble_eq_true rfl)
  rw [lg_entry_eq]
  generalize (lg_sl ([.ref aP, .int v1]) ++ List.replicate (2 - (lg_sl ([.ref aP, .int v1])).length) Slot.unset).toArray = ls at hl ⊢
  have hl : lv_has ls 2 [(0, .ref aP), (1, .int v1)] := hl
  have C0 : CallFix p m c cX4_bitsOf 2 s ([.ref aP, .int v1] : List Value).toArray wsX4_bitsOf RX4 := ⟨hx, hb, hml, hown, hts⟩
  unfold wpX4_bitsOf at h
  refine lv_aload_n hx hb dX4_bitsOf_0 rfl (lv_at hl 0 rfl) ?_
  refine va_get (D := (dC, dI)) (ci := 3) (v := .ref aPk) (C := RX4) (T := TX4) (N := 6) hx hb hts inX4_bitsOf_wsX40 hown hK hP 0 rfl rfl 0 (by decide) (hts _ qX4_bitsOf_0) (fun _ h9 => h9) rfl dX4_bitsOf_1 ?_
  refine lv_iload_n hx hb dX4_bitsOf_4 rfl (lv_at hl 1 rfl) ?_
  obtain ⟨hi_1, h⟩ := h
  refine va_iald hx hb hK hP 1 0 rfl rfl hi_1 dX4_bitsOf_5 ?_
  refine lv_if_ne (tgt := 12) hx hb dX4_bitsOf_6 (by decide) (fun c_2 => ?_) (fun c_2 => ?_)
  · replace h := h.2 c_2
    refine lv_aload_n hx hb dX4_bitsOf_12 rfl (lv_at hl 0 rfl) ?_
    refine va_get (D := (dC, dI)) (ci := 3) (v := .ref aPk) (C := RX4) (T := TX4) (N := 6) hx hb hts inX4_bitsOf_wsX40 hown hK hP 0 rfl rfl 0 (by decide) (hts _ qX4_bitsOf_0) (fun _ h9 => h9) rfl dX4_bitsOf_13 ?_
    refine lv_iload_n hx hb dX4_bitsOf_16 rfl (lv_at hl 1 rfl) ?_
    refine va_iald hx hb hK hP 1 0 rfl rfl hi_1 dX4_bitsOf_17 ?_
    refine lv_iconst (v := 1) hx hb dX4_bitsOf_18 (by decide) ?_
    refine lv_icmp_ne (tgt := 38) hx hb dX4_bitsOf_19 (by decide) (fun c_3 => ?_) (fun c_3 => ?_)
    · replace h := h.2 c_3
      refine lv_aload_n hx hb dX4_bitsOf_38 rfl (lv_at hl 0 rfl) ?_
      refine va_get (D := (dC, dI)) (ci := 3) (v := .ref aPl) (C := RX4) (T := TX4) (N := 6) hx hb hts inX4_bitsOf_wsX40 hown hK hP 0 rfl rfl 1 (by decide) (hts _ qX4_bitsOf_1) (fun _ h9 => h9) rfl dX4_bitsOf_39 ?_
      refine lv_iload_n hx hb dX4_bitsOf_42 rfl (lv_at hl 1 rfl) ?_
      refine va_iald hx hb hK hP 2 0 rfl rfl hi_1 dX4_bitsOf_43 ?_
      refine wk_calli (wc := []) (wr := [(aP, .inr (3, [.ref aPk, .ref aPl, .ref aPd, .ref aPs, .int pn, .int pch])), (aPk, .inl (cyI, 64, .inl pk)), (aPl, .inl (cyI, 64, .inl pl)), (aPd, .inl (cyI, 64, .inl pd))]) (va_runS (As := [.int (pl v1.toNatClampNeg)]) (rest := []) C0 (mtX2_againBits l dC dI cyI (sz := _) (v0 := pl v1.toNatClampNeg) h) (va_cwS 1 hts gX4_bitsOf_X2_againBits rfl rfl rfl (by decide +kernel) ⟨(Nat.le_of_ble_eq_true rfl), (Nat.le_of_ble_eq_true rfl)⟩) (wk_preS (wc := []) hK hP hD [] rfl (by decide)) rfl rfl hl.1 rfl (lv_room (Nat.le_of_ble_eq_true rfl)) dX4_bitsOf_44 ⟨(Nat.le_of_ble_eq_true rfl), (Nat.le_of_ble_eq_true rfl)⟩) hP hD hS hA [] [0, 1, 2, 3] rfl rfl (by decide) (by decide) (fun r_4 u9 H locs h hP hD hS => ?_)
      have hP : va_P (dC, dI) vwCl [(aP, .inr (3, [.ref aPk, .ref aPl, .ref aPd, .ref aPs, .int pn, .int pch])), (aPk, .inl (cyI, 64, .inl pk)), (aPl, .inl (cyI, 64, .inl pl)), (aPd, .inl (cyI, 64, .inl pd))] H := hP
      have hD : va_D A [(aP, .inr (3, [.ref aPk, .ref aPl, .ref aPd, .ref aPs, .int pn, .int pch])), (aPk, .inl (cyI, 64, .inl pk)), (aPl, .inl (cyI, 64, .inl pl)), (aPd, .inl (cyI, 64, .inl pd))] := hD
      have hP9 : va_P (dC, dI) vwCl [(aP, .inr (3, [.ref aPk, .ref aPl, .ref aPd, .ref aPs, .int pn, .int pch])), (aPk, .inl (cyI, 64, .inl pk)), (aPl, .inl (cyI, 64, .inl pl)), (aPd, .inl (cyI, 64, .inl pd))] _ := hP
      have hD9 : va_D A [(aP, .inr (3, [.ref aPk, .ref aPl, .ref aPd, .ref aPs, .int pn, .int pch])), (aPk, .inl (cyI, 64, .inl pk)), (aPl, .inl (cyI, 64, .inl pl)), (aPd, .inl (cyI, 64, .inl pd))] := hD
      exact W.iret (v := r_4) hx hb hr (fun t ht hW => ⟨⟨r_4, (), rfl, h, by rw [ht]; exact hP9, va_K.moved hW.alike hK, hD9⟩, hS.F ht⟩) hS.2.2 dX4_bitsOf_47
    · replace h := h.1 c_3
      refine lv_aload_n hx hb dX4_bitsOf_22 rfl (lv_at hl 0 rfl) ?_
      refine va_get (D := (dC, dI)) (ci := 3) (v := .ref aPd) (C := RX4) (T := TX4) (N := 6) hx hb hts inX4_bitsOf_wsX40 hown hK hP 0 rfl rfl 2 (by decide) (hts _ qX4_bitsOf_2) (fun _ h9 => h9) rfl dX4_bitsOf_23 ?_
      refine lv_iload_n hx hb dX4_bitsOf_26 rfl (lv_at hl 1 rfl) ?_
      refine va_iald hx hb hK hP 3 0 rfl rfl hi_1 dX4_bitsOf_27 ?_
      refine lv_aload_n hx hb dX4_bitsOf_28 rfl (lv_at hl 0 rfl) ?_
      refine va_get (D := (dC, dI)) (ci := 3) (v := .ref aPl) (C := RX4) (T := TX4) (N := 6) hx hb hts inX4_bitsOf_wsX40 hown hK hP 0 rfl rfl 1 (by decide) (hts _ qX4_bitsOf_1) (fun _ h9 => h9) rfl dX4_bitsOf_29 ?_
      refine lv_iload_n hx hb dX4_bitsOf_32 rfl (lv_at hl 1 rfl) ?_
      refine va_iald hx hb hK hP 2 0 rfl rfl hi_1 dX4_bitsOf_33 ?_
      refine wk_calli (wc := []) (wr := [(aP, .inr (3, [.ref aPk, .ref aPl, .ref aPd, .ref aPs, .int pn, .int pch])), (aPk, .inl (cyI, 64, .inl pk)), (aPl, .inl (cyI, 64, .inl pl)), (aPd, .inl (cyI, 64, .inl pd))]) (va_runS (As := [.int (pd v1.toNatClampNeg), .int (pl v1.toNatClampNeg)]) (rest := []) C0 (mtX2_matchBits l dC dI cyI (sz := _) (v0 := pd v1.toNatClampNeg) (v1 := pl v1.toNatClampNeg) h) (va_cwS 2 hts gX4_bitsOf_X2_matchBits rfl rfl rfl (by decide +kernel) ⟨(Nat.le_of_ble_eq_true rfl), (Nat.le_of_ble_eq_true rfl)⟩) (wk_preS (wc := []) hK hP hD [] rfl (by decide)) rfl rfl hl.1 rfl (lv_room (Nat.le_of_ble_eq_true rfl)) dX4_bitsOf_34 ⟨(Nat.le_of_ble_eq_true rfl), (Nat.le_of_ble_eq_true rfl)⟩) hP hD hS hA [] [0, 1, 2, 3] rfl rfl (by decide) (by decide) (fun r_5 u9 H locs h hP hD hS => ?_)
      have hP : va_P (dC, dI) vwCl [(aP, .inr (3, [.ref aPk, .ref aPl, .ref aPd, .ref aPs, .int pn, .int pch])), (aPk, .inl (cyI, 64, .inl pk)), (aPl, .inl (cyI, 64, .inl pl)), (aPd, .inl (cyI, 64, .inl pd))] H := hP
      have hD : va_D A [(aP, .inr (3, [.ref aPk, .ref aPl, .ref aPd, .ref aPs, .int pn, .int pch])), (aPk, .inl (cyI, 64, .inl pk)), (aPl, .inl (cyI, 64, .inl pl)), (aPd, .inl (cyI, 64, .inl pd))] := hD
      have hP9 : va_P (dC, dI) vwCl [(aP, .inr (3, [.ref aPk, .ref aPl, .ref aPd, .ref aPs, .int pn, .int pch])), (aPk, .inl (cyI, 64, .inl pk)), (aPl, .inl (cyI, 64, .inl pl)), (aPd, .inl (cyI, 64, .inl pd))] _ := hP
      have hD9 : va_D A [(aP, .inr (3, [.ref aPk, .ref aPl, .ref aPd, .ref aPs, .int pn, .int pch])), (aPk, .inl (cyI, 64, .inl pk)), (aPl, .inl (cyI, 64, .inl pl)), (aPd, .inl (cyI, 64, .inl pd))] := hD
      exact W.iret (v := r_5) hx hb hr (fun t ht hW => ⟨⟨r_5, (), rfl, h, by rw [ht]; exact hP9, va_K.moved hW.alike hK, hD9⟩, hS.F ht⟩) hS.2.2 dX4_bitsOf_37
  · replace h := h.1 c_2
    refine lv_bipush (v := 9) hx hb dX4_bitsOf_9 (by decide) ?_
    have hP9 : va_P (dC, dI) vwCl [(aP, .inr (3, [.ref aPk, .ref aPl, .ref aPd, .ref aPs, .int pn, .int pch])), (aPk, .inl (cyI, 64, .inl pk)), (aPl, .inl (cyI, 64, .inl pl)), (aPd, .inl (cyI, 64, .inl pd))] _ := hP
    have hD9 : va_D A [(aP, .inr (3, [.ref aPk, .ref aPl, .ref aPd, .ref aPs, .int pn, .int pch])), (aPk, .inl (cyI, 64, .inl pk)), (aPl, .inl (cyI, 64, .inl pl)), (aPd, .inl (cyI, 64, .inl pd))] := hD
    exact W.iret (v := 9) hx hb hr (fun t ht hW => ⟨⟨9, (), rfl, h, by rw [ht]; exact hP9, va_K.moved hW.alike hK, hD9⟩, hS.F ht⟩) hS.2.2 dX4_bitsOf_11
-- X4_bitsOfAll
theorem qX4_bitsOfAll_0 : Cond.fieldLink RX4 24 "MatchCoder$Plan" "count" "I" ∈ wsX4_bitsOfAll := (List.mem_cons_of_mem _ (List.mem_append_left _ (List.mem_of_getElem? (i := 0) rfl)))
theorem inX4_bitsOfAll_wsX40 : ∀ w ∈ wsX40, w ∈ wsX4_bitsOfAll := fun _ h => List.mem_cons_of_mem _ (List.mem_append_right _ h)
def wpX4_bitsOfAll_4 (pn : Int32) (pk : Nat → Int32) (pl : Nat → Int32) (pd : Nat → Int32) (K26 : Int32 → Prop) : Nat → Int32 → Int32 → Prop
  | 0, _, _ => False
  | n4 + 1, v1, v2 => (pn ≤ v2 → (K26 v1)) ∧ (¬ pn ≤ v2 → (wpX4_bitsOf pk pl pd v2 (fun (r_2 : Int32) => wpX4_bitsOfAll_4 pn pk pl pd K26 n4 (v1 + r_2) (v2 + 1))))
set_option maxHeartbeats 4000000 in
set_option maxRecDepth 100000 in
theorem wlX4_bitsOfAll_4 {p : Program} {l : Launch} {e : Env} {s : State} {m : MethodId} {args : Array Value} {below : List Frame} {meth : Method} {c : Code} {A : Nat → Prop} {Q : State → Prop} {dC : Nat → ClassId} {dI : Nat → Nat → Nat} {cyI : ClassId} {aP aPk aPl aPd aPs : Nat} {pn : Int32} {pch : Int32} {pk : Nat → Int32} {pl : Nat → Int32} {pd : Nat → Int32} {K26 : Int32 → Prop} (C0 : CallFix p m c cX4_bitsOfAll 3 s args wsX4_bitsOfAll RX4) (hA : ∀ q : Nat, s.heap.size ≤ q → A q) (hK : va_K (dC, dI) vwCl [(cyI, .int)] s) (hK26 : ∀ (v1 : Int32), K26 v1 → ∀ (H : Heap) (locs : List Loc) (ls : Array Slot), va_P (dC, dI) vwCl [(aP, .inr (3, [.ref aPk, .ref aPl, .ref aPd, .ref aPs, .int pn, .int pch])), (aPk, .inl (cyI, 64, .inl pk)), (aPl, .inl (cyI, 64, .inl pl)), (aPd, .inl (cyI, 64, .inl pd))] H → va_D A [(aP, .inr (3, [.ref aPk, .ref aPl, .ref aPd, .ref aPs, .int pn, .int pch])), (aPk, .inl (cyI, 64, .inl pk)), (aPl, .inl (cyI, 64, .inl pl)), (aPd, .inl (cyI, 64, .inl pd))] → va_S A s.heap H locs → lv_has ls 3 [(1, .int v1)] → W p l e ({ frames := 3, cells := 0, slots := 0, locals := 62 } : Room) s m args below meth c H locs 0 0 Q (F0 m 26 ls [])) :
    ∀ (n4 : Nat) (v1 : Int32) (v2 : Int32), wpX4_bitsOfAll_4 pn pk pl pd K26 n4 v1 v2 → ∀ (H : Heap) (locs : List Loc) (ls : Array Slot), va_P (dC, dI) vwCl [(aP, .inr (3, [.ref aPk, .ref aPl, .ref aPd, .ref aPs, .int pn, .int pch])), (aPk, .inl (cyI, 64, .inl pk)), (aPl, .inl (cyI, 64, .inl pl)), (aPd, .inl (cyI, 64, .inl pd))] H → va_D A [(aP, .inr (3, [.ref aPk, .ref aPl, .ref aPd, .ref aPs, .int pn, .int pch])), (aPk, .inl (cyI, 64, .inl pk)), (aPl, .inl (cyI, 64, .inl pl)), (aPd, .inl (cyI, 64, .inl pd))] → va_S A s.heap H locs → lv_has ls 3 [(0, .ref aP), (1, .int v1), (2, .int v2)] → W p l e ({ frames := 3, cells := 0, slots := 0, locals := 62 } : Room) s m args below meth c H locs 0 0 Q (F0 m 4 ls []) := by
  obtain ⟨hx, hb, hml, hown, hts⟩ := id C0
  intro n4
  induction n4 with
  | zero => intro _ _ h; exact h.elim
  | succ n4 ih4 =>
    intro v1 v2 h H locs ls hP hD hS hl
    rw [wpX4_bitsOfAll_4] at h
    refine lv_iload_n hx hb dX4_bitsOfAll_4 rfl (lv_at hl 2 rfl) ?_
    refine lv_aload_n hx hb dX4_bitsOfAll_5 rfl (lv_at hl 0 rfl) ?_
    refine va_get (D := (dC, dI)) (ci := 3) (v := .int pn) (C := RX4) (T := TX4) (N := 6) hx hb hts inX4_bitsOfAll_wsX40 hown hK hP 0 rfl rfl 4 (by decide) (hts _ qX4_bitsOfAll_0) (fun _ h9 => h9) rfl dX4_bitsOfAll_6 ?_
    refine lv_icmp_ge (tgt := 26) hx hb dX4_bitsOfAll_9 (by decide) (fun c_1 => ?_) (fun c_1 => ?_)
    · replace h := h.1 c_1
      exact hK26 _ h _ _ _ hP hD hS (lv_sub hl [1] rfl)
    · replace h := h.2 c_1
      refine lv_iload_n hx hb dX4_bitsOfAll_12 rfl (lv_at hl 1 rfl) ?_
      refine lv_aload_n hx hb dX4_bitsOfAll_13 rfl (lv_at hl 0 rfl) ?_
      refine lv_iload_n hx hb dX4_bitsOfAll_14 rfl (lv_at hl 2 rfl) ?_
      refine wk_calli (wc := [(aP, .inr (3, [.ref aPk, .ref aPl, .ref aPd, .ref aPs, .int pn, .int pch])), (aPk, .inl (cyI, 64, .inl pk)), (aPl, .inl (cyI, 64, .inl pl)), (aPd, .inl (cyI, 64, .inl pd))]) (wr := []) (va_runV (As := [.int v2]) (rest := [.int v1]) C0 (mtX4_bitsOf l dC dI cyI (aP := aP) (aPk := aPk) (aPl := aPl) (aPd := aPd) (aPs := aPs) (sz := _) (pn := pn) (pch := pch) (pk := pk) (pl := pl) (pd := pd) (v1 := v2) h) (cwV 1 hts gX4_bitsOfAll_X4_bitsOf rfl rfl rfl (by decide +kernel) ⟨(Nat.le_of_ble_eq_true rfl), (Nat.le_of_ble_eq_true rfl)⟩) (wk_preV (wc := [(aP, .inr (3, [.ref aPk, .ref aPl, .ref aPd, .ref aPs, .int pn, .int pch])), (aPk, .inl (cyI, 64, .inl pk)), (aPl, .inl (cyI, 64, .inl pl)), (aPd, .inl (cyI, 64, .inl pd))]) hK hP hD [0, 1, 2, 3] rfl (by decide) (va_recv hK hP (ci := 3) (q0 := 0) rfl rfl)) rfl rfl hl.1 rfl (lv_room (Nat.le_of_ble_eq_true rfl)) dX4_bitsOfAll_15 ⟨(Nat.le_of_ble_eq_true rfl), (Nat.le_of_ble_eq_true rfl)⟩) hP hD hS hA [0, 1, 2, 3] [] rfl rfl (by decide) (by decide) (fun r_2 u9 H locs h hP hD hS => ?_)
      have hP : va_P (dC, dI) vwCl [(aP, .inr (3, [.ref aPk, .ref aPl, .ref aPd, .ref aPs, .int pn, .int pch])), (aPk, .inl (cyI, 64, .inl pk)), (aPl, .inl (cyI, 64, .inl pl)), (aPd, .inl (cyI, 64, .inl pd))] H := hP
      have hD : va_D A [(aP, .inr (3, [.ref aPk, .ref aPl, .ref aPd, .ref aPs, .int pn, .int pch])), (aPk, .inl (cyI, 64, .inl pk)), (aPl, .inl (cyI, 64, .inl pl)), (aPd, .inl (cyI, 64, .inl pd))] := hD
      refine lv_iadd hx hb dX4_bitsOfAll_18 ?_
      refine lv_istore_n (lv' := [(1, .int (v1 + r_2)), (0, .ref aP), (2, .int v2)]) hx hb dX4_bitsOfAll_19 rfl hl (by decide) rfl (fun ls hl => ?_)
      refine lv_iinc (v := v2 + 1) (lv' := [(2, .int (v2 + 1)), (1, .int (v1 + r_2)), (0, .ref aP)]) hx hb dX4_bitsOfAll_20 hl (k := 2) rfl rfl (by decide) rfl (fun ls hl => ?_)
      refine lv_goto (tgt := 4) hx hb dX4_bitsOfAll_23 (by decide) ?_
      exact ih4 _ _ h _ _ _ hP hD hS (lv_sub hl [2, 1, 0] rfl)
def wpX4_bitsOfAll (pn : Int32) (pk : Nat → Int32) (pl : Nat → Int32) (pd : Nat → Int32) (post : Int32 → Prop) : Prop := ∃ n4 : Nat, wpX4_bitsOfAll_4 pn pk pl pd (fun (v1_3 : Int32) => post v1_3) n4 0 0
set_option maxHeartbeats 4000000 in
set_option maxRecDepth 100000 in
theorem mtX4_bitsOfAll (l : Launch) (dC : Nat → ClassId) (dI : Nat → Nat → Nat) (cyI : ClassId) {aP aPk aPl aPd aPs : Nat} {sz : Nat} {pn : Int32} {pch : Int32} {pk : Nat → Int32} {pl : Nat → Int32} {pd : Nat → Int32} {post : Int32 → Prop} (h : wpX4_bitsOfAll pn pk pl pd post) : Met l yX4_bitsOfAll wsX4_bitsOfAll ({ frames := 3, cells := 0, slots := 0, locals := 62 }) (va_Pc [.ref aP] (wk_B (dC, dI) [(cyI, .int)] [(aP, .inr (3, [.ref aPk, .ref aPl, .ref aPd, .ref aPs, .int pn, .int pch])), (aPk, .inl (cyI, 64, .inl pk)), (aPl, .inl (cyI, 64, .inl pl)), (aPd, .inl (cyI, 64, .inl pd))] sz)) (va_Qi (fun (r : Int32) (u : Unit) => post r ) (wk_C (dC, dI) [(cyI, .int)] (va_A [(aP, .inr (3, [.ref aPk, .ref aPl, .ref aPd, .ref aPs, .int pn, .int pch])), (aPk, .inl (cyI, 64, .inl pk)), (aPl, .inl (cyI, 64, .inl pl)), (aPd, .inl (cyI, 64, .inl pd))] sz) (fun (u : Unit) => [(aP, .inr (3, [.ref aPk, .ref aPl, .ref aPd, .ref aPs, .int pn, .int pch])), (aPk, .inl (cyI, 64, .inl pk)), (aPl, .inl (cyI, 64, .inl pl)), (aPd, .inl (cyI, 64, .inl pd))])) (va_A [(aP, .inr (3, [.ref aPk, .ref aPl, .ref aPd, .ref aPs, .int pn, .int pch])), (aPk, .inl (cyI, 64, .inl pk)), (aPl, .inl (cyI, 64, .inl pl)), (aPd, .inl (cyI, 64, .inl pd))] sz)) 0 0 (va_A [(aP, .inr (3, [.ref aPk, .ref aPl, .ref aPd, .ref aPs, .int pn, .int pch])), (aPk, .inl (cyI, 64, .inl pk)), (aPl, .inl (cyI, 64, .inl pl)), (aPd, .inl (cyI, 64, .inl pd))] sz) := by
  refine Met.ofW (cc := cX4_bitsOfAll) (maxL := 3) (ret := (some .int)) (by decide) rfl ?_
  intro p e s m args below meth c s₁ B hml hv
  obtain ⟨rfl, hsz, hP, hK, hD0⟩ := hv
  have hx := B.exec
  have hb := B.bytes
  have hr := B.returns
  have hts := atoms_spec (ws := wsX4_bitsOfAll) B.pre
  have hown : s.vm.findClass RX4 = some m.cls := findClass_of_methodNamed B.named
  have hlocks := B.notSynchronized
  subst hsz
  have hD := hD0.self (sz := s.heap.size)
  generalize hAe : va_A [(aP, .inr (3, [.ref aPk, .ref aPl, .ref aPd, .ref aPs, .int pn, .int pch])), (aPk, .inl (cyI, 64, .inl pk)), (aPl, .inl (cyI, 64, .inl pl)), (aPd, .inl (cyI, 64, .inl pd))] s.heap.size = A at hD ⊢
  have hA : ∀ q : Nat, s.heap.size ≤ q → A q := fun q h => by rw [← hAe]; exact Or.inr h
  have hS : va_S A s.heap s.heap [] := va_S.rf
  have hP : va_P (dC, dI) vwCl [(aP, .inr (3, [.ref aPk, .ref aPl, .ref aPd, .ref aPs, .int pn, .int pch])), (aPk, .inl (cyI, 64, .inl pk)), (aPl, .inl (cyI, 64, .inl pl)), (aPd, .inl (cyI, 64, .inl pd))] s.heap := hP
  have hl := lv_entry ([.ref aP]) (n := 3) (Nat.le_of_ble_eq_true rfl)
  rw [lg_entry_eq]
  generalize (lg_sl ([.ref aP]) ++ List.replicate (3 - (lg_sl ([.ref aP])).length) Slot.unset).toArray = ls at hl ⊢
  have hl : lv_has ls 3 [(0, .ref aP)] := hl
  have C0 : CallFix p m c cX4_bitsOfAll 3 s ([.ref aP] : List Value).toArray wsX4_bitsOfAll RX4 := ⟨hx, hb, hml, hown, hts⟩
  unfold wpX4_bitsOfAll at h
  refine lv_iconst (v := 0) hx hb dX4_bitsOfAll_0 (by decide) ?_
  refine lv_istore_n (lv' := [(1, .int 0), (0, .ref aP)]) hx hb dX4_bitsOfAll_1 rfl hl (by decide) rfl (fun ls hl => ?_)
  refine lv_iconst (v := 0) hx hb dX4_bitsOfAll_2 (by decide) ?_
  refine lv_istore_n (lv' := [(2, .int 0), (1, .int 0), (0, .ref aP)]) hx hb dX4_bitsOfAll_3 rfl hl (by decide) rfl (fun ls hl => ?_)
  obtain ⟨n4, h⟩ := h
  refine wlX4_bitsOfAll_4 C0 hA hK ?_ n4 _ _ h _ _ _ hP hD hS (lv_sub hl [2, 1, 0] rfl)
  · intro v1_3 h H locs ls hP hD hS hl
    refine lv_iload_n hx hb dX4_bitsOfAll_26 rfl (lv_at hl 0 rfl) ?_
    have hP9 : va_P (dC, dI) vwCl [(aP, .inr (3, [.ref aPk, .ref aPl, .ref aPd, .ref aPs, .int pn, .int pch])), (aPk, .inl (cyI, 64, .inl pk)), (aPl, .inl (cyI, 64, .inl pl)), (aPd, .inl (cyI, 64, .inl pd))] _ := hP
    have hD9 : va_D A [(aP, .inr (3, [.ref aPk, .ref aPl, .ref aPd, .ref aPs, .int pn, .int pch])), (aPk, .inl (cyI, 64, .inl pk)), (aPl, .inl (cyI, 64, .inl pl)), (aPd, .inl (cyI, 64, .inl pd))] := hD
    exact W.iret (v := v1_3) hx hb hr (fun t ht hW => ⟨⟨v1_3, (), rfl, h, by rw [ht]; exact hP9, va_K.moved hW.alike hK, hD9⟩, hS.F ht⟩) hS.2.2 dX4_bitsOfAll_27
-- X1_has
theorem qX1_has_0 : Cond.fieldLink RX1 15 "MatchCoder$Bits" "count" "I" ∈ wsX1_has := (List.mem_cons_of_mem _ (List.mem_append_left _ (List.mem_of_getElem? (i := 0) rfl)))
theorem inX1_has_wsX10 : ∀ w ∈ wsX10, w ∈ wsX1_has := fun _ h => List.mem_cons_of_mem _ (List.mem_append_right _ h)
def wpX1_has (bn : Int32) (v1 : Int32) (post : Int32 → Prop) : Prop := (v1 < 0 → (post 0)) ∧ (¬ v1 < 0 → ((bn ≤ v1 → (post 0)) ∧ (¬ bn ≤ v1 → (post 1))))
set_option maxHeartbeats 4000000 in
set_option maxRecDepth 100000 in
theorem mtX1_has (l : Launch) (dC : Nat → ClassId) (dI : Nat → Nat → Nat) (cyI : ClassId) {aB aBr : Nat} {sz : Nat} {bn : Int32} {v1 : Int32} {post : Int32 → Prop} (h : wpX1_has bn v1 post) : Met l yX1_has wsX1_has ({ frames := 0, cells := 0, slots := 0, locals := 0 }) (va_Pc [.ref aB, .int v1] (wk_B (dC, dI) [(cyI, .int)] [(aB, .inr (1, [.ref aBr, .int bn]))] sz)) (va_Qi (fun (r : Int32) (u : Unit) => post r ) (wk_C (dC, dI) [(cyI, .int)] (va_A [(aB, .inr (1, [.ref aBr, .int bn]))] sz) (fun (u : Unit) => [(aB, .inr (1, [.ref aBr, .int bn]))])) (va_A [(aB, .inr (1, [.ref aBr, .int bn]))] sz)) 0 0 (va_A [(aB, .inr (1, [.ref aBr, .int bn]))] sz) := by
  refine Met.ofW (cc := cX1_has) (maxL := 2) (ret := (some .boolean)) (by decide) rfl ?_
  intro p e s m args below meth c s₁ B hml hv
  obtain ⟨rfl, hsz, hP, hK, hD0⟩ := hv
  have hx := B.exec
  have hb := B.bytes
  have hr := B.returns
  have hts := atoms_spec (ws := wsX1_has) B.pre
  have hown : s.vm.findClass RX1 = some m.cls := findClass_of_methodNamed B.named
  have hlocks := B.notSynchronized
  subst hsz
  have hD := hD0.self (sz := s.heap.size)
  generalize hAe : va_A [(aB, .inr (1, [.ref aBr, .int bn]))] s.heap.size = A at hD ⊢
  have hA : ∀ q : Nat, s.heap.size ≤ q → A q := fun q h => by rw [← hAe]; exact Or.inr h
  have hS : va_S A s.heap s.heap [] := va_S.rf
  have hP : va_P (dC, dI) vwCl [(aB, .inr (1, [.ref aBr, .int bn]))] s.heap := hP
  have hl := lv_entry ([.ref aB, .int v1]) (n := 2) (Nat.le_of_ble_eq_true rfl)
  rw [lg_entry_eq]
  generalize (lg_sl ([.ref aB, .int v1]) ++ List.replicate (2 - (lg_sl ([.ref aB, .int v1])).length) Slot.unset).toArray = ls at hl ⊢
  have hl : lv_has ls 2 [(0, .ref aB), (1, .int v1)] := hl
  have C0 : CallFix p m c cX1_has 2 s ([.ref aB, .int v1] : List Value).toArray wsX1_has RX1 := ⟨hx, hb, hml, hown, hts⟩
  unfold wpX1_has at h
  refine lv_iload_n hx hb dX1_has_0 rfl (lv_at hl 1 rfl) ?_
  refine lv_if_lt (tgt := 16) hx hb dX1_has_1 (by decide) (fun c_1 => ?_) (fun c_1 => ?_)
  · replace h := h.1 c_1
    refine lv_iconst (v := 0) hx hb dX1_has_16 (by decide) ?_
    have hP9 : va_P (dC, dI) vwCl [(aB, .inr (1, [.ref aBr, .int bn]))] _ := hP
    have hD9 : va_D A [(aB, .inr (1, [.ref aBr, .int bn]))] := hD
    exact W.zret (v := 0) hx hb hr rfl (fun t ht hW => ⟨⟨0, (), rfl, h, by rw [ht]; exact hP9, va_K.moved hW.alike hK, hD9⟩, hS.F ht⟩) hS.2.2 dX1_has_17
  · replace h := h.2 c_1
    refine lv_iload_n hx hb dX1_has_4 rfl (lv_at hl 1 rfl) ?_
    refine lv_aload_n hx hb dX1_has_5 rfl (lv_at hl 0 rfl) ?_
    refine va_get (D := (dC, dI)) (ci := 1) (v := .int bn) (C := RX1) (T := TX1) (N := 2) hx hb hts inX1_has_wsX10 hown hK hP 0 rfl rfl 1 (by decide) (hts _ qX1_has_0) (fun _ h9 => h9) rfl dX1_has_6 ?_
    refine lv_icmp_ge (tgt := 16) hx hb dX1_has_9 (by decide) (fun c_2 => ?_) (fun c_2 => ?_)
    · replace h := h.1 c_2
      refine lv_iconst (v := 0) hx hb dX1_has_16 (by decide) ?_
      have hP9 : va_P (dC, dI) vwCl [(aB, .inr (1, [.ref aBr, .int bn]))] _ := hP
      have hD9 : va_D A [(aB, .inr (1, [.ref aBr, .int bn]))] := hD
      exact W.zret (v := 0) hx hb hr rfl (fun t ht hW => ⟨⟨0, (), rfl, h, by rw [ht]; exact hP9, va_K.moved hW.alike hK, hD9⟩, hS.F ht⟩) hS.2.2 dX1_has_17
    · replace h := h.2 c_2
      refine lv_iconst (v := 1) hx hb dX1_has_12 (by decide) ?_
      refine lv_goto (tgt := 17) hx hb dX1_has_13 (by decide) ?_
      have hP9 : va_P (dC, dI) vwCl [(aB, .inr (1, [.ref aBr, .int bn]))] _ := hP
      have hD9 : va_D A [(aB, .inr (1, [.ref aBr, .int bn]))] := hD
      exact W.zret (v := 1) hx hb hr rfl (fun t ht hW => ⟨⟨1, (), rfl, h, by rw [ht]; exact hP9, va_K.moved hW.alike hK, hD9⟩, hS.F ht⟩) hS.2.2 dX1_has_17
-- X1_pushLow
theorem qX1_pushLow_0 : Cond.fieldLink RX1 15 "MatchCoder$Bits" "count" "I" ∈ wsX1_pushLow := (List.mem_cons_of_mem _ (List.mem_append_left _ (List.mem_of_getElem? (i := 0) rfl)))
theorem qX1_pushLow_1 : Cond.fieldLink RX1 9 "MatchCoder$Bits" "row" "[I" ∈ wsX1_pushLow := (List.mem_cons_of_mem _ (List.mem_append_left _ (List.mem_of_getElem? (i := 1) rfl)))
theorem inX1_pushLow_wsX10 : ∀ w ∈ wsX10, w ∈ wsX1_pushLow := fun _ h => List.mem_cons_of_mem _ (List.mem_append_right _ h)
def wpX1_pushLow_4 (v1 : Int32) (K48 : Int32 → (Nat → Int32) → Prop) : Nat → Int32 → Int32 → (Nat → Int32) → Prop
  | 0, _, _, _ => False
  | n4 + 1, v3, bn, br => (v3 < 0 → (K48 bn br)) ∧ (¬ v3 < 0 → ((800 ≤ bn → (K48 bn br)) ∧ (¬ 800 ≤ bn → (vp_in bn 800 ∧ (wpX1_pushLow_4 v1 K48 n4 (v3 + (-1)) (bn + 1) (upd br bn.toNatClampNeg ((v1 >>> (v3 &&& 31)) &&& 1)))))))
set_option maxHeartbeats 4000000 in
set_option maxRecDepth 100000 in
theorem wlX1_pushLow_4 {p : Program} {l : Launch} {e : Env} {s : State} {m : MethodId} {args : Array Value} {below : List Frame} {meth : Method} {c : Code} {A : Nat → Prop} {Q : State → Prop} {dC : Nat → ClassId} {dI : Nat → Nat → Nat} {cyI : ClassId} {aB aBr : Nat} {v1 : Int32} {K48 : Int32 → (Nat → Int32) → Prop} (C0 : CallFix p m c cX1_pushLow 4 s args wsX1_pushLow RX1) (hA : ∀ q : Nat, s.heap.size ≤ q → A q) (hK : va_K (dC, dI) vwCl [(cyI, .int)] s) (hK48 : ∀ (bn : Int32) (br : Nat → Int32), K48 bn br → ∀ (H : Heap) (locs : List Loc) (ls : Array Slot), va_P (dC, dI) vwCl [(aB, .inr (1, [.ref aBr, .int bn])), (aBr, .inl (cyI, 800, .inl br))] H → va_D A [(aB, .inr (1, [.ref aBr, .int bn])), (aBr, .inl (cyI, 800, .inl br))] → va_S A s.heap H locs → lv_has ls 4 [] → W p l e ({ frames := 0, cells := 0, slots := 0, locals := 0 } : Room) s m args below meth c H locs 0 0 Q (F0 m 48 ls [])) :
    ∀ (n4 : Nat) (v3 : Int32) (bn : Int32) (br : Nat → Int32), wpX1_pushLow_4 v1 K48 n4 v3 bn br → ∀ (H : Heap) (locs : List Loc) (ls : Array Slot), va_P (dC, dI) vwCl [(aB, .inr (1, [.ref aBr, .int bn])), (aBr, .inl (cyI, 800, .inl br))] H → va_D A [(aB, .inr (1, [.ref aBr, .int bn])), (aBr, .inl (cyI, 800, .inl br))] → va_S A s.heap H locs → lv_has ls 4 [(0, .ref aB), (1, .int v1), (3, .int v3)] → W p l e ({ frames := 0, cells := 0, slots := 0, locals := 0 } : Room) s m args below meth c H locs 0 0 Q (F0 m 4 ls []) := by
  obtain ⟨hx, hb, hml, hown, hts⟩ := id C0
  intro n4
  induction n4 with
  | zero => intro _ _ _ h; exact h.elim
  | succ n4 ih4 =>
    intro v3 bn br h H locs ls hP hD hS hl
    rw [wpX1_pushLow_4] at h
    refine lv_iload_n hx hb dX1_pushLow_4 rfl (lv_at hl 2 rfl) ?_
    refine lv_if_lt (tgt := 48) hx hb dX1_pushLow_5 (by decide) (fun c_1 => ?_) (fun c_1 => ?_)
    · replace h := h.1 c_1
      exact hK48 _ _ h _ _ _ hP hD hS (lv_sub hl [] rfl)
    · replace h := h.2 c_1
      refine lv_aload_n hx hb dX1_pushLow_8 rfl (lv_at hl 0 rfl) ?_
      refine va_get (D := (dC, dI)) (ci := 1) (v := .int bn) (C := RX1) (T := TX1) (N := 2) hx hb hts inX1_pushLow_wsX10 hown hK hP 0 rfl rfl 1 (by decide) (hts _ qX1_pushLow_0) (fun _ h9 => h9) rfl dX1_pushLow_9 ?_
      refine lv_sipush (v := 800) hx hb dX1_pushLow_12 (by decide) ?_
      refine lv_icmp_ge (tgt := 48) hx hb dX1_pushLow_15 (by decide) (fun c_2 => ?_) (fun c_2 => ?_)
      · replace h := h.1 c_2
        exact hK48 _ _ h _ _ _ hP hD hS (lv_sub hl [] rfl)
      · replace h := h.2 c_2
        refine lv_aload_n hx hb dX1_pushLow_18 rfl (lv_at hl 0 rfl) ?_
        refine va_get (D := (dC, dI)) (ci := 1) (v := .ref aBr) (C := RX1) (T := TX1) (N := 2) hx hb hts inX1_pushLow_wsX10 hown hK hP 0 rfl rfl 0 (by decide) (hts _ qX1_pushLow_1) (fun _ h9 => h9) rfl dX1_pushLow_19 ?_
        refine lv_aload_n hx hb dX1_pushLow_22 rfl (lv_at hl 0 rfl) ?_
        refine va_get (D := (dC, dI)) (ci := 1) (v := .int bn) (C := RX1) (T := TX1) (N := 2) hx hb hts inX1_pushLow_wsX10 hown hK hP 0 rfl rfl 1 (by decide) (hts _ qX1_pushLow_0) (fun _ h9 => h9) rfl dX1_pushLow_23 ?_
        refine lv_iload_n hx hb dX1_pushLow_26 rfl (lv_at hl 1 rfl) ?_
        refine lv_iload_n hx hb dX1_pushLow_27 rfl (lv_at hl 2 rfl) ?_
        refine lv_ishr hx hb dX1_pushLow_28 ?_
        refine lv_iconst (v := 1) hx hb dX1_pushLow_29 (by decide) ?_
        refine lv_iand hx hb dX1_pushLow_30 ?_
        obtain ⟨hi_3, h⟩ := h
        refine va_iast hx hb hK hP hD hS 1 0 rfl rfl hi_3 dX1_pushLow_31 (fun H locs hP hD hS => ?_)
        have hP : va_P (dC, dI) vwCl [(aB, .inr (1, [.ref aBr, .int bn])), (aBr, .inl (cyI, 800, .inl (upd br bn.toNatClampNeg ((v1 >>> (v3 &&& 31)) &&& 1))))] H := hP
        have hD : va_D A [(aB, .inr (1, [.ref aBr, .int bn])), (aBr, .inl (cyI, 800, .inl (upd br bn.toNatClampNeg ((v1 >>> (v3 &&& 31)) &&& 1))))] := hD
        refine lv_aload_n hx hb dX1_pushLow_32 rfl (lv_at hl 0 rfl) ?_
        refine lv_dup hx hb dX1_pushLow_33 rfl ?_
        refine va_get (D := (dC, dI)) (ci := 1) (v := .int bn) (C := RX1) (T := TX1) (N := 2) hx hb hts inX1_pushLow_wsX10 hown hK hP 0 rfl rfl 1 (by decide) (hts _ qX1_pushLow_0) (fun _ h9 => h9) rfl dX1_pushLow_34 ?_
        refine lv_iconst (v := 1) hx hb dX1_pushLow_37 (by decide) ?_
        refine lv_iadd hx hb dX1_pushLow_38 ?_
        refine va_put (D := (dC, dI)) (ci := 1) (v := .int (bn + 1)) (ty := .int) (C := RX1) (T := TX1) (N := 2) hx hb hts inX1_pushLow_wsX10 tyX1 tyX1_ok nmX1 hown hK hP hD hS 0 rfl rfl 1 (by decide) (hts _ qX1_pushLow_0) (fun _ h9 => h9) rfl (by decide +kernel) rfl rfl (Nat.le_of_ble_eq_true rfl) dX1_pushLow_39 (fun H locs hP hD hS => ?_)
        have hP : va_P (dC, dI) vwCl [(aB, .inr (1, [.ref aBr, .int (bn + 1)])), (aBr, .inl (cyI, 800, .inl (upd br bn.toNatClampNeg ((v1 >>> (v3 &&& 31)) &&& 1))))] H := hP
        have hD : va_D A [(aB, .inr (1, [.ref aBr, .int (bn + 1)])), (aBr, .inl (cyI, 800, .inl (upd br bn.toNatClampNeg ((v1 >>> (v3 &&& 31)) &&& 1))))] := hD
        refine lv_iinc (v := v3 + (-1)) (lv' := [(3, .int (v3 + (-1))), (0, .ref aB), (1, .int v1)]) hx hb dX1_pushLow_42 hl (k := 2) rfl rfl (by decide) rfl (fun ls hl => ?_)
        refine lv_goto (tgt := 4) hx hb dX1_pushLow_45 (by decide) ?_
        exact ih4 _ _ _ h _ _ _ hP hD hS (lv_sub hl [1, 2, 0] rfl)
def wpX1_pushLow (bn : Int32) (br : Nat → Int32) (v1 : Int32) (v2 : Int32) (post : Int32 → (Nat → Int32) → Prop) : Prop := ∃ n4 : Nat, wpX1_pushLow_4 v1 (fun (bn_4 : Int32) (br_5 : Nat → Int32) => post bn_4 br_5) n4 (v2 - 1) bn br
set_option maxHeartbeats 4000000 in
set_option maxRecDepth 100000 in
theorem mtX1_pushLow (l : Launch) (dC : Nat → ClassId) (dI : Nat → Nat → Nat) (cyI : ClassId) {aB aBr : Nat} {sz : Nat} {bn : Int32} {br : Nat → Int32} {v1 : Int32} {v2 : Int32} {post : Int32 → (Nat → Int32) → Prop} (h : wpX1_pushLow bn br v1 v2 post) : Met l yX1_pushLow wsX1_pushLow ({ frames := 0, cells := 0, slots := 0, locals := 0 }) (va_Pc [.ref aB, .int v1, .int v2] (wk_B (dC, dI) [(cyI, .int)] [(aB, .inr (1, [.ref aBr, .int bn])), (aBr, .inl (cyI, 800, .inl br))] sz)) (va_Qv (fun (u : Int32 × (Nat → Int32)) => post u.1 u.2) (wk_C (dC, dI) [(cyI, .int)] (va_A [(aB, .inr (1, [.ref aBr, .int bn])), (aBr, .inl (cyI, 800, .inl br))] sz) (fun (u : Int32 × (Nat → Int32)) => [(aB, .inr (1, [.ref aBr, .int (u.1)])), (aBr, .inl (cyI, 800, .inl (u.2)))])) (va_A [(aB, .inr (1, [.ref aBr, .int bn])), (aBr, .inl (cyI, 800, .inl br))] sz)) 0 0 (va_A [(aB, .inr (1, [.ref aBr, .int bn])), (aBr, .inl (cyI, 800, .inl br))] sz) := by
  refine Met.ofW (cc := cX1_pushLow) (maxL := 4) (ret := none) (by decide) rfl ?_
  intro p e s m args below meth c s₁ B hml hv
  obtain ⟨rfl, hsz, hP, hK, hD0⟩ := hv
  have hx := B.exec
  have hb := B.bytes
  have hr := B.returns
  have hts := atoms_spec (ws := wsX1_pushLow) B.pre
  have hown : s.vm.findClass RX1 = some m.cls := findClass_of_methodNamed B.named
  have hlocks := B.notSynchronized
  subst hsz
  have hD := hD0.self (sz := s.heap.size)
  generalize hAe : va_A [(aB, .inr (1, [.ref aBr, .int bn])), (aBr, .inl (cyI, 800, .inl br))] s.heap.size = A at hD ⊢
  have hA : ∀ q : Nat, s.heap.size ≤ q → A q := fun q h => by rw [← hAe]; exact Or.inr h
  have hS : va_S A s.heap s.heap [] := va_S.rf
  have hP : va_P (dC, dI) vwCl [(aB, .inr (1, [.ref aBr, .int bn])), (aBr, .inl (cyI, 800, .inl br))] s.heap := hP
  have hl := lv_entry ([.ref aB, .int v1, .int v2]) (n := 4) (Nat.le_of_ble_eq_true rfl)
  rw [lg_entry_eq]
  generalize (lg_sl ([.ref aB, .int v1, .int v2]) ++ List.replicate (4 - (lg_sl ([.ref aB, .int v1, .int v2])).length) Slot.unset).toArray = ls at hl ⊢
  have hl : lv_has ls 4 [(0, .ref aB), (1, .int v1), (2, .int v2)] := hl
  have C0 : CallFix p m c cX1_pushLow 4 s ([.ref aB, .int v1, .int v2] : List Value).toArray wsX1_pushLow RX1 := ⟨hx, hb, hml, hown, hts⟩
  unfold wpX1_pushLow at h
  refine lv_iload_n hx hb dX1_pushLow_0 rfl (lv_at hl 2 rfl) ?_
  refine lv_iconst (v := 1) hx hb dX1_pushLow_1 (by decide) ?_
  refine lv_isub hx hb dX1_pushLow_2 ?_
  refine lv_istore_n (lv' := [(3, .int (v2 - 1)), (0, .ref aB), (1, .int v1), (2, .int v2)]) hx hb dX1_pushLow_3 rfl hl (by decide) rfl (fun ls hl => ?_)
  obtain ⟨n4, h⟩ := h
  refine wlX1_pushLow_4 C0 hA hK ?_ n4 _ _ _ h _ _ _ hP hD hS (lv_sub hl [1, 2, 0] rfl)
  · intro bn_4 br_5 h H locs ls hP hD hS hl
    have hP9 : va_P (dC, dI) vwCl [(aB, .inr (1, [.ref aBr, .int bn_4])), (aBr, .inl (cyI, 800, .inl br_5))] _ := hP
    have hD9 : va_D A [(aB, .inr (1, [.ref aBr, .int bn_4])), (aBr, .inl (cyI, 800, .inl br_5))] := hD
    exact W.vret hx hb hr (fun t ht hW => ⟨⟨(bn_4, br_5), rfl, h, by rw [ht]; exact hP9, va_K.moved hW.alike hK, hD9⟩, hS.F ht⟩) hS.2.2 dX1_pushLow_48
-- X1_pushNumber
def wpX1_pushNumber (bn : Int32) (br : Nat → Int32) (v1 : Int32) (post : Int32 → (Nat → Int32) → Prop) : Prop := wpX2_numberBits v1 (fun (r_1 : Int32) => wpX1_pushLow bn br v1 r_1 (fun (bn_2 : Int32) (br_3 : Nat → Int32) => post bn_2 br_3))
set_option maxHeartbeats 4000000 in
set_option maxRecDepth 100000 in
theorem mtX1_pushNumber (l : Launch) (dC : Nat → ClassId) (dI : Nat → Nat → Nat) (cyI : ClassId) {aB aBr : Nat} {sz : Nat} {bn : Int32} {br : Nat → Int32} {v1 : Int32} {post : Int32 → (Nat → Int32) → Prop} (h : wpX1_pushNumber bn br v1 post) : Met l yX1_pushNumber wsX1_pushNumber ({ frames := 1, cells := 0, slots := 0, locals := 23 }) (va_Pc [.ref aB, .int v1] (wk_B (dC, dI) [(cyI, .int)] [(aB, .inr (1, [.ref aBr, .int bn])), (aBr, .inl (cyI, 800, .inl br))] sz)) (va_Qv (fun (u : Int32 × (Nat → Int32)) => post u.1 u.2) (wk_C (dC, dI) [(cyI, .int)] (va_A [(aB, .inr (1, [.ref aBr, .int bn])), (aBr, .inl (cyI, 800, .inl br))] sz) (fun (u : Int32 × (Nat → Int32)) => [(aB, .inr (1, [.ref aBr, .int (u.1)])), (aBr, .inl (cyI, 800, .inl (u.2)))])) (va_A [(aB, .inr (1, [.ref aBr, .int bn])), (aBr, .inl (cyI, 800, .inl br))] sz)) 0 0 (va_A [(aB, .inr (1, [.ref aBr, .int bn])), (aBr, .inl (cyI, 800, .inl br))] sz) := by
  refine Met.ofW (cc := cX1_pushNumber) (maxL := 2) (ret := none) (by decide) rfl ?_
  intro p e s m args below meth c s₁ B hml hv
  obtain ⟨rfl, hsz, hP, hK, hD0⟩ := hv
  have hx := B.exec
  have hb := B.bytes
  have hr := B.returns
  have hts := atoms_spec (ws := wsX1_pushNumber) B.pre
  have hown : s.vm.findClass RX1 = some m.cls := findClass_of_methodNamed B.named
  have hlocks := B.notSynchronized
  subst hsz
  have hD := hD0.self (sz := s.heap.size)
  generalize hAe : va_A [(aB, .inr (1, [.ref aBr, .int bn])), (aBr, .inl (cyI, 800, .inl br))] s.heap.size = A at hD ⊢
  have hA : ∀ q : Nat, s.heap.size ≤ q → A q := fun q h => by rw [← hAe]; exact Or.inr h
  have hS : va_S A s.heap s.heap [] := va_S.rf
  have hP : va_P (dC, dI) vwCl [(aB, .inr (1, [.ref aBr, .int bn])), (aBr, .inl (cyI, 800, .inl br))] s.heap := hP
  have hl := lv_entry ([.ref aB, .int v1]) (n := 2) (Nat.le_of_ble_eq_true rfl)
  rw [lg_entry_eq]
  generalize (lg_sl ([.ref aB, .int v1]) ++ List.replicate (2 - (lg_sl ([.ref aB, .int v1])).length) Slot.unset).toArray = ls at hl ⊢
  have hl : lv_has ls 2 [(0, .ref aB), (1, .int v1)] := hl
  have C0 : CallFix p m c cX1_pushNumber 2 s ([.ref aB, .int v1] : List Value).toArray wsX1_pushNumber RX1 := ⟨hx, hb, hml, hown, hts⟩
  unfold wpX1_pushNumber at h
  refine lv_aload_n hx hb dX1_pushNumber_0 rfl (lv_at hl 0 rfl) ?_
  refine lv_iload_n hx hb dX1_pushNumber_1 rfl (lv_at hl 1 rfl) ?_
  refine lv_iload_n hx hb dX1_pushNumber_2 rfl (lv_at hl 1 rfl) ?_
  refine wk_calli (wc := []) (wr := [(aB, .inr (1, [.ref aBr, .int bn])), (aBr, .inl (cyI, 800, .inl br))]) (va_runS (As := [.int v1]) (rest := [.int v1, .ref aB]) C0 (mtX2_numberBits l dC dI cyI (sz := _) (v0 := v1) h) (va_cwS 1 hts gX1_pushNumber_X2_numberBits rfl rfl rfl (by decide +kernel) ⟨(Nat.le_of_ble_eq_true rfl), (Nat.le_of_ble_eq_true rfl)⟩) (wk_preS (wc := []) hK hP hD [] rfl (by decide)) rfl rfl hl.1 rfl (lv_room (Nat.le_of_ble_eq_true rfl)) dX1_pushNumber_3 ⟨(Nat.le_of_ble_eq_true rfl), (Nat.le_of_ble_eq_true rfl)⟩) hP hD hS hA [] [0, 1] rfl rfl (by decide) (by decide) (fun r_1 u9 H locs h hP hD hS => ?_)
  have hP : va_P (dC, dI) vwCl [(aB, .inr (1, [.ref aBr, .int bn])), (aBr, .inl (cyI, 800, .inl br))] H := hP
  have hD : va_D A [(aB, .inr (1, [.ref aBr, .int bn])), (aBr, .inl (cyI, 800, .inl br))] := hD
  refine wk_callv (wc := [(aB, .inr (1, [.ref aBr, .int bn])), (aBr, .inl (cyI, 800, .inl br))]) (wr := []) (va_runV (As := [.int v1, .int r_1]) (rest := []) C0 (mtX1_pushLow l dC dI cyI (aB := aB) (aBr := aBr) (sz := _) (bn := bn) (br := br) (v1 := v1) (v2 := r_1) h) (cwV 2 hts gX1_pushNumber_X1_pushLow rfl rfl rfl (by decide +kernel) ⟨(Nat.le_of_ble_eq_true rfl), (Nat.le_of_ble_eq_true rfl)⟩) (wk_preV (wc := [(aB, .inr (1, [.ref aBr, .int bn])), (aBr, .inl (cyI, 800, .inl br))]) hK hP hD [0, 1] rfl (by decide) (va_recv hK hP (ci := 1) (q0 := 0) rfl rfl)) rfl rfl hl.1 rfl (lv_room (Nat.le_of_ble_eq_true rfl)) dX1_pushNumber_6 ⟨(Nat.le_of_ble_eq_true rfl), (Nat.le_of_ble_eq_true rfl)⟩) hP hD hS hA [0, 1] [] rfl rfl (by decide) (by decide) (fun u9 H locs h hP hD hS => ?_)
  obtain ⟨bn_2, br_3⟩ := u9
  have hP : va_P (dC, dI) vwCl [(aB, .inr (1, [.ref aBr, .int bn_2])), (aBr, .inl (cyI, 800, .inl br_3))] H := hP
  have hD : va_D A [(aB, .inr (1, [.ref aBr, .int bn_2])), (aBr, .inl (cyI, 800, .inl br_3))] := hD
  dsimp only at h
  have hP9 : va_P (dC, dI) vwCl [(aB, .inr (1, [.ref aBr, .int bn_2])), (aBr, .inl (cyI, 800, .inl br_3))] _ := hP
  have hD9 : va_D A [(aB, .inr (1, [.ref aBr, .int bn_2])), (aBr, .inl (cyI, 800, .inl br_3))] := hD
  exact W.vret hx hb hr (fun t ht hW => ⟨⟨(bn_2, br_3), rfl, h, by rw [ht]; exact hP9, va_K.moved hW.alike hK, hD9⟩, hS.F ht⟩) hS.2.2 dX1_pushNumber_9
